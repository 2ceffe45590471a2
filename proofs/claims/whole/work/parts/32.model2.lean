/-! ===== 32.model2 ===== -/
/-! BetweenLawsModel.isSecond(II)Z -/
abbrev rm_X11_isSecond : Room := { frames := 0, cells := 0, slots := 0, locals := 0 }
abbrev B_X11_isSecond (G : GT) (K : Int32 → Mem → Prop) := BT G (Rep G) RX11 "isSecond" cX11_isSecond 5 (some .boolean) rm_X11_isSecond K 0 0
abbrev T_X11_isSecond (G : GT) (as : List Value) (M : Mem) (K : Int32 → Mem → Prop) : Prop := MT G (Rep G) yX11_isSecond cX11_isSecond 5 (some .boolean) rm_X11_isSecond as M K
theorem e_X11_isSecond {G : GT} {K : Int32 → Mem → Prop} {M : Mem} {v1 : Int32} {v2 : Int32} (h : B_X11_isSecond G K 0 [(0, .ref 175), (1, .int v1), (2, .int v2)] [] M) : T_X11_isSecond G [.ref 175, .int v1, .int v2] M K := MT.of (by decide +kernel) rfl rfl (Nat.le_of_ble_eq_true rfl) rfl h
set_option maxRecDepth 4000 in
theorem k_X11_isSecond_0 {G : GT} {K : Int32 → Mem → Prop} {M : Mem} {v1 : Int32} {v2 : Int32} (h : B_X11_isSecond G K 5 [(0, .ref 175), (1, .int v1), (2, .int v2), (3, .int 0), (4, .int 0)] [] M) : B_X11_isSecond G K 0 [(0, .ref 175), (1, .int v1), (2, .int v2)] [] M := by
  refine BT.iconst (v := 0) dX11_isSecond_0 (by decide) ?_
  refine BT.istore_n (L' := [(3, .int 0), (0, .ref 175), (1, .int v1), (2, .int v2)]) dX11_isSecond_1 rfl (by decide) rfl ?_
  refine BT.iconst (v := 0) dX11_isSecond_2 (by decide) ?_
  refine BT.istore (L' := [(4, .int 0), (3, .int 0), (0, .ref 175), (1, .int v1), (2, .int v2)]) dX11_isSecond_3 (by decide) rfl ?_
  refine BT.sub [2, 3, 4, 1, 0] rfl ?_
  exact h
set_option maxRecDepth 4000 in
theorem k_X11_isSecond_5 {G : GT} {K : Int32 → Mem → Prop} {M : Mem} {v1 : Int32} {v2 : Int32} {v3 : Int32} {v4 : Int32} (h : (v1 < v4 → (8 ≤ v3 → K 0 M) ∧ (¬ 8 ≤ v3 → (¬ (((M.1 175 19) >>> (v3 &&& 31)) &&& 1) = 1 → K 0 M) ∧ ((((M.1 175 19) >>> (v3 &&& 31)) &&& 1) = 1 → K 1 M))) ∧ (¬ v1 < v4 → (vp_in v4 8) ∧ ((M.1 183 (Int32.toNatClampNeg v4)) < 0 → (vp_in v4 8) ∧ ((M.1 187 (Int32.toNatClampNeg v4)) < 0 → B_X11_isSecond G K 5 [(0, .ref 175), (1, .int v1), (2, .int v2), (3, .int ((v3 + 0) + 0)), (4, .int (v4 + 1))] [] M) ∧ (¬ (M.1 187 (Int32.toNatClampNeg v4)) < 0 → (v1 ≤ v4 → B_X11_isSecond G K 5 [(0, .ref 175), (1, .int v1), (2, .int v2), (3, .int ((v3 + 0) + 0)), (4, .int (v4 + 1))] [] M) ∧ (¬ v1 ≤ v4 → B_X11_isSecond G K 5 [(0, .ref 175), (1, .int v1), (2, .int v2), (3, .int ((v3 + 0) + 1)), (4, .int (v4 + 1))] [] M))) ∧ (¬ (M.1 183 (Int32.toNatClampNeg v4)) < 0 → (v4 < v1 → (vp_in v4 8) ∧ ((M.1 187 (Int32.toNatClampNeg v4)) < 0 → B_X11_isSecond G K 5 [(0, .ref 175), (1, .int v1), (2, .int v2), (3, .int ((v3 + 1) + 0)), (4, .int (v4 + 1))] [] M) ∧ (¬ (M.1 187 (Int32.toNatClampNeg v4)) < 0 → (v1 ≤ v4 → B_X11_isSecond G K 5 [(0, .ref 175), (1, .int v1), (2, .int v2), (3, .int ((v3 + 1) + 0)), (4, .int (v4 + 1))] [] M) ∧ (¬ v1 ≤ v4 → B_X11_isSecond G K 5 [(0, .ref 175), (1, .int v1), (2, .int v2), (3, .int ((v3 + 1) + 1)), (4, .int (v4 + 1))] [] M))) ∧ (¬ v4 < v1 → (¬ v2 = 1 → (vp_in v4 8) ∧ ((M.1 187 (Int32.toNatClampNeg v4)) < 0 → B_X11_isSecond G K 5 [(0, .ref 175), (1, .int v1), (2, .int v2), (3, .int ((v3 + 0) + 0)), (4, .int (v4 + 1))] [] M) ∧ (¬ (M.1 187 (Int32.toNatClampNeg v4)) < 0 → (v1 ≤ v4 → B_X11_isSecond G K 5 [(0, .ref 175), (1, .int v1), (2, .int v2), (3, .int ((v3 + 0) + 0)), (4, .int (v4 + 1))] [] M) ∧ (¬ v1 ≤ v4 → B_X11_isSecond G K 5 [(0, .ref 175), (1, .int v1), (2, .int v2), (3, .int ((v3 + 0) + 1)), (4, .int (v4 + 1))] [] M))) ∧ (v2 = 1 → (vp_in v4 8) ∧ ((M.1 187 (Int32.toNatClampNeg v4)) < 0 → B_X11_isSecond G K 5 [(0, .ref 175), (1, .int v1), (2, .int v2), (3, .int ((v3 + 1) + 0)), (4, .int (v4 + 1))] [] M) ∧ (¬ (M.1 187 (Int32.toNatClampNeg v4)) < 0 → (v1 ≤ v4 → B_X11_isSecond G K 5 [(0, .ref 175), (1, .int v1), (2, .int v2), (3, .int ((v3 + 1) + 0)), (4, .int (v4 + 1))] [] M) ∧ (¬ v1 ≤ v4 → B_X11_isSecond G K 5 [(0, .ref 175), (1, .int v1), (2, .int v2), (3, .int ((v3 + 1) + 1)), (4, .int (v4 + 1))] [] M))))))) : B_X11_isSecond G K 5 [(0, .ref 175), (1, .int v1), (2, .int v2), (3, .int v3), (4, .int v4)] [] M := by
  refine BT.iload dX11_isSecond_5 4 rfl ?_
  refine BT.iload_n dX11_isSecond_7 rfl 1 rfl ?_
  refine BT.icmp_gt (tgt := 70) dX11_isSecond_8 (by decide) (fun c => ?_) (fun c => ?_)
  · have c1 := c
    refine BT.iload_n dX11_isSecond_70 rfl 3 rfl ?_
    refine BT.bipush (v := 8) dX11_isSecond_71 (by decide) ?_
    refine BT.icmp_ge (tgt := 92) dX11_isSecond_73 (by decide) (fun c => ?_) (fun c => ?_)
    · have c3 := c
      refine BT.iconst (v := 0) dX11_isSecond_92 (by decide) ?_
      exact BT.zret dX11_isSecond_93 rfl (by decide) (by decide) (nar01 ((Or.inl rfl))) ((h.1 c1).1 c3)
    · have c4 := c
      refine BT.aload_n dX11_isSecond_76 rfl 0 rfl ?_
      refine BT.getI fl_X11_184 ho_175 rfl dX11_isSecond_77 ?_
      refine BT.iload_n dX11_isSecond_80 rfl 3 rfl ?_
      refine BT.ishr dX11_isSecond_81 ?_
      refine BT.iconst (v := 1) dX11_isSecond_82 (by decide) ?_
      refine BT.iand dX11_isSecond_83 ?_
      refine BT.iconst (v := 1) dX11_isSecond_84 (by decide) ?_
      refine BT.icmp_ne (tgt := 92) dX11_isSecond_85 (by decide) (fun c => ?_) (fun c => ?_)
      · have c5 := c
        refine BT.iconst (v := 0) dX11_isSecond_92 (by decide) ?_
        exact BT.zret dX11_isSecond_93 rfl (by decide) (by decide) (nar01 ((Or.inl rfl))) (((h.1 c1).2 c4).1 c5)
      · have c6 := c
        refine BT.iconst (v := 1) dX11_isSecond_88 (by decide) ?_
        refine BT.goto (tgt := 93) dX11_isSecond_89 (by decide) ?_
        exact BT.zret dX11_isSecond_93 rfl (by decide) (by decide) (nar01 ((Or.inr rfl))) (((h.1 c1).2 c4).2 c6)
  · have c2 := c
    refine BT.iload_n dX11_isSecond_11 rfl 3 rfl ?_
    refine BT.aload_n dX11_isSecond_12 rfl 0 rfl ?_
    refine BT.getR (r := 183) fl_X11_31 ho_175 rfl dX11_isSecond_13 ?_
    refine BT.iload dX11_isSecond_16 4 rfl ?_
    refine BT.iald ha_183 (h.2 c2).1 dX11_isSecond_18 ?_
    refine BT.if_lt (tgt := 37) dX11_isSecond_19 (by decide) (fun c => ?_) (fun c => ?_)
    · have c7 := c
      refine BT.iconst (v := 0) dX11_isSecond_37 (by decide) ?_
      refine BT.iadd dX11_isSecond_38 ?_
      refine BT.istore_n (L' := [(3, .int (v3 + 0)), (0, .ref 175), (1, .int v1), (2, .int v2), (4, .int v4)]) dX11_isSecond_39 rfl (by decide) rfl ?_
      refine BT.iload_n dX11_isSecond_40 rfl 0 rfl ?_
      refine BT.aload_n dX11_isSecond_41 rfl 1 rfl ?_
      refine BT.getR (r := 187) fl_X11_43 ho_175 rfl dX11_isSecond_42 ?_
      refine BT.iload dX11_isSecond_45 4 rfl ?_
      refine BT.iald ha_187 ((h.2 c2).2.1 c7).1 dX11_isSecond_47 ?_
      refine BT.if_lt (tgt := 61) dX11_isSecond_48 (by decide) (fun c => ?_) (fun c => ?_)
      · have c9 := c
        refine BT.iconst (v := 0) dX11_isSecond_61 (by decide) ?_
        refine BT.iadd dX11_isSecond_62 ?_
        refine BT.istore_n (L' := [(3, .int ((v3 + 0) + 0)), (0, .ref 175), (1, .int v1), (2, .int v2), (4, .int v4)]) dX11_isSecond_63 rfl (by decide) rfl ?_
        refine BT.iinc (j := 4) (v := (v4 + 1)) (L' := [(4, .int (v4 + 1)), (3, .int ((v3 + 0) + 0)), (0, .ref 175), (1, .int v1), (2, .int v2)]) dX11_isSecond_64 rfl rfl (by decide) rfl ?_
        refine BT.goto (tgt := 5) dX11_isSecond_67 (by decide) ?_
        refine BT.sub [2, 3, 4, 1, 0] rfl ?_
        exact (((h.2 c2).2.1 c7).2.1 c9)
      · have c10 := c
        refine BT.iload dX11_isSecond_51 4 rfl ?_
        refine BT.iload_n dX11_isSecond_53 rfl 2 rfl ?_
        refine BT.icmp_ge (tgt := 61) dX11_isSecond_54 (by decide) (fun c => ?_) (fun c => ?_)
        · have c11 := c
          refine BT.iconst (v := 0) dX11_isSecond_61 (by decide) ?_
          refine BT.iadd dX11_isSecond_62 ?_
          refine BT.istore_n (L' := [(3, .int ((v3 + 0) + 0)), (0, .ref 175), (1, .int v1), (2, .int v2), (4, .int v4)]) dX11_isSecond_63 rfl (by decide) rfl ?_
          refine BT.iinc (j := 4) (v := (v4 + 1)) (L' := [(4, .int (v4 + 1)), (3, .int ((v3 + 0) + 0)), (0, .ref 175), (1, .int v1), (2, .int v2)]) dX11_isSecond_64 rfl rfl (by decide) rfl ?_
          refine BT.goto (tgt := 5) dX11_isSecond_67 (by decide) ?_
          refine BT.sub [2, 3, 4, 1, 0] rfl ?_
          exact ((((h.2 c2).2.1 c7).2.2 c10).1 c11)
        · have c12 := c
          refine BT.iconst (v := 1) dX11_isSecond_57 (by decide) ?_
          refine BT.goto (tgt := 62) dX11_isSecond_58 (by decide) ?_
          refine BT.iadd dX11_isSecond_62 ?_
          refine BT.istore_n (L' := [(3, .int ((v3 + 0) + 1)), (0, .ref 175), (1, .int v1), (2, .int v2), (4, .int v4)]) dX11_isSecond_63 rfl (by decide) rfl ?_
          refine BT.iinc (j := 4) (v := (v4 + 1)) (L' := [(4, .int (v4 + 1)), (3, .int ((v3 + 0) + 1)), (0, .ref 175), (1, .int v1), (2, .int v2)]) dX11_isSecond_64 rfl rfl (by decide) rfl ?_
          refine BT.goto (tgt := 5) dX11_isSecond_67 (by decide) ?_
          refine BT.sub [2, 3, 4, 1, 0] rfl ?_
          exact ((((h.2 c2).2.1 c7).2.2 c10).2 c12)
    · have c8 := c
      refine BT.iload dX11_isSecond_22 4 rfl ?_
      refine BT.iload_n dX11_isSecond_24 rfl 1 rfl ?_
      refine BT.icmp_lt (tgt := 33) dX11_isSecond_25 (by decide) (fun c => ?_) (fun c => ?_)
      · have c13 := c
        refine BT.iconst (v := 1) dX11_isSecond_33 (by decide) ?_
        refine BT.goto (tgt := 38) dX11_isSecond_34 (by decide) ?_
        refine BT.iadd dX11_isSecond_38 ?_
        refine BT.istore_n (L' := [(3, .int (v3 + 1)), (0, .ref 175), (1, .int v1), (2, .int v2), (4, .int v4)]) dX11_isSecond_39 rfl (by decide) rfl ?_
        refine BT.iload_n dX11_isSecond_40 rfl 0 rfl ?_
        refine BT.aload_n dX11_isSecond_41 rfl 1 rfl ?_
        refine BT.getR (r := 187) fl_X11_43 ho_175 rfl dX11_isSecond_42 ?_
        refine BT.iload dX11_isSecond_45 4 rfl ?_
        refine BT.iald ha_187 (((h.2 c2).2.2 c8).1 c13).1 dX11_isSecond_47 ?_
        refine BT.if_lt (tgt := 61) dX11_isSecond_48 (by decide) (fun c => ?_) (fun c => ?_)
        · have c15 := c
          refine BT.iconst (v := 0) dX11_isSecond_61 (by decide) ?_
          refine BT.iadd dX11_isSecond_62 ?_
          refine BT.istore_n (L' := [(3, .int ((v3 + 1) + 0)), (0, .ref 175), (1, .int v1), (2, .int v2), (4, .int v4)]) dX11_isSecond_63 rfl (by decide) rfl ?_
          refine BT.iinc (j := 4) (v := (v4 + 1)) (L' := [(4, .int (v4 + 1)), (3, .int ((v3 + 1) + 0)), (0, .ref 175), (1, .int v1), (2, .int v2)]) dX11_isSecond_64 rfl rfl (by decide) rfl ?_
          refine BT.goto (tgt := 5) dX11_isSecond_67 (by decide) ?_
          refine BT.sub [2, 3, 4, 1, 0] rfl ?_
          exact ((((h.2 c2).2.2 c8).1 c13).2.1 c15)
        · have c16 := c
          refine BT.iload dX11_isSecond_51 4 rfl ?_
          refine BT.iload_n dX11_isSecond_53 rfl 2 rfl ?_
          refine BT.icmp_ge (tgt := 61) dX11_isSecond_54 (by decide) (fun c => ?_) (fun c => ?_)
          · have c17 := c
            refine BT.iconst (v := 0) dX11_isSecond_61 (by decide) ?_
            refine BT.iadd dX11_isSecond_62 ?_
            refine BT.istore_n (L' := [(3, .int ((v3 + 1) + 0)), (0, .ref 175), (1, .int v1), (2, .int v2), (4, .int v4)]) dX11_isSecond_63 rfl (by decide) rfl ?_
            refine BT.iinc (j := 4) (v := (v4 + 1)) (L' := [(4, .int (v4 + 1)), (3, .int ((v3 + 1) + 0)), (0, .ref 175), (1, .int v1), (2, .int v2)]) dX11_isSecond_64 rfl rfl (by decide) rfl ?_
            refine BT.goto (tgt := 5) dX11_isSecond_67 (by decide) ?_
            refine BT.sub [2, 3, 4, 1, 0] rfl ?_
            exact (((((h.2 c2).2.2 c8).1 c13).2.2 c16).1 c17)
          · have c18 := c
            refine BT.iconst (v := 1) dX11_isSecond_57 (by decide) ?_
            refine BT.goto (tgt := 62) dX11_isSecond_58 (by decide) ?_
            refine BT.iadd dX11_isSecond_62 ?_
            refine BT.istore_n (L' := [(3, .int ((v3 + 1) + 1)), (0, .ref 175), (1, .int v1), (2, .int v2), (4, .int v4)]) dX11_isSecond_63 rfl (by decide) rfl ?_
            refine BT.iinc (j := 4) (v := (v4 + 1)) (L' := [(4, .int (v4 + 1)), (3, .int ((v3 + 1) + 1)), (0, .ref 175), (1, .int v1), (2, .int v2)]) dX11_isSecond_64 rfl rfl (by decide) rfl ?_
            refine BT.goto (tgt := 5) dX11_isSecond_67 (by decide) ?_
            refine BT.sub [2, 3, 4, 1, 0] rfl ?_
            exact (((((h.2 c2).2.2 c8).1 c13).2.2 c16).2 c18)
      · have c14 := c
        refine BT.iload_n dX11_isSecond_28 rfl 2 rfl ?_
        refine BT.iconst (v := 1) dX11_isSecond_29 (by decide) ?_
        refine BT.icmp_ne (tgt := 37) dX11_isSecond_30 (by decide) (fun c => ?_) (fun c => ?_)
        · have c19 := c
          refine BT.iconst (v := 0) dX11_isSecond_37 (by decide) ?_
          refine BT.iadd dX11_isSecond_38 ?_
          refine BT.istore_n (L' := [(3, .int (v3 + 0)), (0, .ref 175), (1, .int v1), (2, .int v2), (4, .int v4)]) dX11_isSecond_39 rfl (by decide) rfl ?_
          refine BT.iload_n dX11_isSecond_40 rfl 0 rfl ?_
          refine BT.aload_n dX11_isSecond_41 rfl 1 rfl ?_
          refine BT.getR (r := 187) fl_X11_43 ho_175 rfl dX11_isSecond_42 ?_
          refine BT.iload dX11_isSecond_45 4 rfl ?_
          refine BT.iald ha_187 ((((h.2 c2).2.2 c8).2 c14).1 c19).1 dX11_isSecond_47 ?_
          refine BT.if_lt (tgt := 61) dX11_isSecond_48 (by decide) (fun c => ?_) (fun c => ?_)
          · have c21 := c
            refine BT.iconst (v := 0) dX11_isSecond_61 (by decide) ?_
            refine BT.iadd dX11_isSecond_62 ?_
            refine BT.istore_n (L' := [(3, .int ((v3 + 0) + 0)), (0, .ref 175), (1, .int v1), (2, .int v2), (4, .int v4)]) dX11_isSecond_63 rfl (by decide) rfl ?_
            refine BT.iinc (j := 4) (v := (v4 + 1)) (L' := [(4, .int (v4 + 1)), (3, .int ((v3 + 0) + 0)), (0, .ref 175), (1, .int v1), (2, .int v2)]) dX11_isSecond_64 rfl rfl (by decide) rfl ?_
            refine BT.goto (tgt := 5) dX11_isSecond_67 (by decide) ?_
            refine BT.sub [2, 3, 4, 1, 0] rfl ?_
            exact (((((h.2 c2).2.2 c8).2 c14).1 c19).2.1 c21)
          · have c22 := c
            refine BT.iload dX11_isSecond_51 4 rfl ?_
            refine BT.iload_n dX11_isSecond_53 rfl 2 rfl ?_
            refine BT.icmp_ge (tgt := 61) dX11_isSecond_54 (by decide) (fun c => ?_) (fun c => ?_)
            · have c23 := c
              refine BT.iconst (v := 0) dX11_isSecond_61 (by decide) ?_
              refine BT.iadd dX11_isSecond_62 ?_
              refine BT.istore_n (L' := [(3, .int ((v3 + 0) + 0)), (0, .ref 175), (1, .int v1), (2, .int v2), (4, .int v4)]) dX11_isSecond_63 rfl (by decide) rfl ?_
              refine BT.iinc (j := 4) (v := (v4 + 1)) (L' := [(4, .int (v4 + 1)), (3, .int ((v3 + 0) + 0)), (0, .ref 175), (1, .int v1), (2, .int v2)]) dX11_isSecond_64 rfl rfl (by decide) rfl ?_
              refine BT.goto (tgt := 5) dX11_isSecond_67 (by decide) ?_
              refine BT.sub [2, 3, 4, 1, 0] rfl ?_
              exact ((((((h.2 c2).2.2 c8).2 c14).1 c19).2.2 c22).1 c23)
            · have c24 := c
              refine BT.iconst (v := 1) dX11_isSecond_57 (by decide) ?_
              refine BT.goto (tgt := 62) dX11_isSecond_58 (by decide) ?_
              refine BT.iadd dX11_isSecond_62 ?_
              refine BT.istore_n (L' := [(3, .int ((v3 + 0) + 1)), (0, .ref 175), (1, .int v1), (2, .int v2), (4, .int v4)]) dX11_isSecond_63 rfl (by decide) rfl ?_
              refine BT.iinc (j := 4) (v := (v4 + 1)) (L' := [(4, .int (v4 + 1)), (3, .int ((v3 + 0) + 1)), (0, .ref 175), (1, .int v1), (2, .int v2)]) dX11_isSecond_64 rfl rfl (by decide) rfl ?_
              refine BT.goto (tgt := 5) dX11_isSecond_67 (by decide) ?_
              refine BT.sub [2, 3, 4, 1, 0] rfl ?_
              exact ((((((h.2 c2).2.2 c8).2 c14).1 c19).2.2 c22).2 c24)
        · have c20 := c
          refine BT.iconst (v := 1) dX11_isSecond_33 (by decide) ?_
          refine BT.goto (tgt := 38) dX11_isSecond_34 (by decide) ?_
          refine BT.iadd dX11_isSecond_38 ?_
          refine BT.istore_n (L' := [(3, .int (v3 + 1)), (0, .ref 175), (1, .int v1), (2, .int v2), (4, .int v4)]) dX11_isSecond_39 rfl (by decide) rfl ?_
          refine BT.iload_n dX11_isSecond_40 rfl 0 rfl ?_
          refine BT.aload_n dX11_isSecond_41 rfl 1 rfl ?_
          refine BT.getR (r := 187) fl_X11_43 ho_175 rfl dX11_isSecond_42 ?_
          refine BT.iload dX11_isSecond_45 4 rfl ?_
          refine BT.iald ha_187 ((((h.2 c2).2.2 c8).2 c14).2 c20).1 dX11_isSecond_47 ?_
          refine BT.if_lt (tgt := 61) dX11_isSecond_48 (by decide) (fun c => ?_) (fun c => ?_)
          · have c25 := c
            refine BT.iconst (v := 0) dX11_isSecond_61 (by decide) ?_
            refine BT.iadd dX11_isSecond_62 ?_
            refine BT.istore_n (L' := [(3, .int ((v3 + 1) + 0)), (0, .ref 175), (1, .int v1), (2, .int v2), (4, .int v4)]) dX11_isSecond_63 rfl (by decide) rfl ?_
            refine BT.iinc (j := 4) (v := (v4 + 1)) (L' := [(4, .int (v4 + 1)), (3, .int ((v3 + 1) + 0)), (0, .ref 175), (1, .int v1), (2, .int v2)]) dX11_isSecond_64 rfl rfl (by decide) rfl ?_
            refine BT.goto (tgt := 5) dX11_isSecond_67 (by decide) ?_
            refine BT.sub [2, 3, 4, 1, 0] rfl ?_
            exact (((((h.2 c2).2.2 c8).2 c14).2 c20).2.1 c25)
          · have c26 := c
            refine BT.iload dX11_isSecond_51 4 rfl ?_
            refine BT.iload_n dX11_isSecond_53 rfl 2 rfl ?_
            refine BT.icmp_ge (tgt := 61) dX11_isSecond_54 (by decide) (fun c => ?_) (fun c => ?_)
            · have c27 := c
              refine BT.iconst (v := 0) dX11_isSecond_61 (by decide) ?_
              refine BT.iadd dX11_isSecond_62 ?_
              refine BT.istore_n (L' := [(3, .int ((v3 + 1) + 0)), (0, .ref 175), (1, .int v1), (2, .int v2), (4, .int v4)]) dX11_isSecond_63 rfl (by decide) rfl ?_
              refine BT.iinc (j := 4) (v := (v4 + 1)) (L' := [(4, .int (v4 + 1)), (3, .int ((v3 + 1) + 0)), (0, .ref 175), (1, .int v1), (2, .int v2)]) dX11_isSecond_64 rfl rfl (by decide) rfl ?_
              refine BT.goto (tgt := 5) dX11_isSecond_67 (by decide) ?_
              refine BT.sub [2, 3, 4, 1, 0] rfl ?_
              exact ((((((h.2 c2).2.2 c8).2 c14).2 c20).2.2 c26).1 c27)
            · have c28 := c
              refine BT.iconst (v := 1) dX11_isSecond_57 (by decide) ?_
              refine BT.goto (tgt := 62) dX11_isSecond_58 (by decide) ?_
              refine BT.iadd dX11_isSecond_62 ?_
              refine BT.istore_n (L' := [(3, .int ((v3 + 1) + 1)), (0, .ref 175), (1, .int v1), (2, .int v2), (4, .int v4)]) dX11_isSecond_63 rfl (by decide) rfl ?_
              refine BT.iinc (j := 4) (v := (v4 + 1)) (L' := [(4, .int (v4 + 1)), (3, .int ((v3 + 1) + 1)), (0, .ref 175), (1, .int v1), (2, .int v2)]) dX11_isSecond_64 rfl rfl (by decide) rfl ?_
              refine BT.goto (tgt := 5) dX11_isSecond_67 (by decide) ?_
              refine BT.sub [2, 3, 4, 1, 0] rfl ?_
              exact ((((((h.2 c2).2.2 c8).2 c14).2 c20).2.2 c26).2 c28)

theorem t_X11_isSecond {G : GT} {K : Int32 → Mem → Prop} {M : Mem} {v1 v2 : Int32} (hl : ∃ l, l < 8 ∧ v1 = nI l) (h : K (bi (z_sec M.1 (Int32.toNatClampNeg v1) v2)) M) : T_X11_isSecond G [.ref 175, .int v1, .int v2] M K := by
  obtain ⟨l, hl8, rfl⟩ := hl
  rw [ix_nI (by omega)] at h
  refine e_X11_isSecond (k_X11_isSecond_0 ?_)
  have num_le : ∀ j, z_num M.1 j ≤ 2 * j := by
    intro j
    induction j with
    | zero => exact Nat.le_refl _
    | succ j ih =>
      have : ∀ p : Prop, sel p 0 1 ≤ 1 := fun p => by unfold sel; split <;> omega
      have h1 := this (M.1 183 j < 0)
      have h2 := this (M.1 187 j < 0)
      unfold z_num
      omega
  have last : B_X11_isSecond G K 5 [(0, .ref 175), (1, .int (nI l)), (2, .int v2), (3, .int (nI (z_numw M.1 l v2))), (4, .int (nI (l + 1)))] [] M := by
    have h1 := num_le l
    have h2 : z_numw M.1 l v2 ≤ z_num M.1 l + 1 := by
      unfold z_numw
      have : sel (v2 = 1) (sel (M.1 183 l < 0) 0 1) 0 ≤ 1 := by unfold sel; split <;> (try split) <;> omega
      omega
    refine k_X11_isSecond_5 ⟨fun _ => ⟨fun c => ?_, fun c => ⟨fun c2 => ?_, fun c2 => ?_⟩⟩, fun c => absurd (nI_lt (by omega) (by omega)) c⟩
    · have : 8 ≤ z_numw M.1 l v2 := (nI_leI (by decide) (by omega)).mp c
      rwa [bi_f (fun q => by have := q.1; omega)] at h
    · rwa [bi_f (fun q => c2 q.2)] at h
    · have : ¬ 8 ≤ z_numw M.1 l v2 := fun q => c ((nI_leI (by decide) (by omega)).mpr q)
      rwa [bi_t ⟨by omega, c2⟩] at h
  have key : ∀ k, k ≤ l → B_X11_isSecond G K 5 [(0, .ref 175), (1, .int (nI l)), (2, .int v2), (3, .int (nI (z_num M.1 (l - k)))), (4, .int (nI (l - k)))] [] M := by
    intro k
    induction k with
    | zero =>
      intro _
      rw [Nat.sub_zero]
      have vp : vp_in (nI l) 8 := vp_nI hl8 (by decide)
      unfold z_numw at last
      refine k_X11_isSecond_5 ⟨fun c => absurd c (Int32.lt_irrefl), fun _ => ⟨vp, fun c => ?_, fun c => ⟨fun c1 => absurd c1 Int32.lt_irrefl, fun _ => ⟨fun c2 => ?_, fun c2 => ?_⟩⟩⟩⟩
      all_goals simp only [ix_nI (show l < 2 ^ 31 by omega), nI_1] at *
      · have e : sel (v2 = 1) (sel (M.1 183 l < 0) 0 1) 0 = 0 := by unfold sel; simp [c]
        rw [e, Nat.add_zero] at last
        refine ⟨vp, fun _ => ?_, fun _ => ⟨fun _ => ?_, fun c3 => absurd (Int32.le_refl _) c3⟩⟩
        all_goals (rw [Int32.add_zero, Int32.add_zero]; exact last)
      · rw [sel_f c2, Nat.add_zero] at last
        refine ⟨vp, fun _ => ?_, fun _ => ⟨fun _ => ?_, fun c3 => absurd (Int32.le_refl _) c3⟩⟩
        all_goals (rw [Int32.add_zero, Int32.add_zero]; exact last)
      · rw [sel_t c2, sel_f c] at last
        refine ⟨vp, fun _ => ?_, fun _ => ⟨fun _ => ?_, fun c3 => absurd (Int32.le_refl _) c3⟩⟩
        all_goals (rw [Int32.add_zero]; exact last)
    | succ k ih =>
      intro hk
      have ih := ih (by omega)
      obtain ⟨j, ej⟩ : ∃ j, j = l - (k + 1) := ⟨_, rfl⟩
      have hjl : j < l := by omega
      have hjj : l - k = j + 1 := by omega
      rw [← ej]
      rw [hjj] at ih
      have vp : vp_in (nI j) 8 := vp_nI (by omega) (by decide)
      have hlt : nI j < nI l := nI_lt hjl (by omega)
      have hnle : ¬ nI l ≤ nI j := Int32.not_le.mpr hlt
      have hnlt : ¬ nI l < nI j := Int32.not_lt.mpr (Int32.le_of_lt hlt)
      unfold z_num at ih
      refine k_X11_isSecond_5 ⟨fun c => absurd c hnlt, fun _ => ⟨vp, fun c => ?_, fun c => ⟨fun _ => ?_, fun c1 => absurd hlt c1⟩⟩⟩
      all_goals simp only [ix_nI (show j < 2 ^ 31 by omega), nI_1] at *
      · rw [sel_t c] at ih
        refine ⟨vp, fun c3 => ?_, fun c3 => ⟨fun c4 => absurd c4 hnle, fun _ => ?_⟩⟩
        · rw [sel_t c3] at ih
          rw [Int32.add_zero, Int32.add_zero]; exact ih
        · rw [sel_f c3] at ih
          rw [Int32.add_zero, nI_1]; exact ih
      · rw [sel_f c] at ih
        refine ⟨vp, fun c3 => ?_, fun c3 => ⟨fun c4 => absurd c4 hnle, fun _ => ?_⟩⟩
        · rw [sel_t c3] at ih
          rw [Int32.add_zero]; exact ih
        · rw [sel_f c3] at ih
          exact ih
  have := key l (Nat.le_refl _)
  rw [Nat.sub_self] at this
  exact this

/-! BetweenLawsModel.timeOf(I)I -/
abbrev rm_X11_timeOf : Room := { frames := 1, cells := 0, slots := 0, locals := 24 }
abbrev B_X11_timeOf (G : GT) (K : Int32 → Mem → Prop) := BT G (Rep G) RX11 "timeOf" cX11_timeOf 2 (some .int) rm_X11_timeOf K 0 0
abbrev T_X11_timeOf (G : GT) (as : List Value) (M : Mem) (K : Int32 → Mem → Prop) : Prop := MT G (Rep G) yX11_timeOf cX11_timeOf 2 (some .int) rm_X11_timeOf as M K
theorem e_X11_timeOf {G : GT} {K : Int32 → Mem → Prop} {M : Mem} {v1 : Int32} (h : B_X11_timeOf G K 0 [(0, .ref 175), (1, .int v1)] [] M) : T_X11_timeOf G [.ref 175, .int v1] M K := MT.of (by decide +kernel) rfl rfl (Nat.le_of_ble_eq_true rfl) rfl h
set_option maxRecDepth 4000 in
theorem k_X11_timeOf_0 {G : GT} {K : Int32 → Mem → Prop} {M : Mem} {v1 : Int32} (h : (vp_in v1 8) ∧ ((M.1 183 (Int32.toNatClampNeg v1)) < 0 → (vp_in v1 8) ∧ K (M.1 182 (Int32.toNatClampNeg v1)) M) ∧ (¬ (M.1 183 (Int32.toNatClampNeg v1)) < 0 → (∃ l, l < 8 ∧ v1 = nI l) ∧ (¬ (z_sec M.1 (Int32.toNatClampNeg v1) 0) → (vp_in v1 8) ∧ K (M.1 182 (Int32.toNatClampNeg v1)) M) ∧ ((z_sec M.1 (Int32.toNatClampNeg v1) 0) → (vp_in v1 8) ∧ K (M.1 183 (Int32.toNatClampNeg v1)) M))) : B_X11_timeOf G K 0 [(0, .ref 175), (1, .int v1)] [] M := by
  refine BT.aload_n dX11_timeOf_0 rfl 0 rfl ?_
  refine BT.getR (r := 183) fl_X11_31 ho_175 rfl dX11_timeOf_1 ?_
  refine BT.iload_n dX11_timeOf_4 rfl 1 rfl ?_
  refine BT.iald ha_183 h.1 dX11_timeOf_5 ?_
  refine BT.if_lt (tgt := 27) dX11_timeOf_6 (by decide) (fun c => ?_) (fun c => ?_)
  · have c1 := c
    refine BT.aload_n dX11_timeOf_27 rfl 0 rfl ?_
    refine BT.getR (r := 182) fl_X11_28 ho_175 rfl dX11_timeOf_28 ?_
    refine BT.iload_n dX11_timeOf_31 rfl 1 rfl ?_
    refine BT.iald ha_182 (h.2.1 c1).1 dX11_timeOf_32 ?_
    exact BT.iret dX11_timeOf_33 rfl (by decide) (by decide) (h.2.1 c1).2
  · have c2 := c
    refine BT.aload_n dX11_timeOf_9 rfl 0 rfl ?_
    refine BT.iload_n dX11_timeOf_10 rfl 1 rfl ?_
    refine BT.iconst (v := 0) dX11_timeOf_11 (by decide) ?_
    refine BT.mcV [.int v1, .int 0] (t_X11_isSecond (h.2.2 c2).1 ?_) mb_X11_isSecond mv_X11_isSecond lk_X11_187 rfl (by decide) rfl (recvRep ho_175 rfl) (Nat.le_of_ble_eq_true rfl) dX11_timeOf_12
    show B_X11_timeOf G K 15 [(0, .ref 175), (1, .int v1)] [.int (bi (z_sec M.1 (Int32.toNatClampNeg v1) 0))] M
    refine BT.if_eq (tgt := 27) dX11_timeOf_15 (by decide) (fun c => ?_) (fun c => ?_)
    · have c4 := bi_eq0.mp c
      refine BT.aload_n dX11_timeOf_27 rfl 0 rfl ?_
      refine BT.getR (r := 182) fl_X11_28 ho_175 rfl dX11_timeOf_28 ?_
      refine BT.iload_n dX11_timeOf_31 rfl 1 rfl ?_
      refine BT.iald ha_182 ((h.2.2 c2).2.1 c4).1 dX11_timeOf_32 ?_
      exact BT.iret dX11_timeOf_33 rfl (by decide) (by decide) ((h.2.2 c2).2.1 c4).2
    · have c5 := bi_ne0.mp c
      refine BT.aload_n dX11_timeOf_18 rfl 0 rfl ?_
      refine BT.getR (r := 183) fl_X11_31 ho_175 rfl dX11_timeOf_19 ?_
      refine BT.iload_n dX11_timeOf_22 rfl 1 rfl ?_
      refine BT.iald ha_183 ((h.2.2 c2).2.2 c5).1 dX11_timeOf_23 ?_
      refine BT.goto (tgt := 33) dX11_timeOf_24 (by decide) ?_
      exact BT.iret dX11_timeOf_33 rfl (by decide) (by decide) ((h.2.2 c2).2.2 c5).2

theorem t_X11_timeOf {G : GT} {K : Int32 → Mem → Prop} {M : Mem} {v1 : Int32} (hl : ∃ l, l < 8 ∧ v1 = nI l) (h : K (z_tm M.1 (Int32.toNatClampNeg v1)) M) : T_X11_timeOf G [.ref 175, .int v1] M K := by
  have vp : vp_in v1 8 := by obtain ⟨l, hl8, rfl⟩ := hl; exact vp_nI hl8 (by decide)
  refine e_X11_timeOf (k_X11_timeOf_0 ?_)
  unfold z_tm at h
  refine ⟨vp, fun c => ⟨vp, ?_⟩, fun c => ⟨hl, fun c2 => ⟨vp, ?_⟩, fun c2 => ⟨vp, ?_⟩⟩⟩
  · rwa [sel_f (fun q => q.1 c)] at h
  · rwa [sel_f (fun q => c2 q.2)] at h
  · rwa [sel_t ⟨c, c2⟩] at h

/-! BetweenLawsModel.wayOf(I)I -/
abbrev rm_X11_wayOf : Room := { frames := 1, cells := 0, slots := 0, locals := 24 }
abbrev B_X11_wayOf (G : GT) (K : Int32 → Mem → Prop) := BT G (Rep G) RX11 "wayOf" cX11_wayOf 2 (some .int) rm_X11_wayOf K 0 0
abbrev T_X11_wayOf (G : GT) (as : List Value) (M : Mem) (K : Int32 → Mem → Prop) : Prop := MT G (Rep G) yX11_wayOf cX11_wayOf 2 (some .int) rm_X11_wayOf as M K
theorem e_X11_wayOf {G : GT} {K : Int32 → Mem → Prop} {M : Mem} {v1 : Int32} (h : B_X11_wayOf G K 0 [(0, .ref 175), (1, .int v1)] [] M) : T_X11_wayOf G [.ref 175, .int v1] M K := MT.of (by decide +kernel) rfl rfl (Nat.le_of_ble_eq_true rfl) rfl h
set_option maxRecDepth 4000 in
theorem k_X11_wayOf_0 {G : GT} {K : Int32 → Mem → Prop} {M : Mem} {v1 : Int32} (h : ((M.1 175 20) < 0 → (vp_in v1 8) ∧ ((M.1 187 (Int32.toNatClampNeg v1)) < 0 → (vp_in v1 8) ∧ K (M.1 186 (Int32.toNatClampNeg v1)) M) ∧ (¬ (M.1 187 (Int32.toNatClampNeg v1)) < 0 → (∃ l, l < 8 ∧ v1 = nI l) ∧ (¬ (z_sec M.1 (Int32.toNatClampNeg v1) 1) → (vp_in v1 8) ∧ K (M.1 186 (Int32.toNatClampNeg v1)) M) ∧ ((z_sec M.1 (Int32.toNatClampNeg v1) 1) → (vp_in v1 8) ∧ K (M.1 187 (Int32.toNatClampNeg v1)) M))) ∧ (¬ (M.1 175 20) < 0 → K (M.1 175 20) M)) : B_X11_wayOf G K 0 [(0, .ref 175), (1, .int v1)] [] M := by
  refine BT.aload_n dX11_wayOf_0 rfl 0 rfl ?_
  refine BT.getI fl_X11_49 ho_175 rfl dX11_wayOf_1 ?_
  refine BT.if_lt (tgt := 14) dX11_wayOf_4 (by decide) (fun c => ?_) (fun c => ?_)
  · have c1 := c
    refine BT.aload_n dX11_wayOf_14 rfl 0 rfl ?_
    refine BT.getR (r := 187) fl_X11_43 ho_175 rfl dX11_wayOf_15 ?_
    refine BT.iload_n dX11_wayOf_18 rfl 1 rfl ?_
    refine BT.iald ha_187 (h.1 c1).1 dX11_wayOf_19 ?_
    refine BT.if_lt (tgt := 41) dX11_wayOf_20 (by decide) (fun c => ?_) (fun c => ?_)
    · have c3 := c
      refine BT.aload_n dX11_wayOf_41 rfl 0 rfl ?_
      refine BT.getR (r := 186) fl_X11_40 ho_175 rfl dX11_wayOf_42 ?_
      refine BT.iload_n dX11_wayOf_45 rfl 1 rfl ?_
      refine BT.iald ha_186 ((h.1 c1).2.1 c3).1 dX11_wayOf_46 ?_
      exact BT.iret dX11_wayOf_47 rfl (by decide) (by decide) ((h.1 c1).2.1 c3).2
    · have c4 := c
      refine BT.aload_n dX11_wayOf_23 rfl 0 rfl ?_
      refine BT.iload_n dX11_wayOf_24 rfl 1 rfl ?_
      refine BT.iconst (v := 1) dX11_wayOf_25 (by decide) ?_
      refine BT.mcV [.int v1, .int 1] (t_X11_isSecond ((h.1 c1).2.2 c4).1 ?_) mb_X11_isSecond mv_X11_isSecond lk_X11_187 rfl (by decide) rfl (recvRep ho_175 rfl) (Nat.le_of_ble_eq_true rfl) dX11_wayOf_26
      show B_X11_wayOf G K 29 [(0, .ref 175), (1, .int v1)] [.int (bi (z_sec M.1 (Int32.toNatClampNeg v1) 1))] M
      refine BT.if_eq (tgt := 41) dX11_wayOf_29 (by decide) (fun c => ?_) (fun c => ?_)
      · have c6 := bi_eq0.mp c
        refine BT.aload_n dX11_wayOf_41 rfl 0 rfl ?_
        refine BT.getR (r := 186) fl_X11_40 ho_175 rfl dX11_wayOf_42 ?_
        refine BT.iload_n dX11_wayOf_45 rfl 1 rfl ?_
        refine BT.iald ha_186 (((h.1 c1).2.2 c4).2.1 c6).1 dX11_wayOf_46 ?_
        exact BT.iret dX11_wayOf_47 rfl (by decide) (by decide) (((h.1 c1).2.2 c4).2.1 c6).2
      · have c7 := bi_ne0.mp c
        refine BT.aload_n dX11_wayOf_32 rfl 0 rfl ?_
        refine BT.getR (r := 187) fl_X11_43 ho_175 rfl dX11_wayOf_33 ?_
        refine BT.iload_n dX11_wayOf_36 rfl 1 rfl ?_
        refine BT.iald ha_187 (((h.1 c1).2.2 c4).2.2 c7).1 dX11_wayOf_37 ?_
        refine BT.goto (tgt := 47) dX11_wayOf_38 (by decide) ?_
        exact BT.iret dX11_wayOf_47 rfl (by decide) (by decide) (((h.1 c1).2.2 c4).2.2 c7).2
  · have c2 := c
    refine BT.aload_n dX11_wayOf_7 rfl 0 rfl ?_
    refine BT.getI fl_X11_49 ho_175 rfl dX11_wayOf_8 ?_
    refine BT.goto (tgt := 47) dX11_wayOf_11 (by decide) ?_
    exact BT.iret dX11_wayOf_47 rfl (by decide) (by decide) (h.2 c2)

theorem t_X11_wayOf {G : GT} {K : Int32 → Mem → Prop} {M : Mem} {v1 : Int32} (hl : ∃ l, l < 8 ∧ v1 = nI l) (h : K (z_wy M.1 (Int32.toNatClampNeg v1)) M) : T_X11_wayOf G [.ref 175, .int v1] M K := by
  have vp : vp_in v1 8 := by obtain ⟨l, hl8, rfl⟩ := hl; exact vp_nI hl8 (by decide)
  refine e_X11_wayOf (k_X11_wayOf_0 ?_)
  unfold z_wy at h
  refine ⟨fun c0 => ⟨vp, fun c => ⟨vp, ?_⟩, fun c => ⟨hl, fun c2 => ⟨vp, ?_⟩, fun c2 => ⟨vp, ?_⟩⟩⟩, fun c0 => ?_⟩
  · rwa [sel_f (fun q => q c0), sel_f (fun q => q.1 c)] at h
  · rwa [sel_f (fun q => q c0), sel_f (fun q => c2 q.2)] at h
  · rwa [sel_f (fun q => q c0), sel_t ⟨c, c2⟩] at h
  · rwa [sel_t c0] at h

/-! BetweenLawsModel.forceOf(I)I -/
abbrev rm_X11_forceOf : Room := { frames := 2, cells := 0, slots := 0, locals := 47 }
abbrev B_X11_forceOf (G : GT) (K : Int32 → Mem → Prop) := BT G (Rep G) RX11 "forceOf" cX11_forceOf 4 (some .int) rm_X11_forceOf K 0 0
abbrev T_X11_forceOf (G : GT) (as : List Value) (M : Mem) (K : Int32 → Mem → Prop) : Prop := MT G (Rep G) yX11_forceOf cX11_forceOf 4 (some .int) rm_X11_forceOf as M K
theorem e_X11_forceOf {G : GT} {K : Int32 → Mem → Prop} {M : Mem} {v1 : Int32} (h : B_X11_forceOf G K 0 [(0, .ref 175), (1, .int v1)] [] M) : T_X11_forceOf G [.ref 175, .int v1] M K := MT.of (by decide +kernel) rfl rfl (Nat.le_of_ble_eq_true rfl) rfl h
set_option maxRecDepth 4000 in
theorem k_X11_forceOf_0 {G : GT} {K : Int32 → Mem → Prop} {M : Mem} {v1 : Int32} (h : B_X11_forceOf G K 4 [(0, .ref 175), (1, .int v1), (2, .int 0), (3, .int 0)] [] M) : B_X11_forceOf G K 0 [(0, .ref 175), (1, .int v1)] [] M := by
  refine BT.iconst (v := 0) dX11_forceOf_0 (by decide) ?_
  refine BT.istore_n (L' := [(2, .int 0), (0, .ref 175), (1, .int v1)]) dX11_forceOf_1 rfl (by decide) rfl ?_
  refine BT.iconst (v := 0) dX11_forceOf_2 (by decide) ?_
  refine BT.istore_n (L' := [(3, .int 0), (2, .int 0), (0, .ref 175), (1, .int v1)]) dX11_forceOf_3 rfl (by decide) rfl ?_
  refine BT.sub [2, 3, 1, 0] rfl ?_
  exact h
set_option maxRecDepth 4000 in
theorem k_X11_forceOf_4 {G : GT} {K : Int32 → Mem → Prop} {M : Mem} {W : WT} {v1 : Int32} {v2 : Int32} {v3 : Int32} (h : ((M.1 175 18) ≤ v3 → K v2 M) ∧ (¬ (M.1 175 18) ≤ v3 → (RG W M) ∧ ((0 : Int32) ≤ v3 ∧ v3 < W 8 1) ∧ (¬ (inF W (Int32.toNatClampNeg v3) v1) → B_X11_forceOf G K 4 [(0, .ref 175), (1, .int v1), (2, .int (v2 ||| 0)), (3, .int (v3 + 1))] [] M) ∧ ((inF W (Int32.toNatClampNeg v3) v1) → B_X11_forceOf G K 4 [(0, .ref 175), (1, .int v1), (2, .int (v2 ||| ((1 : Int32) <<< (v3 &&& 31)))), (3, .int (v3 + 1))] [] M))) : B_X11_forceOf G K 4 [(0, .ref 175), (1, .int v1), (2, .int v2), (3, .int v3)] [] M := by
  refine BT.iload_n dX11_forceOf_4 rfl 3 rfl ?_
  refine BT.aload_n dX11_forceOf_5 rfl 0 rfl ?_
  refine BT.getI fl_X11_149 ho_175 rfl dX11_forceOf_6 ?_
  refine BT.icmp_ge (tgt := 37) dX11_forceOf_9 (by decide) (fun c => ?_) (fun c => ?_)
  · have c1 := c
    refine BT.iload_n dX11_forceOf_37 rfl 2 rfl ?_
    exact BT.iret dX11_forceOf_38 rfl (by decide) (by decide) (h.1 c1)
  · have c2 := c
    refine BT.iload_n dX11_forceOf_12 rfl 2 rfl ?_
    refine BT.aload_n dX11_forceOf_13 rfl 0 rfl ?_
    refine BT.iload_n dX11_forceOf_14 rfl 3 rfl ?_
    refine BT.iload_n dX11_forceOf_15 rfl 1 rfl ?_
    refine BT.mcV [.int v3, .int v1] (t_X11_isInForce (h.2 c2).1 (h.2 c2).2.1 ?_) mb_X11_isInForce mv_X11_isInForce lk_X11_172 rfl (by decide) rfl (recvRep ho_175 rfl) (Nat.le_of_ble_eq_true rfl) dX11_forceOf_16
    show B_X11_forceOf G K 19 [(0, .ref 175), (1, .int v1), (2, .int v2), (3, .int v3)] [.int (bi (inF W (Int32.toNatClampNeg v3) v1)), .int v2] M
    refine BT.if_eq (tgt := 28) dX11_forceOf_19 (by decide) (fun c => ?_) (fun c => ?_)
    · have c4 := bi_eq0.mp c
      refine BT.iconst (v := 0) dX11_forceOf_28 (by decide) ?_
      refine BT.ior dX11_forceOf_29 ?_
      refine BT.istore_n (L' := [(2, .int (v2 ||| 0)), (0, .ref 175), (1, .int v1), (3, .int v3)]) dX11_forceOf_30 rfl (by decide) rfl ?_
      refine BT.iinc (j := 3) (v := (v3 + 1)) (L' := [(3, .int (v3 + 1)), (2, .int (v2 ||| 0)), (0, .ref 175), (1, .int v1)]) dX11_forceOf_31 rfl rfl (by decide) rfl ?_
      refine BT.goto (tgt := 4) dX11_forceOf_34 (by decide) ?_
      refine BT.sub [2, 3, 1, 0] rfl ?_
      exact ((h.2 c2).2.2.1 c4)
    · have c5 := bi_ne0.mp c
      refine BT.iconst (v := 1) dX11_forceOf_22 (by decide) ?_
      refine BT.iload_n dX11_forceOf_23 rfl 3 rfl ?_
      refine BT.ishl dX11_forceOf_24 ?_
      refine BT.goto (tgt := 29) dX11_forceOf_25 (by decide) ?_
      refine BT.ior dX11_forceOf_29 ?_
      refine BT.istore_n (L' := [(2, .int (v2 ||| ((1 : Int32) <<< (v3 &&& 31)))), (0, .ref 175), (1, .int v1), (3, .int v3)]) dX11_forceOf_30 rfl (by decide) rfl ?_
      refine BT.iinc (j := 3) (v := (v3 + 1)) (L' := [(3, .int (v3 + 1)), (2, .int (v2 ||| ((1 : Int32) <<< (v3 &&& 31)))), (0, .ref 175), (1, .int v1)]) dX11_forceOf_31 rfl rfl (by decide) rfl ?_
      refine BT.goto (tgt := 4) dX11_forceOf_34 (by decide) ?_
      refine BT.sub [2, 3, 1, 0] rfl ?_
      exact ((h.2 c2).2.2.2 c5)

theorem RG.n {W : WT} {M : Mem} (h : RG W M) : M.1 175 18 = nI (w_n W) ∧ W 8 1 = nI (w_n W) ∧ w_n W ≤ 8 := ⟨h.2.1.trans h.1.1.1, h.1.1.1, h.1.1.2⟩
theorem RG.li {W : WT} {M : Mem} (h : RG W M) {j : Nat} (hj : j < w_n W) : (0 : Int32) ≤ nI j ∧ nI j < W 8 1 := by
  obtain ⟨-, h1, h2⟩ := h.n
  rw [h1]
  exact ⟨nI_pos' (by omega), nI_lt hj (by omega)⟩
theorem t_X11_forceOf {G : GT} {K : Int32 → Mem → Prop} {M : Mem} {W : WT} {v1 : Int32} (hR : RG W M) (h : K (w_force W v1 (w_n W)) M) : T_X11_forceOf G [.ref 175, .int v1] M K := by
  obtain ⟨h1, h2, h8⟩ := hR.n
  refine e_X11_forceOf (k_X11_forceOf_0 ?_)
  refine up_loop (P := fun j => B_X11_forceOf G K 4 [(0, .ref 175), (1, .int v1), (2, .int (w_force W v1 j)), (3, .int (nI j))] [] M) (w_n W) ?_ (fun j hj ih => ?_) 0 (Nat.zero_le _)
  · exact k_X11_forceOf_4 (W := W) ⟨fun _ => h, fun c => absurd (by rw [h1]; exact Int32.le_refl _) c⟩
  · unfold w_force at ih
    refine k_X11_forceOf_4 (W := W) ⟨fun c => ?_, fun _ => ⟨hR, hR.li hj, fun c => ?_, fun c => ?_⟩⟩
    · rw [h1, nI_leI (by omega) (by omega)] at c; omega
    · rw [ix_nI (by omega)] at c
      rw [sel_f c] at ih
      rw [Int32.or_zero, nI_1]; exact ih
    · rw [ix_nI (by omega)] at c
      rw [sel_t c] at ih
      rw [nI_1]; exact ih

/-! BetweenLawsModel.marksAt(II)I -/
abbrev rm_X11_marksAt : Room := { frames := 1, cells := 0, slots := 0, locals := 24 }
abbrev B_X11_marksAt (G : GT) (K : Int32 → Mem → Prop) := BT G (Rep G) RX11 "marksAt" cX11_marksAt 3 (some .int) rm_X11_marksAt K 0 0
abbrev T_X11_marksAt (G : GT) (as : List Value) (M : Mem) (K : Int32 → Mem → Prop) : Prop := MT G (Rep G) yX11_marksAt cX11_marksAt 3 (some .int) rm_X11_marksAt as M K
theorem e_X11_marksAt {G : GT} {K : Int32 → Mem → Prop} {M : Mem} {v1 : Int32} {v2 : Int32} (h : B_X11_marksAt G K 0 [(0, .ref 175), (1, .int v1), (2, .int v2)] [] M) : T_X11_marksAt G [.ref 175, .int v1, .int v2] M K := MT.of (by decide +kernel) rfl rfl (Nat.le_of_ble_eq_true rfl) rfl h
set_option maxRecDepth 4000 in
theorem k_X11_marksAt_0 {G : GT} {K : Int32 → Mem → Prop} {M : Mem} {W : WT} {v1 : Int32} {v2 : Int32} (h : (RG W M) ∧ ((0 : Int32) ≤ v1 ∧ v1 < W 8 1) ∧ (PR W M v2) ∧ (∀ r1 : Int32, r1 = (z_fit W v1 v2) → (vp_in (((6 : Int32) * v1) + r1) 48) ∧ (∀ r2 : Int32, r2 = (z_ones (M.1 180 (Int32.toNatClampNeg (((6 : Int32) * v1) + r1))) 8) → K r2 M))) : B_X11_marksAt G K 0 [(0, .ref 175), (1, .int v1), (2, .int v2)] [] M := by
  refine BT.aload_n dX11_marksAt_0 rfl 0 rfl ?_
  refine BT.getR (r := 180) fl_X11_22 ho_175 rfl dX11_marksAt_1 ?_
  refine BT.bipush (v := 6) dX11_marksAt_4 (by decide) ?_
  refine BT.iload_n dX11_marksAt_6 rfl 1 rfl ?_
  refine BT.imul dX11_marksAt_7 ?_
  refine BT.aload_n dX11_marksAt_8 rfl 0 rfl ?_
  refine BT.iload_n dX11_marksAt_9 rfl 1 rfl ?_
  refine BT.iload_n dX11_marksAt_10 rfl 2 rfl ?_
  refine BT.mcVr [.int v1, .int v2] (t_X11_fitting h.1 h.2.1 h.2.2.1 ⟨rfl, rfl⟩) mb_X11_fitting mv_X11_fitting lk_X11_210 rfl (by decide) rfl (recvRep ho_175 rfl) (Nat.le_of_ble_eq_true rfl) dX11_marksAt_11 (fun r1 e1 => ?_)
  show B_X11_marksAt G K 14 [(0, .ref 175), (1, .int v1), (2, .int v2)] [.int r1, .int ((6 : Int32) * v1), .ref 180] M
  refine BT.iadd dX11_marksAt_14 ?_
  refine BT.iald ha_180 (h.2.2.2 r1 e1).1 dX11_marksAt_15 ?_
  refine BT.mcSr [.int (M.1 180 (Int32.toNatClampNeg (((6 : Int32) * v1) + r1)))] (t_X11_ones  ⟨rfl, rfl⟩) mb_X11_ones ms_X11_ones lk_X11_227 rfl (by decide) rfl (Nat.le_of_ble_eq_true rfl) dX11_marksAt_16 (fun r2 e2 => ?_)
  show B_X11_marksAt G K 19 [(0, .ref 175), (1, .int v1), (2, .int v2)] [.int r2] M
  exact BT.iret dX11_marksAt_19 rfl (by decide) (by decide) ((h.2.2.2 r1 e1).2 r2 e2)

theorem PR.marks {W : WT} {M : Mem} {p : Int32} (h : PR W M p) : ∃ m, m < 32 ∧ W (zp p) 3 = nI m := by
  obtain ⟨j, hj, rfl, ⟨p1, p2, p3, p4⟩, -⟩ := h
  unfold zp
  rw [ix_nI (by omega)]
  exact p4
theorem m32 {m : Nat} (h : m < 32) : (0 : Int32) ≤ nI m ∧ nI m < 32 := ⟨nI_pos' (by omega), nI_lt (b := 32) h (by decide)⟩
theorem t_X11_marksAt {G : GT} {K : Int32 → Mem → Prop} {M : Mem} {W : WT} {v1 v2 : Int32} (hR : RG W M) (hl : (0 : Int32) ≤ v1 ∧ v1 < W 8 1) (hP : PR W M v2) (hf : ¬ z_fit W v1 v2 = -6) (h : K (c_weight W (plw v1) (W (zp v2) 3)) M) : T_X11_marksAt G [.ref 175, .int v1, .int v2] M K := by
  obtain ⟨i1, i2, i3⟩ := hR.1.ix hl
  obtain ⟨r1, r2, r3, r4, r5, r6, r7⟩ := hR.2.2.2.2.2 _ i1
  obtain ⟨-, -, ⟨k, ⟨hk1, hk6⟩, ek, hk⟩, hfw⟩ := hR.1.2.2.2 _ i1
  obtain ⟨m, hm, em⟩ := hP.marks
  refine e_X11_marksAt (k_X11_marksAt_0 (W := W) ⟨hR, hl, hP, fun r1 e1 => ?_⟩)
  have hz : z_fit W v1 v2 = w_fit W (plw v1) (nI m) := by unfold z_fit; rw [em]
  rw [hz] at hf e1
  unfold c_weight at h
  rw [em, if_pos (m32 hm), ix_nI (by omega), (hfw m hm).2, sel_f hf] at h
  rcases w_ff_in W (plw v1) (nI m) (Int32.toNatClampNeg (W (plw v1) 2)) 0 with q | ⟨j, hj, q⟩
  · exact absurd q hf
  · rw [Nat.zero_add] at hj
    have q : w_fit W (plw v1) (nI m) = nI j := q
    have ek' : W (plw v1) 2 = nI k := ek
    rw [ek', ix_nI (by omega)] at hj
    have r7' := (r7 j (by rw [ek, ix_nI (by omega)]; exact hj)).1
    rw [q] at e1 h
    have ea : (6 : Int32) * v1 + r1 = nI (6 * Int32.toNatClampNeg v1 + j) := by
      rw [e1, ← nI_add, ← nI_mul, ← i3]; rfl
    rw [ea]
    refine ⟨vp_nI (by omega) (by decide), fun r2 e2 => ?_⟩
    rw [ix_nI (by omega)] at e2 h
    rw [e2, r7']
    exact h

/-! BetweenLawsModel.heldAgainst(III)I -/
abbrev rm_X11_heldAgainst : Room := { frames := 2, cells := 0, slots := 0, locals := 46 }
abbrev B_X11_heldAgainst (G : GT) (K : Int32 → Mem → Prop) := BT G (Rep G) RX11 "heldAgainst" cX11_heldAgainst 6 (some .int) rm_X11_heldAgainst K 0 0
abbrev T_X11_heldAgainst (G : GT) (as : List Value) (M : Mem) (K : Int32 → Mem → Prop) : Prop := MT G (Rep G) yX11_heldAgainst cX11_heldAgainst 6 (some .int) rm_X11_heldAgainst as M K
theorem e_X11_heldAgainst {G : GT} {K : Int32 → Mem → Prop} {M : Mem} {v1 : Int32} {v2 : Int32} {v3 : Int32} (h : B_X11_heldAgainst G K 0 [(0, .ref 175), (1, .int v1), (2, .int v2), (3, .int v3)] [] M) : T_X11_heldAgainst G [.ref 175, .int v1, .int v2, .int v3] M K := MT.of (by decide +kernel) rfl rfl (Nat.le_of_ble_eq_true rfl) rfl h
set_option maxRecDepth 4000 in
theorem k_X11_heldAgainst_0 {G : GT} {K : Int32 → Mem → Prop} {M : Mem} {W : WT} {v1 : Int32} {v2 : Int32} {v3 : Int32} (h : (vp_in v1 8) ∧ (vp_in v2 8) ∧ (RG W M) ∧ ((0 : Int32) ≤ v1 ∧ v1 < W 8 1) ∧ (PR W M v3) ∧ (¬ z_fit W v1 v3 = -6) ∧ (∀ r1 : Int32, r1 = (c_weight W (plw v1) (W (zp v3) 3)) → (RG W M) ∧ ((0 : Int32) ≤ v2 ∧ v2 < W 8 1) ∧ (PR W M v3) ∧ (¬ z_fit W v2 v3 = -6) ∧ (∀ r2 : Int32, r2 = (c_weight W (plw v2) (W (zp v3) 3)) → (¬ (M.1 175 27) = 0 → ((r1 - r2) = 0 → K ((M.1 177 (Int32.toNatClampNeg v1)) - (M.1 177 (Int32.toNatClampNeg v2))) M) ∧ (¬ (r1 - r2) = 0 → K (r1 - r2) M)) ∧ ((M.1 175 27) = 0 → (((M.1 177 (Int32.toNatClampNeg v1)) - (M.1 177 (Int32.toNatClampNeg v2))) = 0 → K (r1 - r2) M) ∧ (¬ ((M.1 177 (Int32.toNatClampNeg v1)) - (M.1 177 (Int32.toNatClampNeg v2))) = 0 → K ((M.1 177 (Int32.toNatClampNeg v1)) - (M.1 177 (Int32.toNatClampNeg v2))) M))))) : B_X11_heldAgainst G K 0 [(0, .ref 175), (1, .int v1), (2, .int v2), (3, .int v3)] [] M := by
  refine BT.aload_n dX11_heldAgainst_0 rfl 0 rfl ?_
  refine BT.getR (r := 177) fl_X11_13 ho_175 rfl dX11_heldAgainst_1 ?_
  refine BT.iload_n dX11_heldAgainst_4 rfl 1 rfl ?_
  refine BT.iald ha_177 h.1 dX11_heldAgainst_5 ?_
  refine BT.aload_n dX11_heldAgainst_6 rfl 0 rfl ?_
  refine BT.getR (r := 177) fl_X11_13 ho_175 rfl dX11_heldAgainst_7 ?_
  refine BT.iload_n dX11_heldAgainst_10 rfl 2 rfl ?_
  refine BT.iald ha_177 h.2.1 dX11_heldAgainst_11 ?_
  refine BT.isub dX11_heldAgainst_12 ?_
  refine BT.istore (L' := [(4, .int ((M.1 177 (Int32.toNatClampNeg v1)) - (M.1 177 (Int32.toNatClampNeg v2)))), (0, .ref 175), (1, .int v1), (2, .int v2), (3, .int v3)]) dX11_heldAgainst_13 (by decide) rfl ?_
  refine BT.aload_n dX11_heldAgainst_15 rfl 1 rfl ?_
  refine BT.iload_n dX11_heldAgainst_16 rfl 2 rfl ?_
  refine BT.iload_n dX11_heldAgainst_17 rfl 4 rfl ?_
  refine BT.mcVr [.int v1, .int v3] (t_X11_marksAt h.2.2.1 h.2.2.2.1 h.2.2.2.2.1 h.2.2.2.2.2.1 ⟨rfl, rfl⟩) mb_X11_marksAt mv_X11_marksAt lk_X11_224 rfl (by decide) rfl (recvRep ho_175 rfl) (Nat.le_of_ble_eq_true rfl) dX11_heldAgainst_18 (fun r1 e1 => ?_)
  show B_X11_heldAgainst G K 21 [(4, .int ((M.1 177 (Int32.toNatClampNeg v1)) - (M.1 177 (Int32.toNatClampNeg v2)))), (0, .ref 175), (1, .int v1), (2, .int v2), (3, .int v3)] [.int r1] M
  refine BT.aload_n dX11_heldAgainst_21 rfl 1 rfl ?_
  refine BT.iload_n dX11_heldAgainst_22 rfl 3 rfl ?_
  refine BT.iload_n dX11_heldAgainst_23 rfl 4 rfl ?_
  refine BT.mcVr [.int v2, .int v3] (t_X11_marksAt (h.2.2.2.2.2.2 r1 e1).1 (h.2.2.2.2.2.2 r1 e1).2.1 (h.2.2.2.2.2.2 r1 e1).2.2.1 (h.2.2.2.2.2.2 r1 e1).2.2.2.1 ⟨rfl, rfl⟩) mb_X11_marksAt mv_X11_marksAt lk_X11_224 rfl (by decide) rfl (recvRep ho_175 rfl) (Nat.le_of_ble_eq_true rfl) dX11_heldAgainst_24 (fun r2 e2 => ?_)
  show B_X11_heldAgainst G K 27 [(4, .int ((M.1 177 (Int32.toNatClampNeg v1)) - (M.1 177 (Int32.toNatClampNeg v2)))), (0, .ref 175), (1, .int v1), (2, .int v2), (3, .int v3)] [.int r2, .int r1] M
  refine BT.isub dX11_heldAgainst_27 ?_
  refine BT.istore (L' := [(5, .int (r1 - r2)), (4, .int ((M.1 177 (Int32.toNatClampNeg v1)) - (M.1 177 (Int32.toNatClampNeg v2)))), (0, .ref 175), (1, .int v1), (2, .int v2), (3, .int v3)]) dX11_heldAgainst_28 (by decide) rfl ?_
  refine BT.aload_n dX11_heldAgainst_30 rfl 2 rfl ?_
  refine BT.getI fl_X11_201 ho_175 rfl dX11_heldAgainst_31 ?_
  refine BT.if_ne (tgt := 52) dX11_heldAgainst_34 (by decide) (fun c => ?_) (fun c => ?_)
  · have c3 := c
    refine BT.iload dX11_heldAgainst_52 0 rfl ?_
    refine BT.if_eq (tgt := 62) dX11_heldAgainst_54 (by decide) (fun c => ?_) (fun c => ?_)
    · have c5 := c
      refine BT.iload dX11_heldAgainst_62 1 rfl ?_
      exact BT.iret dX11_heldAgainst_64 rfl (by decide) (by decide) ((((h.2.2.2.2.2.2 r1 e1).2.2.2.2 r2 e2).1 c3).1 c5)
    · have c6 := c
      refine BT.iload dX11_heldAgainst_57 0 rfl ?_
      refine BT.goto (tgt := 64) dX11_heldAgainst_59 (by decide) ?_
      exact BT.iret dX11_heldAgainst_64 rfl (by decide) (by decide) ((((h.2.2.2.2.2.2 r1 e1).2.2.2.2 r2 e2).1 c3).2 c6)
  · have c4 := c
    refine BT.iload dX11_heldAgainst_37 1 rfl ?_
    refine BT.if_eq (tgt := 47) dX11_heldAgainst_39 (by decide) (fun c => ?_) (fun c => ?_)
    · have c7 := c
      refine BT.iload dX11_heldAgainst_47 0 rfl ?_
      refine BT.goto (tgt := 64) dX11_heldAgainst_49 (by decide) ?_
      exact BT.iret dX11_heldAgainst_64 rfl (by decide) (by decide) ((((h.2.2.2.2.2.2 r1 e1).2.2.2.2 r2 e2).2 c4).1 c7)
    · have c8 := c
      refine BT.iload dX11_heldAgainst_42 1 rfl ?_
      refine BT.goto (tgt := 64) dX11_heldAgainst_44 (by decide) ?_
      exact BT.iret dX11_heldAgainst_64 rfl (by decide) (by decide) ((((h.2.2.2.2.2.2 r1 e1).2.2.2.2 r2 e2).2 c4).2 c8)

theorem t_X11_heldAgainst {G : GT} {K : Int32 → Mem → Prop} {M : Mem} {W : WT} {v1 v2 v3 : Int32} (hR : RG W M) (hl : (0 : Int32) ≤ v1 ∧ v1 < W 8 1) (hl2 : (0 : Int32) ≤ v2 ∧ v2 < W 8 1) (hP : PR W M v3) (hf : ¬ z_fit W v1 v3 = -6) (hf2 : ¬ z_fit W v2 v3 = -6) (h : K (c_cmp W (plw v1) (plw v2) (W (zp v3) 3)) M) : T_X11_heldAgainst G [.ref 175, .int v1, .int v2, .int v3] M K := by
  obtain ⟨i1, i2, i3⟩ := hR.1.ix hl
  obtain ⟨j1, j2, j3⟩ := hR.1.ix hl2
  have a1 := (hR.2.2.2.2.2 _ i1).1
  have a2 := (hR.2.2.2.2.2 _ j1).1
  refine e_X11_heldAgainst (k_X11_heldAgainst_0 (W := W) ⟨vp8 i2 i3, vp8 j2 j3, hR, hl, hP, hf, fun r1 e1 => ⟨hR, hl2, hP, hf2, fun r2 e2 => ?_⟩⟩)
  rw [a1, a2, hR.2.2.1, e1, e2]
  unfold c_cmp at h
  refine ⟨fun c => ⟨fun c2 => ?_, fun c2 => ?_⟩, fun c => ⟨fun c2 => ?_, fun c2 => ?_⟩⟩
  · rwa [sel_f c, sel_t c2] at h
  · rwa [sel_f c, sel_f c2] at h
  · rwa [sel_t c, sel_t c2] at h
  · rwa [sel_t c, sel_f c2] at h

/-! BetweenLawsModel.lackOf(IIII)I -/
abbrev rm_X11_lackOf : Room := { frames := 2, cells := 0, slots := 0, locals := 47 }
abbrev B_X11_lackOf (G : GT) (K : Int32 → Mem → Prop) := BT G (Rep G) RX11 "lackOf" cX11_lackOf 8 (some .int) rm_X11_lackOf K 0 0
abbrev T_X11_lackOf (G : GT) (as : List Value) (M : Mem) (K : Int32 → Mem → Prop) : Prop := MT G (Rep G) yX11_lackOf cX11_lackOf 8 (some .int) rm_X11_lackOf as M K
theorem e_X11_lackOf {G : GT} {K : Int32 → Mem → Prop} {M : Mem} {v1 : Int32} {v2 : Int32} {v3 : Int32} {v4 : Int32} (h : B_X11_lackOf G K 0 [(0, .ref 175), (1, .int v1), (2, .int v2), (3, .int v3), (4, .int v4)] [] M) : T_X11_lackOf G [.ref 175, .int v1, .int v2, .int v3, .int v4] M K := MT.of (by decide +kernel) rfl rfl (Nat.le_of_ble_eq_true rfl) rfl h
set_option maxRecDepth 4000 in
theorem k_X11_lackOf_0 {G : GT} {K : Int32 → Mem → Prop} {M : Mem} {W : WT} {v1 : Int32} {v2 : Int32} {v3 : Int32} {v4 : Int32} (h : (RG W M) ∧ ((0 : Int32) ≤ v1 ∧ v1 < W 8 1) ∧ ((inF W (Int32.toNatClampNeg v1) v3) → (¬ ((v4 >>> (v1 &&& 31)) &&& 1) = 1 → (vp_in v2 9) ∧ ((M.1 189 (Int32.toNatClampNeg v2)) ≤ v3 → (RG W M) ∧ ((0 : Int32) ≤ v1 ∧ v1 < W 8 1) ∧ (PR W M v2) ∧ (∀ r8 : Int32, r8 = (z_fit W v1 v2) → (0 ≤ r8 → (∃ l, l < 8 ∧ v1 = nI l) ∧ (∀ r11 : Int32, r11 = (z_tm M.1 (Int32.toNatClampNeg v1)) → (vp_in v2 9) ∧ ((M.1 190 (Int32.toNatClampNeg v2)) < 0 → (r11 = 97 → (vp_in v1 8) ∧ ((M.1 184 (Int32.toNatClampNeg v1)) = 0 → K 0 M) ∧ (¬ (M.1 184 (Int32.toNatClampNeg v1)) = 0 → K 0 M)) ∧ (¬ r11 = 97 → (vp_in v2 9) ∧ (vp_in v1 8) ∧ ((M.1 177 (Int32.toNatClampNeg v1)) ≤ (M.1 189 (Int32.toNatClampNeg v2)) → (vp_in v1 8) ∧ ((M.1 184 (Int32.toNatClampNeg v1)) = 0 → K 0 M) ∧ (¬ (M.1 184 (Int32.toNatClampNeg v1)) = 0 → K 0 M)) ∧ (¬ (M.1 177 (Int32.toNatClampNeg v1)) ≤ (M.1 189 (Int32.toNatClampNeg v2)) → (¬ r11 = 104 → K 5 M) ∧ (r11 = 104 → (vp_in v1 8) ∧ ((M.1 184 (Int32.toNatClampNeg v1)) = 0 → K 0 M) ∧ (¬ (M.1 184 (Int32.toNatClampNeg v1)) = 0 → K 0 M))))) ∧ (¬ (M.1 190 (Int32.toNatClampNeg v2)) < 0 → (vp_in v2 9) ∧ (vp_in v1 8) ∧ ((M.1 190 (Int32.toNatClampNeg v2)) < (M.1 177 (Int32.toNatClampNeg v1)) → (r11 = 97 → (vp_in v1 8) ∧ ((M.1 184 (Int32.toNatClampNeg v1)) = 0 → K 0 M) ∧ (¬ (M.1 184 (Int32.toNatClampNeg v1)) = 0 → K 5 M)) ∧ (¬ r11 = 97 → (vp_in v2 9) ∧ (vp_in v1 8) ∧ ((M.1 177 (Int32.toNatClampNeg v1)) ≤ (M.1 189 (Int32.toNatClampNeg v2)) → (vp_in v1 8) ∧ ((M.1 184 (Int32.toNatClampNeg v1)) = 0 → K 0 M) ∧ (¬ (M.1 184 (Int32.toNatClampNeg v1)) = 0 → K 5 M)) ∧ (¬ (M.1 177 (Int32.toNatClampNeg v1)) ≤ (M.1 189 (Int32.toNatClampNeg v2)) → (¬ r11 = 104 → K 5 M) ∧ (r11 = 104 → K 5 M)))) ∧ (¬ (M.1 190 (Int32.toNatClampNeg v2)) < (M.1 177 (Int32.toNatClampNeg v1)) → (r11 = 97 → (vp_in v1 8) ∧ ((M.1 184 (Int32.toNatClampNeg v1)) = 0 → K 0 M) ∧ (¬ (M.1 184 (Int32.toNatClampNeg v1)) = 0 → K 0 M)) ∧ (¬ r11 = 97 → (vp_in v2 9) ∧ (vp_in v1 8) ∧ ((M.1 177 (Int32.toNatClampNeg v1)) ≤ (M.1 189 (Int32.toNatClampNeg v2)) → (vp_in v1 8) ∧ ((M.1 184 (Int32.toNatClampNeg v1)) = 0 → K 0 M) ∧ (¬ (M.1 184 (Int32.toNatClampNeg v1)) = 0 → K 0 M)) ∧ (¬ (M.1 177 (Int32.toNatClampNeg v1)) ≤ (M.1 189 (Int32.toNatClampNeg v2)) → (¬ r11 = 104 → K 5 M) ∧ (r11 = 104 → (vp_in v1 8) ∧ ((M.1 184 (Int32.toNatClampNeg v1)) = 0 → K 0 M) ∧ (¬ (M.1 184 (Int32.toNatClampNeg v1)) = 0 → K 0 M)))))))) ∧ (¬ 0 ≤ r8 → K 4 M))) ∧ (¬ (M.1 189 (Int32.toNatClampNeg v2)) ≤ v3 → K 3 M)) ∧ (((v4 >>> (v1 &&& 31)) &&& 1) = 1 → K 2 M)) ∧ (¬ (inF W (Int32.toNatClampNeg v1) v3) → K 1 M)) : B_X11_lackOf G K 0 [(0, .ref 175), (1, .int v1), (2, .int v2), (3, .int v3), (4, .int v4)] [] M := by
  refine BT.aload_n dX11_lackOf_0 rfl 0 rfl ?_
  refine BT.iload_n dX11_lackOf_1 rfl 1 rfl ?_
  refine BT.iload_n dX11_lackOf_2 rfl 3 rfl ?_
  refine BT.mcV [.int v1, .int v3] (t_X11_isInForce h.1 h.2.1 ?_) mb_X11_isInForce mv_X11_isInForce lk_X11_172 rfl (by decide) rfl (recvRep ho_175 rfl) (Nat.le_of_ble_eq_true rfl) dX11_lackOf_3
  show B_X11_lackOf G K 6 [(0, .ref 175), (1, .int v1), (2, .int v2), (3, .int v3), (4, .int v4)] [.int (bi (inF W (Int32.toNatClampNeg v1) v3))] M
  refine BT.if_ne (tgt := 11) dX11_lackOf_6 (by decide) (fun c => ?_) (fun c => ?_)
  · have c2 := bi_ne0.mp c
    refine BT.iload dX11_lackOf_11 4 rfl ?_
    refine BT.iload_n dX11_lackOf_13 rfl 1 rfl ?_
    refine BT.ishr dX11_lackOf_14 ?_
    refine BT.iconst (v := 1) dX11_lackOf_15 (by decide) ?_
    refine BT.iand dX11_lackOf_16 ?_
    refine BT.iconst (v := 1) dX11_lackOf_17 (by decide) ?_
    refine BT.icmp_ne (tgt := 23) dX11_lackOf_18 (by decide) (fun c => ?_) (fun c => ?_)
    · have c4 := c
      refine BT.aload_n dX11_lackOf_23 rfl 0 rfl ?_
      refine BT.getR (r := 189) fl_X11_53 ho_175 rfl dX11_lackOf_24 ?_
      refine BT.iload_n dX11_lackOf_27 rfl 2 rfl ?_
      refine BT.iald ha_189 ((h.2.2.1 c2).1 c4).1 dX11_lackOf_28 ?_
      refine BT.iload_n dX11_lackOf_29 rfl 3 rfl ?_
      refine BT.icmp_le (tgt := 35) dX11_lackOf_30 (by decide) (fun c => ?_) (fun c => ?_)
      · have c6 := c
        refine BT.aload_n dX11_lackOf_35 rfl 0 rfl ?_
        refine BT.iload_n dX11_lackOf_36 rfl 1 rfl ?_
        refine BT.iload_n dX11_lackOf_37 rfl 2 rfl ?_
        refine BT.mcVr [.int v1, .int v2] (t_X11_fitting (((h.2.2.1 c2).1 c4).2.1 c6).1 (((h.2.2.1 c2).1 c4).2.1 c6).2.1 (((h.2.2.1 c2).1 c4).2.1 c6).2.2.1 ⟨rfl, rfl⟩) mb_X11_fitting mv_X11_fitting lk_X11_210 rfl (by decide) rfl (recvRep ho_175 rfl) (Nat.le_of_ble_eq_true rfl) dX11_lackOf_38 (fun r8 e8 => ?_)
        show B_X11_lackOf G K 41 [(0, .ref 175), (1, .int v1), (2, .int v2), (3, .int v3), (4, .int v4)] [.int r8] M
        refine BT.if_ge (tgt := 46) dX11_lackOf_41 (by decide) (fun c => ?_) (fun c => ?_)
        · have c9 := c
          refine BT.aload_n dX11_lackOf_46 rfl 0 rfl ?_
          refine BT.iload_n dX11_lackOf_47 rfl 1 rfl ?_
          refine BT.mcVr [.int v1] (t_X11_timeOf (((((h.2.2.1 c2).1 c4).2.1 c6).2.2.2 r8 e8).1 c9).1 ⟨rfl, rfl⟩) mb_X11_timeOf mv_X11_timeOf lk_X11_213 rfl (by decide) rfl (recvRep ho_175 rfl) (Nat.le_of_ble_eq_true rfl) dX11_lackOf_48 (fun r11 e11 => ?_)
          show B_X11_lackOf G K 51 [(0, .ref 175), (1, .int v1), (2, .int v2), (3, .int v3), (4, .int v4)] [.int r11] M
          refine BT.istore (L' := [(5, .int r11), (0, .ref 175), (1, .int v1), (2, .int v2), (3, .int v3), (4, .int v4)]) dX11_lackOf_51 (by decide) rfl ?_
          refine BT.aload_n dX11_lackOf_53 rfl 1 rfl ?_
          refine BT.getR (r := 190) fl_X11_56 ho_175 rfl dX11_lackOf_54 ?_
          refine BT.iload_n dX11_lackOf_57 rfl 3 rfl ?_
          refine BT.iald ha_190 ((((((h.2.2.1 c2).1 c4).2.1 c6).2.2.2 r8 e8).1 c9).2 r11 e11).1 dX11_lackOf_58 ?_
          refine BT.if_lt (tgt := 77) dX11_lackOf_59 (by decide) (fun c => ?_) (fun c => ?_)
          · have c12 := c
            refine BT.iconst (v := 1) dX11_lackOf_77 (by decide) ?_
            refine BT.goto (tgt := 82) dX11_lackOf_78 (by decide) ?_
            refine BT.istore (L' := [(6, .int 1), (5, .int r11), (0, .ref 175), (1, .int v1), (2, .int v2), (3, .int v3), (4, .int v4)]) dX11_lackOf_82 (by decide) rfl ?_
            refine BT.iload dX11_lackOf_84 1 rfl ?_
            refine BT.bipush (v := 97) dX11_lackOf_86 (by decide) ?_
            refine BT.icmp_eq (tgt := 118) dX11_lackOf_88 (by decide) (fun c => ?_) (fun c => ?_)
            · have c14 := c
              refine BT.iconst (v := 1) dX11_lackOf_118 (by decide) ?_
              refine BT.goto (tgt := 123) dX11_lackOf_119 (by decide) ?_
              refine BT.istore (L' := [(7, .int 1), (6, .int 1), (5, .int r11), (0, .ref 175), (1, .int v1), (2, .int v2), (3, .int v3), (4, .int v4)]) dX11_lackOf_123 (by decide) rfl ?_
              refine BT.iload dX11_lackOf_125 0 rfl ?_
              refine BT.if_eq (tgt := 148) dX11_lackOf_127 (by decide) (fun c => absurd c (by decide)) (fun _ => ?_)
              refine BT.aload_n dX11_lackOf_130 rfl 3 rfl ?_
              refine BT.getR (r := 184) fl_X11_34 ho_175 rfl dX11_lackOf_131 ?_
              refine BT.iload_n dX11_lackOf_134 rfl 4 rfl ?_
              refine BT.iald ha_184 ((((((((h.2.2.1 c2).1 c4).2.1 c6).2.2.2 r8 e8).1 c9).2 r11 e11).2.1 c12).1 c14).1 dX11_lackOf_135 ?_
              refine BT.if_eq (tgt := 144) dX11_lackOf_136 (by decide) (fun c => ?_) (fun c => ?_)
              · have c16 := c
                refine BT.iconst (v := 0) dX11_lackOf_144 (by decide) ?_
                refine BT.goto (tgt := 149) dX11_lackOf_145 (by decide) ?_
                exact BT.iret dX11_lackOf_149 rfl (by decide) (by decide) (((((((((h.2.2.1 c2).1 c4).2.1 c6).2.2.2 r8 e8).1 c9).2 r11 e11).2.1 c12).1 c14).2.1 c16)
              · have c17 := c
                refine BT.iload dX11_lackOf_139 1 rfl ?_
                refine BT.if_eq (tgt := 148) dX11_lackOf_141 (by decide) (fun c => absurd c (by decide)) (fun _ => ?_)
                refine BT.iconst (v := 0) dX11_lackOf_144 (by decide) ?_
                refine BT.goto (tgt := 149) dX11_lackOf_145 (by decide) ?_
                exact BT.iret dX11_lackOf_149 rfl (by decide) (by decide) (((((((((h.2.2.1 c2).1 c4).2.1 c6).2.2.2 r8 e8).1 c9).2 r11 e11).2.1 c12).1 c14).2.2 c17)
            · have c15 := c
              refine BT.aload_n dX11_lackOf_91 rfl 2 rfl ?_
              refine BT.getR (r := 189) fl_X11_53 ho_175 rfl dX11_lackOf_92 ?_
              refine BT.iload_n dX11_lackOf_95 rfl 4 rfl ?_
              refine BT.iald ha_189 ((((((((h.2.2.1 c2).1 c4).2.1 c6).2.2.2 r8 e8).1 c9).2 r11 e11).2.1 c12).2 c15).1 dX11_lackOf_96 ?_
              refine BT.aload_n dX11_lackOf_97 rfl 2 rfl ?_
              refine BT.getR (r := 177) fl_X11_13 ho_175 rfl dX11_lackOf_98 ?_
              refine BT.iload_n dX11_lackOf_101 rfl 3 rfl ?_
              refine BT.iald ha_177 ((((((((h.2.2.1 c2).1 c4).2.1 c6).2.2.2 r8 e8).1 c9).2 r11 e11).2.1 c12).2 c15).2.1 dX11_lackOf_102 ?_
              refine BT.icmp_ge (tgt := 118) dX11_lackOf_103 (by decide) (fun c => ?_) (fun c => ?_)
              · have c18 := c
                refine BT.iconst (v := 1) dX11_lackOf_118 (by decide) ?_
                refine BT.goto (tgt := 123) dX11_lackOf_119 (by decide) ?_
                refine BT.istore (L' := [(7, .int 1), (6, .int 1), (5, .int r11), (0, .ref 175), (1, .int v1), (2, .int v2), (3, .int v3), (4, .int v4)]) dX11_lackOf_123 (by decide) rfl ?_
                refine BT.iload dX11_lackOf_125 0 rfl ?_
                refine BT.if_eq (tgt := 148) dX11_lackOf_127 (by decide) (fun c => absurd c (by decide)) (fun _ => ?_)
                refine BT.aload_n dX11_lackOf_130 rfl 3 rfl ?_
                refine BT.getR (r := 184) fl_X11_34 ho_175 rfl dX11_lackOf_131 ?_
                refine BT.iload_n dX11_lackOf_134 rfl 4 rfl ?_
                refine BT.iald ha_184 (((((((((h.2.2.1 c2).1 c4).2.1 c6).2.2.2 r8 e8).1 c9).2 r11 e11).2.1 c12).2 c15).2.2.1 c18).1 dX11_lackOf_135 ?_
                refine BT.if_eq (tgt := 144) dX11_lackOf_136 (by decide) (fun c => ?_) (fun c => ?_)
                · have c20 := c
                  refine BT.iconst (v := 0) dX11_lackOf_144 (by decide) ?_
                  refine BT.goto (tgt := 149) dX11_lackOf_145 (by decide) ?_
                  exact BT.iret dX11_lackOf_149 rfl (by decide) (by decide) ((((((((((h.2.2.1 c2).1 c4).2.1 c6).2.2.2 r8 e8).1 c9).2 r11 e11).2.1 c12).2 c15).2.2.1 c18).2.1 c20)
                · have c21 := c
                  refine BT.iload dX11_lackOf_139 1 rfl ?_
                  refine BT.if_eq (tgt := 148) dX11_lackOf_141 (by decide) (fun c => absurd c (by decide)) (fun _ => ?_)
                  refine BT.iconst (v := 0) dX11_lackOf_144 (by decide) ?_
                  refine BT.goto (tgt := 149) dX11_lackOf_145 (by decide) ?_
                  exact BT.iret dX11_lackOf_149 rfl (by decide) (by decide) ((((((((((h.2.2.1 c2).1 c4).2.1 c6).2.2.2 r8 e8).1 c9).2 r11 e11).2.1 c12).2 c15).2.2.1 c18).2.2 c21)
              · have c19 := c
                refine BT.iload dX11_lackOf_106 1 rfl ?_
                refine BT.bipush (v := 104) dX11_lackOf_108 (by decide) ?_
                refine BT.icmp_ne (tgt := 122) dX11_lackOf_110 (by decide) (fun c => ?_) (fun c => ?_)
                · have c22 := c
                  refine BT.iconst (v := 0) dX11_lackOf_122 (by decide) ?_
                  refine BT.istore (L' := [(7, .int 0), (6, .int 1), (5, .int r11), (0, .ref 175), (1, .int v1), (2, .int v2), (3, .int v3), (4, .int v4)]) dX11_lackOf_123 (by decide) rfl ?_
                  refine BT.iload dX11_lackOf_125 0 rfl ?_
                  refine BT.if_eq (tgt := 148) dX11_lackOf_127 (by decide) (fun _ => ?_) (fun c => absurd c (by decide))
                  refine BT.iconst (v := 5) dX11_lackOf_148 (by decide) ?_
                  exact BT.iret dX11_lackOf_149 rfl (by decide) (by decide) ((((((((((h.2.2.1 c2).1 c4).2.1 c6).2.2.2 r8 e8).1 c9).2 r11 e11).2.1 c12).2 c15).2.2.2 c19).1 c22)
                · have c23 := c
                  refine BT.iload dX11_lackOf_113 0 rfl ?_
                  refine BT.if_eq (tgt := 122) dX11_lackOf_115 (by decide) (fun c => absurd c (by decide)) (fun _ => ?_)
                  refine BT.iconst (v := 1) dX11_lackOf_118 (by decide) ?_
                  refine BT.goto (tgt := 123) dX11_lackOf_119 (by decide) ?_
                  refine BT.istore (L' := [(7, .int 1), (6, .int 1), (5, .int r11), (0, .ref 175), (1, .int v1), (2, .int v2), (3, .int v3), (4, .int v4)]) dX11_lackOf_123 (by decide) rfl ?_
                  refine BT.iload dX11_lackOf_125 0 rfl ?_
                  refine BT.if_eq (tgt := 148) dX11_lackOf_127 (by decide) (fun c => absurd c (by decide)) (fun _ => ?_)
                  refine BT.aload_n dX11_lackOf_130 rfl 3 rfl ?_
                  refine BT.getR (r := 184) fl_X11_34 ho_175 rfl dX11_lackOf_131 ?_
                  refine BT.iload_n dX11_lackOf_134 rfl 4 rfl ?_
                  refine BT.iald ha_184 ((((((((((h.2.2.1 c2).1 c4).2.1 c6).2.2.2 r8 e8).1 c9).2 r11 e11).2.1 c12).2 c15).2.2.2 c19).2 c23).1 dX11_lackOf_135 ?_
                  refine BT.if_eq (tgt := 144) dX11_lackOf_136 (by decide) (fun c => ?_) (fun c => ?_)
                  · have c24 := c
                    refine BT.iconst (v := 0) dX11_lackOf_144 (by decide) ?_
                    refine BT.goto (tgt := 149) dX11_lackOf_145 (by decide) ?_
                    exact BT.iret dX11_lackOf_149 rfl (by decide) (by decide) (((((((((((h.2.2.1 c2).1 c4).2.1 c6).2.2.2 r8 e8).1 c9).2 r11 e11).2.1 c12).2 c15).2.2.2 c19).2 c23).2.1 c24)
                  · have c25 := c
                    refine BT.iload dX11_lackOf_139 1 rfl ?_
                    refine BT.if_eq (tgt := 148) dX11_lackOf_141 (by decide) (fun c => absurd c (by decide)) (fun _ => ?_)
                    refine BT.iconst (v := 0) dX11_lackOf_144 (by decide) ?_
                    refine BT.goto (tgt := 149) dX11_lackOf_145 (by decide) ?_
                    exact BT.iret dX11_lackOf_149 rfl (by decide) (by decide) (((((((((((h.2.2.1 c2).1 c4).2.1 c6).2.2.2 r8 e8).1 c9).2 r11 e11).2.1 c12).2 c15).2.2.2 c19).2 c23).2.2 c25)
          · have c13 := c
            refine BT.aload_n dX11_lackOf_62 rfl 1 rfl ?_
            refine BT.getR (r := 190) fl_X11_56 ho_175 rfl dX11_lackOf_63 ?_
            refine BT.iload_n dX11_lackOf_66 rfl 3 rfl ?_
            refine BT.iald ha_190 (((((((h.2.2.1 c2).1 c4).2.1 c6).2.2.2 r8 e8).1 c9).2 r11 e11).2.2 c13).1 dX11_lackOf_67 ?_
            refine BT.aload_n dX11_lackOf_68 rfl 1 rfl ?_
            refine BT.getR (r := 177) fl_X11_13 ho_175 rfl dX11_lackOf_69 ?_
            refine BT.iload_n dX11_lackOf_72 rfl 2 rfl ?_
            refine BT.iald ha_177 (((((((h.2.2.1 c2).1 c4).2.1 c6).2.2.2 r8 e8).1 c9).2 r11 e11).2.2 c13).2.1 dX11_lackOf_73 ?_
            refine BT.icmp_lt (tgt := 81) dX11_lackOf_74 (by decide) (fun c => ?_) (fun c => ?_)
            · have c26 := c
              refine BT.iconst (v := 0) dX11_lackOf_81 (by decide) ?_
              refine BT.istore (L' := [(6, .int 0), (5, .int r11), (0, .ref 175), (1, .int v1), (2, .int v2), (3, .int v3), (4, .int v4)]) dX11_lackOf_82 (by decide) rfl ?_
              refine BT.iload dX11_lackOf_84 1 rfl ?_
              refine BT.bipush (v := 97) dX11_lackOf_86 (by decide) ?_
              refine BT.icmp_eq (tgt := 118) dX11_lackOf_88 (by decide) (fun c => ?_) (fun c => ?_)
              · have c28 := c
                refine BT.iconst (v := 1) dX11_lackOf_118 (by decide) ?_
                refine BT.goto (tgt := 123) dX11_lackOf_119 (by decide) ?_
                refine BT.istore (L' := [(7, .int 1), (6, .int 0), (5, .int r11), (0, .ref 175), (1, .int v1), (2, .int v2), (3, .int v3), (4, .int v4)]) dX11_lackOf_123 (by decide) rfl ?_
                refine BT.iload dX11_lackOf_125 0 rfl ?_
                refine BT.if_eq (tgt := 148) dX11_lackOf_127 (by decide) (fun c => absurd c (by decide)) (fun _ => ?_)
                refine BT.aload_n dX11_lackOf_130 rfl 3 rfl ?_
                refine BT.getR (r := 184) fl_X11_34 ho_175 rfl dX11_lackOf_131 ?_
                refine BT.iload_n dX11_lackOf_134 rfl 4 rfl ?_
                refine BT.iald ha_184 (((((((((h.2.2.1 c2).1 c4).2.1 c6).2.2.2 r8 e8).1 c9).2 r11 e11).2.2 c13).2.2.1 c26).1 c28).1 dX11_lackOf_135 ?_
                refine BT.if_eq (tgt := 144) dX11_lackOf_136 (by decide) (fun c => ?_) (fun c => ?_)
                · have c30 := c
                  refine BT.iconst (v := 0) dX11_lackOf_144 (by decide) ?_
                  refine BT.goto (tgt := 149) dX11_lackOf_145 (by decide) ?_
                  exact BT.iret dX11_lackOf_149 rfl (by decide) (by decide) ((((((((((h.2.2.1 c2).1 c4).2.1 c6).2.2.2 r8 e8).1 c9).2 r11 e11).2.2 c13).2.2.1 c26).1 c28).2.1 c30)
                · have c31 := c
                  refine BT.iload dX11_lackOf_139 1 rfl ?_
                  refine BT.if_eq (tgt := 148) dX11_lackOf_141 (by decide) (fun _ => ?_) (fun c => absurd c (by decide))
                  refine BT.iconst (v := 5) dX11_lackOf_148 (by decide) ?_
                  exact BT.iret dX11_lackOf_149 rfl (by decide) (by decide) ((((((((((h.2.2.1 c2).1 c4).2.1 c6).2.2.2 r8 e8).1 c9).2 r11 e11).2.2 c13).2.2.1 c26).1 c28).2.2 c31)
              · have c29 := c
                refine BT.aload_n dX11_lackOf_91 rfl 2 rfl ?_
                refine BT.getR (r := 189) fl_X11_53 ho_175 rfl dX11_lackOf_92 ?_
                refine BT.iload_n dX11_lackOf_95 rfl 4 rfl ?_
                refine BT.iald ha_189 (((((((((h.2.2.1 c2).1 c4).2.1 c6).2.2.2 r8 e8).1 c9).2 r11 e11).2.2 c13).2.2.1 c26).2 c29).1 dX11_lackOf_96 ?_
                refine BT.aload_n dX11_lackOf_97 rfl 2 rfl ?_
                refine BT.getR (r := 177) fl_X11_13 ho_175 rfl dX11_lackOf_98 ?_
                refine BT.iload_n dX11_lackOf_101 rfl 3 rfl ?_
                refine BT.iald ha_177 (((((((((h.2.2.1 c2).1 c4).2.1 c6).2.2.2 r8 e8).1 c9).2 r11 e11).2.2 c13).2.2.1 c26).2 c29).2.1 dX11_lackOf_102 ?_
                refine BT.icmp_ge (tgt := 118) dX11_lackOf_103 (by decide) (fun c => ?_) (fun c => ?_)
                · have c32 := c
                  refine BT.iconst (v := 1) dX11_lackOf_118 (by decide) ?_
                  refine BT.goto (tgt := 123) dX11_lackOf_119 (by decide) ?_
                  refine BT.istore (L' := [(7, .int 1), (6, .int 0), (5, .int r11), (0, .ref 175), (1, .int v1), (2, .int v2), (3, .int v3), (4, .int v4)]) dX11_lackOf_123 (by decide) rfl ?_
                  refine BT.iload dX11_lackOf_125 0 rfl ?_
                  refine BT.if_eq (tgt := 148) dX11_lackOf_127 (by decide) (fun c => absurd c (by decide)) (fun _ => ?_)
                  refine BT.aload_n dX11_lackOf_130 rfl 3 rfl ?_
                  refine BT.getR (r := 184) fl_X11_34 ho_175 rfl dX11_lackOf_131 ?_
                  refine BT.iload_n dX11_lackOf_134 rfl 4 rfl ?_
                  refine BT.iald ha_184 ((((((((((h.2.2.1 c2).1 c4).2.1 c6).2.2.2 r8 e8).1 c9).2 r11 e11).2.2 c13).2.2.1 c26).2 c29).2.2.1 c32).1 dX11_lackOf_135 ?_
                  refine BT.if_eq (tgt := 144) dX11_lackOf_136 (by decide) (fun c => ?_) (fun c => ?_)
                  · have c34 := c
                    refine BT.iconst (v := 0) dX11_lackOf_144 (by decide) ?_
                    refine BT.goto (tgt := 149) dX11_lackOf_145 (by decide) ?_
                    exact BT.iret dX11_lackOf_149 rfl (by decide) (by decide) (((((((((((h.2.2.1 c2).1 c4).2.1 c6).2.2.2 r8 e8).1 c9).2 r11 e11).2.2 c13).2.2.1 c26).2 c29).2.2.1 c32).2.1 c34)
                  · have c35 := c
                    refine BT.iload dX11_lackOf_139 1 rfl ?_
                    refine BT.if_eq (tgt := 148) dX11_lackOf_141 (by decide) (fun _ => ?_) (fun c => absurd c (by decide))
                    refine BT.iconst (v := 5) dX11_lackOf_148 (by decide) ?_
                    exact BT.iret dX11_lackOf_149 rfl (by decide) (by decide) (((((((((((h.2.2.1 c2).1 c4).2.1 c6).2.2.2 r8 e8).1 c9).2 r11 e11).2.2 c13).2.2.1 c26).2 c29).2.2.1 c32).2.2 c35)
                · have c33 := c
                  refine BT.iload dX11_lackOf_106 1 rfl ?_
                  refine BT.bipush (v := 104) dX11_lackOf_108 (by decide) ?_
                  refine BT.icmp_ne (tgt := 122) dX11_lackOf_110 (by decide) (fun c => ?_) (fun c => ?_)
                  · have c36 := c
                    refine BT.iconst (v := 0) dX11_lackOf_122 (by decide) ?_
                    refine BT.istore (L' := [(7, .int 0), (6, .int 0), (5, .int r11), (0, .ref 175), (1, .int v1), (2, .int v2), (3, .int v3), (4, .int v4)]) dX11_lackOf_123 (by decide) rfl ?_
                    refine BT.iload dX11_lackOf_125 0 rfl ?_
                    refine BT.if_eq (tgt := 148) dX11_lackOf_127 (by decide) (fun _ => ?_) (fun c => absurd c (by decide))
                    refine BT.iconst (v := 5) dX11_lackOf_148 (by decide) ?_
                    exact BT.iret dX11_lackOf_149 rfl (by decide) (by decide) (((((((((((h.2.2.1 c2).1 c4).2.1 c6).2.2.2 r8 e8).1 c9).2 r11 e11).2.2 c13).2.2.1 c26).2 c29).2.2.2 c33).1 c36)
                  · have c37 := c
                    refine BT.iload dX11_lackOf_113 0 rfl ?_
                    refine BT.if_eq (tgt := 122) dX11_lackOf_115 (by decide) (fun _ => ?_) (fun c => absurd c (by decide))
                    refine BT.iconst (v := 0) dX11_lackOf_122 (by decide) ?_
                    refine BT.istore (L' := [(7, .int 0), (6, .int 0), (5, .int r11), (0, .ref 175), (1, .int v1), (2, .int v2), (3, .int v3), (4, .int v4)]) dX11_lackOf_123 (by decide) rfl ?_
                    refine BT.iload dX11_lackOf_125 0 rfl ?_
                    refine BT.if_eq (tgt := 148) dX11_lackOf_127 (by decide) (fun _ => ?_) (fun c => absurd c (by decide))
                    refine BT.iconst (v := 5) dX11_lackOf_148 (by decide) ?_
                    exact BT.iret dX11_lackOf_149 rfl (by decide) (by decide) (((((((((((h.2.2.1 c2).1 c4).2.1 c6).2.2.2 r8 e8).1 c9).2 r11 e11).2.2 c13).2.2.1 c26).2 c29).2.2.2 c33).2 c37)
            · have c27 := c
              refine BT.iconst (v := 1) dX11_lackOf_77 (by decide) ?_
              refine BT.goto (tgt := 82) dX11_lackOf_78 (by decide) ?_
              refine BT.istore (L' := [(6, .int 1), (5, .int r11), (0, .ref 175), (1, .int v1), (2, .int v2), (3, .int v3), (4, .int v4)]) dX11_lackOf_82 (by decide) rfl ?_
              refine BT.iload dX11_lackOf_84 1 rfl ?_
              refine BT.bipush (v := 97) dX11_lackOf_86 (by decide) ?_
              refine BT.icmp_eq (tgt := 118) dX11_lackOf_88 (by decide) (fun c => ?_) (fun c => ?_)
              · have c38 := c
                refine BT.iconst (v := 1) dX11_lackOf_118 (by decide) ?_
                refine BT.goto (tgt := 123) dX11_lackOf_119 (by decide) ?_
                refine BT.istore (L' := [(7, .int 1), (6, .int 1), (5, .int r11), (0, .ref 175), (1, .int v1), (2, .int v2), (3, .int v3), (4, .int v4)]) dX11_lackOf_123 (by decide) rfl ?_
                refine BT.iload dX11_lackOf_125 0 rfl ?_
                refine BT.if_eq (tgt := 148) dX11_lackOf_127 (by decide) (fun c => absurd c (by decide)) (fun _ => ?_)
                refine BT.aload_n dX11_lackOf_130 rfl 3 rfl ?_
                refine BT.getR (r := 184) fl_X11_34 ho_175 rfl dX11_lackOf_131 ?_
                refine BT.iload_n dX11_lackOf_134 rfl 4 rfl ?_
                refine BT.iald ha_184 (((((((((h.2.2.1 c2).1 c4).2.1 c6).2.2.2 r8 e8).1 c9).2 r11 e11).2.2 c13).2.2.2 c27).1 c38).1 dX11_lackOf_135 ?_
                refine BT.if_eq (tgt := 144) dX11_lackOf_136 (by decide) (fun c => ?_) (fun c => ?_)
                · have c40 := c
                  refine BT.iconst (v := 0) dX11_lackOf_144 (by decide) ?_
                  refine BT.goto (tgt := 149) dX11_lackOf_145 (by decide) ?_
                  exact BT.iret dX11_lackOf_149 rfl (by decide) (by decide) ((((((((((h.2.2.1 c2).1 c4).2.1 c6).2.2.2 r8 e8).1 c9).2 r11 e11).2.2 c13).2.2.2 c27).1 c38).2.1 c40)
                · have c41 := c
                  refine BT.iload dX11_lackOf_139 1 rfl ?_
                  refine BT.if_eq (tgt := 148) dX11_lackOf_141 (by decide) (fun c => absurd c (by decide)) (fun _ => ?_)
                  refine BT.iconst (v := 0) dX11_lackOf_144 (by decide) ?_
                  refine BT.goto (tgt := 149) dX11_lackOf_145 (by decide) ?_
                  exact BT.iret dX11_lackOf_149 rfl (by decide) (by decide) ((((((((((h.2.2.1 c2).1 c4).2.1 c6).2.2.2 r8 e8).1 c9).2 r11 e11).2.2 c13).2.2.2 c27).1 c38).2.2 c41)
              · have c39 := c
                refine BT.aload_n dX11_lackOf_91 rfl 2 rfl ?_
                refine BT.getR (r := 189) fl_X11_53 ho_175 rfl dX11_lackOf_92 ?_
                refine BT.iload_n dX11_lackOf_95 rfl 4 rfl ?_
                refine BT.iald ha_189 (((((((((h.2.2.1 c2).1 c4).2.1 c6).2.2.2 r8 e8).1 c9).2 r11 e11).2.2 c13).2.2.2 c27).2 c39).1 dX11_lackOf_96 ?_
                refine BT.aload_n dX11_lackOf_97 rfl 2 rfl ?_
                refine BT.getR (r := 177) fl_X11_13 ho_175 rfl dX11_lackOf_98 ?_
                refine BT.iload_n dX11_lackOf_101 rfl 3 rfl ?_
                refine BT.iald ha_177 (((((((((h.2.2.1 c2).1 c4).2.1 c6).2.2.2 r8 e8).1 c9).2 r11 e11).2.2 c13).2.2.2 c27).2 c39).2.1 dX11_lackOf_102 ?_
                refine BT.icmp_ge (tgt := 118) dX11_lackOf_103 (by decide) (fun c => ?_) (fun c => ?_)
                · have c42 := c
                  refine BT.iconst (v := 1) dX11_lackOf_118 (by decide) ?_
                  refine BT.goto (tgt := 123) dX11_lackOf_119 (by decide) ?_
                  refine BT.istore (L' := [(7, .int 1), (6, .int 1), (5, .int r11), (0, .ref 175), (1, .int v1), (2, .int v2), (3, .int v3), (4, .int v4)]) dX11_lackOf_123 (by decide) rfl ?_
                  refine BT.iload dX11_lackOf_125 0 rfl ?_
                  refine BT.if_eq (tgt := 148) dX11_lackOf_127 (by decide) (fun c => absurd c (by decide)) (fun _ => ?_)
                  refine BT.aload_n dX11_lackOf_130 rfl 3 rfl ?_
                  refine BT.getR (r := 184) fl_X11_34 ho_175 rfl dX11_lackOf_131 ?_
                  refine BT.iload_n dX11_lackOf_134 rfl 4 rfl ?_
                  refine BT.iald ha_184 ((((((((((h.2.2.1 c2).1 c4).2.1 c6).2.2.2 r8 e8).1 c9).2 r11 e11).2.2 c13).2.2.2 c27).2 c39).2.2.1 c42).1 dX11_lackOf_135 ?_
                  refine BT.if_eq (tgt := 144) dX11_lackOf_136 (by decide) (fun c => ?_) (fun c => ?_)
                  · have c44 := c
                    refine BT.iconst (v := 0) dX11_lackOf_144 (by decide) ?_
                    refine BT.goto (tgt := 149) dX11_lackOf_145 (by decide) ?_
                    exact BT.iret dX11_lackOf_149 rfl (by decide) (by decide) (((((((((((h.2.2.1 c2).1 c4).2.1 c6).2.2.2 r8 e8).1 c9).2 r11 e11).2.2 c13).2.2.2 c27).2 c39).2.2.1 c42).2.1 c44)
                  · have c45 := c
                    refine BT.iload dX11_lackOf_139 1 rfl ?_
                    refine BT.if_eq (tgt := 148) dX11_lackOf_141 (by decide) (fun c => absurd c (by decide)) (fun _ => ?_)
                    refine BT.iconst (v := 0) dX11_lackOf_144 (by decide) ?_
                    refine BT.goto (tgt := 149) dX11_lackOf_145 (by decide) ?_
                    exact BT.iret dX11_lackOf_149 rfl (by decide) (by decide) (((((((((((h.2.2.1 c2).1 c4).2.1 c6).2.2.2 r8 e8).1 c9).2 r11 e11).2.2 c13).2.2.2 c27).2 c39).2.2.1 c42).2.2 c45)
                · have c43 := c
                  refine BT.iload dX11_lackOf_106 1 rfl ?_
                  refine BT.bipush (v := 104) dX11_lackOf_108 (by decide) ?_
                  refine BT.icmp_ne (tgt := 122) dX11_lackOf_110 (by decide) (fun c => ?_) (fun c => ?_)
                  · have c46 := c
                    refine BT.iconst (v := 0) dX11_lackOf_122 (by decide) ?_
                    refine BT.istore (L' := [(7, .int 0), (6, .int 1), (5, .int r11), (0, .ref 175), (1, .int v1), (2, .int v2), (3, .int v3), (4, .int v4)]) dX11_lackOf_123 (by decide) rfl ?_
                    refine BT.iload dX11_lackOf_125 0 rfl ?_
                    refine BT.if_eq (tgt := 148) dX11_lackOf_127 (by decide) (fun _ => ?_) (fun c => absurd c (by decide))
                    refine BT.iconst (v := 5) dX11_lackOf_148 (by decide) ?_
                    exact BT.iret dX11_lackOf_149 rfl (by decide) (by decide) (((((((((((h.2.2.1 c2).1 c4).2.1 c6).2.2.2 r8 e8).1 c9).2 r11 e11).2.2 c13).2.2.2 c27).2 c39).2.2.2 c43).1 c46)
                  · have c47 := c
                    refine BT.iload dX11_lackOf_113 0 rfl ?_
                    refine BT.if_eq (tgt := 122) dX11_lackOf_115 (by decide) (fun c => absurd c (by decide)) (fun _ => ?_)
                    refine BT.iconst (v := 1) dX11_lackOf_118 (by decide) ?_
                    refine BT.goto (tgt := 123) dX11_lackOf_119 (by decide) ?_
                    refine BT.istore (L' := [(7, .int 1), (6, .int 1), (5, .int r11), (0, .ref 175), (1, .int v1), (2, .int v2), (3, .int v3), (4, .int v4)]) dX11_lackOf_123 (by decide) rfl ?_
                    refine BT.iload dX11_lackOf_125 0 rfl ?_
                    refine BT.if_eq (tgt := 148) dX11_lackOf_127 (by decide) (fun c => absurd c (by decide)) (fun _ => ?_)
                    refine BT.aload_n dX11_lackOf_130 rfl 3 rfl ?_
                    refine BT.getR (r := 184) fl_X11_34 ho_175 rfl dX11_lackOf_131 ?_
                    refine BT.iload_n dX11_lackOf_134 rfl 4 rfl ?_
                    refine BT.iald ha_184 (((((((((((h.2.2.1 c2).1 c4).2.1 c6).2.2.2 r8 e8).1 c9).2 r11 e11).2.2 c13).2.2.2 c27).2 c39).2.2.2 c43).2 c47).1 dX11_lackOf_135 ?_
                    refine BT.if_eq (tgt := 144) dX11_lackOf_136 (by decide) (fun c => ?_) (fun c => ?_)
                    · have c48 := c
                      refine BT.iconst (v := 0) dX11_lackOf_144 (by decide) ?_
                      refine BT.goto (tgt := 149) dX11_lackOf_145 (by decide) ?_
                      exact BT.iret dX11_lackOf_149 rfl (by decide) (by decide) ((((((((((((h.2.2.1 c2).1 c4).2.1 c6).2.2.2 r8 e8).1 c9).2 r11 e11).2.2 c13).2.2.2 c27).2 c39).2.2.2 c43).2 c47).2.1 c48)
                    · have c49 := c
                      refine BT.iload dX11_lackOf_139 1 rfl ?_
                      refine BT.if_eq (tgt := 148) dX11_lackOf_141 (by decide) (fun c => absurd c (by decide)) (fun _ => ?_)
                      refine BT.iconst (v := 0) dX11_lackOf_144 (by decide) ?_
                      refine BT.goto (tgt := 149) dX11_lackOf_145 (by decide) ?_
                      exact BT.iret dX11_lackOf_149 rfl (by decide) (by decide) ((((((((((((h.2.2.1 c2).1 c4).2.1 c6).2.2.2 r8 e8).1 c9).2 r11 e11).2.2 c13).2.2.2 c27).2 c39).2.2.2 c43).2 c47).2.2 c49)
        · have c10 := c
          refine BT.iconst (v := 4) dX11_lackOf_44 (by decide) ?_
          exact BT.iret dX11_lackOf_45 rfl (by decide) (by decide) (((((h.2.2.1 c2).1 c4).2.1 c6).2.2.2 r8 e8).2 c10)
      · have c7 := c
        refine BT.iconst (v := 3) dX11_lackOf_33 (by decide) ?_
        exact BT.iret dX11_lackOf_34 rfl (by decide) (by decide) (((h.2.2.1 c2).1 c4).2.2 c7)
    · have c5 := c
      refine BT.iconst (v := 2) dX11_lackOf_21 (by decide) ?_
      exact BT.iret dX11_lackOf_22 rfl (by decide) (by decide) ((h.2.2.1 c2).2 c5)
  · have c3 := bi_eq0.mp c
    refine BT.iconst (v := 1) dX11_lackOf_9 (by decide) ?_
    exact BT.iret dX11_lackOf_10 rfl (by decide) (by decide) (h.2.2.2 c3)

theorem PR.at {W : WT} {M : Mem} {p : Int32} (h : PR W M p) : Int32.toNatClampNeg p < 9 ∧ p = nI (Int32.toNatClampNeg p) ∧ PW W (zp p) ∧ M.1 189 (Int32.toNatClampNeg p) = W (zp p) 0 ∧ M.1 190 (Int32.toNatClampNeg p) = W (zp p) 1 ∧ M.1 191 (Int32.toNatClampNeg p) = W (zp p) 2 ∧ M.1 192 (Int32.toNatClampNeg p) = W (zp p) 3 := by
  obtain ⟨j, hj, rfl, h⟩ := h
  unfold zp
  rw [ix_nI (by omega)]
  exact ⟨hj, rfl, h⟩
theorem c_gift_fit {W : WT} {M : Mem} (hR : RG W M) {v1 v2 : Int32} (hl : (0 : Int32) ≤ v1 ∧ v1 < W 8 1) (hP : PR W M v2) : (z_fit W v1 v2 = -6 ∧ c_gift W (plw v1) (W (zp v2) 3) = -6) ∨ (∃ j g, g < 108 ∧ j < 6 ∧ z_fit W v1 v2 = nI j ∧ c_gift W (plw v1) (W (zp v2) 3) = nI g ∧ M.1 181 (6 * Int32.toNatClampNeg v1 + j) = nI g) := by
  obtain ⟨i1, i2, i3⟩ := hR.1.ix hl
  obtain ⟨r1, r2, r3, r4, r5, r6, r7⟩ := hR.2.2.2.2.2 _ i1
  obtain ⟨-, -, ⟨k, ⟨hk1, hk6⟩, ek, hk⟩, hfw⟩ := hR.1.2.2.2 _ i1
  obtain ⟨m, hm, em⟩ := hP.marks
  have hz : z_fit W v1 v2 = w_fit W (plw v1) (nI m) := by unfold z_fit; rw [em]
  unfold c_gift
  rw [em, if_pos (m32 hm), ix_nI (by omega), (hfw m hm).1, hz]
  rcases w_ff_in W (plw v1) (nI m) (Int32.toNatClampNeg (W (plw v1) 2)) 0 with q | ⟨j, hj, q⟩
  · have q : w_fit W (plw v1) (nI m) = -6 := q
    exact Or.inl ⟨q, by rw [sel_t q]⟩
  · rw [Nat.zero_add] at hj
    have q : w_fit W (plw v1) (nI m) = nI j := q
    have ek' : W (plw v1) 2 = nI k := ek
    rw [ek', ix_nI (by omega)] at hj
    have r7' := (r7 j (by rw [ek, ix_nI (by omega)]; exact hj)).2
    obtain ⟨-, g, hg, eg⟩ := hk j hj
    refine Or.inr ⟨j, g, hg, by omega, q, ?_, by rw [r7', eg]⟩
    rw [q, sel_f (nI_n6 (by omega)), ix_nI (by omega), eg]
theorem DayO.neg {x : Int32} (h : DayO x) : x < 0 ↔ x = -6 := by
  rcases h with rfl | ⟨d, hd, rfl⟩
  · decide
  · exact ⟨fun q => absurd q (nI_ge0 (by omega)), fun q => absurd q (nI_n6 (by omega))⟩
theorem lack_core {VP VL E E2 S I T97 T104 K0 K5 : Prop} (vp : VP) (vl : VL) (n : T97 → ¬ T104) (h : ((¬ (¬ I ∧ ¬ (E ∨ ¬ E2)) ∧ (T97 ∨ S ∨ (T104 ∧ (E ∨ ¬ E2)))) → K0) ∧ (¬ (¬ (¬ I ∧ ¬ (E ∨ ¬ E2)) ∧ (T97 ∨ S ∨ (T104 ∧ (E ∨ ¬ E2)))) → K5)) :
    VP ∧ (E → (T97 → VL ∧ (I → K0) ∧ (¬ I → K0)) ∧ (¬ T97 → VP ∧ VL ∧ (S → VL ∧ (I → K0) ∧ (¬ I → K0)) ∧ (¬ S → (¬ T104 → K5) ∧ (T104 → VL ∧ (I → K0) ∧ (¬ I → K0))))) ∧ (¬ E → VP ∧ VL ∧ (E2 → (T97 → VL ∧ (I → K0) ∧ (¬ I → K5)) ∧ (¬ T97 → VP ∧ VL ∧ (S → VL ∧ (I → K0) ∧ (¬ I → K5)) ∧ (¬ S → (¬ T104 → K5) ∧ (T104 → K5)))) ∧ (¬ E2 → (T97 → VL ∧ (I → K0) ∧ (¬ I → K0)) ∧ (¬ T97 → VP ∧ VL ∧ (S → VL ∧ (I → K0) ∧ (¬ I → K0)) ∧ (¬ S → (¬ T104 → K5) ∧ (T104 → VL ∧ (I → K0) ∧ (¬ I → K0)))))) := by
  by_cases c1 : T97 <;> by_cases c2 : T104 <;> by_cases c3 : I <;> by_cases c4 : S <;> by_cases c5 : E2 <;> by_cases c6 : E <;> simp_all
theorem t_X11_lackOf {G : GT} {K : Int32 → Mem → Prop} {M : Mem} {W : WT} {v1 v2 v3 v4 : Int32} (hR : RG W M) (hl : (0 : Int32) ≤ v1 ∧ v1 < W 8 1) (hP : PR W M v2) (h : K (w_obst W (Int32.toNatClampNeg v1) (zp v2) v3 v4) M) : T_X11_lackOf G [.ref 175, .int v1, .int v2, .int v3, .int v4] M K := by
  obtain ⟨i1, i2, i3⟩ := hR.1.ix hl
  obtain ⟨r1, r2, r3, r4, r5, r6, r7⟩ := hR.2.2.2.2.2 _ i1
  obtain ⟨p0, p1, ⟨q1, q2, q3, q4⟩, e0, e1, e2, e3⟩ := hP.at
  have vp : vp_in v2 9 := by rw [p1]; exact vp_nI p0 (by decide)
  have vl := vp8 i2 i3
  have hli : ∃ l, l < 8 ∧ v1 = nI l := ⟨_, i2, i3⟩
  have hg := c_gift_fit hR hl hP
  refine e_X11_lackOf (k_X11_lackOf_0 (W := W) ?_)
  rw [r1, r4, r6, e0, e1]
  have hn := q2.neg
  unfold w_obst at h
  have hb : ((v4 >>> (v1 &&& 31)) &&& 1) = 1 ↔ ¬ ((v4 >>> (nI (Int32.toNatClampNeg v1) &&& 31)) &&& 1) = 0 := by
    rw [← i3]
    have hc := i3
    rw [i3, bit_is1 (by omega), bit_is0 (by omega), Classical.not_not]
  have hE2 : (W (10 + 5 * Int32.toNatClampNeg v1) 0 ≤ W (zp v2) 1) ↔ ¬ W (zp v2) 1 < W (10 + 5 * Int32.toNatClampNeg v1) 0 := Int32.not_lt.symm
  refine ⟨hR, hl, fun cA => ?_, fun cA => ?_⟩
  · rw [sel_f (fun q => q cA)] at h
    refine ⟨fun cB => ?_, fun cB => ?_⟩
    · rw [sel_f (fun q => cB (hb.mpr q))] at h
      refine ⟨vp, fun cC => ?_, fun cC => ?_⟩
      · rw [sel_f (Int32.not_lt.mpr cC)] at h
        refine ⟨hR, hl, hP, fun r8 e8 => ⟨fun cF => ⟨hli, fun r11 e11 => ?_⟩, fun cF => ?_⟩⟩
        · rcases hg with ⟨g1, g2⟩ | ⟨j, g, hg1, hg2, g1, g2, -⟩
          · rw [e8, g1] at cF; exact absurd cF (by decide)
          · rw [sel_f (by rw [g2]; exact nI_n6 (by omega))] at h
            subst e11
            unfold c_reach at h
            rw [hE2, ← hn] at h
            refine lack_core vp vl (fun q => by rw [q]; decide) ⟨fun q => ?_, fun q => ?_⟩
            · rwa [sel_t q] at h
            · rwa [sel_f q] at h
        · rcases hg with ⟨g1, g2⟩ | ⟨j, g, hg1, hg2, g1, g2, -⟩
          · rwa [sel_t g2] at h
          · rw [e8, g1] at cF; exact absurd (nI_pos' (by omega)) cF
      · rwa [sel_t (Int32.not_le.mp cC)] at h
    · rwa [sel_t (hb.mp cB)] at h
  · rwa [sel_t cA] at h

