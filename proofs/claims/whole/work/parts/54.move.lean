/-! ===== 54.move ===== -/
/-! BetweenLawsModel.move(III)I -/
abbrev rm_X11_move : Room := { frames := 2, cells := 0, slots := 0, locals := 46 }
abbrev B_X11_move (G : GT) (K : Int32 → Mem → Prop) := BT G (Rep G) RX11 "move" cX11_move 5 (some .int) rm_X11_move K 0 0
abbrev T_X11_move (G : GT) (as : List Value) (M : Mem) (K : Int32 → Mem → Prop) : Prop := MT G (Rep G) yX11_move cX11_move 5 (some .int) rm_X11_move as M K
theorem e_X11_move {G : GT} {K : Int32 → Mem → Prop} {M : Mem} {v1 : Int32} {v2 : Int32} {v3 : Int32} (h : B_X11_move G K 0 [(0, .ref 175), (1, .int v1), (2, .int v2), (3, .int v3)] [] M) : T_X11_move G [.ref 175, .int v1, .int v2, .int v3] M K := MT.of (by decide +kernel) rfl rfl (Nat.le_of_ble_eq_true rfl) rfl h
set_option maxRecDepth 4000 in
theorem k_X11_move_0 {G : GT} {K : Int32 → Mem → Prop} {M : Mem} {W : WT} {v1 : Int32} {v2 : Int32} {v3 : Int32} (h : (RG W M) ∧ (((0 : Int32) ≤ v1 ∧ v1 < W 8 1) → (¬ v2 = 0 → (¬ v2 = 1 → K (-2) M) ∧ (v2 = 1 → (vp_in v1 8) ∧ (¬ (((M.1 177 (Int32.toNatClampNeg v1)) + 1) ≤ v3 ∧ v3 ≤ (100 : Int32)) → K (-2) M) ∧ ((((M.1 177 (Int32.toNatClampNeg v1)) + 1) ≤ v3 ∧ v3 ≤ (100 : Int32)) → (vp_in v1 8) ∧ (vp_in v1 8) ∧ K (M.1 178 (Int32.toNatClampNeg v1)) (m_i M 178 (Int32.toNatClampNeg v1) v3)))) ∧ (v2 = 0 → (vp_in v1 8) ∧ (¬ ((0 : Int32) ≤ v3 ∧ v3 ≤ ((M.1 178 (Int32.toNatClampNeg v1)) - 1)) → (¬ v2 = 1 → K (-2) M) ∧ (v2 = 1 → (vp_in v1 8) ∧ (¬ (((M.1 177 (Int32.toNatClampNeg v1)) + 1) ≤ v3 ∧ v3 ≤ (100 : Int32)) → K (-2) M) ∧ ((((M.1 177 (Int32.toNatClampNeg v1)) + 1) ≤ v3 ∧ v3 ≤ (100 : Int32)) → (vp_in v1 8) ∧ (vp_in v1 8) ∧ K (M.1 178 (Int32.toNatClampNeg v1)) (m_i M 178 (Int32.toNatClampNeg v1) v3)))) ∧ (((0 : Int32) ≤ v3 ∧ v3 ≤ ((M.1 178 (Int32.toNatClampNeg v1)) - 1)) → (vp_in v1 8) ∧ (vp_in v1 8) ∧ K (M.1 177 (Int32.toNatClampNeg v1)) (m_i M 177 (Int32.toNatClampNeg v1) v3)))) ∧ (¬ ((0 : Int32) ≤ v1 ∧ v1 < W 8 1) → K (-1) M)) : B_X11_move G K 0 [(0, .ref 175), (1, .int v1), (2, .int v2), (3, .int v3)] [] M := by
  refine BT.aload_n dX11_move_0 rfl 0 rfl ?_
  refine BT.iload_n dX11_move_1 rfl 1 rfl ?_
  refine BT.mcV [.int v1] (t_X11_isLaw h.1 ?_) mb_X11_isLaw mv_X11_isLaw lk_X11_169 rfl (by decide) rfl (recvRep ho_175 rfl) (Nat.le_of_ble_eq_true rfl) dX11_move_2
  show B_X11_move G K 5 [(0, .ref 175), (1, .int v1), (2, .int v2), (3, .int v3)] [.int (bi ((0 : Int32) ≤ v1 ∧ v1 < W 8 1))] M
  refine BT.if_ne (tgt := 10) dX11_move_5 (by decide) (fun c => ?_) (fun c => ?_)
  · have c2 := bi_ne0.mp c
    refine BT.iload_n dX11_move_10 rfl 2 rfl ?_
    refine BT.if_ne (tgt := 50) dX11_move_11 (by decide) (fun c => ?_) (fun c => ?_)
    · have c4 := c
      refine BT.iload_n dX11_move_50 rfl 2 rfl ?_
      refine BT.iconst (v := 1) dX11_move_51 (by decide) ?_
      refine BT.icmp_ne (tgt := 93) dX11_move_52 (by decide) (fun c => ?_) (fun c => ?_)
      · have c6 := c
        refine BT.bipush (v := (-2)) dX11_move_93 (by decide) ?_
        exact BT.iret dX11_move_95 rfl (by decide) (by decide) (((h.2.1 c2).1 c4).1 c6)
      · have c7 := c
        refine BT.iload_n dX11_move_55 rfl 3 rfl ?_
        refine BT.i2l dX11_move_56 ?_
        refine BT.aload_n dX11_move_57 rfl 0 rfl ?_
        refine BT.getR (r := 177) fl_X11_13 ho_175 rfl dX11_move_58 ?_
        refine BT.iload_n dX11_move_61 rfl 1 rfl ?_
        refine BT.iald ha_177 (((h.2.1 c2).1 c4).2 c7).1 dX11_move_62 ?_
        refine BT.iconst (v := 1) dX11_move_63 (by decide) ?_
        refine BT.iadd dX11_move_64 ?_
        refine BT.i2l dX11_move_65 ?_
        refine BT.ldc2 dX11_move_66 kc_X11_159 ?_
        refine BT.mcS [.long (Int32.toInt64 v3), .long (Int32.toInt64 ((M.1 177 (Int32.toNatClampNeg v1)) + 1)), .long 100] (t_X11_in (x := v3) (y := ((M.1 177 (Int32.toNatClampNeg v1)) + 1)) (z := (100 : Int32)) rfl rfl (by decide) ?_) mb_X11_in ms_X11_in lk_X11_86 rfl (by decide) rfl (Nat.le_of_ble_eq_true rfl) dX11_move_69
        show B_X11_move G K 72 [(0, .ref 175), (1, .int v1), (2, .int v2), (3, .int v3)] [.int (bi (((M.1 177 (Int32.toNatClampNeg v1)) + 1) ≤ v3 ∧ v3 ≤ (100 : Int32)))] M
        refine BT.if_eq (tgt := 93) dX11_move_72 (by decide) (fun c => ?_) (fun c => ?_)
        · have c8 := bi_eq0.mp c
          refine BT.bipush (v := (-2)) dX11_move_93 (by decide) ?_
          exact BT.iret dX11_move_95 rfl (by decide) (by decide) ((((h.2.1 c2).1 c4).2 c7).2.1 c8)
        · have c9 := bi_ne0.mp c
          refine BT.aload_n dX11_move_75 rfl 0 rfl ?_
          refine BT.getR (r := 178) fl_X11_16 ho_175 rfl dX11_move_76 ?_
          refine BT.iload_n dX11_move_79 rfl 1 rfl ?_
          refine BT.iald ha_178 ((((h.2.1 c2).1 c4).2 c7).2.2 c9).1 dX11_move_80 ?_
          refine BT.istore (L' := [(4, .int (M.1 178 (Int32.toNatClampNeg v1))), (0, .ref 175), (1, .int v1), (2, .int v2), (3, .int v3)]) dX11_move_81 (by decide) rfl ?_
          refine BT.aload_n dX11_move_83 rfl 1 rfl ?_
          refine BT.getR (r := 178) fl_X11_16 ho_175 rfl dX11_move_84 ?_
          refine BT.iload_n dX11_move_87 rfl 2 rfl ?_
          refine BT.iload_n dX11_move_88 rfl 4 rfl ?_
          refine BT.iast ha_178 ((((h.2.1 c2).1 c4).2 c7).2.2 c9).2.1 dX11_move_89 ?_
          refine BT.iload dX11_move_90 0 rfl ?_
          exact BT.iret dX11_move_92 rfl (by decide) (by decide) ((((h.2.1 c2).1 c4).2 c7).2.2 c9).2.2
    · have c5 := c
      refine BT.iload_n dX11_move_14 rfl 3 rfl ?_
      refine BT.i2l dX11_move_15 ?_
      refine BT.lconst (v := 0) dX11_move_16 (by decide) ?_
      refine BT.aload_n dX11_move_17 rfl 0 rfl ?_
      refine BT.getR (r := 178) fl_X11_16 ho_175 rfl dX11_move_18 ?_
      refine BT.iload_n dX11_move_21 rfl 1 rfl ?_
      refine BT.iald ha_178 ((h.2.1 c2).2 c5).1 dX11_move_22 ?_
      refine BT.iconst (v := 1) dX11_move_23 (by decide) ?_
      refine BT.isub dX11_move_24 ?_
      refine BT.i2l dX11_move_25 ?_
      refine BT.mcS [.long (Int32.toInt64 v3), .long 0, .long (Int32.toInt64 ((M.1 178 (Int32.toNatClampNeg v1)) - 1))] (t_X11_in (x := v3) (y := (0 : Int32)) (z := ((M.1 178 (Int32.toNatClampNeg v1)) - 1)) rfl (by decide) rfl ?_) mb_X11_in ms_X11_in lk_X11_86 rfl (by decide) rfl (Nat.le_of_ble_eq_true rfl) dX11_move_26
      show B_X11_move G K 29 [(0, .ref 175), (1, .int v1), (2, .int v2), (3, .int v3)] [.int (bi ((0 : Int32) ≤ v3 ∧ v3 ≤ ((M.1 178 (Int32.toNatClampNeg v1)) - 1)))] M
      refine BT.if_eq (tgt := 50) dX11_move_29 (by decide) (fun c => ?_) (fun c => ?_)
      · have c10 := bi_eq0.mp c
        refine BT.iload_n dX11_move_50 rfl 2 rfl ?_
        refine BT.iconst (v := 1) dX11_move_51 (by decide) ?_
        refine BT.icmp_ne (tgt := 93) dX11_move_52 (by decide) (fun c => ?_) (fun c => ?_)
        · have c12 := c
          refine BT.bipush (v := (-2)) dX11_move_93 (by decide) ?_
          exact BT.iret dX11_move_95 rfl (by decide) (by decide) ((((h.2.1 c2).2 c5).2.1 c10).1 c12)
        · have c13 := c
          refine BT.iload_n dX11_move_55 rfl 3 rfl ?_
          refine BT.i2l dX11_move_56 ?_
          refine BT.aload_n dX11_move_57 rfl 0 rfl ?_
          refine BT.getR (r := 177) fl_X11_13 ho_175 rfl dX11_move_58 ?_
          refine BT.iload_n dX11_move_61 rfl 1 rfl ?_
          refine BT.iald ha_177 ((((h.2.1 c2).2 c5).2.1 c10).2 c13).1 dX11_move_62 ?_
          refine BT.iconst (v := 1) dX11_move_63 (by decide) ?_
          refine BT.iadd dX11_move_64 ?_
          refine BT.i2l dX11_move_65 ?_
          refine BT.ldc2 dX11_move_66 kc_X11_159 ?_
          refine BT.mcS [.long (Int32.toInt64 v3), .long (Int32.toInt64 ((M.1 177 (Int32.toNatClampNeg v1)) + 1)), .long 100] (t_X11_in (x := v3) (y := ((M.1 177 (Int32.toNatClampNeg v1)) + 1)) (z := (100 : Int32)) rfl rfl (by decide) ?_) mb_X11_in ms_X11_in lk_X11_86 rfl (by decide) rfl (Nat.le_of_ble_eq_true rfl) dX11_move_69
          show B_X11_move G K 72 [(0, .ref 175), (1, .int v1), (2, .int v2), (3, .int v3)] [.int (bi (((M.1 177 (Int32.toNatClampNeg v1)) + 1) ≤ v3 ∧ v3 ≤ (100 : Int32)))] M
          refine BT.if_eq (tgt := 93) dX11_move_72 (by decide) (fun c => ?_) (fun c => ?_)
          · have c14 := bi_eq0.mp c
            refine BT.bipush (v := (-2)) dX11_move_93 (by decide) ?_
            exact BT.iret dX11_move_95 rfl (by decide) (by decide) (((((h.2.1 c2).2 c5).2.1 c10).2 c13).2.1 c14)
          · have c15 := bi_ne0.mp c
            refine BT.aload_n dX11_move_75 rfl 0 rfl ?_
            refine BT.getR (r := 178) fl_X11_16 ho_175 rfl dX11_move_76 ?_
            refine BT.iload_n dX11_move_79 rfl 1 rfl ?_
            refine BT.iald ha_178 (((((h.2.1 c2).2 c5).2.1 c10).2 c13).2.2 c15).1 dX11_move_80 ?_
            refine BT.istore (L' := [(4, .int (M.1 178 (Int32.toNatClampNeg v1))), (0, .ref 175), (1, .int v1), (2, .int v2), (3, .int v3)]) dX11_move_81 (by decide) rfl ?_
            refine BT.aload_n dX11_move_83 rfl 1 rfl ?_
            refine BT.getR (r := 178) fl_X11_16 ho_175 rfl dX11_move_84 ?_
            refine BT.iload_n dX11_move_87 rfl 2 rfl ?_
            refine BT.iload_n dX11_move_88 rfl 4 rfl ?_
            refine BT.iast ha_178 (((((h.2.1 c2).2 c5).2.1 c10).2 c13).2.2 c15).2.1 dX11_move_89 ?_
            refine BT.iload dX11_move_90 0 rfl ?_
            exact BT.iret dX11_move_92 rfl (by decide) (by decide) (((((h.2.1 c2).2 c5).2.1 c10).2 c13).2.2 c15).2.2
      · have c11 := bi_ne0.mp c
        refine BT.aload_n dX11_move_32 rfl 0 rfl ?_
        refine BT.getR (r := 177) fl_X11_13 ho_175 rfl dX11_move_33 ?_
        refine BT.iload_n dX11_move_36 rfl 1 rfl ?_
        refine BT.iald ha_177 (((h.2.1 c2).2 c5).2.2 c11).1 dX11_move_37 ?_
        refine BT.istore (L' := [(4, .int (M.1 177 (Int32.toNatClampNeg v1))), (0, .ref 175), (1, .int v1), (2, .int v2), (3, .int v3)]) dX11_move_38 (by decide) rfl ?_
        refine BT.aload_n dX11_move_40 rfl 1 rfl ?_
        refine BT.getR (r := 177) fl_X11_13 ho_175 rfl dX11_move_41 ?_
        refine BT.iload_n dX11_move_44 rfl 2 rfl ?_
        refine BT.iload_n dX11_move_45 rfl 4 rfl ?_
        refine BT.iast ha_177 (((h.2.1 c2).2 c5).2.2 c11).2.1 dX11_move_46 ?_
        refine BT.iload dX11_move_47 0 rfl ?_
        exact BT.iret dX11_move_49 rfl (by decide) (by decide) (((h.2.1 c2).2 c5).2.2 c11).2.2
  · have c3 := bi_eq0.mp c
    refine BT.iconst (v := (-1)) dX11_move_8 (by decide) ?_
    exact BT.iret dX11_move_9 rfl (by decide) (by decide) (h.2.2 c3)

/-- what a move asks -/
def mvOk (W : WT) (c : Nat) (w d : Int32) : Prop := (w = 0 ∧ (0 : Int32) ≤ d ∧ d ≤ W c 1 - 1) ∨ (w = 1 ∧ W c 0 + 1 ≤ d ∧ d ≤ 100)
theorem t_X11_move {G : GT} {K : Int32 → Mem → Prop} {M : Mem} {W : WT} {v1 v2 v3 : Int32} (hR : RG W M) (h1 : ¬ ((0 : Int32) ≤ v1 ∧ v1 < W 8 1) → K (-1) M) (h2 : ((0 : Int32) ≤ v1 ∧ v1 < W 8 1) → ¬ mvOk W (plw v1) v2 v3 → K (-2) M) (hok : ((0 : Int32) ≤ v1 ∧ v1 < W 8 1) → mvOk W (plw v1) v2 v3 → K (W (plw v1) (Int32.toNatClampNeg v2)) (m_i M (177 + Int32.toNatClampNeg v2) (Int32.toNatClampNeg v1) v3)) : T_X11_move G [.ref 175, .int v1, .int v2, .int v3] M K := by
  refine e_X11_move (k_X11_move_0 (W := W) ⟨hR, fun c => ?_, fun c => h1 c⟩)
  obtain ⟨i1, i2, i3⟩ := hR.1.ix c
  obtain ⟨r1, r2, -⟩ := hR.2.2.2.2.2 _ i1
  have vl := vp8 i2 i3
  have h2 := h2 c
  have hok := hok c
  rw [r1, r2]
  have one : v2 = 1 → (¬ (W (plw v1) 0 + 1 ≤ v3 ∧ v3 ≤ 100) → K (-2) M) ∧ ((W (plw v1) 0 + 1 ≤ v3 ∧ v3 ≤ 100) → (vp_in v1 8) ∧ (vp_in v1 8) ∧ K (W (plw v1) 1) (m_i M 178 (Int32.toNatClampNeg v1) v3)) := by
    intro e
    subst e
    refine ⟨fun q => h2 ?_, fun q => ⟨vl, vl, hok (Or.inr ⟨rfl, q⟩)⟩⟩
    rintro (z | z)
    · exact absurd z.1 (by decide)
    · exact q z.2
  refine ⟨fun c3 => ⟨fun c4 => h2 ?_, fun c4 => ⟨vl, one c4⟩⟩, fun c3 => ⟨vl, fun c4 => ⟨fun _ => h2 ?_, fun z => ⟨vl, one z⟩⟩, fun c4 => ⟨vl, vl, ?_⟩⟩⟩
  · rintro (z | z)
    · exact c3 z.1
    · exact c4 z.1
  · rintro (z | z)
    · exact c4 z.2
    · rw [c3] at z; exact absurd z.1 (by decide)
  · subst c3
    exact hok (Or.inl ⟨rfl, c4⟩)

