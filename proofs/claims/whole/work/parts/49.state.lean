/-! ===== 49.state ===== -/
/-! BetweenLaws.set(II)I -/
abbrev rm_X10_set : Room := { frames := 1, cells := 0, slots := 0, locals := 22 }
abbrev B_X10_set (G : GT) (K : Int32 → Mem → Prop) := BT G (Rep G) RX10 "set" cX10_set 4 (some .int) rm_X10_set K 0 0
abbrev T_X10_set (G : GT) (as : List Value) (M : Mem) (K : Int32 → Mem → Prop) : Prop := MT G (Rep G) yX10_set cX10_set 4 (some .int) rm_X10_set as M K
theorem e_X10_set {G : GT} {K : Int32 → Mem → Prop} {M : Mem} {v1 : Int32} {v2 : Int32} (h : B_X10_set G K 0 [(0, .ref 0), (1, .int v1), (2, .int v2)] [] M) : T_X10_set G [.ref 0, .int v1, .int v2] M K := MT.of (by decide +kernel) rfl rfl (Nat.le_of_ble_eq_true rfl) rfl h
set_option maxRecDepth 4000 in
theorem k_X10_set_0 {G : GT} {K : Int32 → Mem → Prop} {M : Mem} {v1 : Int32} {v2 : Int32} (h : (¬ (0 ≤ v1 ∧ v1 ≤ 2) → K (-2) M) ∧ ((0 ≤ v1 ∧ v1 ≤ 2) → ((0 ≤ v2 ∧ v2 ≤ 1) → (¬ v1 = 0 → (¬ v1 = 1 → K (M.1 8 7) (m_i M 8 7 v2)) ∧ (v1 = 1 → K (M.1 8 6) (m_i M 8 6 v2))) ∧ (v1 = 0 → K (M.1 8 5) (m_i M 8 5 v2))) ∧ (¬ (0 ≤ v2 ∧ v2 ≤ 1) → K (-2) M))) : B_X10_set G K 0 [(0, .ref 0), (1, .int v1), (2, .int v2)] [] M := by
  refine BT.iload_n dX10_set_0 rfl 1 rfl ?_
  refine BT.iconst (v := 0) dX10_set_1 (by decide) ?_
  refine BT.iconst (v := 2) dX10_set_2 (by decide) ?_
  refine BT.mcS [.int v1, .int 0, .int 2] (t_X10_within  ?_) mb_X10_within ms_X10_within lk_X10_82 rfl (by decide) rfl (Nat.le_of_ble_eq_true rfl) dX10_set_3
  show B_X10_set G K 6 [(0, .ref 0), (1, .int v1), (2, .int v2)] [.int (bi (0 ≤ v1 ∧ v1 ≤ 2))] M
  refine BT.if_eq (tgt := 18) dX10_set_6 (by decide) (fun c => ?_) (fun c => ?_)
  · have c2 := bi_eq0.mp c
    refine BT.bipush (v := (-2)) dX10_set_18 (by decide) ?_
    exact BT.iret dX10_set_20 rfl (by decide) (by decide) (h.1 c2)
  · have c3 := bi_ne0.mp c
    refine BT.iload_n dX10_set_9 rfl 2 rfl ?_
    refine BT.iconst (v := 0) dX10_set_10 (by decide) ?_
    refine BT.iconst (v := 1) dX10_set_11 (by decide) ?_
    refine BT.mcS [.int v2, .int 0, .int 1] (t_X10_within  ?_) mb_X10_within ms_X10_within lk_X10_82 rfl (by decide) rfl (Nat.le_of_ble_eq_true rfl) dX10_set_12
    show B_X10_set G K 15 [(0, .ref 0), (1, .int v1), (2, .int v2)] [.int (bi (0 ≤ v2 ∧ v2 ≤ 1))] M
    refine BT.if_ne (tgt := 21) dX10_set_15 (by decide) (fun c => ?_) (fun c => ?_)
    · have c5 := bi_ne0.mp c
      refine BT.iload_n dX10_set_21 rfl 1 rfl ?_
      refine BT.if_ne (tgt := 44) dX10_set_22 (by decide) (fun c => ?_) (fun c => ?_)
      · have c7 := c
        refine BT.iload_n dX10_set_44 rfl 1 rfl ?_
        refine BT.iconst (v := 1) dX10_set_45 (by decide) ?_
        refine BT.icmp_ne (tgt := 68) dX10_set_46 (by decide) (fun c => ?_) (fun c => ?_)
        · have c9 := c
          refine BT.aload_n dX10_set_68 rfl 0 rfl ?_
          refine BT.getR (r := 8) fl_X10_26 ho_0 rfl dX10_set_69 ?_
          refine BT.getI fl_X10_216 ho_8 rfl dX10_set_72 ?_
          refine BT.istore_n (L' := [(3, .int (M.1 8 7)), (0, .ref 0), (1, .int v1), (2, .int v2)]) dX10_set_75 rfl (by decide) rfl ?_
          refine BT.aload_n dX10_set_76 rfl 1 rfl ?_
          refine BT.getR (r := 8) fl_X10_26 ho_0 rfl dX10_set_77 ?_
          refine BT.iload_n dX10_set_80 rfl 3 rfl ?_
          refine BT.putI fl_X10_216 ft_9_7 ho_8 rfl dX10_set_81 ?_
          refine BT.iload_n dX10_set_84 rfl 0 rfl ?_
          exact BT.iret dX10_set_85 rfl (by decide) (by decide) ((((h.2 c3).1 c5).1 c7).1 c9)
        · have c10 := c
          refine BT.aload_n dX10_set_49 rfl 0 rfl ?_
          refine BT.getR (r := 8) fl_X10_26 ho_0 rfl dX10_set_50 ?_
          refine BT.getI fl_X10_213 ho_8 rfl dX10_set_53 ?_
          refine BT.istore_n (L' := [(3, .int (M.1 8 6)), (0, .ref 0), (1, .int v1), (2, .int v2)]) dX10_set_56 rfl (by decide) rfl ?_
          refine BT.aload_n dX10_set_57 rfl 1 rfl ?_
          refine BT.getR (r := 8) fl_X10_26 ho_0 rfl dX10_set_58 ?_
          refine BT.iload_n dX10_set_61 rfl 3 rfl ?_
          refine BT.putI fl_X10_213 ft_9_6 ho_8 rfl dX10_set_62 ?_
          refine BT.goto (tgt := 84) dX10_set_65 (by decide) ?_
          refine BT.iload_n dX10_set_84 rfl 0 rfl ?_
          exact BT.iret dX10_set_85 rfl (by decide) (by decide) ((((h.2 c3).1 c5).1 c7).2 c10)
      · have c8 := c
        refine BT.aload_n dX10_set_25 rfl 0 rfl ?_
        refine BT.getR (r := 8) fl_X10_26 ho_0 rfl dX10_set_26 ?_
        refine BT.getI fl_X10_210 ho_8 rfl dX10_set_29 ?_
        refine BT.istore_n (L' := [(3, .int (M.1 8 5)), (0, .ref 0), (1, .int v1), (2, .int v2)]) dX10_set_32 rfl (by decide) rfl ?_
        refine BT.aload_n dX10_set_33 rfl 1 rfl ?_
        refine BT.getR (r := 8) fl_X10_26 ho_0 rfl dX10_set_34 ?_
        refine BT.iload_n dX10_set_37 rfl 3 rfl ?_
        refine BT.putI fl_X10_210 ft_9_5 ho_8 rfl dX10_set_38 ?_
        refine BT.goto (tgt := 84) dX10_set_41 (by decide) ?_
        refine BT.iload_n dX10_set_84 rfl 0 rfl ?_
        exact BT.iret dX10_set_85 rfl (by decide) (by decide) (((h.2 c3).1 c5).2 c8)
    · have c6 := bi_eq0.mp c
      refine BT.bipush (v := (-2)) dX10_set_18 (by decide) ?_
      exact BT.iret dX10_set_20 rfl (by decide) (by decide) ((h.2 c3).2 c6)

theorem three {v : Int32} (h : (0 : Int32) ≤ v ∧ v ≤ 2) (h0 : ¬ v = 0) (h1 : ¬ v = 1) : v = 2 := by
  obtain ⟨i, hi, ei⟩ := i_nat (x := v) (N := 3) (by decide) h.1 (Int32.lt_of_le_of_lt h.2 (by decide))
  match i, hi with
  | 0, _ => exact absurd ei h0
  | 1, _ => exact absurd ei h1
  | 2, _ => exact ei
theorem t_X10_set {G : GT} {K : Int32 → Mem → Prop} {M : Mem} {v1 v2 : Int32} (hbad : ¬ (((0 : Int32) ≤ v1 ∧ v1 ≤ 2) ∧ ((0 : Int32) ≤ v2 ∧ v2 ≤ 1)) → K (-2) M) (hok : (((0 : Int32) ≤ v1 ∧ v1 ≤ 2) ∧ ((0 : Int32) ≤ v2 ∧ v2 ≤ 1)) → K (M.1 8 (5 + Int32.toNatClampNeg v1)) (m_i M 8 (5 + Int32.toNatClampNeg v1) v2)) : T_X10_set G [.ref 0, .int v1, .int v2] M K := by
  refine e_X10_set (k_X10_set_0 ⟨fun c => hbad (fun q => c q.1), fun c => ⟨fun c2 => ⟨fun c3 => ⟨fun c4 => ?_, fun c4 => ?_⟩, fun c3 => ?_⟩, fun c2 => hbad (fun q => c2 q.2)⟩⟩)
  · have e := three c c3 c4
    subst e
    exact hok ⟨c, c2⟩
  · subst c4
    exact hok ⟨c, c2⟩
  · subst c3
    exact hok ⟨c, c2⟩

/-! BetweenLawsModel.set(II)I -/
abbrev rm_X11_set : Room := { frames := 1, cells := 0, slots := 0, locals := 25 }
abbrev B_X11_set (G : GT) (K : Int32 → Mem → Prop) := BT G (Rep G) RX11 "set" cX11_set 4 (some .int) rm_X11_set K 0 0
abbrev T_X11_set (G : GT) (as : List Value) (M : Mem) (K : Int32 → Mem → Prop) : Prop := MT G (Rep G) yX11_set cX11_set 4 (some .int) rm_X11_set as M K
theorem e_X11_set {G : GT} {K : Int32 → Mem → Prop} {M : Mem} {v1 : Int32} {v2 : Int32} (h : B_X11_set G K 0 [(0, .ref 175), (1, .int v1), (2, .int v2)] [] M) : T_X11_set G [.ref 175, .int v1, .int v2] M K := MT.of (by decide +kernel) rfl rfl (Nat.le_of_ble_eq_true rfl) rfl h
set_option maxRecDepth 4000 in
theorem k_X11_set_0 {G : GT} {K : Int32 → Mem → Prop} {M : Mem} {v1 : Int32} {v2 : Int32} (h : (¬ ((0 : Int32) ≤ v1 ∧ v1 ≤ (2 : Int32)) → K (-2) M) ∧ (((0 : Int32) ≤ v1 ∧ v1 ≤ (2 : Int32)) → (((0 : Int32) ≤ v2 ∧ v2 ≤ (1 : Int32)) → (¬ v1 = 0 → (¬ v1 = 1 → (¬ v1 = 0 → (¬ v1 = 1 → K (M.1 175 29) (m_i M 175 29 v2)) ∧ (v1 = 1 → K (M.1 175 29) (m_i M 175 28 v2))) ∧ (v1 = 0 → K (M.1 175 29) (m_i M 175 27 v2))) ∧ (v1 = 1 → (¬ v1 = 0 → (¬ v1 = 1 → K (M.1 175 28) (m_i M 175 29 v2)) ∧ (v1 = 1 → K (M.1 175 28) (m_i M 175 28 v2))) ∧ (v1 = 0 → K (M.1 175 28) (m_i M 175 27 v2)))) ∧ (v1 = 0 → (¬ v1 = 0 → (¬ v1 = 1 → K (M.1 175 27) (m_i M 175 29 v2)) ∧ (v1 = 1 → K (M.1 175 27) (m_i M 175 28 v2))) ∧ (v1 = 0 → K (M.1 175 27) (m_i M 175 27 v2)))) ∧ (¬ ((0 : Int32) ≤ v2 ∧ v2 ≤ (1 : Int32)) → K (-2) M))) : B_X11_set G K 0 [(0, .ref 175), (1, .int v1), (2, .int v2)] [] M := by
  refine BT.iload_n dX11_set_0 rfl 1 rfl ?_
  refine BT.i2l dX11_set_1 ?_
  refine BT.lconst (v := 0) dX11_set_2 (by decide) ?_
  refine BT.ldc2 dX11_set_3 kc_X11_179 ?_
  refine BT.mcS [.long (Int32.toInt64 v1), .long 0, .long 2] (t_X11_in (x := v1) (y := (0 : Int32)) (z := (2 : Int32)) rfl (by decide) (by decide) ?_) mb_X11_in ms_X11_in lk_X11_86 rfl (by decide) rfl (Nat.le_of_ble_eq_true rfl) dX11_set_6
  show B_X11_set G K 9 [(0, .ref 175), (1, .int v1), (2, .int v2)] [.int (bi ((0 : Int32) ≤ v1 ∧ v1 ≤ (2 : Int32)))] M
  refine BT.if_eq (tgt := 22) dX11_set_9 (by decide) (fun c => ?_) (fun c => ?_)
  · have c1 := bi_eq0.mp c
    refine BT.bipush (v := (-2)) dX11_set_22 (by decide) ?_
    exact BT.iret dX11_set_24 rfl (by decide) (by decide) (h.1 c1)
  · have c2 := bi_ne0.mp c
    refine BT.iload_n dX11_set_12 rfl 2 rfl ?_
    refine BT.i2l dX11_set_13 ?_
    refine BT.lconst (v := 0) dX11_set_14 (by decide) ?_
    refine BT.lconst (v := 1) dX11_set_15 (by decide) ?_
    refine BT.mcS [.long (Int32.toInt64 v2), .long 0, .long 1] (t_X11_in (x := v2) (y := (0 : Int32)) (z := (1 : Int32)) rfl (by decide) (by decide) ?_) mb_X11_in ms_X11_in lk_X11_86 rfl (by decide) rfl (Nat.le_of_ble_eq_true rfl) dX11_set_16
    show B_X11_set G K 19 [(0, .ref 175), (1, .int v1), (2, .int v2)] [.int (bi ((0 : Int32) ≤ v2 ∧ v2 ≤ (1 : Int32)))] M
    refine BT.if_ne (tgt := 25) dX11_set_19 (by decide) (fun c => ?_) (fun c => ?_)
    · have c3 := bi_ne0.mp c
      refine BT.iload_n dX11_set_25 rfl 1 rfl ?_
      refine BT.if_ne (tgt := 36) dX11_set_26 (by decide) (fun c => ?_) (fun c => ?_)
      · have c5 := c
        refine BT.iload_n dX11_set_36 rfl 1 rfl ?_
        refine BT.iconst (v := 1) dX11_set_37 (by decide) ?_
        refine BT.icmp_ne (tgt := 48) dX11_set_38 (by decide) (fun c => ?_) (fun c => ?_)
        · have c7 := c
          refine BT.aload_n dX11_set_48 rfl 0 rfl ?_
          refine BT.getI fl_X11_207 ho_175 rfl dX11_set_49 ?_
          refine BT.istore_n (L' := [(3, .int (M.1 175 29)), (0, .ref 175), (1, .int v1), (2, .int v2)]) dX11_set_52 rfl (by decide) rfl ?_
          refine BT.iload_n dX11_set_53 rfl 2 rfl ?_
          refine BT.if_ne (tgt := 65) dX11_set_54 (by decide) (fun c => ?_) (fun c => ?_)
          · have c9 := c
            refine BT.iload_n dX11_set_65 rfl 2 rfl ?_
            refine BT.iconst (v := 1) dX11_set_66 (by decide) ?_
            refine BT.icmp_ne (tgt := 78) dX11_set_67 (by decide) (fun c => ?_) (fun c => ?_)
            · have c11 := c
              refine BT.aload_n dX11_set_78 rfl 1 rfl ?_
              refine BT.iload_n dX11_set_79 rfl 3 rfl ?_
              refine BT.putI fl_X11_207 ft_11_29 ho_175 rfl dX11_set_80 ?_
              refine BT.iload_n dX11_set_83 rfl 0 rfl ?_
              exact BT.iret dX11_set_84 rfl (by decide) (by decide) ((((((h.2 c2).1 c3).1 c5).1 c7).1 c9).1 c11)
            · have c12 := c
              refine BT.aload_n dX11_set_70 rfl 1 rfl ?_
              refine BT.iload_n dX11_set_71 rfl 3 rfl ?_
              refine BT.putI fl_X11_204 ft_11_28 ho_175 rfl dX11_set_72 ?_
              refine BT.goto (tgt := 83) dX11_set_75 (by decide) ?_
              refine BT.iload_n dX11_set_83 rfl 0 rfl ?_
              exact BT.iret dX11_set_84 rfl (by decide) (by decide) ((((((h.2 c2).1 c3).1 c5).1 c7).1 c9).2 c12)
          · have c10 := c
            refine BT.aload_n dX11_set_57 rfl 1 rfl ?_
            refine BT.iload_n dX11_set_58 rfl 3 rfl ?_
            refine BT.putI fl_X11_201 ft_11_27 ho_175 rfl dX11_set_59 ?_
            refine BT.goto (tgt := 83) dX11_set_62 (by decide) ?_
            refine BT.iload_n dX11_set_83 rfl 0 rfl ?_
            exact BT.iret dX11_set_84 rfl (by decide) (by decide) (((((h.2 c2).1 c3).1 c5).1 c7).2 c10)
        · have c8 := c
          refine BT.aload_n dX11_set_41 rfl 0 rfl ?_
          refine BT.getI fl_X11_204 ho_175 rfl dX11_set_42 ?_
          refine BT.goto (tgt := 52) dX11_set_45 (by decide) ?_
          refine BT.istore_n (L' := [(3, .int (M.1 175 28)), (0, .ref 175), (1, .int v1), (2, .int v2)]) dX11_set_52 rfl (by decide) rfl ?_
          refine BT.iload_n dX11_set_53 rfl 2 rfl ?_
          refine BT.if_ne (tgt := 65) dX11_set_54 (by decide) (fun c => ?_) (fun c => ?_)
          · have c13 := c
            refine BT.iload_n dX11_set_65 rfl 2 rfl ?_
            refine BT.iconst (v := 1) dX11_set_66 (by decide) ?_
            refine BT.icmp_ne (tgt := 78) dX11_set_67 (by decide) (fun c => ?_) (fun c => ?_)
            · have c15 := c
              refine BT.aload_n dX11_set_78 rfl 1 rfl ?_
              refine BT.iload_n dX11_set_79 rfl 3 rfl ?_
              refine BT.putI fl_X11_207 ft_11_29 ho_175 rfl dX11_set_80 ?_
              refine BT.iload_n dX11_set_83 rfl 0 rfl ?_
              exact BT.iret dX11_set_84 rfl (by decide) (by decide) ((((((h.2 c2).1 c3).1 c5).2 c8).1 c13).1 c15)
            · have c16 := c
              refine BT.aload_n dX11_set_70 rfl 1 rfl ?_
              refine BT.iload_n dX11_set_71 rfl 3 rfl ?_
              refine BT.putI fl_X11_204 ft_11_28 ho_175 rfl dX11_set_72 ?_
              refine BT.goto (tgt := 83) dX11_set_75 (by decide) ?_
              refine BT.iload_n dX11_set_83 rfl 0 rfl ?_
              exact BT.iret dX11_set_84 rfl (by decide) (by decide) ((((((h.2 c2).1 c3).1 c5).2 c8).1 c13).2 c16)
          · have c14 := c
            refine BT.aload_n dX11_set_57 rfl 1 rfl ?_
            refine BT.iload_n dX11_set_58 rfl 3 rfl ?_
            refine BT.putI fl_X11_201 ft_11_27 ho_175 rfl dX11_set_59 ?_
            refine BT.goto (tgt := 83) dX11_set_62 (by decide) ?_
            refine BT.iload_n dX11_set_83 rfl 0 rfl ?_
            exact BT.iret dX11_set_84 rfl (by decide) (by decide) (((((h.2 c2).1 c3).1 c5).2 c8).2 c14)
      · have c6 := c
        refine BT.aload_n dX11_set_29 rfl 0 rfl ?_
        refine BT.getI fl_X11_201 ho_175 rfl dX11_set_30 ?_
        refine BT.goto (tgt := 52) dX11_set_33 (by decide) ?_
        refine BT.istore_n (L' := [(3, .int (M.1 175 27)), (0, .ref 175), (1, .int v1), (2, .int v2)]) dX11_set_52 rfl (by decide) rfl ?_
        refine BT.iload_n dX11_set_53 rfl 2 rfl ?_
        refine BT.if_ne (tgt := 65) dX11_set_54 (by decide) (fun c => ?_) (fun c => ?_)
        · have c17 := c
          refine BT.iload_n dX11_set_65 rfl 2 rfl ?_
          refine BT.iconst (v := 1) dX11_set_66 (by decide) ?_
          refine BT.icmp_ne (tgt := 78) dX11_set_67 (by decide) (fun c => ?_) (fun c => ?_)
          · have c19 := c
            refine BT.aload_n dX11_set_78 rfl 1 rfl ?_
            refine BT.iload_n dX11_set_79 rfl 3 rfl ?_
            refine BT.putI fl_X11_207 ft_11_29 ho_175 rfl dX11_set_80 ?_
            refine BT.iload_n dX11_set_83 rfl 0 rfl ?_
            exact BT.iret dX11_set_84 rfl (by decide) (by decide) (((((h.2 c2).1 c3).2 c6).1 c17).1 c19)
          · have c20 := c
            refine BT.aload_n dX11_set_70 rfl 1 rfl ?_
            refine BT.iload_n dX11_set_71 rfl 3 rfl ?_
            refine BT.putI fl_X11_204 ft_11_28 ho_175 rfl dX11_set_72 ?_
            refine BT.goto (tgt := 83) dX11_set_75 (by decide) ?_
            refine BT.iload_n dX11_set_83 rfl 0 rfl ?_
            exact BT.iret dX11_set_84 rfl (by decide) (by decide) (((((h.2 c2).1 c3).2 c6).1 c17).2 c20)
        · have c18 := c
          refine BT.aload_n dX11_set_57 rfl 1 rfl ?_
          refine BT.iload_n dX11_set_58 rfl 3 rfl ?_
          refine BT.putI fl_X11_201 ft_11_27 ho_175 rfl dX11_set_59 ?_
          refine BT.goto (tgt := 83) dX11_set_62 (by decide) ?_
          refine BT.iload_n dX11_set_83 rfl 0 rfl ?_
          exact BT.iret dX11_set_84 rfl (by decide) (by decide) ((((h.2 c2).1 c3).2 c6).2 c18)
    · have c4 := bi_eq0.mp c
      refine BT.bipush (v := (-2)) dX11_set_22 (by decide) ?_
      exact BT.iret dX11_set_24 rfl (by decide) (by decide) ((h.2 c2).2 c4)

theorem t_X11_set {G : GT} {K : Int32 → Mem → Prop} {M : Mem} {v1 v2 : Int32} (hbad : ¬ (((0 : Int32) ≤ v1 ∧ v1 ≤ 2) ∧ ((0 : Int32) ≤ v2 ∧ v2 ≤ 1)) → K (-2) M) (hok : (((0 : Int32) ≤ v1 ∧ v1 ≤ 2) ∧ ((0 : Int32) ≤ v2 ∧ v2 ≤ 1)) → K (M.1 175 (27 + Int32.toNatClampNeg v1)) (m_i M 175 (27 + Int32.toNatClampNeg v1) v2)) : T_X11_set G [.ref 175, .int v1, .int v2] M K := by
  refine e_X11_set (k_X11_set_0 ⟨fun c => hbad (fun q => c q.1), fun c => ⟨fun c2 => ⟨fun c3 => ⟨fun c4 => ⟨fun _ => ⟨fun _ => ?_, fun z => absurd z c4⟩, fun z => absurd z c3⟩, fun c4 => ⟨fun _ => ⟨fun z => absurd c4 z, fun _ => ?_⟩, fun z => absurd z c3⟩⟩, fun c3 => ⟨fun z => absurd c3 z, fun _ => ?_⟩⟩, fun c2 => hbad (fun q => c2 q.2)⟩⟩)
  · have e := three c c3 c4
    subst e
    exact hok ⟨c, c2⟩
  · subst c4
    exact hok ⟨c, c2⟩
  · subst c3
    exact hok ⟨c, c2⟩

/-! BetweenLaws.wish(II)I -/
abbrev rm_X10_wish : Room := { frames := 1, cells := 0, slots := 0, locals := 22 }
abbrev B_X10_wish (G : GT) (K : Int32 → Mem → Prop) := BT G (Rep G) RX10 "wish" cX10_wish 5 (some .int) rm_X10_wish K 0 0
abbrev T_X10_wish (G : GT) (as : List Value) (M : Mem) (K : Int32 → Mem → Prop) : Prop := MT G (Rep G) yX10_wish cX10_wish 5 (some .int) rm_X10_wish as M K
theorem e_X10_wish {G : GT} {K : Int32 → Mem → Prop} {M : Mem} {v1 : Int32} {v2 : Int32} (h : B_X10_wish G K 0 [(0, .ref 0), (1, .int v1), (2, .int v2)] [] M) : T_X10_wish G [.ref 0, .int v1, .int v2] M K := MT.of (by decide +kernel) rfl rfl (Nat.le_of_ble_eq_true rfl) rfl h
set_option maxRecDepth 4000 in
theorem k_X10_wish_0 {G : GT} {K : Int32 → Mem → Prop} {M : Mem} {v1 : Int32} {v2 : Int32} (h : (((0 : Int32) ≤ v1 ∧ v1 < (M.1 8 4)) → (((-1) ≤ v2 ∧ v2 ≤ 99) → (vp_in v1 8) ∧ (¬ v2 = (-1) → K (M.1 (52 + (Int32.toNatClampNeg v1)) 4) (m_i M (52 + (Int32.toNatClampNeg v1)) 4 v2)) ∧ (v2 = (-1) → K (M.1 (52 + (Int32.toNatClampNeg v1)) 4) (m_i M (52 + (Int32.toNatClampNeg v1)) 4 (-6)))) ∧ (¬ ((-1) ≤ v2 ∧ v2 ≤ 99) → K (-2) M)) ∧ (¬ ((0 : Int32) ≤ v1 ∧ v1 < (M.1 8 4)) → K (-1) M)) : B_X10_wish G K 0 [(0, .ref 0), (1, .int v1), (2, .int v2)] [] M := by
  refine BT.aload_n dX10_wish_0 rfl 0 rfl ?_
  refine BT.getR (r := 8) fl_X10_26 ho_0 rfl dX10_wish_1 ?_
  refine BT.iload_n dX10_wish_4 rfl 1 rfl ?_
  refine BT.mcV [.int v1] (t_X9_hasPiece  ?_) mb_X9_hasPiece mv_X9_hasPiece lk_X10_186 rfl (by decide) rfl (recvRep ho_8 rfl) (Nat.le_of_ble_eq_true rfl) dX10_wish_5
  show B_X10_wish G K 8 [(0, .ref 0), (1, .int v1), (2, .int v2)] [.int (bi ((0 : Int32) ≤ v1 ∧ v1 < (M.1 8 4)))] M
  refine BT.if_ne (tgt := 13) dX10_wish_8 (by decide) (fun c => ?_) (fun c => ?_)
  · have c2 := bi_ne0.mp c
    refine BT.iload_n dX10_wish_13 rfl 2 rfl ?_
    refine BT.iconst (v := (-1)) dX10_wish_14 (by decide) ?_
    refine BT.bipush (v := 99) dX10_wish_15 (by decide) ?_
    refine BT.mcS [.int v2, .int (-1), .int 99] (t_X10_within  ?_) mb_X10_within ms_X10_within lk_X10_82 rfl (by decide) rfl (Nat.le_of_ble_eq_true rfl) dX10_wish_17
    show B_X10_wish G K 20 [(0, .ref 0), (1, .int v1), (2, .int v2)] [.int (bi ((-1) ≤ v2 ∧ v2 ≤ 99))] M
    refine BT.if_ne (tgt := 26) dX10_wish_20 (by decide) (fun c => ?_) (fun c => ?_)
    · have c5 := bi_ne0.mp c
      refine BT.aload_n dX10_wish_26 rfl 0 rfl ?_
      refine BT.getR (r := 8) fl_X10_26 ho_0 rfl dX10_wish_27 ?_
      refine BT.getR (r := 51) fl_X10_189 ho_8 rfl dX10_wish_30 ?_
      refine BT.iload_n dX10_wish_33 rfl 1 rfl ?_
      refine BT.aald1 ha_51 (by decide) ((h.1 c2).1 c5).1 dX10_wish_34 ?_
      refine BT.astore_n (L' := [(3, .ref (52 + (Int32.toNatClampNeg v1))), (0, .ref 0), (1, .int v1), (2, .int v2)]) dX10_wish_35 rfl (by decide) rfl ?_
      refine BT.aload_n dX10_wish_36 rfl 0 rfl ?_
      refine BT.getI fl_X10_207 (pieceC8 ((h.1 c2).1 c5).1) rfl dX10_wish_37 ?_
      refine BT.istore (L' := [(4, .int (M.1 (52 + (Int32.toNatClampNeg v1)) 4)), (3, .ref (52 + (Int32.toNatClampNeg v1))), (0, .ref 0), (1, .int v1), (2, .int v2)]) dX10_wish_40 (by decide) rfl ?_
      refine BT.aload_n dX10_wish_42 rfl 1 rfl ?_
      refine BT.iload_n dX10_wish_43 rfl 4 rfl ?_
      refine BT.iconst (v := (-1)) dX10_wish_44 (by decide) ?_
      refine BT.icmp_ne (tgt := 53) dX10_wish_45 (by decide) (fun c => ?_) (fun c => ?_)
      · have c7 := c
        refine BT.iload_n dX10_wish_53 rfl 4 rfl ?_
        refine BT.putI fl_X10_207 ft_6_4 (pieceC8 ((h.1 c2).1 c5).1) rfl dX10_wish_54 ?_
        refine BT.iload dX10_wish_57 0 rfl ?_
        exact BT.iret dX10_wish_59 rfl (by decide) (by decide) (((h.1 c2).1 c5).2.1 c7)
      · have c8 := c
        refine BT.bipush (v := (-6)) dX10_wish_48 (by decide) ?_
        refine BT.goto (tgt := 54) dX10_wish_50 (by decide) ?_
        refine BT.putI fl_X10_207 ft_6_4 (pieceC8 ((h.1 c2).1 c5).1) rfl dX10_wish_54 ?_
        refine BT.iload dX10_wish_57 0 rfl ?_
        exact BT.iret dX10_wish_59 rfl (by decide) (by decide) (((h.1 c2).1 c5).2.2 c8)
    · have c6 := bi_eq0.mp c
      refine BT.bipush (v := (-2)) dX10_wish_23 (by decide) ?_
      exact BT.iret dX10_wish_25 rfl (by decide) (by decide) ((h.1 c2).2 c6)
  · have c3 := bi_eq0.mp c
    refine BT.iconst (v := (-1)) dX10_wish_11 (by decide) ?_
    exact BT.iret dX10_wish_12 rfl (by decide) (by decide) (h.2 c3)

abbrev wishOf (v : Int32) : Int32 := if v = -1 then -6 else v
theorem t_X10_wish {G : GT} {K : Int32 → Mem → Prop} {M : Mem} {v1 v2 : Int32} (hw : WOk (wv M)) (h1 : ¬ ((0 : Int32) ≤ v1 ∧ v1 < wv M 8 4) → K (-1) M) (h2 : ((0 : Int32) ≤ v1 ∧ v1 < wv M 8 4) → ¬ (-1 ≤ v2 ∧ v2 ≤ 99) → K (-2) M) (hok : ((0 : Int32) ≤ v1 ∧ v1 < wv M 8 4) → (-1 ≤ v2 ∧ v2 ≤ 99) → K (wv M (ppc v1) 4) (m_i M (ppc v1) 4 (wishOf v2))) : T_X10_wish G [.ref 0, .int v1, .int v2] M K := by
  refine e_X10_wish (k_X10_wish_0 ?_)
  rw [← wv_at (M := M) (c := 8) (k := 4) (by decide)]
  refine ⟨fun c => ⟨fun c2 => ?_, fun c2 => h2 c c2⟩, fun c => h1 c⟩
  obtain ⟨i1, i2, i3⟩ := pc_ix hw c
  have hok := hok c c2
  rw [show wv M (ppc v1) 4 = M.1 (ppc v1) 4 from wv_at (c := 52 + Int32.toNatClampNeg v1) (by omega)] at hok
  refine ⟨vp8 i2 i3, fun c3 => ?_, fun c3 => ?_⟩
  · unfold wishOf at hok
    rw [if_neg c3] at hok; exact hok
  · unfold wishOf at hok
    rw [if_pos c3] at hok; exact hok

/-! BetweenLawsModel.wish(II)I -/
abbrev rm_X11_wish : Room := { frames := 2, cells := 0, slots := 0, locals := 46 }
abbrev B_X11_wish (G : GT) (K : Int32 → Mem → Prop) := BT G (Rep G) RX11 "wish" cX11_wish 4 (some .int) rm_X11_wish K 0 0
abbrev T_X11_wish (G : GT) (as : List Value) (M : Mem) (K : Int32 → Mem → Prop) : Prop := MT G (Rep G) yX11_wish cX11_wish 4 (some .int) rm_X11_wish as M K
theorem e_X11_wish {G : GT} {K : Int32 → Mem → Prop} {M : Mem} {v1 : Int32} {v2 : Int32} (h : B_X11_wish G K 0 [(0, .ref 175), (1, .int v1), (2, .int v2)] [] M) : T_X11_wish G [.ref 175, .int v1, .int v2] M K := MT.of (by decide +kernel) rfl rfl (Nat.le_of_ble_eq_true rfl) rfl h
set_option maxRecDepth 4000 in
theorem k_X11_wish_0 {G : GT} {K : Int32 → Mem → Prop} {M : Mem} {W : WT} {v1 : Int32} {v2 : Int32} (h : (RP W M) ∧ (((0 : Int32) ≤ v1 ∧ v1 < W 8 4) → (((-1 : Int32) ≤ v2 ∧ v2 ≤ (99 : Int32)) → (vp_in v1 9) ∧ (0 ≤ v2 → (vp_in v1 9) ∧ K (M.1 193 (Int32.toNatClampNeg v1)) (m_i M 193 (Int32.toNatClampNeg v1) v2)) ∧ (¬ 0 ≤ v2 → (vp_in v1 9) ∧ K (M.1 193 (Int32.toNatClampNeg v1)) (m_i M 193 (Int32.toNatClampNeg v1) (-6)))) ∧ (¬ ((-1 : Int32) ≤ v2 ∧ v2 ≤ (99 : Int32)) → K (-2) M)) ∧ (¬ ((0 : Int32) ≤ v1 ∧ v1 < W 8 4) → K (-1) M)) : B_X11_wish G K 0 [(0, .ref 175), (1, .int v1), (2, .int v2)] [] M := by
  refine BT.aload_n dX11_wish_0 rfl 0 rfl ?_
  refine BT.iload_n dX11_wish_1 rfl 1 rfl ?_
  refine BT.mcV [.int v1] (t_X11_isPiece h.1 ?_) mb_X11_isPiece mv_X11_isPiece lk_X11_198 rfl (by decide) rfl (recvRep ho_175 rfl) (Nat.le_of_ble_eq_true rfl) dX11_wish_2
  show B_X11_wish G K 5 [(0, .ref 175), (1, .int v1), (2, .int v2)] [.int (bi ((0 : Int32) ≤ v1 ∧ v1 < W 8 4))] M
  refine BT.if_ne (tgt := 10) dX11_wish_5 (by decide) (fun c => ?_) (fun c => ?_)
  · have c2 := bi_ne0.mp c
    refine BT.iload_n dX11_wish_10 rfl 2 rfl ?_
    refine BT.i2l dX11_wish_11 ?_
    refine BT.ldc2 dX11_wish_12 kc_X11_296 ?_
    refine BT.ldc2 dX11_wish_15 kc_X11_84 ?_
    refine BT.mcS [.long (Int32.toInt64 v2), .long (-1), .long 99] (t_X11_in (x := v2) (y := (-1 : Int32)) (z := (99 : Int32)) rfl (by decide) (by decide) ?_) mb_X11_in ms_X11_in lk_X11_86 rfl (by decide) rfl (Nat.le_of_ble_eq_true rfl) dX11_wish_18
    show B_X11_wish G K 21 [(0, .ref 175), (1, .int v1), (2, .int v2)] [.int (bi ((-1 : Int32) ≤ v2 ∧ v2 ≤ (99 : Int32)))] M
    refine BT.if_ne (tgt := 27) dX11_wish_21 (by decide) (fun c => ?_) (fun c => ?_)
    · have c4 := bi_ne0.mp c
      refine BT.aload_n dX11_wish_27 rfl 0 rfl ?_
      refine BT.getR (r := 193) fl_X11_65 ho_175 rfl dX11_wish_28 ?_
      refine BT.iload_n dX11_wish_31 rfl 1 rfl ?_
      refine BT.iald ha_193 ((h.2.1 c2).1 c4).1 dX11_wish_32 ?_
      refine BT.istore_n (L' := [(3, .int (M.1 193 (Int32.toNatClampNeg v1))), (0, .ref 175), (1, .int v1), (2, .int v2)]) dX11_wish_33 rfl (by decide) rfl ?_
      refine BT.aload_n dX11_wish_34 rfl 1 rfl ?_
      refine BT.getR (r := 193) fl_X11_65 ho_175 rfl dX11_wish_35 ?_
      refine BT.iload_n dX11_wish_38 rfl 2 rfl ?_
      refine BT.iload_n dX11_wish_39 rfl 3 rfl ?_
      refine BT.if_ge (tgt := 48) dX11_wish_40 (by decide) (fun c => ?_) (fun c => ?_)
      · have c6 := c
        refine BT.iload_n dX11_wish_48 rfl 3 rfl ?_
        refine BT.iast ha_193 (((h.2.1 c2).1 c4).2.1 c6).1 dX11_wish_49 ?_
        refine BT.iload_n dX11_wish_50 rfl 0 rfl ?_
        exact BT.iret dX11_wish_51 rfl (by decide) (by decide) (((h.2.1 c2).1 c4).2.1 c6).2
      · have c7 := c
        refine BT.bipush (v := (-6)) dX11_wish_43 (by decide) ?_
        refine BT.goto (tgt := 49) dX11_wish_45 (by decide) ?_
        refine BT.iast ha_193 (((h.2.1 c2).1 c4).2.2 c7).1 dX11_wish_49 ?_
        refine BT.iload_n dX11_wish_50 rfl 0 rfl ?_
        exact BT.iret dX11_wish_51 rfl (by decide) (by decide) (((h.2.1 c2).1 c4).2.2 c7).2
    · have c5 := bi_eq0.mp c
      refine BT.bipush (v := (-2)) dX11_wish_24 (by decide) ?_
      exact BT.iret dX11_wish_26 rfl (by decide) (by decide) ((h.2.1 c2).2 c5)
  · have c3 := bi_eq0.mp c
    refine BT.iconst (v := (-1)) dX11_wish_8 (by decide) ?_
    exact BT.iret dX11_wish_9 rfl (by decide) (by decide) (h.2.2 c3)

theorem t_X11_wish {G : GT} {K : Int32 → Mem → Prop} {M : Mem} {W : WT} {v1 v2 : Int32} (hQ : RP W M) (h1 : ¬ ((0 : Int32) ≤ v1 ∧ v1 < W 8 4) → K (-1) M) (h2 : ((0 : Int32) ≤ v1 ∧ v1 < W 8 4) → ¬ (-1 ≤ v2 ∧ v2 ≤ 99) → K (-2) M) (hok : ((0 : Int32) ≤ v1 ∧ v1 < W 8 4) → (-1 ≤ v2 ∧ v2 ≤ 99) → K (W (ppc v1) 4) (m_i M 193 (Int32.toNatClampNeg v1) (wishOf v2))) : T_X11_wish G [.ref 175, .int v1, .int v2] M K := by
  refine e_X11_wish (k_X11_wish_0 (W := W) ⟨hQ, fun c => ⟨fun c2 => ?_, fun c2 => h2 c c2⟩, fun c => h1 c⟩)
  obtain ⟨i1, i2, i3, hP, ez⟩ := hQ.ix c
  have e4 := (hQ.2.2 _ i1).2
  have vp : vp_in v1 9 := by rw [i3]; exact vp_nI (by omega) (by decide)
  have hok := hok c c2
  rw [← e4] at hok
  refine ⟨vp, fun c3 => ⟨vp, ?_⟩, fun c3 => ⟨vp, ?_⟩⟩
  · unfold wishOf at hok
    rw [if_neg (fun q => by rw [q] at c3; exact absurd c3 (by decide))] at hok; exact hok
  · have e : v2 = -1 := Int32.le_antisymm (by
      have : v2 < 0 := Int32.not_le.mp c3
      rw [Int32.lt_iff_toInt_lt] at this
      rw [Int32.le_iff_toInt_le]
      have h0 : (0 : Int32).toInt = 0 := rfl
      have h1 : (-1 : Int32).toInt = -1 := rfl
      omega) c2.1
    unfold wishOf at hok
    rw [if_pos e] at hok; exact hok

/-! BetweenLaws$Law.firstFitting(I)I -/
abbrev rm_X3_firstFitting : Room := { frames := 0, cells := 0, slots := 0, locals := 0 }
abbrev B_X3_firstFitting (G : GT) (K : Int32 → Mem → Prop) := BT G (Rep G) RX3 "firstFitting" cX3_firstFitting 3 (some .int) rm_X3_firstFitting K 0 0
abbrev T_X3_firstFitting (G : GT) (as : List Value) (M : Mem) (K : Int32 → Mem → Prop) : Prop := MT G (Rep G) yX3_firstFitting cX3_firstFitting 3 (some .int) rm_X3_firstFitting as M K
theorem e_X3_firstFitting {G : GT} {K : Int32 → Mem → Prop} {M : Mem} {a0 : Nat} {v1 : Int32} (h : B_X3_firstFitting G K 0 [(0, .ref a0), (1, .int v1)] [] M) : T_X3_firstFitting G [.ref a0, .int v1] M K := MT.of (by decide +kernel) rfl rfl (Nat.le_of_ble_eq_true rfl) rfl h
set_option maxRecDepth 4000 in
theorem k_X3_firstFitting_0 {G : GT} {K : Int32 → Mem → Prop} {M : Mem} {a0 : Nat} {v1 : Int32} (ha0 : LawC a0) (h : B_X3_firstFitting G K 2 [(0, .ref a0), (1, .int v1), (2, .int 0)] [] M) : B_X3_firstFitting G K 0 [(0, .ref a0), (1, .int v1)] [] M := by
  refine BT.iconst (v := 0) dX3_firstFitting_0 (by decide) ?_
  refine BT.istore_n (L' := [(2, .int 0), (0, .ref a0), (1, .int v1)]) dX3_firstFitting_1 rfl (by decide) rfl ?_
  refine BT.sub [1, 2, 0] rfl ?_
  exact h
set_option maxRecDepth 4000 in
theorem k_X3_firstFitting_2 {G : GT} {K : Int32 → Mem → Prop} {M : Mem} {a0 : Nat} {v1 : Int32} {v2 : Int32} (ha0 : LawC a0) (h : ((M.1 a0 2) ≤ v2 → K (-6) M) ∧ (¬ (M.1 a0 2) ≤ v2 → (vp_in v2 6) ∧ (¬ ((M.1 (a0 + 1) (Int32.toNatClampNeg v2)) &&& (v1 ^^^ (-1))) = 0 → B_X3_firstFitting G K 2 [(0, .ref a0), (1, .int v1), (2, .int (v2 + 1))] [] M) ∧ (((M.1 (a0 + 1) (Int32.toNatClampNeg v2)) &&& (v1 ^^^ (-1))) = 0 → K v2 M))) : B_X3_firstFitting G K 2 [(0, .ref a0), (1, .int v1), (2, .int v2)] [] M := by
  refine BT.iload_n dX3_firstFitting_2 rfl 2 rfl ?_
  refine BT.aload_n dX3_firstFitting_3 rfl 0 rfl ?_
  refine BT.getI fl_X3_24 ha0.1 rfl dX3_firstFitting_4 ?_
  refine BT.icmp_ge (tgt := 31) dX3_firstFitting_7 (by decide) (fun c => ?_) (fun c => ?_)
  · have c1 := c
    refine BT.bipush (v := (-6)) dX3_firstFitting_31 (by decide) ?_
    exact BT.iret dX3_firstFitting_33 rfl (by decide) (by decide) (h.1 c1)
  · have c2 := c
    refine BT.aload_n dX3_firstFitting_10 rfl 0 rfl ?_
    refine BT.getR (r := (a0 + 1)) fl_X3_9 ha0.1 rfl dX3_firstFitting_11 ?_
    refine BT.iload_n dX3_firstFitting_14 rfl 2 rfl ?_
    refine BT.iald ha0.2.1 (h.2 c2).1 dX3_firstFitting_15 ?_
    refine BT.iload_n dX3_firstFitting_16 rfl 1 rfl ?_
    refine BT.iconst (v := (-1)) dX3_firstFitting_17 (by decide) ?_
    refine BT.ixor dX3_firstFitting_18 ?_
    refine BT.iand dX3_firstFitting_19 ?_
    refine BT.if_ne (tgt := 25) dX3_firstFitting_20 (by decide) (fun c => ?_) (fun c => ?_)
    · have c3 := c
      refine BT.iinc (j := 2) (v := (v2 + 1)) (L' := [(2, .int (v2 + 1)), (0, .ref a0), (1, .int v1)]) dX3_firstFitting_25 rfl rfl (by decide) rfl ?_
      refine BT.goto (tgt := 2) dX3_firstFitting_28 (by decide) ?_
      refine BT.sub [1, 2, 0] rfl ?_
      exact ((h.2 c2).2.1 c3)
    · have c4 := c
      refine BT.iload_n dX3_firstFitting_23 rfl 2 rfl ?_
      exact BT.iret dX3_firstFitting_24 rfl (by decide) (by decide) ((h.2 c2).2.2 c4)

theorem t_X3_firstFitting {G : GT} {K : Int32 → Mem → Prop} {M : Mem} {a0 : Nat} {v1 : Int32} (ha0 : LawC a0) (hn : ∃ n, n ≤ 6 ∧ M.1 a0 2 = nI n) (h : K (w_fit M.1 a0 v1) M) : T_X3_firstFitting G [.ref a0, .int v1] M K := by
  obtain ⟨n, hn6, en⟩ := hn
  unfold w_fit at h
  rw [en, ix_nI (by omega)] at h
  refine e_X3_firstFitting (k_X3_firstFitting_0 ha0 ?_)
  have key : ∀ f i, i + f = n → K (w_ff M.1 a0 v1 i f) M → B_X3_firstFitting G K 2 [(0, .ref a0), (1, .int v1), (2, .int (nI i))] [] M := by
    intro f
    induction f with
    | zero =>
      intro i hi hK
      refine k_X3_firstFitting_2 ha0 ⟨fun _ => hK, fun c => absurd ?_ c⟩
      rw [en, show i = n by omega]; exact Int32.le_refl _
    | succ f ih =>
      intro i hi hK
      unfold w_ff w_fits at hK
      refine k_X3_firstFitting_2 ha0 ⟨fun c => ?_, fun _ => ⟨vp_nI (by omega) (by decide), fun c => ?_, fun c => ?_⟩⟩
      · rw [en, nI_leI (by omega) (by omega)] at c; omega
      · rw [ix_nI (by omega)] at c
        rw [sel_f c] at hK
        rw [nI_1]
        exact ih (i + 1) (by omega) hK
      · rw [ix_nI (by omega)] at c
        rw [sel_t c] at hK
        exact hK
  exact key n 0 (by omega) h

