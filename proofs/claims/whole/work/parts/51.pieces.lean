/-! ===== 51.pieces ===== -/
theorem t_X9_addPiece2 {G : GT} {K : Int32 → Mem → Prop} {M : Mem} {v1 v2 : Int32} (hp : M.1 8 4 = nI (w_p (wv M)) ∧ w_p (wv M) < 8) (h : K (nI (w_p (wv M))) (m_i (c_begin M (52 + w_p (wv M)) v1 v2) 8 4 (nI (w_p (wv M) + 1)))) : T_X9_addPiece G [.ref 8, .int v1, .int v2] M K :=
  t_X9_addPiece ⟨hp.1, by omega⟩ (fun q => by omega) (fun _ => h)

/-! BetweenLaws.piece(II)I -/
abbrev rm_X10_piece : Room := { frames := 2, cells := 0, slots := 0, locals := 44 }
abbrev B_X10_piece (G : GT) (K : Int32 → Mem → Prop) := BT G (Rep G) RX10 "piece" cX10_piece 3 (some .int) rm_X10_piece K 0 0
abbrev T_X10_piece (G : GT) (as : List Value) (M : Mem) (K : Int32 → Mem → Prop) : Prop := MT G (Rep G) yX10_piece cX10_piece 3 (some .int) rm_X10_piece as M K
theorem e_X10_piece {G : GT} {K : Int32 → Mem → Prop} {M : Mem} {v1 : Int32} {v2 : Int32} (h : B_X10_piece G K 0 [(0, .ref 0), (1, .int v1), (2, .int v2)] [] M) : T_X10_piece G [.ref 0, .int v1, .int v2] M K := MT.of (by decide +kernel) rfl rfl (Nat.le_of_ble_eq_true rfl) rfl h
set_option maxRecDepth 4000 in
theorem k_X10_piece_0 {G : GT} {K : Int32 → Mem → Prop} {M : Mem} {v1 : Int32} {v2 : Int32} (h : (¬ ((0 : Int32) ≤ v1 ∧ v1 ≤ 99) → K (-2) M) ∧ (((0 : Int32) ≤ v1 ∧ v1 ≤ 99) → (((0 : Int32) ≤ v2 ∧ v2 ≤ 31) → ((M.1 8 4) < 8 → (M.1 8 4 = nI (w_p (wv M)) ∧ w_p (wv M) < 8) ∧ (∀ r9 : Int32, r9 = (nI (w_p (wv M))) → ∀ N9 : Mem, N9 = (m_i (c_begin M (52 + w_p (wv M)) v1 v2) 8 4 (nI (w_p (wv M) + 1))) → K r9 N9)) ∧ (¬ (M.1 8 4) < 8 → K (-4) M)) ∧ (¬ ((0 : Int32) ≤ v2 ∧ v2 ≤ 31) → K (-2) M))) : B_X10_piece G K 0 [(0, .ref 0), (1, .int v1), (2, .int v2)] [] M := by
  refine BT.iload_n dX10_piece_0 rfl 1 rfl ?_
  refine BT.mcS [.int v1] (t_X10_isDay  ?_) mb_X10_isDay ms_X10_isDay lk_X10_101 rfl (by decide) rfl (Nat.le_of_ble_eq_true rfl) dX10_piece_1
  show B_X10_piece G K 4 [(0, .ref 0), (1, .int v1), (2, .int v2)] [.int (bi ((0 : Int32) ≤ v1 ∧ v1 ≤ 99))] M
  refine BT.if_eq (tgt := 14) dX10_piece_4 (by decide) (fun c => ?_) (fun c => ?_)
  · have c2 := bi_eq0.mp c
    refine BT.bipush (v := (-2)) dX10_piece_14 (by decide) ?_
    exact BT.iret dX10_piece_16 rfl (by decide) (by decide) (h.1 c2)
  · have c3 := bi_ne0.mp c
    refine BT.iload_n dX10_piece_7 rfl 2 rfl ?_
    refine BT.mcS [.int v2] (t_X10_isMarks  ?_) mb_X10_isMarks ms_X10_isMarks lk_X10_176 rfl (by decide) rfl (Nat.le_of_ble_eq_true rfl) dX10_piece_8
    show B_X10_piece G K 11 [(0, .ref 0), (1, .int v1), (2, .int v2)] [.int (bi ((0 : Int32) ≤ v2 ∧ v2 ≤ 31))] M
    refine BT.if_ne (tgt := 17) dX10_piece_11 (by decide) (fun c => ?_) (fun c => ?_)
    · have c5 := bi_ne0.mp c
      refine BT.aload_n dX10_piece_17 rfl 0 rfl ?_
      refine BT.getR (r := 8) fl_X10_26 ho_0 rfl dX10_piece_18 ?_
      refine BT.getI fl_X10_179 ho_8 rfl dX10_piece_21 ?_
      refine BT.bipush (v := 8) dX10_piece_24 (by decide) ?_
      refine BT.icmp_lt (tgt := 32) dX10_piece_26 (by decide) (fun c => ?_) (fun c => ?_)
      · have c7 := c
        refine BT.aload_n dX10_piece_32 rfl 0 rfl ?_
        refine BT.getR (r := 8) fl_X10_26 ho_0 rfl dX10_piece_33 ?_
        refine BT.iload_n dX10_piece_36 rfl 1 rfl ?_
        refine BT.iload_n dX10_piece_37 rfl 2 rfl ?_
        refine BT.mcVn [.int v1, .int v2] (t_X9_addPiece2 (((h.2 c3).1 c5).1 c7).1 ⟨rfl, rfl⟩) mb_X9_addPiece mv_X9_addPiece lk_X10_182 rfl (by decide) rfl (recvRep ho_8 rfl) (Nat.le_of_ble_eq_true rfl) dX10_piece_38 (fun r9 e9 N9 g9 => ?_)
        show B_X10_piece G K 41 [(0, .ref 0), (1, .int v1), (2, .int v2)] [.int r9] N9
        exact BT.iret dX10_piece_41 rfl (by decide) (by decide) ((((h.2 c3).1 c5).1 c7).2 r9 e9 N9 g9)
      · have c8 := c
        refine BT.bipush (v := (-4)) dX10_piece_29 (by decide) ?_
        exact BT.iret dX10_piece_31 rfl (by decide) (by decide) (((h.2 c3).1 c5).2 c8)
    · have c6 := bi_eq0.mp c
      refine BT.bipush (v := (-2)) dX10_piece_14 (by decide) ?_
      exact BT.iret dX10_piece_16 rfl (by decide) (by decide) ((h.2 c3).2 c6)

theorem t_X10_piece {G : GT} {K : Int32 → Mem → Prop} {M : Mem} {v1 v2 : Int32} (hw : WOk (wv M)) (h1 : ¬ (((0 : Int32) ≤ v1 ∧ v1 ≤ 99) ∧ ((0 : Int32) ≤ v2 ∧ v2 ≤ 31)) → K (-2) M) (h2 : (((0 : Int32) ≤ v1 ∧ v1 ≤ 99) ∧ ((0 : Int32) ≤ v2 ∧ v2 ≤ 31)) → w_p (wv M) = 8 → K (-4) M) (hok : (((0 : Int32) ≤ v1 ∧ v1 ≤ 99) ∧ ((0 : Int32) ≤ v2 ∧ v2 ≤ 31)) → w_p (wv M) < 8 → K (nI (w_p (wv M))) (m_i (c_begin M (52 + w_p (wv M)) v1 v2) 8 4 (nI (w_p (wv M) + 1)))) : T_X10_piece G [.ref 0, .int v1, .int v2] M K := by
  obtain ⟨-, ⟨hq, h9⟩, -⟩ := hw
  rw [wv_at (by decide)] at hq
  refine e_X10_piece (k_X10_piece_0 ⟨fun c => h1 (fun q => c q.1), fun c => ⟨fun c2 => ⟨fun c3 => ?_, fun c3 => ?_⟩, fun c2 => h1 (fun q => c2 q.2)⟩⟩)
  · rw [hq] at c3
    have hlt : w_p (wv M) < 8 := (nI_ltI (b := 8) (by omega) (by decide)).mp c3
    exact ⟨⟨hq, hlt⟩, fun r9 e9 N9 g9 => by rw [e9, g9]; exact hok ⟨c, c2⟩ hlt⟩
  · rw [hq] at c3
    have : ¬ w_p (wv M) < 8 := fun q => c3 (nI_lt (b := 8) q (by decide))
    exact h2 ⟨c, c2⟩ (by omega)

/-! BetweenLawsModel.piece(II)I -/
abbrev rm_X11_piece : Room := { frames := 2, cells := 0, slots := 0, locals := 45 }
abbrev B_X11_piece (G : GT) (K : Int32 → Mem → Prop) := BT G (Rep G) RX11 "piece" cX11_piece 3 (some .int) rm_X11_piece K 0 0
abbrev T_X11_piece (G : GT) (as : List Value) (M : Mem) (K : Int32 → Mem → Prop) : Prop := MT G (Rep G) yX11_piece cX11_piece 3 (some .int) rm_X11_piece as M K
theorem e_X11_piece {G : GT} {K : Int32 → Mem → Prop} {M : Mem} {v1 : Int32} {v2 : Int32} (h : B_X11_piece G K 0 [(0, .ref 175), (1, .int v1), (2, .int v2)] [] M) : T_X11_piece G [.ref 175, .int v1, .int v2] M K := MT.of (by decide +kernel) rfl rfl (Nat.le_of_ble_eq_true rfl) rfl h
set_option maxRecDepth 4000 in
theorem k_X11_piece_0 {G : GT} {K : Int32 → Mem → Prop} {M : Mem} {v1 : Int32} {v2 : Int32} (h : (¬ ((0 : Int32) ≤ v1 ∧ v1 ≤ 99) → K (-2) M) ∧ (((0 : Int32) ≤ v1 ∧ v1 ≤ 99) → (((0 : Int32) ≤ v2 ∧ v2 ≤ (31 : Int32)) → (¬ (M.1 175 26) = 8 → (∃ j, j < 9 ∧ (M.1 175 26) = nI j) ∧ (∀ N8 : Mem, N8 = (z_lay M (Int32.toNatClampNeg (M.1 175 26)) v1 v2) → K (((m_i N8 175 26 ((N8.1 175 26) + 1)).1 175 26) - 1) (m_i N8 175 26 ((N8.1 175 26) + 1)))) ∧ ((M.1 175 26) = 8 → K (-4) M)) ∧ (¬ ((0 : Int32) ≤ v2 ∧ v2 ≤ (31 : Int32)) → K (-2) M))) : B_X11_piece G K 0 [(0, .ref 175), (1, .int v1), (2, .int v2)] [] M := by
  refine BT.iload_n dX11_piece_0 rfl 1 rfl ?_
  refine BT.mcS [.int v1] (t_X11_isDay  ?_) mb_X11_isDay ms_X11_isDay lk_X11_156 rfl (by decide) rfl (Nat.le_of_ble_eq_true rfl) dX11_piece_1
  show B_X11_piece G K 4 [(0, .ref 175), (1, .int v1), (2, .int v2)] [.int (bi ((0 : Int32) ≤ v1 ∧ v1 ≤ 99))] M
  refine BT.if_eq (tgt := 19) dX11_piece_4 (by decide) (fun c => ?_) (fun c => ?_)
  · have c2 := bi_eq0.mp c
    refine BT.bipush (v := (-2)) dX11_piece_19 (by decide) ?_
    exact BT.iret dX11_piece_21 rfl (by decide) (by decide) (h.1 c2)
  · have c3 := bi_ne0.mp c
    refine BT.iload_n dX11_piece_7 rfl 2 rfl ?_
    refine BT.i2l dX11_piece_8 ?_
    refine BT.lconst (v := 0) dX11_piece_9 (by decide) ?_
    refine BT.ldc2 dX11_piece_10 kc_X11_193 ?_
    refine BT.mcS [.long (Int32.toInt64 v2), .long 0, .long 31] (t_X11_in (x := v2) (y := (0 : Int32)) (z := (31 : Int32)) rfl (by decide) (by decide) ?_) mb_X11_in ms_X11_in lk_X11_86 rfl (by decide) rfl (Nat.le_of_ble_eq_true rfl) dX11_piece_13
    show B_X11_piece G K 16 [(0, .ref 175), (1, .int v1), (2, .int v2)] [.int (bi ((0 : Int32) ≤ v2 ∧ v2 ≤ (31 : Int32)))] M
    refine BT.if_ne (tgt := 22) dX11_piece_16 (by decide) (fun c => ?_) (fun c => ?_)
    · have c4 := bi_ne0.mp c
      refine BT.aload_n dX11_piece_22 rfl 0 rfl ?_
      refine BT.getI fl_X11_190 ho_175 rfl dX11_piece_23 ?_
      refine BT.bipush (v := 8) dX11_piece_26 (by decide) ?_
      refine BT.icmp_ne (tgt := 34) dX11_piece_28 (by decide) (fun c => ?_) (fun c => ?_)
      · have c6 := c
        refine BT.aload_n dX11_piece_34 rfl 0 rfl ?_
        refine BT.aload_n dX11_piece_35 rfl 0 rfl ?_
        refine BT.getI fl_X11_190 ho_175 rfl dX11_piece_36 ?_
        refine BT.iload_n dX11_piece_39 rfl 1 rfl ?_
        refine BT.iload_n dX11_piece_40 rfl 2 rfl ?_
        refine BT.mcVvm [.int (M.1 175 26), .int v1, .int v2] (t_X11_layPiece (((h.2 c3).1 c4).1 c6).1 ⟨rfl, rfl⟩) mb_X11_layPiece mv_X11_layPiece lk_X11_195 rfl (by decide) rfl (recvRep ho_175 rfl) (Nat.le_of_ble_eq_true rfl) dX11_piece_41 (fun N8 g8 => ?_)
        show B_X11_piece G K 44 [(0, .ref 175), (1, .int v1), (2, .int v2)] [] N8
        refine BT.aload_n dX11_piece_44 rfl 0 rfl ?_
        refine BT.dup dX11_piece_45 rfl ?_
        refine BT.getI fl_X11_190 ho_175 rfl dX11_piece_46 ?_
        refine BT.iconst (v := 1) dX11_piece_49 (by decide) ?_
        refine BT.iadd dX11_piece_50 ?_
        refine BT.putI fl_X11_190 ft_11_26 ho_175 rfl dX11_piece_51 ?_
        refine BT.aload_n dX11_piece_54 rfl 0 rfl ?_
        refine BT.getI fl_X11_190 ho_175 rfl dX11_piece_55 ?_
        refine BT.iconst (v := 1) dX11_piece_58 (by decide) ?_
        refine BT.isub dX11_piece_59 ?_
        exact BT.iret dX11_piece_60 rfl (by decide) (by decide) ((((h.2 c3).1 c4).1 c6).2 N8 g8)
      · have c7 := c
        refine BT.bipush (v := (-4)) dX11_piece_31 (by decide) ?_
        exact BT.iret dX11_piece_33 rfl (by decide) (by decide) (((h.2 c3).1 c4).2 c7)
    · have c5 := bi_eq0.mp c
      refine BT.bipush (v := (-2)) dX11_piece_19 (by decide) ?_
      exact BT.iret dX11_piece_21 rfl (by decide) (by decide) ((h.2 c3).2 c5)

theorem t_X11_piece {G : GT} {K : Int32 → Mem → Prop} {M : Mem} {n : Nat} {v1 v2 : Int32} (hn : M.1 175 26 = nI n ∧ n ≤ 8) (h1 : ¬ (((0 : Int32) ≤ v1 ∧ v1 ≤ 99) ∧ ((0 : Int32) ≤ v2 ∧ v2 ≤ 31)) → K (-2) M) (h2 : (((0 : Int32) ≤ v1 ∧ v1 ≤ 99) ∧ ((0 : Int32) ≤ v2 ∧ v2 ≤ 31)) → n = 8 → K (-4) M) (hok : (((0 : Int32) ≤ v1 ∧ v1 ≤ 99) ∧ ((0 : Int32) ≤ v2 ∧ v2 ≤ 31)) → n < 8 → K (nI n) (m_i (z_lay M n v1 v2) 175 26 (nI (n + 1)))) : T_X11_piece G [.ref 175, .int v1, .int v2] M K := by
  obtain ⟨en, h9⟩ := hn
  refine e_X11_piece (k_X11_piece_0 ⟨fun c => h1 (fun q => c q.1), fun c => ⟨fun c2 => ⟨fun c3 => ?_, fun c3 => ?_⟩, fun c2 => h1 (fun q => c2 q.2)⟩⟩)
  · have n8 : ¬ n = 8 := fun q => c3 (by rw [en, q]; rfl)
    refine ⟨⟨n, by omega, en⟩, fun N8 g8 => ?_⟩
    rw [en, ix_nI (by omega)] at g8
    have e26 : N8.1 175 26 = nI n := by
      rw [g8]; unfold z_lay
      rw [m_i_ne (by omega), m_i_ne (by omega), m_i_ne (by omega), m_i_ne (by omega), m_i_ne (by omega), en]
    rw [e26, m_i_at, nI_1, nI_pred, g8]
    exact hok ⟨c, c2⟩ (by omega)
  · rw [en] at c3
    exact h2 ⟨c, c2⟩ ((nI_eq (b := 8) (by omega) (by decide)).mp c3)

