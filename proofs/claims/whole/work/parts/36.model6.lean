/-! ===== 36.model6 ===== -/
/-! BetweenLawsModel.governs(II)I -/
abbrev rm_X11_governs : Room := { frames := 6, cells := 0, slots := 0, locals := 144 }
abbrev B_X11_governs (G : GT) (K : Int32 → Mem → Prop) := BT G (Rep G) RX11 "governs" cX11_governs 3 (some .int) rm_X11_governs K 0 0
abbrev T_X11_governs (G : GT) (as : List Value) (M : Mem) (K : Int32 → Mem → Prop) : Prop := MT G (Rep G) yX11_governs cX11_governs 3 (some .int) rm_X11_governs as M K
theorem e_X11_governs {G : GT} {K : Int32 → Mem → Prop} {M : Mem} {v1 : Int32} {v2 : Int32} (h : B_X11_governs G K 0 [(0, .ref 175), (1, .int v1), (2, .int v2)] [] M) : T_X11_governs G [.ref 175, .int v1, .int v2] M K := MT.of (by decide +kernel) rfl rfl (Nat.le_of_ble_eq_true rfl) rfl h
set_option maxRecDepth 4000 in
theorem k_X11_governs_0 {G : GT} {K : Int32 → Mem → Prop} {M : Mem} {W : WT} {v1 : Int32} {v2 : Int32} (h : (RP W M) ∧ (((0 : Int32) ≤ v1 ∧ v1 < W 8 4) → (¬ ((0 : Int32) ≤ v2 ∧ v2 ≤ 99) → K (-2) M) ∧ (((0 : Int32) ≤ v2 ∧ v2 ≤ 99) → (RG W M) ∧ (PR W M v1) ∧ (∀ r7 : Int32, r7 = (w_gov W (zp v1) (c_dayOn W (zp v1) v2)) → ∀ N7 : Mem, N7 = (m_i M 175 30 (w_gov2 W (zp v1) (c_dayOn W (zp v1) v2)).2) → K r7 N7))) ∧ (¬ ((0 : Int32) ≤ v1 ∧ v1 < W 8 4) → K (-1) M)) : B_X11_governs G K 0 [(0, .ref 175), (1, .int v1), (2, .int v2)] [] M := by
  refine BT.aload_n dX11_governs_0 rfl 0 rfl ?_
  refine BT.iload_n dX11_governs_1 rfl 1 rfl ?_
  refine BT.mcV [.int v1] (t_X11_isPiece h.1 ?_) mb_X11_isPiece mv_X11_isPiece lk_X11_198 rfl (by decide) rfl (recvRep ho_175 rfl) (Nat.le_of_ble_eq_true rfl) dX11_governs_2
  show B_X11_governs G K 5 [(0, .ref 175), (1, .int v1), (2, .int v2)] [.int (bi ((0 : Int32) ≤ v1 ∧ v1 < W 8 4))] M
  refine BT.if_ne (tgt := 10) dX11_governs_5 (by decide) (fun c => ?_) (fun c => ?_)
  · have c2 := bi_ne0.mp c
    refine BT.iload_n dX11_governs_10 rfl 2 rfl ?_
    refine BT.mcS [.int v2] (t_X11_isDay  ?_) mb_X11_isDay ms_X11_isDay lk_X11_156 rfl (by decide) rfl (Nat.le_of_ble_eq_true rfl) dX11_governs_11
    show B_X11_governs G K 14 [(0, .ref 175), (1, .int v1), (2, .int v2)] [.int (bi ((0 : Int32) ≤ v2 ∧ v2 ≤ 99))] M
    refine BT.if_eq (tgt := 26) dX11_governs_14 (by decide) (fun c => ?_) (fun c => ?_)
    · have c5 := bi_eq0.mp c
      refine BT.bipush (v := (-2)) dX11_governs_26 (by decide) ?_
      exact BT.iret dX11_governs_28 rfl (by decide) (by decide) ((h.2.1 c2).1 c5)
    · have c6 := bi_ne0.mp c
      refine BT.aload_n dX11_governs_17 rfl 0 rfl ?_
      refine BT.iload_n dX11_governs_18 rfl 1 rfl ?_
      refine BT.iload_n dX11_governs_19 rfl 2 rfl ?_
      refine BT.mcVn [.int v1, .int v2] (t_X11_governs0 ((h.2.1 c2).2 c6).1 ((h.2.1 c2).2 c6).2.1 ⟨rfl, rfl⟩) mb_X11_governs0 mv_X11_governs0 lk_X11_243 rfl (by decide) rfl (recvRep ho_175 rfl) (Nat.le_of_ble_eq_true rfl) dX11_governs_20 (fun r7 e7 N7 g7 => ?_)
      show B_X11_governs G K 23 [(0, .ref 175), (1, .int v1), (2, .int v2)] [.int r7] N7
      refine BT.goto (tgt := 28) dX11_governs_23 (by decide) ?_
      exact BT.iret dX11_governs_28 rfl (by decide) (by decide) (((h.2.1 c2).2 c6).2.2 r7 e7 N7 g7)
  · have c3 := bi_eq0.mp c
    refine BT.iconst (v := (-1)) dX11_governs_8 (by decide) ?_
    exact BT.iret dX11_governs_9 rfl (by decide) (by decide) (h.2.2 c3)

theorem t_X11_governs {G : GT} {K : Int32 → Mem → Prop} {M : Mem} {W : WT} {v1 v2 : Int32} (hR : RG W M) (hQ : RP W M) (h : ∀ N, Zcr M N → K (a_governs W v1 v2) N) : T_X11_governs G [.ref 175, .int v1, .int v2] M K := by
  unfold a_governs at h
  refine e_X11_governs (k_X11_governs_0 (W := W) ⟨hQ, fun c2 => ⟨fun c3 => ?_, fun c3 => ?_⟩, fun c2 => ?_⟩)
  · rw [q_rp_n c2, sel_f c3, sel_f (by decide)] at h
    exact h M Zcr.rf
  · rw [q_rp_n c2, sel_t c3, sel_t rfl] at h
    obtain ⟨i1, i2, i3, hP, ez⟩ := hQ.ix c2
    rw [← ez] at h
    exact ⟨hR, hP, fun r7 e7 N7 g7 => by rw [e7]; exact h _ (by rw [g7]; exact Zcr.rf.mi (by decide))⟩
  · rw [q_rp, sel_f c2, sel_f (by decide)] at h
    exact h M Zcr.rf

/-! BetweenLawsModel.gives(II)I -/
abbrev rm_X11_gives : Room := { frames := 7, cells := 0, slots := 0, locals := 175 }
abbrev B_X11_gives (G : GT) (K : Int32 → Mem → Prop) := BT G (Rep G) RX11 "gives" cX11_gives 3 (some .int) rm_X11_gives K 0 0
abbrev T_X11_gives (G : GT) (as : List Value) (M : Mem) (K : Int32 → Mem → Prop) : Prop := MT G (Rep G) yX11_gives cX11_gives 3 (some .int) rm_X11_gives as M K
theorem e_X11_gives {G : GT} {K : Int32 → Mem → Prop} {M : Mem} {v1 : Int32} {v2 : Int32} (h : B_X11_gives G K 0 [(0, .ref 175), (1, .int v1), (2, .int v2)] [] M) : T_X11_gives G [.ref 175, .int v1, .int v2] M K := MT.of (by decide +kernel) rfl rfl (Nat.le_of_ble_eq_true rfl) rfl h
set_option maxRecDepth 4000 in
theorem k_X11_gives_0 {G : GT} {K : Int32 → Mem → Prop} {M : Mem} {W : WT} {v1 : Int32} {v2 : Int32} (h : (RP W M) ∧ (((0 : Int32) ≤ v1 ∧ v1 < W 8 4) → (¬ ((0 : Int32) ≤ v2 ∧ v2 ≤ 99) → K (-2) M) ∧ (((0 : Int32) ≤ v2 ∧ v2 ≤ 99) → (RG W M) ∧ (PR W M v1) ∧ (∀ r7 : Int32, r7 = (w_given W (zp v1) v2) → ∀ N7 : Mem, (Zcr M N7) → K r7 N7))) ∧ (¬ ((0 : Int32) ≤ v1 ∧ v1 < W 8 4) → K (-1) M)) : B_X11_gives G K 0 [(0, .ref 175), (1, .int v1), (2, .int v2)] [] M := by
  refine BT.aload_n dX11_gives_0 rfl 0 rfl ?_
  refine BT.iload_n dX11_gives_1 rfl 1 rfl ?_
  refine BT.mcV [.int v1] (t_X11_isPiece h.1 ?_) mb_X11_isPiece mv_X11_isPiece lk_X11_198 rfl (by decide) rfl (recvRep ho_175 rfl) (Nat.le_of_ble_eq_true rfl) dX11_gives_2
  show B_X11_gives G K 5 [(0, .ref 175), (1, .int v1), (2, .int v2)] [.int (bi ((0 : Int32) ≤ v1 ∧ v1 < W 8 4))] M
  refine BT.if_ne (tgt := 10) dX11_gives_5 (by decide) (fun c => ?_) (fun c => ?_)
  · have c2 := bi_ne0.mp c
    refine BT.iload_n dX11_gives_10 rfl 2 rfl ?_
    refine BT.mcS [.int v2] (t_X11_isDay  ?_) mb_X11_isDay ms_X11_isDay lk_X11_156 rfl (by decide) rfl (Nat.le_of_ble_eq_true rfl) dX11_gives_11
    show B_X11_gives G K 14 [(0, .ref 175), (1, .int v1), (2, .int v2)] [.int (bi ((0 : Int32) ≤ v2 ∧ v2 ≤ 99))] M
    refine BT.if_eq (tgt := 26) dX11_gives_14 (by decide) (fun c => ?_) (fun c => ?_)
    · have c5 := bi_eq0.mp c
      refine BT.bipush (v := (-2)) dX11_gives_26 (by decide) ?_
      exact BT.iret dX11_gives_28 rfl (by decide) (by decide) ((h.2.1 c2).1 c5)
    · have c6 := bi_ne0.mp c
      refine BT.aload_n dX11_gives_17 rfl 0 rfl ?_
      refine BT.iload_n dX11_gives_18 rfl 1 rfl ?_
      refine BT.iload_n dX11_gives_19 rfl 2 rfl ?_
      refine BT.mcVp [.int v1, .int v2] (t_X11_giftOf ((h.2.1 c2).2 c6).1 ((h.2.1 c2).2 c6).2.1 (fun N hN => ⟨rfl, hN⟩)) mb_X11_giftOf mv_X11_giftOf lk_X11_254 rfl (by decide) rfl (recvRep ho_175 rfl) (Nat.le_of_ble_eq_true rfl) dX11_gives_20 (P := fun N7 => Zcr M N7) (fun r7 e7 N7 g7 => ?_)
      show B_X11_gives G K 23 [(0, .ref 175), (1, .int v1), (2, .int v2)] [.int r7] N7
      refine BT.goto (tgt := 28) dX11_gives_23 (by decide) ?_
      exact BT.iret dX11_gives_28 rfl (by decide) (by decide) (((h.2.1 c2).2 c6).2.2 r7 e7 N7 g7)
  · have c3 := bi_eq0.mp c
    refine BT.iconst (v := (-1)) dX11_gives_8 (by decide) ?_
    exact BT.iret dX11_gives_9 rfl (by decide) (by decide) (h.2.2 c3)

theorem t_X11_gives {G : GT} {K : Int32 → Mem → Prop} {M : Mem} {W : WT} {v1 v2 : Int32} (hR : RG W M) (hQ : RP W M) (h : ∀ N, Zcr M N → K (a_gives W v1 v2) N) : T_X11_gives G [.ref 175, .int v1, .int v2] M K := by
  unfold a_gives at h
  refine e_X11_gives (k_X11_gives_0 (W := W) ⟨hQ, fun c2 => ⟨fun c3 => ?_, fun c3 => ?_⟩, fun c2 => ?_⟩)
  · rw [q_rp_n c2, sel_f c3, sel_f (by decide)] at h
    exact h M Zcr.rf
  · rw [q_rp_n c2, sel_t c3, sel_t rfl] at h
    obtain ⟨i1, i2, i3, hP, ez⟩ := hQ.ix c2
    rw [← ez] at h
    exact ⟨hR, hP, fun r7 e7 N7 g7 => by rw [e7]; exact h _ g7⟩
  · rw [q_rp, sel_f c2, sel_f (by decide)] at h
    exact h M Zcr.rf

/-! BetweenLawsModel.route(III)I -/
abbrev rm_X11_route : Room := { frames := 6, cells := 0, slots := 0, locals := 150 }
abbrev B_X11_route (G : GT) (K : Int32 → Mem → Prop) := BT G (Rep G) RX11 "route" cX11_route 4 (some .int) rm_X11_route K 0 0
abbrev T_X11_route (G : GT) (as : List Value) (M : Mem) (K : Int32 → Mem → Prop) : Prop := MT G (Rep G) yX11_route cX11_route 4 (some .int) rm_X11_route as M K
theorem e_X11_route {G : GT} {K : Int32 → Mem → Prop} {M : Mem} {v1 : Int32} {v2 : Int32} {v3 : Int32} (h : B_X11_route G K 0 [(0, .ref 175), (1, .int v1), (2, .int v2), (3, .int v3)] [] M) : T_X11_route G [.ref 175, .int v1, .int v2, .int v3] M K := MT.of (by decide +kernel) rfl rfl (Nat.le_of_ble_eq_true rfl) rfl h
set_option maxRecDepth 4000 in
theorem k_X11_route_0 {G : GT} {K : Int32 → Mem → Prop} {M : Mem} {W : WT} {v1 : Int32} {v2 : Int32} {v3 : Int32} (h : (RP W M) ∧ (((0 : Int32) ≤ v1 ∧ v1 < W 8 4) → (((0 : Int32) ≤ v2 ∧ v2 ≤ 99) → (RG W M) ∧ (PR W M v1) ∧ (∀ r7 : Int32, r7 = (w_fol9 W (zp v1) (w_gov W (zp v1) (c_dayOn W (zp v1) v2)) (c_dayOn W (zp v1) v2)) → ∀ N7 : Mem, (Zcr M N7 ∧ ZPath N7 (w_path9 W (zp v1) (w_gov W (zp v1) (c_dayOn W (zp v1) v2)) (c_dayOn W (zp v1) v2))) → (¬ v3 = (-1) → (¬ ((0 : Int32) ≤ v3 ∧ v3 ≤ ((N7.1 175 32) - 1)) → K (-6) N7) ∧ (((0 : Int32) ≤ v3 ∧ v3 ≤ ((N7.1 175 32) - 1)) → (vp_in v3 8) ∧ K (N7.1 194 (Int32.toNatClampNeg v3)) N7)) ∧ (v3 = (-1) → K (N7.1 175 32) N7))) ∧ (¬ ((0 : Int32) ≤ v2 ∧ v2 ≤ 99) → K (-2) M)) ∧ (¬ ((0 : Int32) ≤ v1 ∧ v1 < W 8 4) → K (-1) M)) : B_X11_route G K 0 [(0, .ref 175), (1, .int v1), (2, .int v2), (3, .int v3)] [] M := by
  refine BT.aload_n dX11_route_0 rfl 0 rfl ?_
  refine BT.iload_n dX11_route_1 rfl 1 rfl ?_
  refine BT.mcV [.int v1] (t_X11_isPiece h.1 ?_) mb_X11_isPiece mv_X11_isPiece lk_X11_198 rfl (by decide) rfl (recvRep ho_175 rfl) (Nat.le_of_ble_eq_true rfl) dX11_route_2
  show B_X11_route G K 5 [(0, .ref 175), (1, .int v1), (2, .int v2), (3, .int v3)] [.int (bi ((0 : Int32) ≤ v1 ∧ v1 < W 8 4))] M
  refine BT.if_ne (tgt := 10) dX11_route_5 (by decide) (fun c => ?_) (fun c => ?_)
  · have c2 := bi_ne0.mp c
    refine BT.iload_n dX11_route_10 rfl 2 rfl ?_
    refine BT.mcS [.int v2] (t_X11_isDay  ?_) mb_X11_isDay ms_X11_isDay lk_X11_156 rfl (by decide) rfl (Nat.le_of_ble_eq_true rfl) dX11_route_11
    show B_X11_route G K 14 [(0, .ref 175), (1, .int v1), (2, .int v2), (3, .int v3)] [.int (bi ((0 : Int32) ≤ v2 ∧ v2 ≤ 99))] M
    refine BT.if_ne (tgt := 20) dX11_route_14 (by decide) (fun c => ?_) (fun c => ?_)
    · have c5 := bi_ne0.mp c
      refine BT.aload_n dX11_route_20 rfl 0 rfl ?_
      refine BT.iload_n dX11_route_21 rfl 1 rfl ?_
      refine BT.iload_n dX11_route_22 rfl 2 rfl ?_
      refine BT.mcVp [.int v1, .int v2] (t_X11_plainGift ((h.2.1 c2).1 c5).1 ((h.2.1 c2).1 c5).2.1 (fun N hN => ⟨rfl, hN⟩)) mb_X11_plainGift mv_X11_plainGift lk_X11_248 rfl (by decide) rfl (recvRep ho_175 rfl) (Nat.le_of_ble_eq_true rfl) dX11_route_23 (P := fun N7 => Zcr M N7 ∧ ZPath N7 (w_path9 W (zp v1) (w_gov W (zp v1) (c_dayOn W (zp v1) v2)) (c_dayOn W (zp v1) v2))) (fun r7 e7 N7 g7 => ?_)
      show B_X11_route G K 26 [(0, .ref 175), (1, .int v1), (2, .int v2), (3, .int v3)] [.int r7] N7
      refine BT.pop dX11_route_26 rfl ?_
      refine BT.iload_n dX11_route_27 rfl 3 rfl ?_
      refine BT.iconst (v := (-1)) dX11_route_28 (by decide) ?_
      refine BT.icmp_ne (tgt := 39) dX11_route_29 (by decide) (fun c => ?_) (fun c => ?_)
      · have c8 := c
        refine BT.iload_n dX11_route_39 rfl 3 rfl ?_
        refine BT.i2l dX11_route_40 ?_
        refine BT.lconst (v := 0) dX11_route_41 (by decide) ?_
        refine BT.aload_n dX11_route_42 rfl 0 rfl ?_
        refine BT.getI fl_X11_251 ho_175 rfl dX11_route_43 ?_
        refine BT.iconst (v := 1) dX11_route_46 (by decide) ?_
        refine BT.isub dX11_route_47 ?_
        refine BT.i2l dX11_route_48 ?_
        refine BT.mcS [.long (Int32.toInt64 v3), .long 0, .long (Int32.toInt64 ((N7.1 175 32) - 1))] (t_X11_in (x := v3) (y := (0 : Int32)) (z := ((N7.1 175 32) - 1)) rfl (by decide) rfl ?_) mb_X11_in ms_X11_in lk_X11_86 rfl (by decide) rfl (Nat.le_of_ble_eq_true rfl) dX11_route_49
        show B_X11_route G K 52 [(0, .ref 175), (1, .int v1), (2, .int v2), (3, .int v3)] [.int (bi ((0 : Int32) ≤ v3 ∧ v3 ≤ ((N7.1 175 32) - 1)))] N7
        refine BT.if_eq (tgt := 64) dX11_route_52 (by decide) (fun c => ?_) (fun c => ?_)
        · have c10 := bi_eq0.mp c
          refine BT.bipush (v := (-6)) dX11_route_64 (by decide) ?_
          exact BT.iret dX11_route_66 rfl (by decide) (by decide) (((((h.2.1 c2).1 c5).2.2 r7 e7 N7 g7).1 c8).1 c10)
        · have c11 := bi_ne0.mp c
          refine BT.aload_n dX11_route_55 rfl 0 rfl ?_
          refine BT.getR (r := 194) fl_X11_68 ho_175 rfl dX11_route_56 ?_
          refine BT.iload_n dX11_route_59 rfl 3 rfl ?_
          refine BT.iald ha_194 (((((h.2.1 c2).1 c5).2.2 r7 e7 N7 g7).1 c8).2 c11).1 dX11_route_60 ?_
          refine BT.goto (tgt := 66) dX11_route_61 (by decide) ?_
          exact BT.iret dX11_route_66 rfl (by decide) (by decide) (((((h.2.1 c2).1 c5).2.2 r7 e7 N7 g7).1 c8).2 c11).2
      · have c9 := c
        refine BT.aload_n dX11_route_32 rfl 0 rfl ?_
        refine BT.getI fl_X11_251 ho_175 rfl dX11_route_33 ?_
        refine BT.goto (tgt := 66) dX11_route_36 (by decide) ?_
        exact BT.iret dX11_route_66 rfl (by decide) (by decide) ((((h.2.1 c2).1 c5).2.2 r7 e7 N7 g7).2 c9)
    · have c6 := bi_eq0.mp c
      refine BT.bipush (v := (-2)) dX11_route_17 (by decide) ?_
      exact BT.iret dX11_route_19 rfl (by decide) (by decide) ((h.2.1 c2).2 c6)
  · have c3 := bi_eq0.mp c
    refine BT.iconst (v := (-1)) dX11_route_8 (by decide) ?_
    exact BT.iret dX11_route_9 rfl (by decide) (by decide) (h.2.2 c3)

theorem t_X11_route {G : GT} {K : Int32 → Mem → Prop} {M : Mem} {W : WT} {v1 v2 v3 : Int32} (hR : RG W M) (hQ : RP W M) (h : ∀ N, Zcr M N → K (a_route W v1 v2 v3) N) : T_X11_route G [.ref 175, .int v1, .int v2, .int v3] M K := by
  unfold a_route a_pathAt at h
  refine e_X11_route (k_X11_route_0 (W := W) ⟨hQ, fun c2 => ⟨fun c3 => ?_, fun c3 => ?_⟩, fun c2 => ?_⟩)
  · rw [q_rp_n c2, sel_t c3, sel_t rfl] at h
    obtain ⟨i1, i2, i3, hP, ez⟩ := hQ.ix c2
    rw [← ez] at h
    refine ⟨hR, hP, fun r7 e7 N7 g7 => ?_⟩
    obtain ⟨gs, p1, p2⟩ := g7
    have p3 := w_path9_len W (zp v1) (w_gov W (zp v1) (c_dayOn W (zp v1) v2)) (c_dayOn W (zp v1) v2)
    rw [p1]
    refine ⟨fun c1 => ?_, fun c1 => ?_⟩
    · rw [sel_f c1] at h
      refine ⟨fun c2 => ?_, fun c2 => ?_⟩
      · rw [sel_f c2] at h; exact h _ gs
      · rw [sel_t c2] at h
        obtain ⟨j, hj, rfl⟩ := i_le1 c2.1 c2.2 (by omega)
        rw [ix_nI (by omega)] at h ⊢
        refine ⟨vp_nI (by omega) (by decide), ?_⟩
        rw [List.getD_eq_getElem?_getD, p2 j hj] at h
        exact h _ gs
    · rw [sel_t c1] at h; exact h _ gs
  · rw [q_rp_n c2, sel_f c3, sel_f (by decide)] at h
    exact h M Zcr.rf
  · rw [q_rp, sel_f c2, sel_f (by decide)] at h
    exact h M Zcr.rf

/-! BetweenLawsModel.sum(I)I -/
abbrev rm_X11_sum : Room := { frames := 7, cells := 0, slots := 0, locals := 175 }
abbrev B_X11_sum (G : GT) (K : Int32 → Mem → Prop) := BT G (Rep G) RX11 "sum" cX11_sum 5 (some .int) rm_X11_sum K 0 0
abbrev T_X11_sum (G : GT) (as : List Value) (M : Mem) (K : Int32 → Mem → Prop) : Prop := MT G (Rep G) yX11_sum cX11_sum 5 (some .int) rm_X11_sum as M K
theorem e_X11_sum {G : GT} {K : Int32 → Mem → Prop} {M : Mem} {v1 : Int32} (h : B_X11_sum G K 0 [(0, .ref 175), (1, .int v1)] [] M) : T_X11_sum G [.ref 175, .int v1] M K := MT.of (by decide +kernel) rfl rfl (Nat.le_of_ble_eq_true rfl) rfl h
set_option maxRecDepth 4000 in
theorem k_X11_sum_0 {G : GT} {K : Int32 → Mem → Prop} {M : Mem} {v1 : Int32} (h : (((0 : Int32) ≤ v1 ∧ v1 ≤ 99) → B_X11_sum G K 14 [(0, .ref 175), (1, .int v1), (2, .int 0), (3, .int 0)] [] M) ∧ (¬ ((0 : Int32) ≤ v1 ∧ v1 ≤ 99) → K (-2) M)) : B_X11_sum G K 0 [(0, .ref 175), (1, .int v1)] [] M := by
  refine BT.iload_n dX11_sum_0 rfl 1 rfl ?_
  refine BT.mcS [.int v1] (t_X11_isDay  ?_) mb_X11_isDay ms_X11_isDay lk_X11_156 rfl (by decide) rfl (Nat.le_of_ble_eq_true rfl) dX11_sum_1
  show B_X11_sum G K 4 [(0, .ref 175), (1, .int v1)] [.int (bi ((0 : Int32) ≤ v1 ∧ v1 ≤ 99))] M
  refine BT.if_ne (tgt := 10) dX11_sum_4 (by decide) (fun c => ?_) (fun c => ?_)
  · have c2 := bi_ne0.mp c
    refine BT.iconst (v := 0) dX11_sum_10 (by decide) ?_
    refine BT.istore_n (L' := [(2, .int 0), (0, .ref 175), (1, .int v1)]) dX11_sum_11 rfl (by decide) rfl ?_
    refine BT.iconst (v := 0) dX11_sum_12 (by decide) ?_
    refine BT.istore_n (L' := [(3, .int 0), (2, .int 0), (0, .ref 175), (1, .int v1)]) dX11_sum_13 rfl (by decide) rfl ?_
    refine BT.sub [2, 3, 1, 0] rfl ?_
    exact (h.1 c2)
  · have c3 := bi_eq0.mp c
    refine BT.bipush (v := (-2)) dX11_sum_7 (by decide) ?_
    exact BT.iret dX11_sum_9 rfl (by decide) (by decide) (h.2 c3)
set_option maxRecDepth 4000 in
theorem k_X11_sum_14 {G : GT} {K : Int32 → Mem → Prop} {M : Mem} {W : WT} {v1 : Int32} {v2 : Int32} {v3 : Int32} (h : ((M.1 175 26) ≤ v3 → K v2 M) ∧ (¬ (M.1 175 26) ≤ v3 → (RG W M) ∧ (PR W M v3) ∧ (∀ r3 : Int32, r3 = (w_given W (zp v3) v1) → ∀ N3 : Mem, (Zcr M N3) → (r3 ≤ 0 → B_X11_sum G K 14 [(0, .ref 175), (1, .int v1), (2, .int (v2 + 0)), (3, .int (v3 + 1))] [] N3) ∧ (¬ r3 ≤ 0 → B_X11_sum G K 14 [(0, .ref 175), (1, .int v1), (2, .int (v2 + r3)), (3, .int (v3 + 1))] [] N3)))) : B_X11_sum G K 14 [(0, .ref 175), (1, .int v1), (2, .int v2), (3, .int v3)] [] M := by
  refine BT.iload_n dX11_sum_14 rfl 3 rfl ?_
  refine BT.aload_n dX11_sum_15 rfl 0 rfl ?_
  refine BT.getI fl_X11_190 ho_175 rfl dX11_sum_16 ?_
  refine BT.icmp_ge (tgt := 50) dX11_sum_19 (by decide) (fun c => ?_) (fun c => ?_)
  · have c1 := c
    refine BT.iload_n dX11_sum_50 rfl 2 rfl ?_
    exact BT.iret dX11_sum_51 rfl (by decide) (by decide) (h.1 c1)
  · have c2 := c
    refine BT.aload_n dX11_sum_22 rfl 0 rfl ?_
    refine BT.iload_n dX11_sum_23 rfl 3 rfl ?_
    refine BT.iload_n dX11_sum_24 rfl 1 rfl ?_
    refine BT.mcVp [.int v3, .int v1] (t_X11_giftOf (h.2 c2).1 (h.2 c2).2.1 (fun N hN => ⟨rfl, hN⟩)) mb_X11_giftOf mv_X11_giftOf lk_X11_254 rfl (by decide) rfl (recvRep ho_175 rfl) (Nat.le_of_ble_eq_true rfl) dX11_sum_25 (P := fun N3 => Zcr M N3) (fun r3 e3 N3 g3 => ?_)
    show B_X11_sum G K 28 [(0, .ref 175), (1, .int v1), (2, .int v2), (3, .int v3)] [.int r3] N3
    refine BT.istore (L' := [(4, .int r3), (0, .ref 175), (1, .int v1), (2, .int v2), (3, .int v3)]) dX11_sum_28 (by decide) rfl ?_
    refine BT.iload_n dX11_sum_30 rfl 3 rfl ?_
    refine BT.iload dX11_sum_31 0 rfl ?_
    refine BT.if_le (tgt := 41) dX11_sum_33 (by decide) (fun c => ?_) (fun c => ?_)
    · have c4 := c
      refine BT.iconst (v := 0) dX11_sum_41 (by decide) ?_
      refine BT.iadd dX11_sum_42 ?_
      refine BT.istore_n (L' := [(2, .int (v2 + 0)), (4, .int r3), (0, .ref 175), (1, .int v1), (3, .int v3)]) dX11_sum_43 rfl (by decide) rfl ?_
      refine BT.iinc (j := 4) (v := (v3 + 1)) (L' := [(3, .int (v3 + 1)), (2, .int (v2 + 0)), (4, .int r3), (0, .ref 175), (1, .int v1)]) dX11_sum_44 rfl rfl (by decide) rfl ?_
      refine BT.goto (tgt := 14) dX11_sum_47 (by decide) ?_
      refine BT.sub [3, 4, 1, 0] rfl ?_
      exact (((h.2 c2).2.2 r3 e3 N3 g3).1 c4)
    · have c5 := c
      refine BT.iload dX11_sum_36 0 rfl ?_
      refine BT.goto (tgt := 42) dX11_sum_38 (by decide) ?_
      refine BT.iadd dX11_sum_42 ?_
      refine BT.istore_n (L' := [(2, .int (v2 + r3)), (4, .int r3), (0, .ref 175), (1, .int v1), (3, .int v3)]) dX11_sum_43 rfl (by decide) rfl ?_
      refine BT.iinc (j := 4) (v := (v3 + 1)) (L' := [(3, .int (v3 + 1)), (2, .int (v2 + r3)), (4, .int r3), (0, .ref 175), (1, .int v1)]) dX11_sum_44 rfl rfl (by decide) rfl ?_
      refine BT.goto (tgt := 14) dX11_sum_47 (by decide) ?_
      refine BT.sub [3, 4, 1, 0] rfl ?_
      exact (((h.2 c2).2.2 r3 e3 N3 g3).2 c5)

theorem RP.pc {W : WT} {M : Mem} (h : RP W M) {j : Nat} (hj : j < w_p W) : PR W M (nI j) ∧ zp (nI j) = 52 + j := by
  refine ⟨(h.2.2 j hj).1, ?_⟩
  have := h.1.2
  unfold zp zc
  rw [ix_nI (by omega), if_neg (by omega)]
theorem RP.n {W : WT} {M : Mem} (h : RP W M) : M.1 175 26 = nI (w_p W) ∧ w_p W ≤ 8 := ⟨h.2.1.trans h.1.1, h.1.2⟩
theorem t_X11_sum {G : GT} {K : Int32 → Mem → Prop} {M : Mem} {W : WT} {v1 : Int32} (hR : RG W M) (hQ : RP W M) (h : ∀ N, Zcr M N → K (a_sum W v1) N) : T_X11_sum G [.ref 175, .int v1] M K := by
  unfold a_sum at h
  refine e_X11_sum (k_X11_sum_0 ⟨fun c => ?_, fun c => ?_⟩)
  · rw [sel_t c] at h
    have h9 := hQ.n.2
    refine up_loop (P := fun j => ∀ N, Zcr M N → B_X11_sum G K 14 [(0, .ref 175), (1, .int v1), (2, .int (a_sumN W v1 j)), (3, .int (nI j))] [] N) (w_p W) (fun N hN => ?_) (fun j hj ih N hN => ?_) 0 (Nat.zero_le _) M Zcr.rf
    · refine k_X11_sum_14 (W := W) ⟨fun _ => h N hN, fun c => ?_⟩
      rw [(hQ.z hN).n.1] at c
      exact absurd (Int32.le_refl _) c
    · unfold a_sumN at ih
      obtain ⟨hP, ez⟩ := hQ.pc hj
      refine k_X11_sum_14 (W := W) ⟨fun c => ?_, fun _ => ⟨hR.z hN, hP.z hN, fun r3 e3 N3 g3 => ⟨fun c3 => ?_, fun c3 => ?_⟩⟩⟩
      · rw [(hQ.z hN).n.1, nI_leI (by omega) (by omega)] at c
        omega
      · rw [ez] at e3
        rw [nI_1, Int32.add_zero]
        by_cases c4 : r3 < 0
        · rw [e3] at c4
          rw [sel_t c4] at ih
          exact ih N3 (hN.tr g3)
        · have e0 : r3 = 0 := Int32.le_antisymm c3 (Int32.not_lt.mp c4)
          rw [e3] at c4 e0
          rw [sel_f c4, e0, Int32.add_zero] at ih
          exact ih N3 (hN.tr g3)
      · rw [ez] at e3
        rw [nI_1]
        have c4 : ¬ r3 < 0 := fun q => c3 (Int32.le_of_lt q)
        rw [e3] at c4 ⊢
        rw [sel_f c4] at ih
        exact ih N3 (hN.tr g3)
  · rw [sel_f c] at h; exact h _ Zcr.rf

/-! BetweenLawsModel.force(II)I -/
abbrev rm_X11_force : Room := { frames := 4, cells := 0, slots := 0, locals := 96 }
abbrev B_X11_force (G : GT) (K : Int32 → Mem → Prop) := BT G (Rep G) RX11 "force" cX11_force 3 (some .int) rm_X11_force K 0 0
abbrev T_X11_force (G : GT) (as : List Value) (M : Mem) (K : Int32 → Mem → Prop) : Prop := MT G (Rep G) yX11_force cX11_force 3 (some .int) rm_X11_force as M K
theorem e_X11_force {G : GT} {K : Int32 → Mem → Prop} {M : Mem} {v1 : Int32} {v2 : Int32} (h : B_X11_force G K 0 [(0, .ref 175), (1, .int v1), (2, .int v2)] [] M) : T_X11_force G [.ref 175, .int v1, .int v2] M K := MT.of (by decide +kernel) rfl rfl (Nat.le_of_ble_eq_true rfl) rfl h
set_option maxRecDepth 4000 in
theorem k_X11_force_0 {G : GT} {K : Int32 → Mem → Prop} {M : Mem} {W : WT} {v1 : Int32} {v2 : Int32} (h : (¬ ((0 : Int32) ≤ v1 ∧ v1 ≤ 99) → K (-2) M) ∧ (((0 : Int32) ≤ v1 ∧ v1 ≤ 99) → (((0 : Int32) ≤ v2 ∧ v2 ≤ (2 : Int32)) → (¬ v2 = 0 → (¬ v2 = 1 → (RG W M) ∧ (∀ r10 : Int32, r10 = (w_force W v1 (w_n W)) → (RG W M) ∧ (∀ r11 : Int32, r11 = (w_undone W v1) → K (r10 &&& (r11 ^^^ (-1))) M))) ∧ (v2 = 1 → (RG W M) ∧ (∀ r12 : Int32, r12 = (w_undone W v1) → K r12 M))) ∧ (v2 = 0 → (RG W M) ∧ (∀ r13 : Int32, r13 = (w_force W v1 (w_n W)) → K r13 M))) ∧ (¬ ((0 : Int32) ≤ v2 ∧ v2 ≤ (2 : Int32)) → K (-2) M))) : B_X11_force G K 0 [(0, .ref 175), (1, .int v1), (2, .int v2)] [] M := by
  refine BT.iload_n dX11_force_0 rfl 1 rfl ?_
  refine BT.mcS [.int v1] (t_X11_isDay  ?_) mb_X11_isDay ms_X11_isDay lk_X11_156 rfl (by decide) rfl (Nat.le_of_ble_eq_true rfl) dX11_force_1
  show B_X11_force G K 4 [(0, .ref 175), (1, .int v1), (2, .int v2)] [.int (bi ((0 : Int32) ≤ v1 ∧ v1 ≤ 99))] M
  refine BT.if_eq (tgt := 19) dX11_force_4 (by decide) (fun c => ?_) (fun c => ?_)
  · have c2 := bi_eq0.mp c
    refine BT.bipush (v := (-2)) dX11_force_19 (by decide) ?_
    exact BT.iret dX11_force_21 rfl (by decide) (by decide) (h.1 c2)
  · have c3 := bi_ne0.mp c
    refine BT.iload_n dX11_force_7 rfl 2 rfl ?_
    refine BT.i2l dX11_force_8 ?_
    refine BT.lconst (v := 0) dX11_force_9 (by decide) ?_
    refine BT.ldc2 dX11_force_10 kc_X11_179 ?_
    refine BT.mcS [.long (Int32.toInt64 v2), .long 0, .long 2] (t_X11_in (x := v2) (y := (0 : Int32)) (z := (2 : Int32)) rfl (by decide) (by decide) ?_) mb_X11_in ms_X11_in lk_X11_86 rfl (by decide) rfl (Nat.le_of_ble_eq_true rfl) dX11_force_13
    show B_X11_force G K 16 [(0, .ref 175), (1, .int v1), (2, .int v2)] [.int (bi ((0 : Int32) ≤ v2 ∧ v2 ≤ (2 : Int32)))] M
    refine BT.if_ne (tgt := 22) dX11_force_16 (by decide) (fun c => ?_) (fun c => ?_)
    · have c4 := bi_ne0.mp c
      refine BT.iload_n dX11_force_22 rfl 2 rfl ?_
      refine BT.if_ne (tgt := 34) dX11_force_23 (by decide) (fun c => ?_) (fun c => ?_)
      · have c6 := c
        refine BT.iload_n dX11_force_34 rfl 2 rfl ?_
        refine BT.iconst (v := 1) dX11_force_35 (by decide) ?_
        refine BT.icmp_ne (tgt := 47) dX11_force_36 (by decide) (fun c => ?_) (fun c => ?_)
        · have c8 := c
          refine BT.aload_n dX11_force_47 rfl 0 rfl ?_
          refine BT.iload_n dX11_force_48 rfl 1 rfl ?_
          refine BT.mcVr [.int v1] (t_X11_forceOf ((((h.2 c3).1 c4).1 c6).1 c8).1 ⟨rfl, rfl⟩) mb_X11_forceOf mv_X11_forceOf lk_X11_176 rfl (by decide) rfl (recvRep ho_175 rfl) (Nat.le_of_ble_eq_true rfl) dX11_force_49 (fun r10 e10 => ?_)
          show B_X11_force G K 52 [(0, .ref 175), (1, .int v1), (2, .int v2)] [.int r10] M
          refine BT.aload_n dX11_force_52 rfl 0 rfl ?_
          refine BT.iload_n dX11_force_53 rfl 1 rfl ?_
          refine BT.mcVr [.int v1] (t_X11_undoneOf (((((h.2 c3).1 c4).1 c6).1 c8).2 r10 e10).1 ⟨rfl, rfl⟩) mb_X11_undoneOf mv_X11_undoneOf lk_X11_181 rfl (by decide) rfl (recvRep ho_175 rfl) (Nat.le_of_ble_eq_true rfl) dX11_force_54 (fun r11 e11 => ?_)
          show B_X11_force G K 57 [(0, .ref 175), (1, .int v1), (2, .int v2)] [.int r11, .int r10] M
          refine BT.iconst (v := (-1)) dX11_force_57 (by decide) ?_
          refine BT.ixor dX11_force_58 ?_
          refine BT.iand dX11_force_59 ?_
          exact BT.iret dX11_force_60 rfl (by decide) (by decide) ((((((h.2 c3).1 c4).1 c6).1 c8).2 r10 e10).2 r11 e11)
        · have c9 := c
          refine BT.aload_n dX11_force_39 rfl 0 rfl ?_
          refine BT.iload_n dX11_force_40 rfl 1 rfl ?_
          refine BT.mcVr [.int v1] (t_X11_undoneOf ((((h.2 c3).1 c4).1 c6).2 c9).1 ⟨rfl, rfl⟩) mb_X11_undoneOf mv_X11_undoneOf lk_X11_181 rfl (by decide) rfl (recvRep ho_175 rfl) (Nat.le_of_ble_eq_true rfl) dX11_force_41 (fun r12 e12 => ?_)
          show B_X11_force G K 44 [(0, .ref 175), (1, .int v1), (2, .int v2)] [.int r12] M
          refine BT.goto (tgt := 60) dX11_force_44 (by decide) ?_
          exact BT.iret dX11_force_60 rfl (by decide) (by decide) (((((h.2 c3).1 c4).1 c6).2 c9).2 r12 e12)
      · have c7 := c
        refine BT.aload_n dX11_force_26 rfl 0 rfl ?_
        refine BT.iload_n dX11_force_27 rfl 1 rfl ?_
        refine BT.mcVr [.int v1] (t_X11_forceOf (((h.2 c3).1 c4).2 c7).1 ⟨rfl, rfl⟩) mb_X11_forceOf mv_X11_forceOf lk_X11_176 rfl (by decide) rfl (recvRep ho_175 rfl) (Nat.le_of_ble_eq_true rfl) dX11_force_28 (fun r13 e13 => ?_)
        show B_X11_force G K 31 [(0, .ref 175), (1, .int v1), (2, .int v2)] [.int r13] M
        refine BT.goto (tgt := 60) dX11_force_31 (by decide) ?_
        exact BT.iret dX11_force_60 rfl (by decide) (by decide) ((((h.2 c3).1 c4).2 c7).2 r13 e13)
    · have c5 := bi_eq0.mp c
      refine BT.bipush (v := (-2)) dX11_force_19 (by decide) ?_
      exact BT.iret dX11_force_21 rfl (by decide) (by decide) ((h.2 c3).2 c5)

theorem t_X11_force {G : GT} {K : Int32 → Mem → Prop} {M : Mem} {W : WT} {v1 v2 : Int32} (hR : RG W M) (hQ : RP W M) (h : ∀ N, Zcr M N → K (a_force W v1 v2) N) : T_X11_force G [.ref 175, .int v1, .int v2] M K := by
  unfold a_force at h
  refine e_X11_force (k_X11_force_0 (W := W) ⟨fun c => ?_, fun c => ⟨fun c2 => ⟨fun c3 => ⟨fun c4 => ⟨hR, fun r10 e10 => ⟨hR, fun r11 e11 => ?_⟩⟩, fun c4 => ⟨hR, fun r12 e12 => ?_⟩⟩, fun c3 => ⟨hR, fun r13 e13 => ?_⟩⟩, fun c2 => ?_⟩⟩)
  · rw [sel_f c] at h; exact h _ Zcr.rf
  · rw [sel_t c, sel_t c2, sel_f c3, sel_f c4] at h; rw [e10, e11]; exact h _ Zcr.rf
  · rw [sel_t c, sel_t c2, sel_f c3, sel_t c4] at h; rw [e12]; exact h _ Zcr.rf
  · rw [sel_t c, sel_t c2, sel_t c3] at h; rw [e13]; exact h _ Zcr.rf
  · rw [sel_t c, sel_f c2] at h; exact h _ Zcr.rf

/-! BetweenLawsModel.taken(I)I -/
abbrev rm_X11_taken : Room := { frames := 6, cells := 0, slots := 0, locals := 144 }
abbrev B_X11_taken (G : GT) (K : Int32 → Mem → Prop) := BT G (Rep G) RX11 "taken" cX11_taken 5 (some .int) rm_X11_taken K 0 0
abbrev T_X11_taken (G : GT) (as : List Value) (M : Mem) (K : Int32 → Mem → Prop) : Prop := MT G (Rep G) yX11_taken cX11_taken 5 (some .int) rm_X11_taken as M K
theorem e_X11_taken {G : GT} {K : Int32 → Mem → Prop} {M : Mem} {v1 : Int32} (h : B_X11_taken G K 0 [(0, .ref 175), (1, .int v1)] [] M) : T_X11_taken G [.ref 175, .int v1] M K := MT.of (by decide +kernel) rfl rfl (Nat.le_of_ble_eq_true rfl) rfl h
set_option maxRecDepth 4000 in
theorem k_X11_taken_0 {G : GT} {K : Int32 → Mem → Prop} {M : Mem} {W : WT} {v1 : Int32} (h : (RG W M) ∧ (((0 : Int32) ≤ v1 ∧ v1 < W 8 1) → B_X11_taken G K 14 [(0, .ref 175), (1, .int v1), (2, .int 0), (3, .int 0)] [] M) ∧ (¬ ((0 : Int32) ≤ v1 ∧ v1 < W 8 1) → K (-1) M)) : B_X11_taken G K 0 [(0, .ref 175), (1, .int v1)] [] M := by
  refine BT.aload_n dX11_taken_0 rfl 0 rfl ?_
  refine BT.iload_n dX11_taken_1 rfl 1 rfl ?_
  refine BT.mcV [.int v1] (t_X11_isLaw h.1 ?_) mb_X11_isLaw mv_X11_isLaw lk_X11_169 rfl (by decide) rfl (recvRep ho_175 rfl) (Nat.le_of_ble_eq_true rfl) dX11_taken_2
  show B_X11_taken G K 5 [(0, .ref 175), (1, .int v1)] [.int (bi ((0 : Int32) ≤ v1 ∧ v1 < W 8 1))] M
  refine BT.if_ne (tgt := 10) dX11_taken_5 (by decide) (fun c => ?_) (fun c => ?_)
  · have c2 := bi_ne0.mp c
    refine BT.iconst (v := 0) dX11_taken_10 (by decide) ?_
    refine BT.istore_n (L' := [(2, .int 0), (0, .ref 175), (1, .int v1)]) dX11_taken_11 rfl (by decide) rfl ?_
    refine BT.iconst (v := 0) dX11_taken_12 (by decide) ?_
    refine BT.istore_n (L' := [(3, .int 0), (2, .int 0), (0, .ref 175), (1, .int v1)]) dX11_taken_13 rfl (by decide) rfl ?_
    refine BT.sub [2, 3, 1, 0] rfl ?_
    exact (h.2.1 c2)
  · have c3 := bi_eq0.mp c
    refine BT.iconst (v := (-1)) dX11_taken_8 (by decide) ?_
    exact BT.iret dX11_taken_9 rfl (by decide) (by decide) (h.2.2 c3)
set_option maxRecDepth 4000 in
theorem k_X11_taken_14 {G : GT} {K : Int32 → Mem → Prop} {M : Mem} {W : WT} {v1 : Int32} {v2 : Int32} {v3 : Int32} (h : ((M.1 175 26) ≤ v3 → K v2 M) ∧ (¬ (M.1 175 26) ≤ v3 → (vp_in v3 9) ∧ ((M.1 190 (Int32.toNatClampNeg v3)) < 0 → B_X11_taken G K 14 [(0, .ref 175), (1, .int v1), (2, .int (v2 ||| 0)), (3, .int (v3 + 1))] [] M) ∧ (¬ (M.1 190 (Int32.toNatClampNeg v3)) < 0 → (vp_in v3 9) ∧ (vp_in v1 8) ∧ ((M.1 177 (Int32.toNatClampNeg v1)) ≤ (M.1 190 (Int32.toNatClampNeg v3)) → B_X11_taken G K 14 [(0, .ref 175), (1, .int v1), (2, .int (v2 ||| 0)), (3, .int (v3 + 1))] [] M) ∧ (¬ (M.1 177 (Int32.toNatClampNeg v1)) ≤ (M.1 190 (Int32.toNatClampNeg v3)) → (vp_in v1 8) ∧ (RG W M) ∧ (PR W M v3) ∧ (∀ r7 : Int32, r7 = (w_gov W (zp v3) (c_dayOn W (zp v3) (M.1 177 (Int32.toNatClampNeg v1)))) → ∀ N7 : Mem, N7 = (m_i M 175 30 (w_gov2 W (zp v3) (c_dayOn W (zp v3) (M.1 177 (Int32.toNatClampNeg v1)))).2) → (¬ r7 = v1 → B_X11_taken G K 14 [(0, .ref 175), (1, .int v1), (2, .int (v2 ||| 0)), (3, .int (v3 + 1))] [] N7) ∧ (r7 = v1 → B_X11_taken G K 14 [(0, .ref 175), (1, .int v1), (2, .int (v2 ||| ((1 : Int32) <<< (v3 &&& 31)))), (3, .int (v3 + 1))] [] N7)))))) : B_X11_taken G K 14 [(0, .ref 175), (1, .int v1), (2, .int v2), (3, .int v3)] [] M := by
  refine BT.iload_n dX11_taken_14 rfl 3 rfl ?_
  refine BT.aload_n dX11_taken_15 rfl 0 rfl ?_
  refine BT.getI fl_X11_190 ho_175 rfl dX11_taken_16 ?_
  refine BT.icmp_ge (tgt := 89) dX11_taken_19 (by decide) (fun c => ?_) (fun c => ?_)
  · have c1 := c
    refine BT.iload_n dX11_taken_89 rfl 2 rfl ?_
    exact BT.iret dX11_taken_90 rfl (by decide) (by decide) (h.1 c1)
  · have c2 := c
    refine BT.aload_n dX11_taken_22 rfl 0 rfl ?_
    refine BT.getR (r := 190) fl_X11_56 ho_175 rfl dX11_taken_23 ?_
    refine BT.iload_n dX11_taken_26 rfl 3 rfl ?_
    refine BT.iald ha_190 (h.2 c2).1 dX11_taken_27 ?_
    refine BT.if_lt (tgt := 50) dX11_taken_28 (by decide) (fun c => ?_) (fun c => ?_)
    · have c3 := c
      refine BT.iconst (v := 0) dX11_taken_50 (by decide) ?_
      refine BT.istore (L' := [(4, .int 0), (0, .ref 175), (1, .int v1), (2, .int v2), (3, .int v3)]) dX11_taken_51 (by decide) rfl ?_
      refine BT.iload_n dX11_taken_53 rfl 3 rfl ?_
      refine BT.iload dX11_taken_54 0 rfl ?_
      refine BT.if_eq (tgt := 80) dX11_taken_56 (by decide) (fun _ => ?_) (fun c => absurd c (by decide))
      refine BT.iconst (v := 0) dX11_taken_80 (by decide) ?_
      refine BT.ior dX11_taken_81 ?_
      refine BT.istore_n (L' := [(2, .int (v2 ||| 0)), (4, .int 0), (0, .ref 175), (1, .int v1), (3, .int v3)]) dX11_taken_82 rfl (by decide) rfl ?_
      refine BT.iinc (j := 4) (v := (v3 + 1)) (L' := [(3, .int (v3 + 1)), (2, .int (v2 ||| 0)), (4, .int 0), (0, .ref 175), (1, .int v1)]) dX11_taken_83 rfl rfl (by decide) rfl ?_
      refine BT.goto (tgt := 14) dX11_taken_86 (by decide) ?_
      refine BT.sub [3, 4, 1, 0] rfl ?_
      exact ((h.2 c2).2.1 c3)
    · have c4 := c
      refine BT.aload_n dX11_taken_31 rfl 0 rfl ?_
      refine BT.getR (r := 190) fl_X11_56 ho_175 rfl dX11_taken_32 ?_
      refine BT.iload_n dX11_taken_35 rfl 3 rfl ?_
      refine BT.iald ha_190 ((h.2 c2).2.2 c4).1 dX11_taken_36 ?_
      refine BT.aload_n dX11_taken_37 rfl 0 rfl ?_
      refine BT.getR (r := 177) fl_X11_13 ho_175 rfl dX11_taken_38 ?_
      refine BT.iload_n dX11_taken_41 rfl 1 rfl ?_
      refine BT.iald ha_177 ((h.2 c2).2.2 c4).2.1 dX11_taken_42 ?_
      refine BT.icmp_ge (tgt := 50) dX11_taken_43 (by decide) (fun c => ?_) (fun c => ?_)
      · have c5 := c
        refine BT.iconst (v := 0) dX11_taken_50 (by decide) ?_
        refine BT.istore (L' := [(4, .int 0), (0, .ref 175), (1, .int v1), (2, .int v2), (3, .int v3)]) dX11_taken_51 (by decide) rfl ?_
        refine BT.iload_n dX11_taken_53 rfl 3 rfl ?_
        refine BT.iload dX11_taken_54 0 rfl ?_
        refine BT.if_eq (tgt := 80) dX11_taken_56 (by decide) (fun _ => ?_) (fun c => absurd c (by decide))
        refine BT.iconst (v := 0) dX11_taken_80 (by decide) ?_
        refine BT.ior dX11_taken_81 ?_
        refine BT.istore_n (L' := [(2, .int (v2 ||| 0)), (4, .int 0), (0, .ref 175), (1, .int v1), (3, .int v3)]) dX11_taken_82 rfl (by decide) rfl ?_
        refine BT.iinc (j := 4) (v := (v3 + 1)) (L' := [(3, .int (v3 + 1)), (2, .int (v2 ||| 0)), (4, .int 0), (0, .ref 175), (1, .int v1)]) dX11_taken_83 rfl rfl (by decide) rfl ?_
        refine BT.goto (tgt := 14) dX11_taken_86 (by decide) ?_
        refine BT.sub [3, 4, 1, 0] rfl ?_
        exact (((h.2 c2).2.2 c4).2.2.1 c5)
      · have c6 := c
        refine BT.iconst (v := 1) dX11_taken_46 (by decide) ?_
        refine BT.goto (tgt := 51) dX11_taken_47 (by decide) ?_
        refine BT.istore (L' := [(4, .int 1), (0, .ref 175), (1, .int v1), (2, .int v2), (3, .int v3)]) dX11_taken_51 (by decide) rfl ?_
        refine BT.iload_n dX11_taken_53 rfl 3 rfl ?_
        refine BT.iload dX11_taken_54 0 rfl ?_
        refine BT.if_eq (tgt := 80) dX11_taken_56 (by decide) (fun c => absurd c (by decide)) (fun _ => ?_)
        refine BT.aload_n dX11_taken_59 rfl 1 rfl ?_
        refine BT.iload_n dX11_taken_60 rfl 4 rfl ?_
        refine BT.aload_n dX11_taken_61 rfl 1 rfl ?_
        refine BT.getR (r := 177) fl_X11_13 ho_175 rfl dX11_taken_62 ?_
        refine BT.iload_n dX11_taken_65 rfl 2 rfl ?_
        refine BT.iald ha_177 (((h.2 c2).2.2 c4).2.2.2 c6).1 dX11_taken_66 ?_
        refine BT.mcVn [.int v3, .int (M.1 177 (Int32.toNatClampNeg v1))] (t_X11_governs0 (((h.2 c2).2.2 c4).2.2.2 c6).2.1 (((h.2 c2).2.2 c4).2.2.2 c6).2.2.1 ⟨rfl, rfl⟩) mb_X11_governs0 mv_X11_governs0 lk_X11_243 rfl (by decide) rfl (recvRep ho_175 rfl) (Nat.le_of_ble_eq_true rfl) dX11_taken_67 (fun r7 e7 N7 g7 => ?_)
        show B_X11_taken G K 70 [(4, .int 1), (0, .ref 175), (1, .int v1), (2, .int v2), (3, .int v3)] [.int r7, .int v2] N7
        refine BT.iload_n dX11_taken_70 rfl 2 rfl ?_
        refine BT.icmp_ne (tgt := 80) dX11_taken_71 (by decide) (fun c => ?_) (fun c => ?_)
        · have c8 := c
          refine BT.iconst (v := 0) dX11_taken_80 (by decide) ?_
          refine BT.ior dX11_taken_81 ?_
          refine BT.istore_n (L' := [(2, .int (v2 ||| 0)), (4, .int 1), (0, .ref 175), (1, .int v1), (3, .int v3)]) dX11_taken_82 rfl (by decide) rfl ?_
          refine BT.iinc (j := 4) (v := (v3 + 1)) (L' := [(3, .int (v3 + 1)), (2, .int (v2 ||| 0)), (4, .int 1), (0, .ref 175), (1, .int v1)]) dX11_taken_83 rfl rfl (by decide) rfl ?_
          refine BT.goto (tgt := 14) dX11_taken_86 (by decide) ?_
          refine BT.sub [3, 4, 1, 0] rfl ?_
          exact (((((h.2 c2).2.2 c4).2.2.2 c6).2.2.2 r7 e7 N7 g7).1 c8)
        · have c9 := c
          refine BT.iconst (v := 1) dX11_taken_74 (by decide) ?_
          refine BT.iload_n dX11_taken_75 rfl 4 rfl ?_
          refine BT.ishl dX11_taken_76 ?_
          refine BT.goto (tgt := 81) dX11_taken_77 (by decide) ?_
          refine BT.ior dX11_taken_81 ?_
          refine BT.istore_n (L' := [(2, .int (v2 ||| ((1 : Int32) <<< (v3 &&& 31)))), (4, .int 1), (0, .ref 175), (1, .int v1), (3, .int v3)]) dX11_taken_82 rfl (by decide) rfl ?_
          refine BT.iinc (j := 4) (v := (v3 + 1)) (L' := [(3, .int (v3 + 1)), (2, .int (v2 ||| ((1 : Int32) <<< (v3 &&& 31)))), (4, .int 1), (0, .ref 175), (1, .int v1)]) dX11_taken_83 rfl rfl (by decide) rfl ?_
          refine BT.goto (tgt := 14) dX11_taken_86 (by decide) ?_
          refine BT.sub [3, 4, 1, 0] rfl ?_
          exact (((((h.2 c2).2.2 c4).2.2.2 c6).2.2.2 r7 e7 N7 g7).2 c9)

theorem t_X11_taken {G : GT} {K : Int32 → Mem → Prop} {M : Mem} {W : WT} {v1 : Int32} (hR : RG W M) (hQ : RP W M) (h : ∀ N, Zcr M N → K (a_taken W v1) N) : T_X11_taken G [.ref 175, .int v1] M K := by
  unfold a_taken at h
  obtain ⟨hn, h9⟩ := hQ.n
  refine e_X11_taken (k_X11_taken_0 (W := W) ⟨hR, fun c => ?_, fun c => ?_⟩)
  · rw [sel_t c] at h
    obtain ⟨i1, i2, i3⟩ := hR.1.ix c
    have e177 := (hR.2.2.2.2.2 _ i1).1
    refine up_loop (P := fun j => ∀ N, Zcr M N → B_X11_taken G K 14 [(0, .ref 175), (1, .int v1), (2, .int (w_taken W v1 j)), (3, .int (nI j))] [] N) (w_p W) (fun N hN => ?_) (fun j hj ih N hN => ?_) 0 (Nat.zero_le _) M Zcr.rf
    · refine k_X11_taken_14 (W := W) ⟨fun _ => h N hN, fun c => ?_⟩
      rw [(hQ.z hN).n.1] at c
      exact absurd (Int32.le_refl _) c
    · unfold w_taken at ih
      obtain ⟨hP, ez⟩ := hQ.pc hj
      obtain ⟨p0, p1, ⟨q1, q2, q3, q4⟩, e0, e1, e2, e3⟩ := (hP.z hN).at
      have vp : vp_in (nI j) 9 := vp_nI (by omega) (by decide)
      have vl : vp_in v1 8 := vp8 i2 i3
      have eN : N.1 177 (Int32.toNatClampNeg v1) = W (10 + 5 * Int32.toNatClampNeg v1) 0 := by rw [hN.1 177 (by decide), e177]
      refine k_X11_taken_14 (W := W) ?_
      rw [(hQ.z hN).n.1, e1, eN, ez, nI_1]
      rw [ez] at q2
      refine ⟨fun c1 => ?_, fun _ => ⟨vp, fun c1 => ?_, fun c1 => ⟨vp, vl, fun c2 => ?_, fun c2 => ⟨vl, hR.z hN, hP.z hN, fun r7 e7 N7 g7 => ?_⟩⟩⟩⟩
      · rw [nI_leI (by omega) (by omega)] at c1
        omega
      · rw [sel_f (fun q => q.1 (q2.neg.mp c1))] at ih
        rw [Int32.or_zero]; exact ih N hN
      · rw [sel_f (fun q => Int32.not_lt.mpr c2 q.2.1)] at ih
        rw [Int32.or_zero]; exact ih N hN
      · have hN7 : Zcr M N7 := by rw [g7]; exact hN.mi (by decide)
        refine ⟨fun c3 => ?_, fun c3 => ?_⟩
        · rw [sel_f (fun q => c3 (by rw [e7]; exact q.2.2))] at ih
          rw [Int32.or_zero]; exact ih N7 hN7
        · rw [sel_t ⟨fun q => c1 (q2.neg.mpr q), Int32.not_le.mp c2, by rw [← e7]; exact c3⟩] at ih
          exact ih N7 hN7
  · rw [sel_f c] at h; exact h _ Zcr.rf

/-! BetweenLawsModel.brief(I)I -/
abbrev rm_X11_brief : Room := { frames := 1, cells := 0, slots := 0, locals := 25 }
abbrev B_X11_brief (G : GT) (K : Int32 → Mem → Prop) := BT G (Rep G) RX11 "brief" cX11_brief 4 (some .int) rm_X11_brief K 0 0
abbrev T_X11_brief (G : GT) (as : List Value) (M : Mem) (K : Int32 → Mem → Prop) : Prop := MT G (Rep G) yX11_brief cX11_brief 4 (some .int) rm_X11_brief as M K
theorem e_X11_brief {G : GT} {K : Int32 → Mem → Prop} {M : Mem} {v1 : Int32} (h : B_X11_brief G K 0 [(0, .ref 175), (1, .int v1)] [] M) : T_X11_brief G [.ref 175, .int v1] M K := MT.of (by decide +kernel) rfl rfl (Nat.le_of_ble_eq_true rfl) rfl h
set_option maxRecDepth 4000 in
theorem k_X11_brief_0 {G : GT} {K : Int32 → Mem → Prop} {M : Mem} {v1 : Int32} (h : (((0 : Int32) ≤ v1 ∧ v1 ≤ (1 : Int32)) → (¬ (M.1 175 18) = 0 → B_X11_brief G K 27 [(0, .ref 175), (1, .int v1), (2, .int 0), (3, .int 1)] [] M) ∧ ((M.1 175 18) = 0 → K (-3) M)) ∧ (¬ ((0 : Int32) ≤ v1 ∧ v1 ≤ (1 : Int32)) → K (-2) M)) : B_X11_brief G K 0 [(0, .ref 175), (1, .int v1)] [] M := by
  refine BT.iload_n dX11_brief_0 rfl 1 rfl ?_
  refine BT.i2l dX11_brief_1 ?_
  refine BT.lconst (v := 0) dX11_brief_2 (by decide) ?_
  refine BT.lconst (v := 1) dX11_brief_3 (by decide) ?_
  refine BT.mcS [.long (Int32.toInt64 v1), .long 0, .long 1] (t_X11_in (x := v1) (y := (0 : Int32)) (z := (1 : Int32)) rfl (by decide) (by decide) ?_) mb_X11_in ms_X11_in lk_X11_86 rfl (by decide) rfl (Nat.le_of_ble_eq_true rfl) dX11_brief_4
  show B_X11_brief G K 7 [(0, .ref 175), (1, .int v1)] [.int (bi ((0 : Int32) ≤ v1 ∧ v1 ≤ (1 : Int32)))] M
  refine BT.if_ne (tgt := 13) dX11_brief_7 (by decide) (fun c => ?_) (fun c => ?_)
  · have c1 := bi_ne0.mp c
    refine BT.aload_n dX11_brief_13 rfl 0 rfl ?_
    refine BT.getI fl_X11_149 ho_175 rfl dX11_brief_14 ?_
    refine BT.if_ne (tgt := 23) dX11_brief_17 (by decide) (fun c => ?_) (fun c => ?_)
    · have c3 := c
      refine BT.iconst (v := 0) dX11_brief_23 (by decide) ?_
      refine BT.istore_n (L' := [(2, .int 0), (0, .ref 175), (1, .int v1)]) dX11_brief_24 rfl (by decide) rfl ?_
      refine BT.iconst (v := 1) dX11_brief_25 (by decide) ?_
      refine BT.istore_n (L' := [(3, .int 1), (2, .int 0), (0, .ref 175), (1, .int v1)]) dX11_brief_26 rfl (by decide) rfl ?_
      refine BT.sub [2, 3, 1, 0] rfl ?_
      exact ((h.1 c1).1 c3)
    · have c4 := c
      refine BT.bipush (v := (-3)) dX11_brief_20 (by decide) ?_
      exact BT.iret dX11_brief_22 rfl (by decide) (by decide) ((h.1 c1).2 c4)
  · have c2 := bi_eq0.mp c
    refine BT.bipush (v := (-2)) dX11_brief_10 (by decide) ?_
    exact BT.iret dX11_brief_12 rfl (by decide) (by decide) (h.2 c2)
set_option maxRecDepth 4000 in
theorem k_X11_brief_27 {G : GT} {K : Int32 → Mem → Prop} {M : Mem} {v1 : Int32} {v2 : Int32} {v3 : Int32} (h : ((M.1 175 18) ≤ v3 → (¬ v1 = 0 → (vp_in v2 8) ∧ (vp_in v2 8) ∧ K ((M.1 178 (Int32.toNatClampNeg v2)) - (M.1 177 (Int32.toNatClampNeg v2))) M) ∧ (v1 = 0 → K v2 M)) ∧ (¬ (M.1 175 18) ≤ v3 → (vp_in v3 8) ∧ (vp_in v3 8) ∧ (vp_in v2 8) ∧ (vp_in v2 8) ∧ (((M.1 178 (Int32.toNatClampNeg v2)) - (M.1 177 (Int32.toNatClampNeg v2))) ≤ ((M.1 178 (Int32.toNatClampNeg v3)) - (M.1 177 (Int32.toNatClampNeg v3))) → B_X11_brief G K 27 [(0, .ref 175), (1, .int v1), (2, .int v2), (3, .int (v3 + 1))] [] M) ∧ (¬ ((M.1 178 (Int32.toNatClampNeg v2)) - (M.1 177 (Int32.toNatClampNeg v2))) ≤ ((M.1 178 (Int32.toNatClampNeg v3)) - (M.1 177 (Int32.toNatClampNeg v3))) → B_X11_brief G K 27 [(0, .ref 175), (1, .int v1), (2, .int v3), (3, .int (v3 + 1))] [] M))) : B_X11_brief G K 27 [(0, .ref 175), (1, .int v1), (2, .int v2), (3, .int v3)] [] M := by
  refine BT.iload_n dX11_brief_27 rfl 3 rfl ?_
  refine BT.aload_n dX11_brief_28 rfl 0 rfl ?_
  refine BT.getI fl_X11_149 ho_175 rfl dX11_brief_29 ?_
  refine BT.icmp_ge (tgt := 76) dX11_brief_32 (by decide) (fun c => ?_) (fun c => ?_)
  · have c1 := c
    refine BT.iload_n dX11_brief_76 rfl 1 rfl ?_
    refine BT.if_ne (tgt := 84) dX11_brief_77 (by decide) (fun c => ?_) (fun c => ?_)
    · have c3 := c
      refine BT.aload_n dX11_brief_84 rfl 0 rfl ?_
      refine BT.getR (r := 178) fl_X11_16 ho_175 rfl dX11_brief_85 ?_
      refine BT.iload_n dX11_brief_88 rfl 2 rfl ?_
      refine BT.iald ha_178 ((h.1 c1).1 c3).1 dX11_brief_89 ?_
      refine BT.aload_n dX11_brief_90 rfl 0 rfl ?_
      refine BT.getR (r := 177) fl_X11_13 ho_175 rfl dX11_brief_91 ?_
      refine BT.iload_n dX11_brief_94 rfl 2 rfl ?_
      refine BT.iald ha_177 ((h.1 c1).1 c3).2.1 dX11_brief_95 ?_
      refine BT.isub dX11_brief_96 ?_
      exact BT.iret dX11_brief_97 rfl (by decide) (by decide) ((h.1 c1).1 c3).2.2
    · have c4 := c
      refine BT.iload_n dX11_brief_80 rfl 2 rfl ?_
      refine BT.goto (tgt := 97) dX11_brief_81 (by decide) ?_
      exact BT.iret dX11_brief_97 rfl (by decide) (by decide) ((h.1 c1).2 c4)
  · have c2 := c
    refine BT.aload_n dX11_brief_35 rfl 0 rfl ?_
    refine BT.getR (r := 178) fl_X11_16 ho_175 rfl dX11_brief_36 ?_
    refine BT.iload_n dX11_brief_39 rfl 3 rfl ?_
    refine BT.iald ha_178 (h.2 c2).1 dX11_brief_40 ?_
    refine BT.aload_n dX11_brief_41 rfl 0 rfl ?_
    refine BT.getR (r := 177) fl_X11_13 ho_175 rfl dX11_brief_42 ?_
    refine BT.iload_n dX11_brief_45 rfl 3 rfl ?_
    refine BT.iald ha_177 (h.2 c2).2.1 dX11_brief_46 ?_
    refine BT.isub dX11_brief_47 ?_
    refine BT.aload_n dX11_brief_48 rfl 0 rfl ?_
    refine BT.getR (r := 178) fl_X11_16 ho_175 rfl dX11_brief_49 ?_
    refine BT.iload_n dX11_brief_52 rfl 2 rfl ?_
    refine BT.iald ha_178 (h.2 c2).2.2.1 dX11_brief_53 ?_
    refine BT.aload_n dX11_brief_54 rfl 0 rfl ?_
    refine BT.getR (r := 177) fl_X11_13 ho_175 rfl dX11_brief_55 ?_
    refine BT.iload_n dX11_brief_58 rfl 2 rfl ?_
    refine BT.iald ha_177 (h.2 c2).2.2.2.1 dX11_brief_59 ?_
    refine BT.isub dX11_brief_60 ?_
    refine BT.icmp_ge (tgt := 68) dX11_brief_61 (by decide) (fun c => ?_) (fun c => ?_)
    · have c5 := c
      refine BT.iload_n dX11_brief_68 rfl 2 rfl ?_
      refine BT.istore_n (L' := [(2, .int v2), (0, .ref 175), (1, .int v1), (3, .int v3)]) dX11_brief_69 rfl (by decide) rfl ?_
      refine BT.iinc (j := 3) (v := (v3 + 1)) (L' := [(3, .int (v3 + 1)), (2, .int v2), (0, .ref 175), (1, .int v1)]) dX11_brief_70 rfl rfl (by decide) rfl ?_
      refine BT.goto (tgt := 27) dX11_brief_73 (by decide) ?_
      refine BT.sub [2, 3, 1, 0] rfl ?_
      exact ((h.2 c2).2.2.2.2.1 c5)
    · have c6 := c
      refine BT.iload_n dX11_brief_64 rfl 3 rfl ?_
      refine BT.goto (tgt := 69) dX11_brief_65 (by decide) ?_
      refine BT.istore_n (L' := [(2, .int v3), (0, .ref 175), (1, .int v1), (3, .int v3)]) dX11_brief_69 rfl (by decide) rfl ?_
      refine BT.iinc (j := 3) (v := (v3 + 1)) (L' := [(3, .int (v3 + 1)), (2, .int v3), (0, .ref 175), (1, .int v1)]) dX11_brief_70 rfl rfl (by decide) rfl ?_
      refine BT.goto (tgt := 27) dX11_brief_73 (by decide) ?_
      refine BT.sub [2, 3, 1, 0] rfl ?_
      exact ((h.2 c2).2.2.2.2.2 c6)

theorem t_X11_brief {G : GT} {K : Int32 → Mem → Prop} {M : Mem} {W : WT} {v1 : Int32} (hR : RG W M) (h : K (a_brief W v1) M) : T_X11_brief G [.ref 175, .int v1] M K := by
  unfold a_brief at h
  obtain ⟨h1, h2, h8⟩ := hR.n
  refine e_X11_brief (k_X11_brief_0 ⟨fun c => ⟨fun c2 => ?_, fun c2 => ?_⟩, fun c => ?_⟩)
  · rw [sel_t c, sel_f (by rw [← hR.2.1]; exact c2)] at h
    have h0 : 0 < w_n W := by
      rcases Nat.eq_zero_or_pos (w_n W) with z | z
      · rw [h1, z] at c2; exact absurd rfl c2
      · exact z
    have e : ∀ l, l < w_n W → M.1 178 l - M.1 177 l = W (10 + 5 * l) 1 - W (10 + 5 * l) 0 := fun l hl => by
      obtain ⟨r1, r2, -⟩ := hR.2.2.2.2.2 l hl
      rw [r1, r2]
    have e0 : w_brief W 1 = 0 := by
      show sel _ _ _ = 0
      unfold sel; split <;> rfl
    have key := up_loop (P := fun j => 1 ≤ j → B_X11_brief G K 27 [(0, .ref 175), (1, .int v1), (2, .int (nI (w_brief W j))), (3, .int (nI j))] [] M) (w_n W) (fun _ => ?_) (fun j hj ih hj1 => ?_) 1 h0 (Nat.le_refl 1)
    · rw [e0] at key; exact key
    · have hb := w_brief_lt W _ h0
      have vp : vp_in (nI (w_brief W (w_n W))) 8 := vp_nI (by omega) (by decide)
      refine k_X11_brief_27 ⟨fun _ => ⟨fun c3 => ⟨vp, vp, ?_⟩, fun c3 => ?_⟩, fun c3 => absurd (by rw [h1]; exact Int32.le_refl _) c3⟩
      · rw [sel_f c3] at h
        rw [ix_nI (by omega), e _ hb]; exact h
      · rw [sel_t c3] at h; exact h
    · have hb := w_brief_lt W j hj1
      have vp : vp_in (nI (w_brief W j)) 8 := vp_nI (by omega) (by decide)
      have vj : vp_in (nI j) 8 := vp_nI (by omega) (by decide)
      have ih := ih (by omega)
      unfold w_brief at ih
      refine k_X11_brief_27 ?_
      rw [h1, ix_nI (by omega), ix_nI (by omega), e _ hj, e _ (by omega), nI_1]
      refine ⟨fun c3 => ?_, fun _ => ⟨vj, vj, vp, vp, fun c3 => ?_, fun c3 => ?_⟩⟩
      · rw [nI_leI (by omega) (by omega)] at c3; omega
      · rw [sel_t c3] at ih; exact ih
      · rw [sel_f c3] at ih; exact ih
  · rw [sel_t c, sel_t (by rw [← hR.2.1]; exact c2)] at h; exact h
  · rw [sel_f c] at h; exact h

