/-! ===== 68.steps5 ===== -/
/-! BetweenLaws.image(I)I -/
abbrev rm_X10_image : Room := { frames := 4, cells := 0, slots := 0, locals := 90 }
abbrev B_X10_image (G : GT) (K : Int32 → Mem → Prop) := BT G (Rep G) RX10 "image" cX10_image 2 (some .int) rm_X10_image K 0 0
abbrev T_X10_image (G : GT) (as : List Value) (M : Mem) (K : Int32 → Mem → Prop) : Prop := MT G (Rep G) yX10_image cX10_image 2 (some .int) rm_X10_image as M K
theorem e_X10_image {G : GT} {K : Int32 → Mem → Prop} {M : Mem} {v1 : Int32} (h : B_X10_image G K 0 [(0, .ref 0), (1, .int v1)] [] M) : T_X10_image G [.ref 0, .int v1] M K := MT.of (by decide +kernel) rfl rfl (Nat.le_of_ble_eq_true rfl) rfl h
set_option maxRecDepth 4000 in
theorem k_X10_image_0 {G : GT} {K : Int32 → Mem → Prop} {M : Mem} {v1 : Int32} (h : ((0 ≤ v1 ∧ v1 ≤ 1) → (vp_in v1 2) ∧ ((61 + 52 * (Int32.toNatClampNeg v1)) + 52 ≤ 8 ∨ 8 + 52 ≤ (61 + 52 * (Int32.toNatClampNeg v1))) ∧ (∃ n p, n ≤ 8 ∧ p ≤ 8 ∧ M.1 8 1 = nI n ∧ M.1 8 4 = nI p ∧ ∀ l, l < n → M.1 ((8 + 2) + 5 * l) 10 = 0 ∨ M.1 ((8 + 2) + 5 * l) 10 = 1) ∧ (∀ N4 : Mem, (WdN M N4 (61 + 52 * (Int32.toNatClampNeg v1)) 8 (Int32.toNatClampNeg (M.1 8 1)) (Int32.toNatClampNeg (M.1 8 4))) → (vp_in v1 2) ∧ K 1 (m_i N4 165 (Int32.toNatClampNeg v1) 1))) ∧ (¬ (0 ≤ v1 ∧ v1 ≤ 1) → K (-2) M)) : B_X10_image G K 0 [(0, .ref 0), (1, .int v1)] [] M := by
  refine BT.iload_n dX10_image_0 rfl 1 rfl ?_
  refine BT.iconst (v := 0) dX10_image_1 (by decide) ?_
  refine BT.iconst (v := 1) dX10_image_2 (by decide) ?_
  refine BT.mcS [.int v1, .int 0, .int 1] (t_X10_within  ?_) mb_X10_within ms_X10_within lk_X10_82 rfl (by decide) rfl (Nat.le_of_ble_eq_true rfl) dX10_image_3
  show B_X10_image G K 6 [(0, .ref 0), (1, .int v1)] [.int (bi (0 ≤ v1 ∧ v1 ≤ 1))] M
  refine BT.if_ne (tgt := 12) dX10_image_6 (by decide) (fun c => ?_) (fun c => ?_)
  · have c2 := bi_ne0.mp c
    refine BT.aload_n dX10_image_12 rfl 0 rfl ?_
    refine BT.getR (r := 60) fl_X10_30 ho_0 rfl dX10_image_13 ?_
    refine BT.iload_n dX10_image_16 rfl 1 rfl ?_
    refine BT.aald ha_60 (by decide) (h.1 c2).1 dX10_image_17 ?_
    refine BT.aload_n dX10_image_18 rfl 0 rfl ?_
    refine BT.getR (r := 8) fl_X10_26 ho_0 rfl dX10_image_19 ?_
    refine BT.mcVvp [.ref 8] (t_X9_copyFrom (worldC2 (h.1 c2).1) worldC_8 (h.1 c2).2.1 (h.1 c2).2.2.1 (fun N hN => ⟨rfl, hN⟩)) mb_X9_copyFrom mv_X9_copyFrom lk_X10_329 rfl (by decide) rfl (recvRep (worldC2 (h.1 c2).1).1 rfl) (Nat.le_of_ble_eq_true rfl) dX10_image_22 (P := fun N4 => WdN M N4 (61 + 52 * (Int32.toNatClampNeg v1)) 8 (Int32.toNatClampNeg (M.1 8 1)) (Int32.toNatClampNeg (M.1 8 4))) (fun N4 g4 => ?_)
    show B_X10_image G K 25 [(0, .ref 0), (1, .int v1)] [] N4
    refine BT.aload_n dX10_image_25 rfl 0 rfl ?_
    refine BT.getR (r := 165) fl_X10_34 ho_0 rfl dX10_image_26 ?_
    refine BT.iload_n dX10_image_29 rfl 1 rfl ?_
    refine BT.iconst (v := 1) dX10_image_30 (by decide) ?_
    refine BT.zast ha_165 ((h.1 c2).2.2.2 N4 g4).1 (Or.inr rfl) dX10_image_31 ?_
    refine BT.iconst (v := 1) dX10_image_32 (by decide) ?_
    exact BT.iret dX10_image_33 rfl (by decide) (by decide) ((h.1 c2).2.2.2 N4 g4).2
  · have c3 := bi_eq0.mp c
    refine BT.bipush (v := (-2)) dX10_image_9 (by decide) ?_
    exact BT.iret dX10_image_11 rfl (by decide) (by decide) (h.2 c3)

theorem t_X10_image {G : GT} {K : Int32 → Mem → Prop} {M : Mem} {v1 : Int32} (hT : ∃ n p, n ≤ 8 ∧ p ≤ 8 ∧ M.1 8 1 = nI n ∧ M.1 8 4 = nI p ∧ ∀ l, l < n → M.1 ((8 + 2) + 5 * l) 10 = 0 ∨ M.1 ((8 + 2) + 5 * l) 10 = 1) (h1 : ¬ ((0 : Int32) ≤ v1 ∧ v1 ≤ 1) → K (-2) M) (hok : ((0 : Int32) ≤ v1 ∧ v1 ≤ 1) → ∀ N, WdN M N (61 + 52 * Int32.toNatClampNeg v1) 8 (Int32.toNatClampNeg (M.1 8 1)) (Int32.toNatClampNeg (M.1 8 4)) → K 1 (m_i N 165 (Int32.toNatClampNeg v1) 1)) : T_X10_image G [.ref 0, .int v1] M K := by
  refine e_X10_image (k_X10_image_0 ⟨fun c => ?_, fun c => h1 c⟩)
  have hok := hok c
  obtain ⟨w, hw, rfl⟩ := w_of c
  have vw : vp_in (nI w) 2 := vp_nI hw (by decide)
  exact ⟨vw, by omega, hT, fun N4 g4 => ⟨vw, hok N4 g4⟩⟩

/-! BetweenLaws.restore(I)I -/
abbrev rm_X10_restore : Room := { frames := 4, cells := 0, slots := 0, locals := 90 }
abbrev B_X10_restore (G : GT) (K : Int32 → Mem → Prop) := BT G (Rep G) RX10 "restore" cX10_restore 2 (some .int) rm_X10_restore K 0 0
abbrev T_X10_restore (G : GT) (as : List Value) (M : Mem) (K : Int32 → Mem → Prop) : Prop := MT G (Rep G) yX10_restore cX10_restore 2 (some .int) rm_X10_restore as M K
theorem e_X10_restore {G : GT} {K : Int32 → Mem → Prop} {M : Mem} {v1 : Int32} (h : B_X10_restore G K 0 [(0, .ref 0), (1, .int v1)] [] M) : T_X10_restore G [.ref 0, .int v1] M K := MT.of (by decide +kernel) rfl rfl (Nat.le_of_ble_eq_true rfl) rfl h
set_option maxRecDepth 4000 in
theorem k_X10_restore_0 {G : GT} {K : Int32 → Mem → Prop} {M : Mem} {v1 : Int32} (h : ((0 ≤ v1 ∧ v1 ≤ 1) → (vp_in v1 2) ∧ (¬ (M.1 165 (Int32.toNatClampNeg v1)) = 0 → (vp_in v1 2) ∧ (8 + 52 ≤ (61 + 52 * (Int32.toNatClampNeg v1)) ∨ (61 + 52 * (Int32.toNatClampNeg v1)) + 52 ≤ 8) ∧ (∃ n p, n ≤ 8 ∧ p ≤ 8 ∧ M.1 (61 + 52 * (Int32.toNatClampNeg v1)) 1 = nI n ∧ M.1 (61 + 52 * (Int32.toNatClampNeg v1)) 4 = nI p ∧ ∀ l, l < n → M.1 (((61 + 52 * (Int32.toNatClampNeg v1)) + 2) + 5 * l) 10 = 0 ∨ M.1 (((61 + 52 * (Int32.toNatClampNeg v1)) + 2) + 5 * l) 10 = 1) ∧ (∀ N6 : Mem, (WdN M N6 8 (61 + 52 * (Int32.toNatClampNeg v1)) (Int32.toNatClampNeg (M.1 (61 + 52 * (Int32.toNatClampNeg v1)) 1)) (Int32.toNatClampNeg (M.1 (61 + 52 * (Int32.toNatClampNeg v1)) 4))) → K 1 N6)) ∧ ((M.1 165 (Int32.toNatClampNeg v1)) = 0 → K (-3) M)) ∧ (¬ (0 ≤ v1 ∧ v1 ≤ 1) → K (-2) M)) : B_X10_restore G K 0 [(0, .ref 0), (1, .int v1)] [] M := by
  refine BT.iload_n dX10_restore_0 rfl 1 rfl ?_
  refine BT.iconst (v := 0) dX10_restore_1 (by decide) ?_
  refine BT.iconst (v := 1) dX10_restore_2 (by decide) ?_
  refine BT.mcS [.int v1, .int 0, .int 1] (t_X10_within  ?_) mb_X10_within ms_X10_within lk_X10_82 rfl (by decide) rfl (Nat.le_of_ble_eq_true rfl) dX10_restore_3
  show B_X10_restore G K 6 [(0, .ref 0), (1, .int v1)] [.int (bi (0 ≤ v1 ∧ v1 ≤ 1))] M
  refine BT.if_ne (tgt := 12) dX10_restore_6 (by decide) (fun c => ?_) (fun c => ?_)
  · have c2 := bi_ne0.mp c
    refine BT.aload_n dX10_restore_12 rfl 0 rfl ?_
    refine BT.getR (r := 165) fl_X10_34 ho_0 rfl dX10_restore_13 ?_
    refine BT.iload_n dX10_restore_16 rfl 1 rfl ?_
    refine BT.zald ha_165 (h.1 c2).1 dX10_restore_17 ?_
    refine BT.if_ne (tgt := 24) dX10_restore_18 (by decide) (fun c => ?_) (fun c => ?_)
    · have c4 := c
      refine BT.aload_n dX10_restore_24 rfl 0 rfl ?_
      refine BT.getR (r := 8) fl_X10_26 ho_0 rfl dX10_restore_25 ?_
      refine BT.aload_n dX10_restore_28 rfl 0 rfl ?_
      refine BT.getR (r := 60) fl_X10_30 ho_0 rfl dX10_restore_29 ?_
      refine BT.iload_n dX10_restore_32 rfl 1 rfl ?_
      refine BT.aald ha_60 (by decide) ((h.1 c2).2.1 c4).1 dX10_restore_33 ?_
      refine BT.mcVvp [.ref (61 + 52 * (Int32.toNatClampNeg v1))] (t_X9_copyFrom worldC_8 (worldC2 ((h.1 c2).2.1 c4).1) ((h.1 c2).2.1 c4).2.1 ((h.1 c2).2.1 c4).2.2.1 (fun N hN => ⟨rfl, hN⟩)) mb_X9_copyFrom mv_X9_copyFrom lk_X10_329 rfl (by decide) rfl (recvRep ho_8 rfl) (Nat.le_of_ble_eq_true rfl) dX10_restore_34 (P := fun N6 => WdN M N6 8 (61 + 52 * (Int32.toNatClampNeg v1)) (Int32.toNatClampNeg (M.1 (61 + 52 * (Int32.toNatClampNeg v1)) 1)) (Int32.toNatClampNeg (M.1 (61 + 52 * (Int32.toNatClampNeg v1)) 4))) (fun N6 g6 => ?_)
      show B_X10_restore G K 37 [(0, .ref 0), (1, .int v1)] [] N6
      refine BT.iconst (v := 1) dX10_restore_37 (by decide) ?_
      exact BT.iret dX10_restore_38 rfl (by decide) (by decide) (((h.1 c2).2.1 c4).2.2.2 N6 g6)
    · have c5 := c
      refine BT.bipush (v := (-3)) dX10_restore_21 (by decide) ?_
      exact BT.iret dX10_restore_23 rfl (by decide) (by decide) ((h.1 c2).2.2 c5)
  · have c3 := bi_eq0.mp c
    refine BT.bipush (v := (-2)) dX10_restore_9 (by decide) ?_
    exact BT.iret dX10_restore_11 rfl (by decide) (by decide) (h.2 c3)

theorem t_X10_restore {G : GT} {K : Int32 → Mem → Prop} {M : Mem} {v1 : Int32} (h1 : ¬ ((0 : Int32) ≤ v1 ∧ v1 ≤ 1) → K (-2) M) (h2 : ((0 : Int32) ≤ v1 ∧ v1 ≤ 1) → M.1 165 (Int32.toNatClampNeg v1) = 0 → K (-3) M) (hT : ((0 : Int32) ≤ v1 ∧ v1 ≤ 1) → ¬ M.1 165 (Int32.toNatClampNeg v1) = 0 → ∃ n p, n ≤ 8 ∧ p ≤ 8 ∧ M.1 (61 + 52 * Int32.toNatClampNeg v1) 1 = nI n ∧ M.1 (61 + 52 * Int32.toNatClampNeg v1) 4 = nI p ∧ ∀ l, l < n → M.1 (((61 + 52 * Int32.toNatClampNeg v1) + 2) + 5 * l) 10 = 0 ∨ M.1 (((61 + 52 * Int32.toNatClampNeg v1) + 2) + 5 * l) 10 = 1) (hok : ((0 : Int32) ≤ v1 ∧ v1 ≤ 1) → ¬ M.1 165 (Int32.toNatClampNeg v1) = 0 → ∀ N, WdN M N 8 (61 + 52 * Int32.toNatClampNeg v1) (Int32.toNatClampNeg (M.1 (61 + 52 * Int32.toNatClampNeg v1) 1)) (Int32.toNatClampNeg (M.1 (61 + 52 * Int32.toNatClampNeg v1) 4)) → K 1 N) : T_X10_restore G [.ref 0, .int v1] M K := by
  refine e_X10_restore (k_X10_restore_0 ⟨fun c => ?_, fun c => h1 c⟩)
  have hok := hok c
  have h2 := h2 c
  have hT := hT c
  obtain ⟨w, hw, rfl⟩ := w_of c
  have vw : vp_in (nI w) 2 := vp_nI hw (by decide)
  exact ⟨vw, fun c2 => ⟨vw, by omega, hT c2, fun N6 g6 => hok c2 N6 g6⟩, fun c2 => h2 c2⟩

theorem LwEq_view {A B V W : WT} {a o c d : Nat} (h : TxEq A a B o) (h0 : A a 0 = B o 0) (h1 : A a 1 = B o 1) (eV : ∀ i, i ≤ 4 → V (c + i) = A (a + i)) (eW : ∀ i, i ≤ 4 → W (d + i) = B (o + i)) : LwEq V c W d := by
  have v0 : V c = A a := eV 0 (by omega)
  have w0 : W d = B o := eW 0 (by omega)
  unfold LwEq TxEq
  rw [v0, w0, eV 1 (by omega), eV 2 (by omega), eV 3 (by omega), eV 4 (by omega), eW 1 (by omega), eW 2 (by omega), eW 3 (by omega), eW 4 (by omega)]
  exact ⟨h, h0, h1⟩
theorem iw_fun {N : Mem} {w c e : Nat} (h : c < 60) (he : 53 + 52 * w + c = e) : iw N w c = N.1 e := by
  funext k
  rw [iw_at h, he]
theorem wv_fun {N : Mem} {c : Nat} (h : c < 60) : wv N c = N.1 c := by
  funext k
  exact wv_at (by omega)
/-- the images, where what they hold is as it was -/
theorem img_keep {M P : Mem} {w : Nat} (hw : w < 2) (hI : INV M) (q : ¬ M.1 165 w = 0) (f : ∀ c, 61 + 52 * w ≤ c → c < 113 + 52 * w → P.1 c = M.1 c) (fk : ∀ c k, PkR c k → P.1 197 (400 * w + pos c k) = M.1 197 (400 * w + pos c k)) : Tells (iw P w) (unpZ (P.1 197) (400 * w)) := by
  obtain ⟨-, -, i3⟩ := hI.2.2.2 w hw
  have i3 := i3 q
  have n8 := i3.1.1.2
  have p8 := i3.1.2.1.2
  refine Tells_eq i3 (fun k _ => ?_) (fun i _ => ?_) (fun l _ => LwEq.same (fun d h1 h2 => ?_)) (fun p _ k _ => ?_) (fun c k hc => fk c k hc)
  · rw [iw_at (by omega), iw_at (by omega), f _ (by omega) (by omega)]
  · rw [iw_at (by omega), iw_at (by omega), f _ (by omega) (by omega)]
  · funext k
    rw [iw_at (by omega), iw_at (by omega), f _ (by omega) (by omega)]
  · rw [iw_at (by omega), iw_at (by omega), f _ (by omega) (by omega)]
theorem s_image {G : GT} {M : Mem} {v1 : Int32} (hI : INV M) : T_X10_image G [.ref 0, .int v1] M (fun r N => T_X11_image G [.ref 175, .int v1] N (fun r' P => r' = r ∧ INV P)) := by
  obtain ⟨e18, e81, e26, e84⟩ := hI.n18
  have hT := hI.1
  have n8 := hT.1.1.2
  have p8 := hT.1.2.1.2
  refine t_X10_image ⟨w_n (wv M), w_p (wv M), n8, p8, e81, e84, fun l hl => ?_⟩ (fun c => t_X11_image (fun _ => ⟨rfl, hI⟩) (fun z => absurd z c)) (fun c N hN => t_X11_image (fun z => absurd c z) (fun _ P hP => ⟨rfl, ?_⟩))
  · have := hT.q01 l hl
    rw [wv_at (by omega)] at this
    exact this
  obtain ⟨w, hw, rfl⟩ := w_of c
  rw [ix_nI (by omega)] at hN hP
  rw [e81, e84, ix_nI (by omega), ix_nI (by omega)] at hN
  obtain ⟨d1, d2, d3, d4, d5, d6, d7, d8, d9, d10⟩ := hN
  obtain ⟨q1, q2, q3, q4, q5, q6, q7⟩ := hP
  have m1 : ∀ c, ¬ c = 165 → (m_i N 165 w 1).1 c = N.1 c := fun c hc => mi_off hc
  have hM : ∀ c, ¬ (61 + 52 * w ≤ c ∧ c < 113 + 52 * w) → ¬ c = 165 → (m_i N 165 w 1).1 c = M.1 c := fun c hc hc2 => by
    rw [m1 c hc2, d1 c (by omega)]
  have lo : ∀ c, c < 175 → P.1 c = (m_i N 165 w 1).1 c := fun c hc => q2 c (by omega)
  have pk : ∀ c k, PkR c k → P.1 c k = M.1 c k := fun c k hk => by
    have hk2 := hk
    unfold PkR at hk2
    rw [(q1 c k hk).1, hM c (by omega) (by omega)]
  have lo60 : ∀ c, c < 60 → P.1 c = M.1 c := fun c hc => by rw [lo c (by omega), hM c (by omega) (by omega)]
  refine ⟨Tells_eq hT (fun k _ => ?_) (fun i _ => ?_) (fun l hl => LwEq.same (fun d h1 h2 => ?_)) (fun p hp k _ => ?_) pk, ⟨?_, ?_⟩, ?_, fun w' hw' => ?_⟩
  · rw [wv_at (by omega), wv_at (by omega), lo60 8 (by omega)]
  · rw [wv_at (by omega), wv_at (by omega), lo60 50 (by omega)]
  · rw [wv_fun (by omega), wv_fun (by omega), lo60 d (by omega)]
  · rw [wv_at (by omega), wv_at (by omega), lo60 _ (by omega)]
  · rw [q3 19 (by decide), hM 175 (by omega) (by omega)]; exact hI.2.1.1
  · rw [q3 20 (by decide), hM 175 (by omega) (by omega)]; exact hI.2.1.2
  · refine hI.pd ?_ ?_ ?_ ?_
    · rw [lo60 1 (by omega)]
    · rw [lo60 2 (by omega)]
    · rw [q3 1 (by decide), hM 175 (by omega) (by omega)]
    · rw [q2 176 (by omega), hM 176 (by omega) (by omega)]
  · obtain ⟨i1, i2, i3⟩ := hI.2.2.2 w' hw'
    by_cases z : w' = w
    · subst z
      have a165 : P.1 165 w' = 1 := by rw [lo 165 (by omega), m_i_at]
      rw [a165, q5]
      refine ⟨Or.inr rfl, rfl, fun _ => ?_⟩
      have vw : ∀ c, 8 ≤ c → c < 60 → iw P w' c = N.1 (53 + 52 * w' + c) := fun c h1 h2 => by
        rw [iw_fun h2 rfl, lo _ (by omega), m1 _ (by omega)]
      refine Tells_eq hT (fun k hk => ?_) (fun i hi => ?_) (fun l hl => ?_) (fun p hp k hk => ?_) (fun c k hk => ?_)
      · rw [vw 8 (by omega) (by omega), wv_at (by omega), show 53 + 52 * w' + 8 = 61 + 52 * w' by omega]
        rcases hk with rfl | ⟨h1, h2⟩
        · exact d3
        · match k, h1, h2 with
          | 4, _, _ => exact d4
          | 5, _, _ => exact d5
          | 6, _, _ => exact d6
          | 7, _, _ => exact d7
          | k + 8, _, h => exact absurd h (by omega)
      · rw [vw 50 (by omega) (by omega), wv_at (by omega), show 53 + 52 * w' + 50 = 61 + 52 * w' + 42 by omega]
        exact d8 i hi
      · obtain ⟨t1, t2, t3⟩ := d9 l hl
        refine LwEq_view t1 t2 t3 (fun i hi => ?_) (fun i hi => ?_)
        · rw [vw _ (by omega) (by omega), show 53 + 52 * w' + (10 + 5 * l + i) = 61 + 52 * w' + 2 + 5 * l + i by omega]
        · rw [wv_fun (by omega)]
      · rw [vw _ (by omega) (by omega), wv_at (by omega), show 53 + 52 * w' + (52 + p) = 61 + 52 * w' + 44 + p by omega]
        exact d10 p hp k hk
      · have hk2 := hk
        unfold PkR at hk2
        rw [(q1 c k hk).2, hM c (by omega) (by omega)]
    · have a165 : P.1 165 w' = M.1 165 w' := by
        rw [lo 165 (by omega), m_i_ne (by omega), d1 165 (by omega)]
      have a198 : P.1 198 w' = M.1 198 w' := by
        rw [q6 w' z, hM 198 (by omega) (by omega)]
      rw [a165, a198]
      refine ⟨i1, i2, fun q => img_keep hw' hI q (fun c h1 h2 => ?_) (fun c k hk => ?_)⟩
      · rw [lo c (by omega), hM c (by omega) (by omega)]
      · have := pos_lt hk
        rw [q4 _ (by omega), hM 197 (by omega) (by omega)]
theorem s_restore {G : GT} {M : Mem} {v1 : Int32} (hI : INV M) : T_X10_restore G [.ref 0, .int v1] M (fun r N => T_X11_restore G [.ref 175, .int v1] N (fun r' P => r' = r ∧ INV P)) := by
  have i198 : ((0 : Int32) ≤ v1 ∧ v1 ≤ 1) → M.1 198 (Int32.toNatClampNeg v1) = M.1 165 (Int32.toNatClampNeg v1) := fun c => by
    obtain ⟨w, hw, rfl⟩ := w_of c
    rw [ix_nI (by omega)]
    exact (hI.2.2.2 w hw).2.1
  refine t_X10_restore (fun c => t_X11_restore (fun _ => ⟨rfl, hI⟩) (fun z => absurd z c) (fun z => absurd z c)) (fun c c2 => t_X11_restore (fun z => absurd c z) (fun _ _ => ⟨rfl, hI⟩) (fun _ z => absurd ((i198 c).trans c2) z)) (fun c c2 => ?_) (fun c c2 N hN => t_X11_restore (fun z => absurd c z) (fun _ z => ?_) (fun _ _ P hP => ⟨rfl, ?_⟩))
  · obtain ⟨w, hw, rfl⟩ := w_of c
    rw [ix_nI (by omega)] at c2 ⊢
    have hT := (hI.2.2.2 w hw).2.2 c2
    have n8 := hT.1.1.2
    refine ⟨w_n (iw M w), w_p (iw M w), hT.1.1.2, hT.1.2.1.2, ?_, ?_, fun l hl => ?_⟩
    · have := hT.1.1.1
      rw [iw_at (by omega), show 53 + 52 * w + 8 = 61 + 52 * w by omega] at this
      exact this
    · have := hT.1.2.1.1
      rw [iw_at (by omega), show 53 + 52 * w + 8 = 61 + 52 * w by omega] at this
      exact this
    · have := hT.q01 l hl
      rw [iw_at (by omega), show 53 + 52 * w + (10 + 5 * l) = 61 + 52 * w + 2 + 5 * l by omega] at this
      exact this
  · rw [hN.1 198 (by omega), i198 c] at z
    exact absurd z c2
  · obtain ⟨w, hw, rfl⟩ := w_of c
    rw [ix_nI (by omega)] at c2 hN hP
    have hT := (hI.2.2.2 w hw).2.2 c2
    have n8 := hT.1.1.2
    have p8 := hT.1.2.1.2
    have en : M.1 (61 + 52 * w) 1 = nI (w_n (iw M w)) := by
      have := hT.1.1.1
      rw [iw_at (by omega), show 53 + 52 * w + 8 = 61 + 52 * w by omega] at this
      exact this
    have ep : M.1 (61 + 52 * w) 4 = nI (w_p (iw M w)) := by
      have := hT.1.2.1.1
      rw [iw_at (by omega), show 53 + 52 * w + 8 = 61 + 52 * w by omega] at this
      exact this
    rw [en, ep, ix_nI (by omega), ix_nI (by omega)] at hN
    obtain ⟨d1, d2, d3, d4, d5, d6, d7, d8, d9, d10⟩ := hN
    obtain ⟨q1, q2, q3, q4, q5⟩ := hP
    have hM : ∀ c, ¬ (8 ≤ c ∧ c < 60) → N.1 c = M.1 c := fun c hc => d1 c (by omega)
    have lo : ∀ c, c < 175 → P.1 c = N.1 c := fun c hc => q2 c (by omega)
    have vw : ∀ c, 8 ≤ c → c < 60 → iw M w c = M.1 (53 + 52 * w + c) := fun c h1 h2 => iw_fun h2 rfl
    refine ⟨Tells_eq hT (fun k hk => ?_) (fun i hi => ?_) (fun l hl => ?_) (fun p hp k hk => ?_) (fun c k hk => ?_), ⟨?_, ?_⟩, ?_, fun w' hw' => ?_⟩
    · rw [vw 8 (by omega) (by omega), wv_at (by omega), lo 8 (by omega), show 53 + 52 * w + 8 = 61 + 52 * w by omega]
      rcases hk with rfl | ⟨h1, h2⟩
      · exact d3
      · match k, h1, h2 with
        | 4, _, _ => exact d4
        | 5, _, _ => exact d5
        | 6, _, _ => exact d6
        | 7, _, _ => exact d7
        | k + 8, _, h => exact absurd h (by omega)
    · rw [vw 50 (by omega) (by omega), wv_at (by omega), lo 50 (by omega), show 53 + 52 * w + 50 = 61 + 52 * w + 42 by omega]
      exact d8 i hi
    · obtain ⟨t1, t2, t3⟩ := d9 l hl
      refine LwEq_view t1 t2 t3 (fun i hi => ?_) (fun i hi => ?_)
      · rw [wv_fun (by omega), lo _ (by omega)]
      · rw [vw _ (by omega) (by omega), show 53 + 52 * w + (10 + 5 * l + i) = 61 + 52 * w + 2 + 5 * l + i by omega]
    · rw [vw _ (by omega) (by omega), wv_at (by omega), lo _ (by omega), show 53 + 52 * w + (52 + p) = 61 + 52 * w + 44 + p by omega]
      exact d10 p hp k hk
    · rw [(q1 c k hk).1]
      unfold unpZ
      rw [hM 197 (by omega)]
    · rw [q3 19 (by decide), hM 175 (by omega)]; exact hI.2.1.1
    · rw [q3 20 (by decide), hM 175 (by omega)]; exact hI.2.1.2
    · refine hI.pd ?_ ?_ ?_ ?_
      · rw [lo 1 (by omega), hM 1 (by omega)]
      · rw [lo 2 (by omega), hM 2 (by omega)]
      · rw [q3 1 (by decide), hM 175 (by omega)]
      · rw [q2 176 (by omega), hM 176 (by omega)]
    · obtain ⟨i1, i2, i3⟩ := hI.2.2.2 w' hw'
      have a165 : P.1 165 w' = M.1 165 w' := by rw [lo 165 (by omega), hM 165 (by omega)]
      have a198 : P.1 198 w' = M.1 198 w' := by rw [q2 198 (by omega), hM 198 (by omega)]
      rw [a165, a198]
      refine ⟨i1, i2, fun q => img_keep hw' hI q (fun c h1 h2 => ?_) (fun d k hk => ?_)⟩
      · rw [lo c (by omega), hM c (by omega)]
      · by_cases z : w' = w
        · subst z
          have := (q1 d k hk).2
          unfold unpZ at this
          rw [this, hM 197 (by omega)]
        · have := pos_lt hk
          rw [q4 _ (by omega), hM 197 (by omega)]

