/-! ===== 18.mender ===== -/
noncomputable def w_due (W : WT) (day : Int32) (p : Nat) : Int32 := sel (W (52 + p) 4 = -6) (w_given W (52 + p) day) (W (52 + p) 4)
abbrev CmT : Type := Int32 × Int32 × Int32 × Int32
def c_md (N : Mem) : CmT := (N.1 171 3, N.1 171 4, N.1 171 5, N.1 171 6)
/-- the mender has found this (of nothing found only that) -/
def MdOk (N : Mem) (st : CmT) : Prop := N.1 171 3 = st.1 ∧ (¬ st.1 = -6 → c_md N = st)
/-- the world with other words in the law l -/
def W_m (W : WT) (l : Nat) (t w u : Int32) : WT := fun c k => if c = 10 + 5 * l then (if k = 9 then t else if k = 10 then w else if k = 14 then u else W c k) else W c k
def mend_ok (W : WT) (l : Nat) (day t w u : Int32) : Prop := ∀ p, p < w_p W → w_given (W_m W l t w u) (52 + p) day = w_due W day p
noncomputable def m_in (W : WT) (l : Nat) (day t w ch : Int32) : Nat → Nat → CmT → CmT
  | 0, _, st => st
  | k + 1, i, st =>
    sel (¬ st.1 = -6 ∧ st.1 ≤ (if i = 0 then ch else ch + 1)) st
      (m_in W l day t w ch k (i + 1) (sel (mend_ok W l day t w (if i = 0 then W (10 + 5 * l) 14 else W (10 + 5 * l) 14 ||| ((1 : Int32) <<< (nI (i - 1) &&& 31)))) ((if i = 0 then ch else ch + 1), t, (if w = 0 then 0 else 1), (if i = 0 then -6 else nI (i - 1))) st))
noncomputable def m_ch (W : WT) (l : Nat) (t w : Int32) : Int32 := sel (w = W (10 + 5 * l) 10) (sel (W (10 + 5 * l) 8 = -6 ∧ W (10 + 5 * l) 7 = t) 0 1) (sel (W (10 + 5 * l) 8 = -6 ∧ W (10 + 5 * l) 7 = t) 0 1 + 1)
noncomputable def m_out (W : WT) (l : Nat) (day : Int32) : Nat → CmT
  | 0 => (-6, 0, 0, 0)
  | t + 1 => m_in W l day (aw_f2 (t / 2)) (nI (t % 2)) (m_ch W l (aw_f2 (t / 2)) (nI (t % 2))) (w_n W + 1) 0 (m_out W l day t)
theorem W_m_ok {W : WT} {l : Nat} {t w u : Int32} (hl : l < 8) (h : WOk W) : WOk (W_m W l t w u) := by
  have e : ∀ c k, (¬ c = 10 + 5 * l ∨ k = 0) → W_m W l t w u c k = W c k := by
    intro c k hc
    unfold W_m
    by_cases hq : c = 10 + 5 * l
    · rw [if_pos hq]
      rcases hc with z | z
      · exact absurd hq z
      · rw [if_neg (by omega), if_neg (by omega), if_neg (by omega)]
    · rw [if_neg hq]
  have en : w_n (W_m W l t w u) = w_n W := by unfold w_n; rw [e 8 1 (by omega)]
  have ep : w_p (W_m W l t w u) = w_p W := by unfold w_p; rw [e 8 4 (by omega)]
  unfold WOk BOk at *
  rw [en, ep, e 8 1 (by omega), e 8 4 (by omega)]
  have h9 := h.2.1.2
  refine ⟨h.1, h.2.1, fun i hi => by rw [e 50 i (by omega)]; exact h.2.2.1 i hi, fun i hi => by rw [e (52 + i) 0 (by omega)]; exact h.2.2.2 i hi⟩

/-! BetweenLaws$Mender.settleDue(I)V -/
abbrev rm_X4_settleDue : Room := { frames := 5, cells := 0, slots := 0, locals := 126 }
abbrev B_X4_settleDue (G : GT) (K : Int32 → Mem → Prop) := BT G (Rep G) RX4 "settleDue" cX4_settleDue 4 none rm_X4_settleDue K 0 0
abbrev T_X4_settleDue (G : GT) (as : List Value) (M : Mem) (K : Int32 → Mem → Prop) : Prop := MT G (Rep G) yX4_settleDue cX4_settleDue 4 none rm_X4_settleDue as M K
theorem e_X4_settleDue {G : GT} {K : Int32 → Mem → Prop} {M : Mem} {v1 : Int32} (h : B_X4_settleDue G K 0 [(0, .ref 171), (1, .int v1)] [] M) : T_X4_settleDue G [.ref 171, .int v1] M K := MT.of (by decide +kernel) rfl rfl (Nat.le_of_ble_eq_true rfl) rfl h
set_option maxRecDepth 4000 in
theorem k_X4_settleDue_0 {G : GT} {K : Int32 → Mem → Prop} {M : Mem} {v1 : Int32} (h : B_X4_settleDue G K 2 [(0, .ref 171), (1, .int v1), (2, .int 0)] [] M) : B_X4_settleDue G K 0 [(0, .ref 171), (1, .int v1)] [] M := by
  refine BT.iconst (v := 0) dX4_settleDue_0 (by decide) ?_
  refine BT.istore_n (L' := [(2, .int 0), (0, .ref 171), (1, .int v1)]) dX4_settleDue_1 rfl (by decide) rfl ?_
  refine BT.sub [1, 2, 0] rfl ?_
  exact h
set_option maxRecDepth 4000 in
theorem k_X4_settleDue_2 {G : GT} {K : Int32 → Mem → Prop} {M : Mem} {v1 : Int32} {v2 : Int32} (h : ((M.1 8 4) ≤ v2 → K 0 M) ∧ (¬ (M.1 8 4) ≤ v2 → (vp_in v2 8) ∧ ((M.1 (52 + (Int32.toNatClampNeg v2)) 4) = (-6) → ((52 + (Int32.toNatClampNeg v2)) < 60 ∨ (52 + (Int32.toNatClampNeg v2)) = 174) ∧ (WOk (wv M)) ∧ (∀ r5 : Int32, r5 = (w_given (wv M) (52 + (Int32.toNatClampNeg v2)) v1) → ∀ N5 : Mem, (Scr M N5) → (vp_in v2 8) ∧ B_X4_settleDue G K 2 [(0, .ref 171), (1, .int v1), (2, .int (v2 + 1))] [] (m_i N5 172 (Int32.toNatClampNeg v2) r5))) ∧ (¬ (M.1 (52 + (Int32.toNatClampNeg v2)) 4) = (-6) → (vp_in v2 8) ∧ B_X4_settleDue G K 2 [(0, .ref 171), (1, .int v1), (2, .int (v2 + 1))] [] (m_i M 172 (Int32.toNatClampNeg v2) (M.1 (52 + (Int32.toNatClampNeg v2)) 4))))) : B_X4_settleDue G K 2 [(0, .ref 171), (1, .int v1), (2, .int v2)] [] M := by
  refine BT.iload_n dX4_settleDue_2 rfl 2 rfl ?_
  refine BT.aload_n dX4_settleDue_3 rfl 0 rfl ?_
  refine BT.getR (r := 8) fl_X4_9 ho_171 rfl dX4_settleDue_4 ?_
  refine BT.getI fl_X4_65 ho_8 rfl dX4_settleDue_7 ?_
  refine BT.icmp_ge (tgt := 60) dX4_settleDue_10 (by decide) (fun c => ?_) (fun c => ?_)
  · have c1 := c
    exact BT.vret dX4_settleDue_60 rfl (by decide) (by decide) (h.1 c1)
  · have c2 := c
    refine BT.aload_n dX4_settleDue_13 rfl 0 rfl ?_
    refine BT.getR (r := 8) fl_X4_9 ho_171 rfl dX4_settleDue_14 ?_
    refine BT.getR (r := 51) fl_X4_68 ho_8 rfl dX4_settleDue_17 ?_
    refine BT.iload_n dX4_settleDue_20 rfl 2 rfl ?_
    refine BT.aald1 ha_51 (by decide) (h.2 c2).1 dX4_settleDue_21 ?_
    refine BT.astore_n (L' := [(3, .ref (52 + (Int32.toNatClampNeg v2))), (0, .ref 171), (1, .int v1), (2, .int v2)]) dX4_settleDue_22 rfl (by decide) rfl ?_
    refine BT.aload_n dX4_settleDue_23 rfl 1 rfl ?_
    refine BT.getR (r := 172) fl_X4_19 ho_171 rfl dX4_settleDue_24 ?_
    refine BT.iload_n dX4_settleDue_27 rfl 3 rfl ?_
    refine BT.aload_n dX4_settleDue_28 rfl 0 rfl ?_
    refine BT.getI fl_X4_72 (pieceC8 (h.2 c2).1) rfl dX4_settleDue_29 ?_
    refine BT.bipush (v := (-6)) dX4_settleDue_32 (by decide) ?_
    refine BT.icmp_eq (tgt := 44) dX4_settleDue_34 (by decide) (fun c => ?_) (fun c => ?_)
    · have c3 := c
      refine BT.aload_n dX4_settleDue_44 rfl 1 rfl ?_
      refine BT.getR (r := 167) fl_X4_15 ho_171 rfl dX4_settleDue_45 ?_
      refine BT.aload_n dX4_settleDue_48 rfl 0 rfl ?_
      refine BT.iload_n dX4_settleDue_49 rfl 2 rfl ?_
      refine BT.mcVp [.ref (52 + (Int32.toNatClampNeg v2)), .int v1] (t_X2_given (pieceC8 (h.2 c2).1) ((h.2 c2).2.1 c3).1 ((h.2 c2).2.1 c3).2.1 (fun N hN => ⟨rfl, hN⟩)) mb_X2_given mv_X2_given lk_X4_77 rfl (by decide) rfl (recvRep ho_167 rfl) (Nat.le_of_ble_eq_true rfl) dX4_settleDue_50 (P := fun N5 => Scr M N5) (fun r5 e5 N5 g5 => ?_)
      show B_X4_settleDue G K 53 [(3, .ref (52 + (Int32.toNatClampNeg v2))), (0, .ref 171), (1, .int v1), (2, .int v2)] [.int r5, .int v2, .ref 172] N5
      refine BT.iast ha_172 (((h.2 c2).2.1 c3).2.2 r5 e5 N5 g5).1 dX4_settleDue_53 ?_
      refine BT.iinc (j := 3) (v := (v2 + 1)) (L' := [(2, .int (v2 + 1)), (3, .ref (52 + (Int32.toNatClampNeg v2))), (0, .ref 171), (1, .int v1)]) dX4_settleDue_54 rfl rfl (by decide) rfl ?_
      refine BT.goto (tgt := 2) dX4_settleDue_57 (by decide) ?_
      refine BT.sub [2, 3, 0] rfl ?_
      exact (((h.2 c2).2.1 c3).2.2 r5 e5 N5 g5).2
    · have c4 := c
      refine BT.aload_n dX4_settleDue_37 rfl 0 rfl ?_
      refine BT.getI fl_X4_72 (pieceC8 (h.2 c2).1) rfl dX4_settleDue_38 ?_
      refine BT.goto (tgt := 53) dX4_settleDue_41 (by decide) ?_
      refine BT.iast ha_172 ((h.2 c2).2.2 c4).1 dX4_settleDue_53 ?_
      refine BT.iinc (j := 3) (v := (v2 + 1)) (L' := [(2, .int (v2 + 1)), (3, .ref (52 + (Int32.toNatClampNeg v2))), (0, .ref 171), (1, .int v1)]) dX4_settleDue_54 rfl rfl (by decide) rfl ?_
      refine BT.goto (tgt := 2) dX4_settleDue_57 (by decide) ?_
      refine BT.sub [2, 3, 0] rfl ?_
      exact ((h.2 c2).2.2 c4).2

theorem t_X4_settleDue {G : GT} {K : Int32 → Mem → Prop} {M : Mem} {v1 : Int32} (hw : WOk (wv M)) (h : ∀ N, (Sc9 M N ∧ ∀ p, p < w_p (wv M) → N.1 172 p = w_due (wv M) v1 p) → K 0 N) : T_X4_settleDue G [.ref 171, .int v1] M K := by
  obtain ⟨-, ⟨hq, h9⟩, -⟩ := id hw
  refine e_X4_settleDue (k_X4_settleDue_0 ?_)
  refine up_loop (P := fun j => ∀ N, (Sc9 M N ∧ ∀ p, p < j → N.1 172 p = w_due (wv M) v1 p) → B_X4_settleDue G K 2 [(0, .ref 171), (1, .int v1), (2, .int (nI j))] [] N) (w_p (wv M)) (fun N hN => ?_) (fun j hj ih N hN => ?_) 0 (Nat.zero_le _) M ⟨Sc9.rf, fun p hp => absurd hp (Nat.not_lt_zero p)⟩
  · have e4 : N.1 8 4 = nI (w_p (wv M)) := by rw [hN.1 8 (by decide), ← hq, wv_at (by decide)]
    refine k_X4_settleDue_2 ⟨fun _ => h N hN, fun c => ?_⟩
    rw [e4] at c
    exact absurd (Int32.le_refl _) c
  · have off : ∀ c k, (c < 60 ∨ c = 174) → N.1 c k = wv M c k := fun c k hc => by rw [hN.1 c (by omega), wv_at hc]
    have next : ∀ (N2 : Mem) (x : Int32), (∀ c, ¬ (166 ≤ c ∧ c ≤ 173) → N2.1 c = M.1 c) → (∀ p, p < j → N2.1 172 p = w_due (wv M) v1 p) → x = w_due (wv M) v1 j → Sc9 M (m_i N2 172 j x) ∧ ∀ p, p < j + 1 → (m_i N2 172 j x).1 172 p = w_due (wv M) v1 p := by
      intro N2 x h1 h2 h3
      refine ⟨Sc9.mi h1 (by decide), fun p hp => ?_⟩
      by_cases hpj : p = j
      · rw [hpj, m_i_at, h3]
      · rw [m_i_ne (fun q => hpj q.2), h2 p (by omega)]
    refine k_X4_settleDue_2 ?_
    rw [off 8 4 (by decide), hq]
    simp only [ix_nI (show j < 2 ^ 31 by omega), nI_1]
    rw [off (52 + j) 4 (by omega)]
    refine ⟨fun c => ?_, fun c => ⟨vp_nI (by omega) (by decide), fun c1 => ⟨by omega, by rw [hN.1.wvE]; exact hw, fun r5 e5 N5 g5 => ⟨vp_nI (by omega) (by decide), ?_⟩⟩, fun c1 => ⟨vp_nI (by omega) (by decide), ?_⟩⟩⟩
    · rw [nI_leI (by omega) (by omega)] at c
      omega
    · rw [hN.1.wvE] at e5
      exact ih _ (next N5 r5 (hN.1.tr g5.s9) (fun p hp => by rw [g5.1 172 (by decide)]; exact hN.2 p hp) (by rw [e5, w_due, sel_t c1]))
    · exact ih _ (next N _ hN.1 hN.2 (by rw [w_due, sel_f c1]))

/-! BetweenLaws$Mender.comesOut(I)Z -/
abbrev rm_X4_comesOut : Room := { frames := 5, cells := 0, slots := 0, locals := 126 }
abbrev B_X4_comesOut (G : GT) (K : Int32 → Mem → Prop) := BT G (Rep G) RX4 "comesOut" cX4_comesOut 3 (some .boolean) rm_X4_comesOut K 0 0
abbrev T_X4_comesOut (G : GT) (as : List Value) (M : Mem) (K : Int32 → Mem → Prop) : Prop := MT G (Rep G) yX4_comesOut cX4_comesOut 3 (some .boolean) rm_X4_comesOut as M K
theorem e_X4_comesOut {G : GT} {K : Int32 → Mem → Prop} {M : Mem} {v1 : Int32} (h : B_X4_comesOut G K 0 [(0, .ref 171), (1, .int v1)] [] M) : T_X4_comesOut G [.ref 171, .int v1] M K := MT.of (by decide +kernel) rfl rfl (Nat.le_of_ble_eq_true rfl) rfl h
set_option maxRecDepth 4000 in
theorem k_X4_comesOut_0 {G : GT} {K : Int32 → Mem → Prop} {M : Mem} {v1 : Int32} (h : B_X4_comesOut G K 2 [(0, .ref 171), (1, .int v1), (2, .int 0)] [] M) : B_X4_comesOut G K 0 [(0, .ref 171), (1, .int v1)] [] M := by
  refine BT.iconst (v := 0) dX4_comesOut_0 (by decide) ?_
  refine BT.istore_n (L' := [(2, .int 0), (0, .ref 171), (1, .int v1)]) dX4_comesOut_1 rfl (by decide) rfl ?_
  refine BT.sub [1, 2, 0] rfl ?_
  exact h
set_option maxRecDepth 4000 in
theorem k_X4_comesOut_2 {G : GT} {K : Int32 → Mem → Prop} {M : Mem} {v1 : Int32} {v2 : Int32} (h : ((M.1 8 4) ≤ v2 → K 1 M) ∧ (¬ (M.1 8 4) ≤ v2 → (vp_in v2 8) ∧ ((52 + (Int32.toNatClampNeg v2)) < 60 ∨ (52 + (Int32.toNatClampNeg v2)) = 174) ∧ (WOk (wv M)) ∧ (∀ r3 : Int32, r3 = (w_given (wv M) (52 + (Int32.toNatClampNeg v2)) v1) → ∀ N3 : Mem, (Scr M N3) → (vp_in v2 8) ∧ (r3 = (N3.1 172 (Int32.toNatClampNeg v2)) → B_X4_comesOut G K 2 [(0, .ref 171), (1, .int v1), (2, .int (v2 + 1))] [] N3) ∧ (¬ r3 = (N3.1 172 (Int32.toNatClampNeg v2)) → K 0 N3)))) : B_X4_comesOut G K 2 [(0, .ref 171), (1, .int v1), (2, .int v2)] [] M := by
  refine BT.iload_n dX4_comesOut_2 rfl 2 rfl ?_
  refine BT.aload_n dX4_comesOut_3 rfl 0 rfl ?_
  refine BT.getR (r := 8) fl_X4_9 ho_171 rfl dX4_comesOut_4 ?_
  refine BT.getI fl_X4_65 ho_8 rfl dX4_comesOut_7 ?_
  refine BT.icmp_ge (tgt := 47) dX4_comesOut_10 (by decide) (fun c => ?_) (fun c => ?_)
  · have c1 := c
    refine BT.iconst (v := 1) dX4_comesOut_47 (by decide) ?_
    exact BT.zret dX4_comesOut_48 rfl (by decide) (by decide) (nar01 ((Or.inr rfl))) (h.1 c1)
  · have c2 := c
    refine BT.aload_n dX4_comesOut_13 rfl 0 rfl ?_
    refine BT.getR (r := 167) fl_X4_15 ho_171 rfl dX4_comesOut_14 ?_
    refine BT.aload_n dX4_comesOut_17 rfl 0 rfl ?_
    refine BT.getR (r := 8) fl_X4_9 ho_171 rfl dX4_comesOut_18 ?_
    refine BT.getR (r := 51) fl_X4_68 ho_8 rfl dX4_comesOut_21 ?_
    refine BT.iload_n dX4_comesOut_24 rfl 2 rfl ?_
    refine BT.aald1 ha_51 (by decide) (h.2 c2).1 dX4_comesOut_25 ?_
    refine BT.iload_n dX4_comesOut_26 rfl 1 rfl ?_
    refine BT.mcVp [.ref (52 + (Int32.toNatClampNeg v2)), .int v1] (t_X2_given (pieceC8 (h.2 c2).1) (h.2 c2).2.1 (h.2 c2).2.2.1 (fun N hN => ⟨rfl, hN⟩)) mb_X2_given mv_X2_given lk_X4_77 rfl (by decide) rfl (recvRep ho_167 rfl) (Nat.le_of_ble_eq_true rfl) dX4_comesOut_27 (P := fun N3 => Scr M N3) (fun r3 e3 N3 g3 => ?_)
    show B_X4_comesOut G K 30 [(0, .ref 171), (1, .int v1), (2, .int v2)] [.int r3] N3
    refine BT.aload_n dX4_comesOut_30 rfl 0 rfl ?_
    refine BT.getR (r := 172) fl_X4_19 ho_171 rfl dX4_comesOut_31 ?_
    refine BT.iload_n dX4_comesOut_34 rfl 2 rfl ?_
    refine BT.iald ha_172 ((h.2 c2).2.2.2 r3 e3 N3 g3).1 dX4_comesOut_35 ?_
    refine BT.icmp_eq (tgt := 41) dX4_comesOut_36 (by decide) (fun c => ?_) (fun c => ?_)
    · have c4 := c
      refine BT.iinc (j := 2) (v := (v2 + 1)) (L' := [(2, .int (v2 + 1)), (0, .ref 171), (1, .int v1)]) dX4_comesOut_41 rfl rfl (by decide) rfl ?_
      refine BT.goto (tgt := 2) dX4_comesOut_44 (by decide) ?_
      refine BT.sub [1, 2, 0] rfl ?_
      exact (((h.2 c2).2.2.2 r3 e3 N3 g3).2.1 c4)
    · have c5 := c
      refine BT.iconst (v := 0) dX4_comesOut_39 (by decide) ?_
      exact BT.zret dX4_comesOut_40 rfl (by decide) (by decide) (nar01 ((Or.inl rfl))) (((h.2 c2).2.2.2 r3 e3 N3 g3).2.2 c5)

theorem t_X4_comesOut {G : GT} {K : Int32 → Mem → Prop} {M : Mem} {v1 : Int32} (hw : WOk (wv M)) (h : ∀ N, Scr M N → K (bi (∀ p, p < w_p (wv M) → w_given (wv M) (52 + p) v1 = M.1 172 p)) N) : T_X4_comesOut G [.ref 171, .int v1] M K := by
  obtain ⟨-, ⟨hq, h9⟩, -⟩ := id hw
  have h1 : (∀ p, p < w_p (wv M) → w_given (wv M) (52 + p) v1 = M.1 172 p) → ∀ N, Scr M N → K 1 N := fun q N hN => (bi_K (h N hN)).1 q
  have h0 : ¬ (∀ p, p < w_p (wv M) → w_given (wv M) (52 + p) v1 = M.1 172 p) → ∀ N, Scr M N → K 0 N := fun q N hN => (bi_K (h N hN)).2 q
  clear h
  refine e_X4_comesOut (k_X4_comesOut_0 ?_)
  refine up_loop (P := fun j => (∀ p, p < j → w_given (wv M) (52 + p) v1 = M.1 172 p) → ∀ N, Scr M N → B_X4_comesOut G K 2 [(0, .ref 171), (1, .int v1), (2, .int (nI j))] [] N) (w_p (wv M)) (fun hall N hN => ?_) (fun j hj ih hall N hN => ?_) 0 (Nat.zero_le _) (fun p hp => absurd hp (Nat.not_lt_zero p)) M Scr.rf
  · have e4 : N.1 8 4 = nI (w_p (wv M)) := by rw [hN.1 8 (by decide), ← hq, wv_at (by decide)]
    refine k_X4_comesOut_2 ⟨fun _ => h1 hall N hN, fun c => ?_⟩
    rw [e4] at c
    exact absurd (Int32.le_refl _) c
  · have e4 : N.1 8 4 = nI (w_p (wv M)) := by rw [hN.1 8 (by decide), ← hq, wv_at (by decide)]
    refine k_X4_comesOut_2 ?_
    rw [e4]
    simp only [ix_nI (show j < 2 ^ 31 by omega), nI_1]
    refine ⟨fun c => ?_, fun c => ⟨vp_nI (by omega) (by decide), by omega, by rw [hN.wvE]; exact hw, fun r3 e3 N3 g3 => ⟨vp_nI (by omega) (by decide), fun c1 => ?_, fun c1 => ?_⟩⟩⟩
    · rw [nI_leI (by omega) (by omega)] at c
      omega
    · rw [e3, hN.wvE, g3.1 172 (by decide), hN.1 172 (by decide)] at c1
      refine ih (fun p hp => ?_) N3 (hN.tr g3)
      rcases Nat.lt_succ_iff_lt_or_eq.mp hp with q | rfl
      · exact hall p q
      · exact c1
    · rw [e3, hN.wvE, g3.1 172 (by decide), hN.1 172 (by decide)] at c1
      exact h0 (fun q => c1 (q j hj)) N3 (hN.tr g3)

/-! BetweenLaws$Mender.keep(ILBetweenLaws$Law;I)V -/
abbrev rm_X4_keep : Room := { frames := 0, cells := 0, slots := 0, locals := 0 }
abbrev B_X4_keep (G : GT) (K : Int32 → Mem → Prop) := BT G (Rep G) RX4 "keep" cX4_keep 4 none rm_X4_keep K 0 0
abbrev T_X4_keep (G : GT) (as : List Value) (M : Mem) (K : Int32 → Mem → Prop) : Prop := MT G (Rep G) yX4_keep cX4_keep 4 none rm_X4_keep as M K
theorem e_X4_keep {G : GT} {K : Int32 → Mem → Prop} {M : Mem} {v1 : Int32} {a2 : Nat} {v3 : Int32} (h : B_X4_keep G K 0 [(0, .ref 171), (1, .int v1), (2, .ref a2), (3, .int v3)] [] M) : T_X4_keep G [.ref 171, .int v1, .ref a2, .int v3] M K := MT.of (by decide +kernel) rfl rfl (Nat.le_of_ble_eq_true rfl) rfl h
set_option maxRecDepth 4000 in
theorem k_X4_keep_0 {G : GT} {K : Int32 → Mem → Prop} {M : Mem} {v1 : Int32} {a2 : Nat} {v3 : Int32} (ha2 : LawC a2) (h : (((m_i (m_i M 171 3 v1) 171 4 ((m_i M 171 3 v1).1 a2 9)).1 a2 10) = 0 → (0 ≤ v3 → K 0 (m_i (m_i (m_i (m_i M 171 3 v1) 171 4 ((m_i M 171 3 v1).1 a2 9)) 171 5 0) 171 6 v3)) ∧ (¬ 0 ≤ v3 → K 0 (m_i (m_i (m_i (m_i M 171 3 v1) 171 4 ((m_i M 171 3 v1).1 a2 9)) 171 5 0) 171 6 (-6)))) ∧ (¬ ((m_i (m_i M 171 3 v1) 171 4 ((m_i M 171 3 v1).1 a2 9)).1 a2 10) = 0 → (0 ≤ v3 → K 0 (m_i (m_i (m_i (m_i M 171 3 v1) 171 4 ((m_i M 171 3 v1).1 a2 9)) 171 5 1) 171 6 v3)) ∧ (¬ 0 ≤ v3 → K 0 (m_i (m_i (m_i (m_i M 171 3 v1) 171 4 ((m_i M 171 3 v1).1 a2 9)) 171 5 1) 171 6 (-6))))) : B_X4_keep G K 0 [(0, .ref 171), (1, .int v1), (2, .ref a2), (3, .int v3)] [] M := by
  refine BT.aload_n dX4_keep_0 rfl 0 rfl ?_
  refine BT.iload_n dX4_keep_1 rfl 1 rfl ?_
  refine BT.putI fl_X4_37 ft_4_3 ho_171 rfl dX4_keep_2 ?_
  refine BT.aload_n dX4_keep_5 rfl 0 rfl ?_
  refine BT.aload_n dX4_keep_6 rfl 2 rfl ?_
  refine BT.getI fl_X4_43 ha2.1 rfl dX4_keep_7 ?_
  refine BT.putI fl_X4_83 ft_4_4 ho_171 rfl dX4_keep_10 ?_
  refine BT.aload_n dX4_keep_13 rfl 0 rfl ?_
  refine BT.aload_n dX4_keep_14 rfl 2 rfl ?_
  refine BT.getI fl_X4_33 ha2.1 rfl dX4_keep_15 ?_
  refine BT.if_eq (tgt := 25) dX4_keep_18 (by decide) (fun c => ?_) (fun c => ?_)
  · have c1 := c
    refine BT.iconst (v := 0) dX4_keep_25 (by decide) ?_
    refine BT.putI fl_X4_84 ft_4_5 ho_171 rfl dX4_keep_26 ?_
    refine BT.aload_n dX4_keep_29 rfl 0 rfl ?_
    refine BT.iload_n dX4_keep_30 rfl 3 rfl ?_
    refine BT.if_ge (tgt := 39) dX4_keep_31 (by decide) (fun c => ?_) (fun c => ?_)
    · have c3 := c
      refine BT.iload_n dX4_keep_39 rfl 3 rfl ?_
      refine BT.putI fl_X4_86 ft_4_6 ho_171 rfl dX4_keep_40 ?_
      exact BT.vret dX4_keep_43 rfl (by decide) (by decide) ((h.1 c1).1 c3)
    · have c4 := c
      refine BT.bipush (v := (-6)) dX4_keep_34 (by decide) ?_
      refine BT.goto (tgt := 40) dX4_keep_36 (by decide) ?_
      refine BT.putI fl_X4_86 ft_4_6 ho_171 rfl dX4_keep_40 ?_
      exact BT.vret dX4_keep_43 rfl (by decide) (by decide) ((h.1 c1).2 c4)
  · have c2 := c
    refine BT.iconst (v := 1) dX4_keep_21 (by decide) ?_
    refine BT.goto (tgt := 26) dX4_keep_22 (by decide) ?_
    refine BT.putI fl_X4_84 ft_4_5 ho_171 rfl dX4_keep_26 ?_
    refine BT.aload_n dX4_keep_29 rfl 0 rfl ?_
    refine BT.iload_n dX4_keep_30 rfl 3 rfl ?_
    refine BT.if_ge (tgt := 39) dX4_keep_31 (by decide) (fun c => ?_) (fun c => ?_)
    · have c5 := c
      refine BT.iload_n dX4_keep_39 rfl 3 rfl ?_
      refine BT.putI fl_X4_86 ft_4_6 ho_171 rfl dX4_keep_40 ?_
      exact BT.vret dX4_keep_43 rfl (by decide) (by decide) ((h.2 c2).1 c5)
    · have c6 := c
      refine BT.bipush (v := (-6)) dX4_keep_34 (by decide) ?_
      refine BT.goto (tgt := 40) dX4_keep_36 (by decide) ?_
      refine BT.putI fl_X4_86 ft_4_6 ho_171 rfl dX4_keep_40 ?_
      exact BT.vret dX4_keep_43 rfl (by decide) (by decide) ((h.2 c2).2 c6)

theorem t_X4_keep {G : GT} {K : Int32 → Mem → Prop} {M : Mem} {v1 : Int32} {a2 : Nat} {v3 : Int32} (ha2 : LawC a2) (h60 : a2 < 60) (h : ∀ N, ((∀ c, ¬ c = 171 → N.1 c = M.1 c) ∧ N.1 171 3 = v1 ∧ N.1 171 4 = M.1 a2 9 ∧ N.1 171 5 = (if M.1 a2 10 = 0 then 0 else 1) ∧ N.1 171 6 = (if 0 ≤ v3 then v3 else -6)) → K 0 N) : T_X4_keep G [.ref 171, .int v1, .ref a2, .int v3] M K := by
  refine e_X4_keep (k_X4_keep_0 ha2 ?_)
  have e9 : (m_i M 171 3 v1).1 a2 9 = M.1 a2 9 := m_i_ne (by omega)
  have e10 : ∀ x, (m_i (m_i M 171 3 v1) 171 4 x).1 a2 10 = M.1 a2 10 := fun x => by rw [m_i_ne (by omega), m_i_ne (by omega)]
  rw [e9, e10]
  have fin : ∀ a b, (a = if M.1 a2 10 = 0 then 0 else 1) → (b = if 0 ≤ v3 then v3 else -6) → K 0 (m_i (m_i (m_i (m_i M 171 3 v1) 171 4 (M.1 a2 9)) 171 5 a) 171 6 b) := by
    intro a b ea eb
    refine h _ ⟨fun c hc => by rw [mi_off hc, mi_off hc, mi_off hc, mi_off hc], ?_, ?_, ?_, ?_⟩
    · rw [m_i_ne (by decide), m_i_ne (by decide), m_i_ne (by decide), m_i_at]
    · rw [m_i_ne (by decide), m_i_ne (by decide), m_i_at]
    · rw [m_i_ne (by decide), m_i_at, ea]
    · rw [m_i_at, eb]
  exact ⟨fun c => ⟨fun c1 => fin _ _ (by rw [if_pos c]) (by rw [if_pos c1]), fun c1 => fin _ _ (by rw [if_pos c]) (by rw [if_neg c1])⟩, fun c => ⟨fun c1 => fin _ _ (by rw [if_neg c]) (by rw [if_pos c1]), fun c1 => fin _ _ (by rw [if_neg c]) (by rw [if_neg c1])⟩⟩

/-! BetweenLaws$Mender.search(LBetweenLaws$Law;I)V -/
abbrev rm_X4_search : Room := { frames := 6, cells := 0, slots := 0, locals := 149 }
abbrev B_X4_search (G : GT) (K : Int32 → Mem → Prop) := BT G (Rep G) RX4 "search" cX4_search 9 none rm_X4_search K 0 0
abbrev T_X4_search (G : GT) (as : List Value) (M : Mem) (K : Int32 → Mem → Prop) : Prop := MT G (Rep G) yX4_search cX4_search 9 none rm_X4_search as M K
theorem e_X4_search {G : GT} {K : Int32 → Mem → Prop} {M : Mem} {a1 : Nat} {v2 : Int32} (h : B_X4_search G K 0 [(0, .ref 171), (1, .ref a1), (2, .int v2)] [] M) : T_X4_search G [.ref 171, .ref a1, .int v2] M K := MT.of (by decide +kernel) rfl rfl (Nat.le_of_ble_eq_true rfl) rfl h
set_option maxRecDepth 4000 in
theorem k_X4_search_0 {G : GT} {K : Int32 → Mem → Prop} {M : Mem} {a1 : Nat} {v2 : Int32} (ha1 : LawC a1) (h : (WOk (wv M)) ∧ (∀ N1 : Mem, (Sc9 M N1 ∧ ∀ p, p < w_p (wv M) → N1.1 172 p = w_due (wv M) v2 p) → B_X4_search G K 25 [(0, .ref 171), (1, .ref a1), (2, .int v2), (3, .int (N1.1 a1 14)), (4, .int (N1.1 a1 10)), (5, .int 0)] [] (m_i N1 171 3 (-6)))) : B_X4_search G K 0 [(0, .ref 171), (1, .ref a1), (2, .int v2)] [] M := by
  refine BT.aload_n dX4_search_0 rfl 0 rfl ?_
  refine BT.iload_n dX4_search_1 rfl 2 rfl ?_
  refine BT.mcVvp [.int v2] (t_X4_settleDue h.1 (fun N hN => ⟨rfl, hN⟩)) mb_X4_settleDue mv_X4_settleDue lk_X4_23 rfl (by decide) rfl (recvRep ho_171 rfl) (Nat.le_of_ble_eq_true rfl) dX4_search_2 (P := fun N1 => Sc9 M N1 ∧ ∀ p, p < w_p (wv M) → N1.1 172 p = w_due (wv M) v2 p) (fun N1 g1 => ?_)
  show B_X4_search G K 5 [(0, .ref 171), (1, .ref a1), (2, .int v2)] [] N1
  refine BT.aload_n dX4_search_5 rfl 1 rfl ?_
  refine BT.getI fl_X4_27 ha1.1 rfl dX4_search_6 ?_
  refine BT.istore_n (L' := [(3, .int (N1.1 a1 14)), (0, .ref 171), (1, .ref a1), (2, .int v2)]) dX4_search_9 rfl (by decide) rfl ?_
  refine BT.aload_n dX4_search_10 rfl 2 rfl ?_
  refine BT.getI fl_X4_33 ha1.1 rfl dX4_search_11 ?_
  refine BT.istore (L' := [(4, .int (N1.1 a1 10)), (3, .int (N1.1 a1 14)), (0, .ref 171), (1, .ref a1), (2, .int v2)]) dX4_search_14 (by decide) rfl ?_
  refine BT.aload_n dX4_search_16 rfl 2 rfl ?_
  refine BT.bipush (v := (-6)) dX4_search_17 (by decide) ?_
  refine BT.putI fl_X4_37 ft_4_3 ho_171 rfl dX4_search_19 ?_
  refine BT.iconst (v := 0) dX4_search_22 (by decide) ?_
  refine BT.istore (L' := [(5, .int 0), (4, .int (N1.1 a1 10)), (3, .int (N1.1 a1 14)), (0, .ref 171), (1, .ref a1), (2, .int v2)]) dX4_search_23 (by decide) rfl ?_
  refine BT.sub [3, 4, 5, 2, 1, 0] rfl ?_
  exact (h.2 N1 g1)
set_option maxRecDepth 4000 in
theorem k_X4_search_25 {G : GT} {K : Int32 → Mem → Prop} {M : Mem} {a1 : Nat} {v2 : Int32} {v3 : Int32} {v4 : Int32} {v5 : Int32} (ha1 : LawC a1) (h : (((2 : Int32) * 3) ≤ v5 → (v4 = 0 ∨ v4 = 1) ∧ K 0 (m_i (m_i (m_i M a1 9 (M.1 a1 7)) a1 10 v4) a1 14 v3)) ∧ (¬ ((2 : Int32) * 3) ≤ v5 → (vp_in (v5 / 2) 3) ∧ (¬ (v5 - v5 / 2 * 2) = 1 → B_X4_search G K 62 [(0, .ref 171), (1, .ref a1), (2, .int v2), (3, .int v3), (4, .int v4), (5, .int v5)] [.int 0, .ref a1] (m_i M a1 9 (aw_f2 (Int32.toNatClampNeg (v5 / 2))))) ∧ ((v5 - v5 / 2 * 2) = 1 → B_X4_search G K 62 [(0, .ref 171), (1, .ref a1), (2, .int v2), (3, .int v3), (4, .int v4), (5, .int v5)] [.int 1, .ref a1] (m_i M a1 9 (aw_f2 (Int32.toNatClampNeg (v5 / 2))))))) : B_X4_search G K 25 [(0, .ref 171), (1, .ref a1), (2, .int v2), (3, .int v3), (4, .int v4), (5, .int v5)] [] M := by
  refine BT.iload dX4_search_25 5 rfl ?_
  refine BT.iconst (v := 2) dX4_search_27 (by decide) ?_
  refine BT.gst2 gs_2 dX4_search_28 ?_
  refine BT.slen2 dX4_search_31 ?_
  refine BT.imul dX4_search_32 ?_
  refine BT.icmp_ge (tgt := 204) dX4_search_33 (by decide) (fun c => ?_) (fun c => ?_)
  · have c1 := c
    refine BT.aload_n dX4_search_204 rfl 1 rfl ?_
    refine BT.aload_n dX4_search_205 rfl 1 rfl ?_
    refine BT.getI fl_X4_49 ha1.1 rfl dX4_search_206 ?_
    refine BT.putI fl_X4_43 ft_3_9 ha1.1 rfl dX4_search_209 ?_
    refine BT.aload_n dX4_search_212 rfl 1 rfl ?_
    refine BT.iload dX4_search_213 4 rfl ?_
    refine BT.putZ fl_X4_33 ft_3_10 ha1.1 rfl (h.1 c1).1 dX4_search_215 ?_
    refine BT.aload_n dX4_search_218 rfl 1 rfl ?_
    refine BT.iload_n dX4_search_219 rfl 3 rfl ?_
    refine BT.putI fl_X4_27 ft_3_14 ha1.1 rfl dX4_search_220 ?_
    exact BT.vret dX4_search_223 rfl (by decide) (by decide) (h.1 c1).2
  · have c2 := c
    refine BT.aload_n dX4_search_36 rfl 1 rfl ?_
    refine BT.gst2 gs_2 dX4_search_37 ?_
    refine BT.iload dX4_search_40 5 rfl ?_
    refine BT.iconst (v := 2) dX4_search_42 (by decide) ?_
    refine BT.idiv dX4_search_43 (by decide) ?_
    refine BT.sald2 (h.2 c2).1 dX4_search_44 ?_
    refine BT.putI fl_X4_43 ft_3_9 ha1.1 rfl dX4_search_45 ?_
    refine BT.aload_n dX4_search_48 rfl 1 rfl ?_
    refine BT.iload dX4_search_49 5 rfl ?_
    refine BT.iconst (v := 2) dX4_search_51 (by decide) ?_
    refine BT.irem dX4_search_52 (by decide) ?_
    refine BT.iconst (v := 1) dX4_search_53 (by decide) ?_
    refine BT.icmp_ne (tgt := 61) dX4_search_54 (by decide) (fun c => ?_) (fun c => ?_)
    · have c3 := c
      refine BT.iconst (v := 0) dX4_search_61 (by decide) ?_
      exact ((h.2 c2).2.1 c3)
    · have c4 := c
      refine BT.iconst (v := 1) dX4_search_57 (by decide) ?_
      refine BT.goto (tgt := 62) dX4_search_58 (by decide) ?_
      exact ((h.2 c2).2.2 c4)
set_option maxRecDepth 4000 in
theorem k_X4_search_62 {G : GT} {K : Int32 → Mem → Prop} {M : Mem} {a1 : Nat} {v2 : Int32} {v3 : Int32} {v4 : Int32} {v5 : Int32} {s1 : Int32} (ha1 : LawC a1) (h : (s1 = 0 ∨ s1 = 1) ∧ (¬ ((m_i M a1 10 s1).1 a1 8) = (-6) → (((m_i M a1 10 s1).1 a1 10) = v4 → B_X4_search G K 104 [(0, .ref 171), (1, .ref a1), (2, .int v2), (3, .int v3), (4, .int v4), (5, .int v5), (6, .int 1)] [] (m_i M a1 10 s1)) ∧ (¬ ((m_i M a1 10 s1).1 a1 10) = v4 → B_X4_search G K 104 [(0, .ref 171), (1, .ref a1), (2, .int v2), (3, .int v3), (4, .int v4), (5, .int v5), (6, .int (1 + 1))] [] (m_i M a1 10 s1))) ∧ (((m_i M a1 10 s1).1 a1 8) = (-6) → (((m_i M a1 10 s1).1 a1 7) = ((m_i M a1 10 s1).1 a1 9) → (((m_i M a1 10 s1).1 a1 10) = v4 → B_X4_search G K 104 [(0, .ref 171), (1, .ref a1), (2, .int v2), (3, .int v3), (4, .int v4), (5, .int v5), (6, .int 0)] [] (m_i M a1 10 s1)) ∧ (¬ ((m_i M a1 10 s1).1 a1 10) = v4 → B_X4_search G K 104 [(0, .ref 171), (1, .ref a1), (2, .int v2), (3, .int v3), (4, .int v4), (5, .int v5), (6, .int (0 + 1))] [] (m_i M a1 10 s1))) ∧ (¬ ((m_i M a1 10 s1).1 a1 7) = ((m_i M a1 10 s1).1 a1 9) → (((m_i M a1 10 s1).1 a1 10) = v4 → B_X4_search G K 104 [(0, .ref 171), (1, .ref a1), (2, .int v2), (3, .int v3), (4, .int v4), (5, .int v5), (6, .int 1)] [] (m_i M a1 10 s1)) ∧ (¬ ((m_i M a1 10 s1).1 a1 10) = v4 → B_X4_search G K 104 [(0, .ref 171), (1, .ref a1), (2, .int v2), (3, .int v3), (4, .int v4), (5, .int v5), (6, .int (1 + 1))] [] (m_i M a1 10 s1))))) : B_X4_search G K 62 [(0, .ref 171), (1, .ref a1), (2, .int v2), (3, .int v3), (4, .int v4), (5, .int v5)] [.int s1, .ref a1] M := by
  refine BT.putZ fl_X4_33 ft_3_10 ha1.1 rfl h.1 dX4_search_62 ?_
  refine BT.aload_n dX4_search_65 rfl 1 rfl ?_
  refine BT.getI fl_X4_46 ha1.1 rfl dX4_search_66 ?_
  refine BT.bipush (v := (-6)) dX4_search_69 (by decide) ?_
  refine BT.icmp_ne (tgt := 85) dX4_search_71 (by decide) (fun c => ?_) (fun c => ?_)
  · have c1 := c
    refine BT.iconst (v := 1) dX4_search_85 (by decide) ?_
    refine BT.goto (tgt := 90) dX4_search_86 (by decide) ?_
    refine BT.istore (L' := [(6, .int 1), (0, .ref 171), (1, .ref a1), (2, .int v2), (3, .int v3), (4, .int v4), (5, .int v5)]) dX4_search_90 (by decide) rfl ?_
    refine BT.aload_n dX4_search_92 rfl 2 rfl ?_
    refine BT.getI fl_X4_33 ha1.1 rfl dX4_search_93 ?_
    refine BT.iload dX4_search_96 5 rfl ?_
    refine BT.icmp_eq (tgt := 104) dX4_search_98 (by decide) (fun c => ?_) (fun c => ?_)
    · have c3 := c
      refine BT.sub [1, 2, 3, 4, 5, 6, 0] rfl ?_
      exact ((h.2.1 c1).1 c3)
    · have c4 := c
      refine BT.iinc (j := 0) (v := (1 + 1)) (L' := [(6, .int (1 + 1)), (0, .ref 171), (1, .ref a1), (2, .int v2), (3, .int v3), (4, .int v4), (5, .int v5)]) dX4_search_101 rfl rfl (by decide) rfl ?_
      refine BT.sub [1, 2, 3, 4, 5, 6, 0] rfl ?_
      exact ((h.2.1 c1).2 c4)
  · have c2 := c
    refine BT.aload_n dX4_search_74 rfl 1 rfl ?_
    refine BT.getI fl_X4_49 ha1.1 rfl dX4_search_75 ?_
    refine BT.aload_n dX4_search_78 rfl 1 rfl ?_
    refine BT.getI fl_X4_43 ha1.1 rfl dX4_search_79 ?_
    refine BT.icmp_eq (tgt := 89) dX4_search_82 (by decide) (fun c => ?_) (fun c => ?_)
    · have c5 := c
      refine BT.iconst (v := 0) dX4_search_89 (by decide) ?_
      refine BT.istore (L' := [(6, .int 0), (0, .ref 171), (1, .ref a1), (2, .int v2), (3, .int v3), (4, .int v4), (5, .int v5)]) dX4_search_90 (by decide) rfl ?_
      refine BT.aload_n dX4_search_92 rfl 2 rfl ?_
      refine BT.getI fl_X4_33 ha1.1 rfl dX4_search_93 ?_
      refine BT.iload dX4_search_96 5 rfl ?_
      refine BT.icmp_eq (tgt := 104) dX4_search_98 (by decide) (fun c => ?_) (fun c => ?_)
      · have c7 := c
        refine BT.sub [1, 2, 3, 4, 5, 6, 0] rfl ?_
        exact (((h.2.2 c2).1 c5).1 c7)
      · have c8 := c
        refine BT.iinc (j := 0) (v := (0 + 1)) (L' := [(6, .int (0 + 1)), (0, .ref 171), (1, .ref a1), (2, .int v2), (3, .int v3), (4, .int v4), (5, .int v5)]) dX4_search_101 rfl rfl (by decide) rfl ?_
        refine BT.sub [1, 2, 3, 4, 5, 6, 0] rfl ?_
        exact (((h.2.2 c2).1 c5).2 c8)
    · have c6 := c
      refine BT.iconst (v := 1) dX4_search_85 (by decide) ?_
      refine BT.goto (tgt := 90) dX4_search_86 (by decide) ?_
      refine BT.istore (L' := [(6, .int 1), (0, .ref 171), (1, .ref a1), (2, .int v2), (3, .int v3), (4, .int v4), (5, .int v5)]) dX4_search_90 (by decide) rfl ?_
      refine BT.aload_n dX4_search_92 rfl 2 rfl ?_
      refine BT.getI fl_X4_33 ha1.1 rfl dX4_search_93 ?_
      refine BT.iload dX4_search_96 5 rfl ?_
      refine BT.icmp_eq (tgt := 104) dX4_search_98 (by decide) (fun c => ?_) (fun c => ?_)
      · have c9 := c
        refine BT.sub [1, 2, 3, 4, 5, 6, 0] rfl ?_
        exact (((h.2.2 c2).2 c6).1 c9)
      · have c10 := c
        refine BT.iinc (j := 0) (v := (1 + 1)) (L' := [(6, .int (1 + 1)), (0, .ref 171), (1, .ref a1), (2, .int v2), (3, .int v3), (4, .int v4), (5, .int v5)]) dX4_search_101 rfl rfl (by decide) rfl ?_
        refine BT.sub [1, 2, 3, 4, 5, 6, 0] rfl ?_
        exact (((h.2.2 c2).2 c6).2 c10)
set_option maxRecDepth 4000 in
theorem k_X4_search_104 {G : GT} {K : Int32 → Mem → Prop} {M : Mem} {a1 : Nat} {v2 : Int32} {v3 : Int32} {v4 : Int32} {v5 : Int32} {v6 : Int32} (ha1 : LawC a1) (h : B_X4_search G K 107 [(0, .ref 171), (1, .ref a1), (2, .int v2), (3, .int v3), (4, .int v4), (5, .int v5), (6, .int v6), (7, .int (-1))] [] M) : B_X4_search G K 104 [(0, .ref 171), (1, .ref a1), (2, .int v2), (3, .int v3), (4, .int v4), (5, .int v5), (6, .int v6)] [] M := by
  refine BT.iconst (v := (-1)) dX4_search_104 (by decide) ?_
  refine BT.istore (L' := [(7, .int (-1)), (0, .ref 171), (1, .ref a1), (2, .int v2), (3, .int v3), (4, .int v4), (5, .int v5), (6, .int v6)]) dX4_search_105 (by decide) rfl ?_
  refine BT.sub [1, 2, 3, 4, 5, 6, 7, 0] rfl ?_
  exact h
set_option maxRecDepth 4000 in
theorem k_X4_search_107 {G : GT} {K : Int32 → Mem → Prop} {M : Mem} {a1 : Nat} {v2 : Int32} {v3 : Int32} {v4 : Int32} {v5 : Int32} {v6 : Int32} {v7 : Int32} (ha1 : LawC a1) (h : ((M.1 8 1) ≤ v7 → B_X4_search G K 25 [(0, .ref 171), (1, .ref a1), (2, .int v2), (3, .int v3), (4, .int v4), (5, .int (v5 + 1))] [] M) ∧ (¬ (M.1 8 1) ≤ v7 → (0 ≤ v7 → B_X4_search G K 133 [(0, .ref 171), (1, .ref a1), (2, .int v2), (3, .int v3), (4, .int v4), (5, .int v5), (6, .int v6), (7, .int v7)] [.int (v6 + 1)] M) ∧ (¬ 0 ≤ v7 → B_X4_search G K 133 [(0, .ref 171), (1, .ref a1), (2, .int v2), (3, .int v3), (4, .int v4), (5, .int v5), (6, .int v6), (7, .int v7)] [.int v6] M))) : B_X4_search G K 107 [(0, .ref 171), (1, .ref a1), (2, .int v2), (3, .int v3), (4, .int v4), (5, .int v5), (6, .int v6), (7, .int v7)] [] M := by
  refine BT.iload dX4_search_107 7 rfl ?_
  refine BT.aload_n dX4_search_109 rfl 0 rfl ?_
  refine BT.getR (r := 8) fl_X4_9 ho_171 rfl dX4_search_110 ?_
  refine BT.getI fl_X4_52 ho_8 rfl dX4_search_113 ?_
  refine BT.icmp_ge (tgt := 198) dX4_search_116 (by decide) (fun c => ?_) (fun c => ?_)
  · have c1 := c
    refine BT.iinc (j := 5) (v := (v5 + 1)) (L' := [(5, .int (v5 + 1)), (0, .ref 171), (1, .ref a1), (2, .int v2), (3, .int v3), (4, .int v4), (6, .int v6), (7, .int v7)]) dX4_search_198 rfl rfl (by decide) rfl ?_
    refine BT.goto (tgt := 25) dX4_search_201 (by decide) ?_
    refine BT.sub [1, 2, 3, 4, 5, 0] rfl ?_
    exact (h.1 c1)
  · have c2 := c
    refine BT.iload dX4_search_119 7 rfl ?_
    refine BT.if_ge (tgt := 129) dX4_search_121 (by decide) (fun c => ?_) (fun c => ?_)
    · have c3 := c
      refine BT.iload dX4_search_129 6 rfl ?_
      refine BT.iconst (v := 1) dX4_search_131 (by decide) ?_
      refine BT.iadd dX4_search_132 ?_
      exact ((h.2 c2).1 c3)
    · have c4 := c
      refine BT.iload dX4_search_124 6 rfl ?_
      refine BT.goto (tgt := 133) dX4_search_126 (by decide) ?_
      exact ((h.2 c2).2 c4)
set_option maxRecDepth 4000 in
theorem k_X4_search_133 {G : GT} {K : Int32 → Mem → Prop} {M : Mem} {a1 : Nat} {v2 : Int32} {v3 : Int32} {v4 : Int32} {v5 : Int32} {v6 : Int32} {v7 : Int32} {s0 : Int32} (ha1 : LawC a1) (h : ((M.1 171 3) = (-6) → B_X4_search G K 156 [(0, .ref 171), (1, .ref a1), (2, .int v2), (3, .int v3), (4, .int v4), (5, .int v5), (6, .int v6), (7, .int v7), (8, .int s0)] [] M) ∧ (¬ (M.1 171 3) = (-6) → (s0 < (M.1 171 3) → B_X4_search G K 156 [(0, .ref 171), (1, .ref a1), (2, .int v2), (3, .int v3), (4, .int v4), (5, .int v5), (6, .int v6), (7, .int v7), (8, .int s0)] [] M) ∧ (¬ s0 < (M.1 171 3) → B_X4_search G K 25 [(0, .ref 171), (1, .ref a1), (2, .int v2), (3, .int v3), (4, .int v4), (5, .int (v5 + 1))] [] M))) : B_X4_search G K 133 [(0, .ref 171), (1, .ref a1), (2, .int v2), (3, .int v3), (4, .int v4), (5, .int v5), (6, .int v6), (7, .int v7)] [.int s0] M := by
  refine BT.istore (L' := [(8, .int s0), (0, .ref 171), (1, .ref a1), (2, .int v2), (3, .int v3), (4, .int v4), (5, .int v5), (6, .int v6), (7, .int v7)]) dX4_search_133 (by decide) rfl ?_
  refine BT.aload_n dX4_search_135 rfl 1 rfl ?_
  refine BT.getI fl_X4_37 ho_171 rfl dX4_search_136 ?_
  refine BT.bipush (v := (-6)) dX4_search_139 (by decide) ?_
  refine BT.icmp_eq (tgt := 156) dX4_search_141 (by decide) (fun c => ?_) (fun c => ?_)
  · have c1 := c
    refine BT.sub [1, 2, 3, 4, 5, 6, 7, 8, 0] rfl ?_
    exact (h.1 c1)
  · have c2 := c
    refine BT.iload dX4_search_144 0 rfl ?_
    refine BT.aload_n dX4_search_146 rfl 1 rfl ?_
    refine BT.getI fl_X4_37 ho_171 rfl dX4_search_147 ?_
    refine BT.icmp_lt (tgt := 156) dX4_search_150 (by decide) (fun c => ?_) (fun c => ?_)
    · have c3 := c
      refine BT.sub [1, 2, 3, 4, 5, 6, 7, 8, 0] rfl ?_
      exact ((h.2 c2).1 c3)
    · have c4 := c
      refine BT.goto (tgt := 198) dX4_search_153 (by decide) ?_
      refine BT.iinc (j := 6) (v := (v5 + 1)) (L' := [(5, .int (v5 + 1)), (8, .int s0), (0, .ref 171), (1, .ref a1), (2, .int v2), (3, .int v3), (4, .int v4), (6, .int v6), (7, .int v7)]) dX4_search_198 rfl rfl (by decide) rfl ?_
      refine BT.goto (tgt := 25) dX4_search_201 (by decide) ?_
      refine BT.sub [2, 3, 4, 5, 6, 0] rfl ?_
      exact ((h.2 c2).2 c4)
set_option maxRecDepth 4000 in
theorem k_X4_search_156 {G : GT} {K : Int32 → Mem → Prop} {M : Mem} {a1 : Nat} {v2 : Int32} {v3 : Int32} {v4 : Int32} {v5 : Int32} {v6 : Int32} {v7 : Int32} {v8 : Int32} (ha1 : LawC a1) (h : (0 ≤ v7 → B_X4_search G K 172 [(0, .ref 171), (1, .ref a1), (2, .int v2), (3, .int v3), (4, .int v4), (5, .int v5), (6, .int v6), (7, .int v7), (8, .int v8)] [.int (v3 ||| ((1 : Int32) <<< (v7 &&& 31))), .ref a1] M) ∧ (¬ 0 ≤ v7 → B_X4_search G K 172 [(0, .ref 171), (1, .ref a1), (2, .int v2), (3, .int v3), (4, .int v4), (5, .int v5), (6, .int v6), (7, .int v7), (8, .int v8)] [.int v3, .ref a1] M)) : B_X4_search G K 156 [(0, .ref 171), (1, .ref a1), (2, .int v2), (3, .int v3), (4, .int v4), (5, .int v5), (6, .int v6), (7, .int v7), (8, .int v8)] [] M := by
  refine BT.aload_n dX4_search_156 rfl 1 rfl ?_
  refine BT.iload dX4_search_157 7 rfl ?_
  refine BT.if_ge (tgt := 166) dX4_search_159 (by decide) (fun c => ?_) (fun c => ?_)
  · have c1 := c
    refine BT.iload_n dX4_search_166 rfl 3 rfl ?_
    refine BT.iconst (v := 1) dX4_search_167 (by decide) ?_
    refine BT.iload dX4_search_168 7 rfl ?_
    refine BT.ishl dX4_search_170 ?_
    refine BT.ior dX4_search_171 ?_
    exact (h.1 c1)
  · have c2 := c
    refine BT.iload_n dX4_search_162 rfl 3 rfl ?_
    refine BT.goto (tgt := 172) dX4_search_163 (by decide) ?_
    exact (h.2 c2)
set_option maxRecDepth 4000 in
theorem k_X4_search_172 {G : GT} {K : Int32 → Mem → Prop} {M : Mem} {a1 : Nat} {v2 : Int32} {v3 : Int32} {v4 : Int32} {v5 : Int32} {v6 : Int32} {v7 : Int32} {v8 : Int32} {s1 : Int32} (ha1 : LawC a1) (h : (WOk (wv (m_i M a1 14 s1))) ∧ (∀ N1 : Mem, (Scr (m_i M a1 14 s1) N1) → (¬ (∀ p, p < w_p (wv (m_i M a1 14 s1)) → w_given (wv (m_i M a1 14 s1)) (52 + p) v2 = (m_i M a1 14 s1).1 172 p) → B_X4_search G K 107 [(0, .ref 171), (1, .ref a1), (2, .int v2), (3, .int v3), (4, .int v4), (5, .int v5), (6, .int v6), (7, .int (v7 + 1))] [] N1) ∧ ((∀ p, p < w_p (wv (m_i M a1 14 s1)) → w_given (wv (m_i M a1 14 s1)) (52 + p) v2 = (m_i M a1 14 s1).1 172 p) → (a1 < 60) ∧ (∀ N4 : Mem, ((∀ c, ¬ c = 171 → N4.1 c = N1.1 c) ∧ N4.1 171 3 = v8 ∧ N4.1 171 4 = N1.1 a1 9 ∧ N4.1 171 5 = (if N1.1 a1 10 = 0 then 0 else 1) ∧ N4.1 171 6 = (if 0 ≤ v7 then v7 else -6)) → B_X4_search G K 107 [(0, .ref 171), (1, .ref a1), (2, .int v2), (3, .int v3), (4, .int v4), (5, .int v5), (6, .int v6), (7, .int (v7 + 1))] [] N4)))) : B_X4_search G K 172 [(0, .ref 171), (1, .ref a1), (2, .int v2), (3, .int v3), (4, .int v4), (5, .int v5), (6, .int v6), (7, .int v7), (8, .int v8)] [.int s1, .ref a1] M := by
  refine BT.putI fl_X4_27 ft_3_14 ha1.1 rfl dX4_search_172 ?_
  refine BT.aload_n dX4_search_175 rfl 0 rfl ?_
  refine BT.iload_n dX4_search_176 rfl 2 rfl ?_
  refine BT.mcVq [.int v2] (t_X4_comesOut h.1 (fun N hN => ⟨rfl, hN⟩)) mb_X4_comesOut mv_X4_comesOut lk_X4_57 rfl (by decide) rfl (recvRep ho_171 rfl) (Nat.le_of_ble_eq_true rfl) dX4_search_177 (P := fun N1 => Scr (m_i M a1 14 s1) N1) (fun N1 g1 => ?_)
  show B_X4_search G K 180 [(0, .ref 171), (1, .ref a1), (2, .int v2), (3, .int v3), (4, .int v4), (5, .int v5), (6, .int v6), (7, .int v7), (8, .int v8)] [.int (bi (∀ p, p < w_p (wv (m_i M a1 14 s1)) → w_given (wv (m_i M a1 14 s1)) (52 + p) v2 = (m_i M a1 14 s1).1 172 p))] N1
  refine BT.if_eq (tgt := 192) dX4_search_180 (by decide) (fun c => ?_) (fun c => ?_)
  · have c2 := bi_eq0.mp c
    refine BT.iinc (j := 7) (v := (v7 + 1)) (L' := [(7, .int (v7 + 1)), (0, .ref 171), (1, .ref a1), (2, .int v2), (3, .int v3), (4, .int v4), (5, .int v5), (6, .int v6), (8, .int v8)]) dX4_search_192 rfl rfl (by decide) rfl ?_
    refine BT.goto (tgt := 107) dX4_search_195 (by decide) ?_
    refine BT.sub [1, 2, 3, 4, 5, 6, 7, 0] rfl ?_
    exact ((h.2 N1 g1).1 c2)
  · have c3 := bi_ne0.mp c
    refine BT.aload_n dX4_search_183 rfl 0 rfl ?_
    refine BT.iload dX4_search_184 8 rfl ?_
    refine BT.aload_n dX4_search_186 rfl 1 rfl ?_
    refine BT.iload dX4_search_187 7 rfl ?_
    refine BT.mcVvp [.int v8, .ref a1, .int v7] (t_X4_keep ha1 ((h.2 N1 g1).2 c3).1 (fun N hN => ⟨rfl, hN⟩)) mb_X4_keep mv_X4_keep lk_X4_61 rfl (by decide) rfl (recvRep ho_171 rfl) (Nat.le_of_ble_eq_true rfl) dX4_search_189 (P := fun N4 => (∀ c, ¬ c = 171 → N4.1 c = N1.1 c) ∧ N4.1 171 3 = v8 ∧ N4.1 171 4 = N1.1 a1 9 ∧ N4.1 171 5 = (if N1.1 a1 10 = 0 then 0 else 1) ∧ N4.1 171 6 = (if 0 ≤ v7 then v7 else -6)) (fun N4 g4 => ?_)
    show B_X4_search G K 192 [(0, .ref 171), (1, .ref a1), (2, .int v2), (3, .int v3), (4, .int v4), (5, .int v5), (6, .int v6), (7, .int v7), (8, .int v8)] [] N4
    refine BT.iinc (j := 7) (v := (v7 + 1)) (L' := [(7, .int (v7 + 1)), (0, .ref 171), (1, .ref a1), (2, .int v2), (3, .int v3), (4, .int v4), (5, .int v5), (6, .int v6), (8, .int v8)]) dX4_search_192 rfl rfl (by decide) rfl ?_
    refine BT.goto (tgt := 107) dX4_search_195 (by decide) ?_
    refine BT.sub [1, 2, 3, 4, 5, 6, 7, 0] rfl ?_
    exact (((h.2 N1 g1).2 c3).2 N4 g4)

/-- while the mender searches: only scratch and the words of the law have changed -/
def Sr (M N : Mem) (l : Nat) (day : Int32) (st : CmT) : Prop :=
  (∀ c, ¬ (166 ≤ c ∧ c ≤ 173) → ¬ c = 10 + 5 * l → N.1 c = M.1 c) ∧ (∀ k, ¬ k = 9 → ¬ k = 10 → ¬ k = 14 → N.1 (10 + 5 * l) k = M.1 (10 + 5 * l) k) ∧ (∀ p, p < w_p (wv M) → N.1 172 p = w_due (wv M) day p) ∧ MdOk N st
theorem Sr.put {M N : Mem} {l : Nat} {day : Int32} {st : CmT} (h : Sr M N l day st) {k : Nat} {v : Int32} (hk : k = 9 ∨ k = 10 ∨ k = 14) (hl : l < 8) : Sr M (m_i N (10 + 5 * l) k v) l day st := by
  obtain ⟨h1, h2, h3, h4, h5⟩ := h
  have e : ∀ c, ¬ c = 10 + 5 * l → (m_i N (10 + 5 * l) k v).1 c = N.1 c := fun c hc => mi_off hc
  refine ⟨fun c a b => (e c b).trans (h1 c a b), fun q a b c => ?_, fun p hp => by rw [e 172 (by omega)]; exact h3 p hp, by rw [e 171 (by omega)]; exact h4, fun z => ?_⟩
  · rw [m_i_ne (by omega)]; exact h2 q a b c
  · rw [← h5 z]
    unfold c_md
    rw [e 171 (by omega)]
theorem Sr.scr {M N P : Mem} {l : Nat} {day : Int32} {st : CmT} (h : Sr M N l day st) (hP : Scr N P) (hl : l < 8) : Sr M P l day st := by
  obtain ⟨h1, h2, h3, h4, h5⟩ := h
  refine ⟨fun c a b => (hP.1 c (by omega)).trans (h1 c a b), fun q a b c => by rw [hP.1 (10 + 5 * l) (by omega)]; exact h2 q a b c, fun p hp => by rw [hP.1 172 (by decide)]; exact h3 p hp, by rw [hP.1 171 (by decide)]; exact h4, fun z => ?_⟩
  rw [← h5 z]
  unfold c_md
  rw [hP.1 171 (by decide)]
/-- the world then -/
theorem Sr.wvE {M N : Mem} {l : Nat} {day : Int32} {st : CmT} (h : Sr M N l day st) (hl : l < 8) : wv N = W_m (wv M) l (N.1 (10 + 5 * l) 9) (N.1 (10 + 5 * l) 10) (N.1 (10 + 5 * l) 14) := by
  obtain ⟨h1, h2, -⟩ := h
  funext c k
  unfold W_m
  by_cases hc : c = 10 + 5 * l
  · rw [if_pos hc]
    subst hc
    rw [wv_at (by omega)]
    by_cases h9 : k = 9
    · rw [if_pos h9, h9]
    · rw [if_neg h9]
      by_cases h10 : k = 10
      · rw [if_pos h10, h10]
      · rw [if_neg h10]
        by_cases h14 : k = 14
        · rw [if_pos h14, h14]
        · rw [if_neg h14, h2 k h9 h10 h14, wv_at (by omega)]
  · rw [if_neg hc]
    by_cases hd : c < 60 ∨ c = 174
    · rw [wv_at hd, wv_at hd, h1 c (by omega) hc]
    · exact (if_neg hd).trans (if_neg hd).symm
theorem W_m_p {W : WT} {l : Nat} {t w u : Int32} (hl : l < 8) : w_p (W_m W l t w u) = w_p W := by
  unfold w_p W_m
  rw [if_neg (by omega)]
theorem t_X4_search {G : GT} {K : Int32 → Mem → Prop} {M : Mem} {a1 : Nat} {v2 : Int32} (ha1 : LawC a1) (hex : ∃ l, l < w_n (wv M) ∧ a1 = 10 + 5 * l) (hw : WOk (wv M)) (hr : RdOk (wv M)) (h01 : wv M a1 10 = 0 ∨ wv M a1 10 = 1) (h : ∀ N, (Sc9 M N ∧ MdOk N (m_out (wv M) ((a1 - 10) / 5) v2 6)) → K 0 N) : T_X4_search G [.ref 171, .ref a1, .int v2] M K := by
  obtain ⟨l, hl, rfl⟩ := hex
  obtain ⟨⟨hn, h8⟩, ⟨hq, h9⟩, -⟩ := id hw
  rw [show (10 + 5 * l - 10) / 5 = l by omega] at h
  have hl8 : l < 8 := by omega
  have ew : ∀ k, wv M (10 + 5 * l) k = M.1 (10 + 5 * l) k := fun k => wv_at (by omega)
  have e81 : ∀ N st, Sr M N l v2 st → N.1 8 1 = nI (w_n (wv M)) := fun N st hN => by rw [hN.1 8 (by decide) (by omega), ← hn, wv_at (by decide)]
  refine e_X4_search (k_X4_search_0 ha1 ⟨hw, fun N1 g1 => ?_⟩)
  rw [g1.1 (10 + 5 * l) (by omega), ← ew, ← ew]
  refine up_loop (P := fun j => ∀ N, Sr M N l v2 (m_out (wv M) l v2 j) → B_X4_search G K 25 [(0, .ref 171), (1, .ref (10 + 5 * l)), (2, .int v2), (3, .int (wv M (10 + 5 * l) 14)), (4, .int (wv M (10 + 5 * l) 10)), (5, .int (nI j))] [] N) 6 (fun N hN => ?_) (fun j hj ih N hN => ?_) 0 (Nat.zero_le _) _ ⟨fun c a _ => (mi_off (by omega)).trans (g1.1 c a), fun k _ _ _ => by rw [m_i_ne (by omega), g1.1 (10 + 5 * l) (by omega)], fun p hp => by rw [m_i_ne (by omega)]; exact g1.2 p hp, m_i_at, fun z => absurd rfl z⟩
  · refine k_X4_search_25 ha1 ⟨fun _ => ⟨h01, h _ ⟨fun c hc => ?_, ?_⟩⟩, fun c => absurd (by decide) c⟩
    · by_cases hcl : c = 10 + 5 * l
      · subst hcl
        funext k
        by_cases h14 : k = 14
        · rw [h14, m_i_at, ew]
        · rw [m_i_ne (fun q => h14 q.2)]
          by_cases h10 : k = 10
          · rw [h10, m_i_at, ew]
          · rw [m_i_ne (fun q => h10 q.2)]
            by_cases h9' : k = 9
            · rw [h9', m_i_at, hN.2.1 7 (by decide) (by decide) (by decide), ← ew, ← ew, hr l hl]
            · rw [m_i_ne (fun q => h9' q.2)]
              exact hN.2.1 k h9' h10 h14
      · rw [mi_off hcl, mi_off hcl, mi_off hcl]
        exact hN.1 c hc hcl
    · exact (((hN.put (Or.inl rfl) hl8).put (Or.inr (Or.inl rfl)) hl8).put (Or.inr (Or.inr rfl)) hl8).2.2.2
  · have hdiv : ∀ t : Nat, t < 6 → nI t / 2 = nI (t / 2) ∧ nI t - nI t / 2 * 2 = nI (t % 2) := by decide
    obtain ⟨d1, d2⟩ := hdiv j hj
    -- the inner loop
    have inner : ∀ (k i : Nat) (st : CmT) (N : Mem) (ch : Int32), i + k = w_n (wv M) + 1 → Sr M N l v2 st → N.1 (10 + 5 * l) 9 = aw_f2 (j / 2) → N.1 (10 + 5 * l) 10 = nI (j % 2) →
        (∀ N', Sr M N' l v2 (m_in (wv M) l v2 (aw_f2 (j / 2)) (nI (j % 2)) ch k i st) → B_X4_search G K 25 [(0, .ref 171), (1, .ref (10 + 5 * l)), (2, .int v2), (3, .int (wv M (10 + 5 * l) 14)), (4, .int (wv M (10 + 5 * l) 10)), (5, .int (nI j + 1))] [] N') →
        B_X4_search G K 107 [(0, .ref 171), (1, .ref (10 + 5 * l)), (2, .int v2), (3, .int (wv M (10 + 5 * l) 14)), (4, .int (wv M (10 + 5 * l) 10)), (5, .int (nI j)), (6, .int ch), (7, .int (nI i - 1))] [] N := by
      intro k
      induction k with
      | zero =>
        intro i st N ch hi hN _ _ hk
        refine k_X4_search_107 ha1 ⟨fun _ => hk N hN, fun c => absurd ?_ c⟩
        rw [e81 N st hN, show i = w_n (wv M) + 1 by omega, nI_pred]
        exact Int32.le_refl _
      | succ k ihk =>
        intro i st N ch hi hN h9' h10' hk
        have nxt : nI i - 1 + 1 = nI (i + 1) - 1 := by
          rw [nI_pred]
          exact Int32.sub_add_cancel _ _
        have t172 : ¬ (¬ st.1 = -6 ∧ st.1 ≤ (if i = 0 then ch else ch + 1)) → ∀ und, und = (if i = 0 then wv M (10 + 5 * l) 14 else wv M (10 + 5 * l) 14 ||| ((1 : Int32) <<< (nI (i - 1) &&& 31))) → B_X4_search G K 172 [(0, .ref 171), (1, .ref (10 + 5 * l)), (2, .int v2), (3, .int (wv M (10 + 5 * l) 14)), (4, .int (wv M (10 + 5 * l) 10)), (5, .int (nI j)), (6, .int ch), (7, .int (nI i - 1)), (8, .int (if i = 0 then ch else ch + 1))] [.int und, .ref (10 + 5 * l)] N := by
          intro hgo und eund
          rw [m_in, sel_f hgo, ← eund] at hk
          have hN2 := hN.put (k := 14) (v := und) (Or.inr (Or.inr rfl)) hl8
          have ewv : wv (m_i N (10 + 5 * l) 14 und) = W_m (wv M) l (aw_f2 (j / 2)) (nI (j % 2)) und := by
            rw [hN2.wvE hl8, m_i_ne (by omega), m_i_ne (by omega), m_i_at, h9', h10']
          refine k_X4_search_172 ha1 ?_
          rw [ewv, W_m_p hl8]
          have eok : (∀ p, p < w_p (wv M) → w_given (W_m (wv M) l (aw_f2 (j / 2)) (nI (j % 2)) und) (52 + p) v2 = (m_i N (10 + 5 * l) 14 und).1 172 p) ↔ mend_ok (wv M) l v2 (aw_f2 (j / 2)) (nI (j % 2)) und :=
            ⟨fun q p hp => (q p hp).trans (hN2.2.2.1 p hp), fun q p hp => (q p hp).trans (hN2.2.2.1 p hp).symm⟩
          refine ⟨W_m_ok hl8 hw, fun N5 g5 => ⟨fun c => ?_, fun c => ⟨by omega, fun N6 g6 => ?_⟩⟩⟩
          · rw [sel_f (fun q => c (eok.mpr q))] at hk
            rw [nxt]
            exact ihk (i + 1) st N5 ch (by omega) (hN2.scr g5 hl8) (by rw [g5.1 _ (by omega), m_i_ne (by omega)]; exact h9') (by rw [g5.1 _ (by omega), m_i_ne (by omega)]; exact h10') hk
          · rw [sel_t (eok.mp c)] at hk
            rw [nxt]
            have s5 := hN2.scr g5 hl8
            have a9 : N5.1 (10 + 5 * l) 9 = aw_f2 (j / 2) := by rw [g5.1 _ (by omega), m_i_ne (by omega)]; exact h9'
            have a10 : N5.1 (10 + 5 * l) 10 = nI (j % 2) := by rw [g5.1 _ (by omega), m_i_ne (by omega)]; exact h10'
            refine ihk (i + 1) _ N6 ch (by omega) ⟨fun q a b => (g6.1 q (by omega)).trans (s5.1 q a b), fun q a b z => by rw [g6.1 _ (by omega)]; exact s5.2.1 q a b z, fun p hp => by rw [g6.1 172 (by decide)]; exact s5.2.2.1 p hp, g6.2.1, fun _ => ?_⟩ (by rw [g6.1 _ (by omega)]; exact a9) (by rw [g6.1 _ (by omega)]; exact a10) hk
            have e6 : (if (0 : Int32) ≤ nI i - 1 then nI i - 1 else -6) = (if i = 0 then -6 else nI (i - 1)) := by
              cases i with
              | zero => rfl
              | succ i =>
                rw [nI_pred, if_pos (nI_pos' (by omega)), if_neg (by omega)]
                rfl
            unfold c_md
            rw [g6.2.1, g6.2.2.1, g6.2.2.2.1, g6.2.2.2.2, a9, a10, e6]
        have t156 : ¬ (¬ st.1 = -6 ∧ st.1 ≤ (if i = 0 then ch else ch + 1)) → B_X4_search G K 156 [(0, .ref 171), (1, .ref (10 + 5 * l)), (2, .int v2), (3, .int (wv M (10 + 5 * l) 14)), (4, .int (wv M (10 + 5 * l) 10)), (5, .int (nI j)), (6, .int ch), (7, .int (nI i - 1)), (8, .int (if i = 0 then ch else ch + 1))] [] N := by
          intro hgo
          refine k_X4_search_156 ha1 ⟨fun c => t172 hgo _ ?_, fun c => t172 hgo _ ?_⟩
          · cases i with
            | zero => exact absurd c (by decide)
            | succ i => rw [if_neg (by omega), nI_pred]; rfl
          · cases i with
            | zero => rfl
            | succ i => rw [nI_pred] at c; exact absurd (nI_pos' (by omega)) c
        have t133 : B_X4_search G K 133 [(0, .ref 171), (1, .ref (10 + 5 * l)), (2, .int v2), (3, .int (wv M (10 + 5 * l) 14)), (4, .int (wv M (10 + 5 * l) 10)), (5, .int (nI j)), (6, .int ch), (7, .int (nI i - 1))] [.int (if i = 0 then ch else ch + 1)] N := by
          refine k_X4_search_133 ha1 ?_
          rw [hN.2.2.2.1]
          refine ⟨fun c => t156 (fun q => q.1 c), fun c => ⟨fun c1 => t156 (fun q => Int32.not_lt.mpr q.2 c1), fun c1 => ?_⟩⟩
          rw [m_in, sel_t ⟨c, Int32.not_lt.mp c1⟩] at hk
          exact hk N hN
        refine k_X4_search_107 ha1 ?_
        rw [e81 N st hN]
        refine ⟨fun c => absurd c ?_, fun _ => ⟨fun c => ?_, fun c => ?_⟩⟩
        · cases i with
          | zero => exact Int32.not_le.mpr (show (nI 0 - 1 : Int32) < nI (w_n (wv M)) from Int32.lt_of_lt_of_le (by decide) (nI_pos' (by omega)))
          | succ i => rw [nI_pred]; exact Int32.not_le.mpr (nI_lt (by omega) (by omega))
        · cases i with
          | zero => exact absurd c (by decide)
          | succ i => rw [if_neg (by omega)] at t133; exact t133
        · cases i with
          | zero => exact t133
          | succ i => rw [nI_pred] at c; exact absurd (nI_pos' (by omega)) c
    -- one time and w
    have t62 : ∀ N2 : Mem, ∀ s1 : Int32, s1 = nI (j % 2) → Sr M N2 l v2 (m_out (wv M) l v2 j) → N2.1 (10 + 5 * l) 9 = aw_f2 (j / 2) → B_X4_search G K 62 [(0, .ref 171), (1, .ref (10 + 5 * l)), (2, .int v2), (3, .int (wv M (10 + 5 * l) 14)), (4, .int (wv M (10 + 5 * l) 10)), (5, .int (nI j))] [.int s1, .ref (10 + 5 * l)] N2 := by
      intro N2 s1 es hN2 hN9
      have hput := hN2.put (k := 10) (v := s1) (Or.inr (Or.inl rfl)) hl8
      have e9 : (m_i N2 (10 + 5 * l) 10 s1).1 (10 + 5 * l) 9 = aw_f2 (j / 2) := by rw [m_i_ne (by omega)]; exact hN9
      have e10 : (m_i N2 (10 + 5 * l) 10 s1).1 (10 + 5 * l) 10 = s1 := m_i_at
      have e8 : (m_i N2 (10 + 5 * l) 10 s1).1 (10 + 5 * l) 8 = wv M (10 + 5 * l) 8 := by rw [hput.2.1 8 (by decide) (by decide) (by decide), ew]
      have e7 : (m_i N2 (10 + 5 * l) 10 s1).1 (10 + 5 * l) 7 = wv M (10 + 5 * l) 7 := by rw [hput.2.1 7 (by decide) (by decide) (by decide), ew]
      have go : ∀ ch, ch = m_ch (wv M) l (aw_f2 (j / 2)) (nI (j % 2)) → B_X4_search G K 104 [(0, .ref 171), (1, .ref (10 + 5 * l)), (2, .int v2), (3, .int (wv M (10 + 5 * l) 14)), (4, .int (wv M (10 + 5 * l) 10)), (5, .int (nI j)), (6, .int ch)] [] (m_i N2 (10 + 5 * l) 10 s1) := by
        intro ch ech
        refine k_X4_search_104 ha1 ?_
        refine inner (w_n (wv M) + 1) 0 _ _ ch (by omega) hput e9 (by rw [e10, es]) (fun N' hN' => ?_)
        rw [nI_1]
        refine ih N' ?_
        rw [m_out, ← ech]
        exact hN'
      refine k_X4_search_62 ha1 ?_
      rw [e8, e7, e9, e10]
      have m01 : s1 = 0 ∨ s1 = 1 := by
        rw [es]
        have : j % 2 = 0 ∨ j % 2 = 1 := by omega
        rcases this with z | z
        · rw [z]; exact Or.inl rfl
        · rw [z]; exact Or.inr rfl
      refine ⟨m01, fun c1 => ⟨fun c2 => go _ ?_, fun c2 => go _ ?_⟩, fun c1 => ⟨fun c2 => ⟨fun c3 => go _ ?_, fun c3 => go _ ?_⟩, fun c2 => ⟨fun c3 => go _ ?_, fun c3 => go _ ?_⟩⟩⟩
      · rw [m_ch, sel_t (by rw [← es]; exact c2), sel_f (fun q => c1 q.1)]
      · rw [m_ch, sel_f (by rw [← es]; exact c2), sel_f (fun q => c1 q.1)]
      · rw [m_ch, sel_t (by rw [← es]; exact c3), sel_t ⟨c1, c2⟩]
      · rw [m_ch, sel_f (by rw [← es]; exact c3), sel_t ⟨c1, c2⟩]
      · rw [m_ch, sel_t (by rw [← es]; exact c3), sel_f (fun q => c2 q.2)]
      · rw [m_ch, sel_f (by rw [← es]; exact c3), sel_f (fun q => c2 q.2)]
    refine k_X4_search_25 ha1 ?_
    rw [d1, ← d1, d2, d1, ix_nI (by omega)]
    have hm := hN.put (k := 9) (v := aw_f2 (j / 2)) (Or.inl rfl) hl8
    refine ⟨fun c => absurd c (Int32.not_le.mpr (nI_lt (show j < 6 by omega) (by decide))), fun _ => ⟨vp_nI (by omega) (by decide), fun c => t62 _ 0 ?_ hm m_i_at, fun c => t62 _ 1 c.symm hm m_i_at⟩⟩
    have : j % 2 = 0 ∨ j % 2 = 1 := by omega
    rcases this with z | z
    · rw [z]; rfl
    · rw [z] at c; exact absurd rfl c

