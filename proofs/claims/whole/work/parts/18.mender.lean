/-! ===== 18.mender ===== -/
noncomputable def w_due (W : WT) (day : Int32) (p : Nat) : Int32 := sel (W (52 + p) 4 = -6) (w_given W (52 + p) day) (W (52 + p) 4)
abbrev CmT : Type := Int32 × Int32 × Int32 × Int32
def c_md (N : Mem) : CmT := (N.1 171 3, N.1 171 4, N.1 171 5, N.1 171 6)
/-- the mender has found this (of nothing found only that) -/
def MdOk (N : Mem) (st : CmT) : Prop := N.1 171 3 = st.1 ∧ (¬ st.1 = -6 → c_md N = st)
/-- the world with other words in the law l -/
def W_m (W : WT) (l : Nat) (t w u : Int32) : WT := fun c k => if c = 10 + 5 * l then (if k = 9 then t else if k = 10 then w else if k = 14 then u else W c k) else W c k
def mend_ok (W : WT) (l : Nat) (day t w u : Int32) : Prop := ∀ p, p < w_p W → w_given (W_m W l t w u) (52 + p) day = w_due W day p
noncomputable def m_in (W : WT) (l : Nat) (day t w ch : Int32) : Nat → Nat → CmT → CmT
  | 0, _, st => st
  | k + 1, i, st =>
    sel (¬ st.1 = -6 ∧ st.1 ≤ (if i = 0 then ch else ch + 1)) st
      (m_in W l day t w ch k (i + 1) (sel (mend_ok W l day t w (if i = 0 then W (10 + 5 * l) 14 else W (10 + 5 * l) 14 ||| ((1 : Int32) <<< (nI (i - 1) &&& 31)))) ((if i = 0 then ch else ch + 1), t, (if w = 0 then 0 else 1), (if i = 0 then -6 else nI (i - 1))) st))
noncomputable def m_ch (W : WT) (l : Nat) (t w : Int32) : Int32 := sel (w = W (10 + 5 * l) 10) (sel (W (10 + 5 * l) 8 = -6 ∧ W (10 + 5 * l) 7 = t) 0 1) (sel (W (10 + 5 * l) 8 = -6 ∧ W (10 + 5 * l) 7 = t) 0 1 + 1)
noncomputable def m_out (W : WT) (l : Nat) (day : Int32) : Nat → CmT
  | 0 => (-6, 0, 0, 0)
  | t + 1 => m_in W l day (aw_f2 (t / 2)) (nI (t % 2)) (m_ch W l (aw_f2 (t / 2)) (nI (t % 2))) (w_n W + 1) 0 (m_out W l day t)
theorem W_m_ok {W : WT} {l : Nat} {t w u : Int32} (hl : l < 8) (h : WOk W) : WOk (W_m W l t w u) := by
  have e : ∀ c k, (¬ c = 10 + 5 * l ∨ k = 0) → W_m W l t w u c k = W c k := by
    intro c k hc
    unfold W_m
    by_cases hq : c = 10 + 5 * l
    · rw [if_pos hq]
      rcases hc with z | z
      · exact absurd hq z
      · rw [if_neg (by omega), if_neg (by omega), if_neg (by omega)]
    · rw [if_neg hq]
  have en : w_n (W_m W l t w u) = w_n W := by unfold w_n; rw [e 8 1 (by omega)]
  have ep : w_p (W_m W l t w u) = w_p W := by unfold w_p; rw [e 8 4 (by omega)]
  unfold WOk BOk at *
  rw [en, ep, e 8 1 (by omega), e 8 4 (by omega)]
  have h9 := h.2.1.2
  refine ⟨h.1, h.2.1, fun i hi => by rw [e 50 i (by omega)]; exact h.2.2.1 i hi, fun i hi => by rw [e (52 + i) 0 (by omega)]; exact h.2.2.2 i hi⟩

/-! BetweenLaws$Mender.settleDue(I)V -/
abbrev rm_X4_settleDue : Room := { frames := 5, cells := 0, slots := 0, locals := 126 }
abbrev B_X4_settleDue (G : GT) (K : Int32 → Mem → Prop) := BT G (Rep G) RX4 "settleDue" cX4_settleDue 4 none rm_X4_settleDue K 0 0
abbrev T_X4_settleDue (G : GT) (as : List Value) (M : Mem) (K : Int32 → Mem → Prop) : Prop := MT G (Rep G) yX4_settleDue cX4_settleDue 4 none rm_X4_settleDue as M K
theorem e_X4_settleDue {G : GT} {K : Int32 → Mem → Prop} {M : Mem} {v1 : Int32} (h : B_X4_settleDue G K 0 [(0, .ref 171), (1, .int v1)] [] M) : T_X4_settleDue G [.ref 171, .int v1] M K := MT.of (by decide +kernel) rfl rfl (Nat.le_of_ble_eq_true rfl) rfl h
set_option maxRecDepth 4000 in
theorem k_X4_settleDue_0 {G : GT} {K : Int32 → Mem → Prop} {M : Mem} {v1 : Int32} (h : B_X4_settleDue G K 2 [(0, .ref 171), (1, .int v1), (2, .int 0)] [] M) : B_X4_settleDue G K 0 [(0, .ref 171), (1, .int v1)] [] M := by
  refine BT.iconst (v := 0) dX4_settleDue_0 (by decide) ?_
  refine BT.istore_n (L' := [(2, .int 0), (0, .ref 171), (1, .int v1)]) dX4_settleDue_1 rfl (by decide) rfl ?_
  refine BT.sub [1, 2, 0] rfl ?_
  exact h
set_option maxRecDepth 4000 in
theorem k_X4_settleDue_2 {G : GT} {K : Int32 → Mem → Prop} {M : Mem} {v1 : Int32} {v2 : Int32} (h : ((M.1 8 4) ≤ v2 → K 0 M) ∧ (¬ (M.1 8 4) ≤ v2 → (vp_in v2 8) ∧ ((M.1 (52 + (Int32.toNatClampNeg v2)) 4) = (-6) → ((52 + (Int32.toNatClampNeg v2)) < 60 ∨ (52 + (Int32.toNatClampNeg v2)) = 174) ∧ (WOk (wv M)) ∧ (∀ r5 : Int32, r5 = (w_given (wv M) (52 + (Int32.toNatClampNeg v2)) v1) → ∀ N5 : Mem, (Scr M N5) → (vp_in v2 8) ∧ B_X4_settleDue G K 2 [(0, .ref 171), (1, .int v1), (2, .int (v2 + 1))] [] (m_i N5 172 (Int32.toNatClampNeg v2) r5))) ∧ (¬ (M.1 (52 + (Int32.toNatClampNeg v2)) 4) = (-6) → (vp_in v2 8) ∧ B_X4_settleDue G K 2 [(0, .ref 171), (1, .int v1), (2, .int (v2 + 1))] [] (m_i M 172 (Int32.toNatClampNeg v2) (M.1 (52 + (Int32.toNatClampNeg v2)) 4))))) : B_X4_settleDue G K 2 [(0, .ref 171), (1, .int v1), (2, .int v2)] [] M := by
  refine BT.iload_n dX4_settleDue_2 rfl 2 rfl ?_
  refine BT.aload_n dX4_settleDue_3 rfl 0 rfl ?_
  refine BT.getR (r := 8) fl_X4_9 ho_171 rfl dX4_settleDue_4 ?_
  refine BT.getI fl_X4_65 ho_8 rfl dX4_settleDue_7 ?_
  refine BT.icmp_ge (tgt := 60) dX4_settleDue_10 (by decide) (fun c => ?_) (fun c => ?_)
  · have c1 := c
    exact BT.vret dX4_settleDue_60 rfl (by decide) (by decide) (h.1 c1)
  · have c2 := c
    refine BT.aload_n dX4_settleDue_13 rfl 0 rfl ?_
    refine BT.getR (r := 8) fl_X4_9 ho_171 rfl dX4_settleDue_14 ?_
    refine BT.getR (r := 51) fl_X4_68 ho_8 rfl dX4_settleDue_17 ?_
    refine BT.iload_n dX4_settleDue_20 rfl 2 rfl ?_
    refine BT.aald1 ha_51 (by decide) (h.2 c2).1 dX4_settleDue_21 ?_
    refine BT.astore_n (L' := [(3, .ref (52 + (Int32.toNatClampNeg v2))), (0, .ref 171), (1, .int v1), (2, .int v2)]) dX4_settleDue_22 rfl (by decide) rfl ?_
    refine BT.aload_n dX4_settleDue_23 rfl 1 rfl ?_
    refine BT.getR (r := 172) fl_X4_19 ho_171 rfl dX4_settleDue_24 ?_
    refine BT.iload_n dX4_settleDue_27 rfl 3 rfl ?_
    refine BT.aload_n dX4_settleDue_28 rfl 0 rfl ?_
    refine BT.getI fl_X4_72 (pieceC8 (h.2 c2).1) rfl dX4_settleDue_29 ?_
    refine BT.bipush (v := (-6)) dX4_settleDue_32 (by decide) ?_
    refine BT.icmp_eq (tgt := 44) dX4_settleDue_34 (by decide) (fun c => ?_) (fun c => ?_)
    · have c3 := c
      refine BT.aload_n dX4_settleDue_44 rfl 1 rfl ?_
      refine BT.getR (r := 167) fl_X4_15 ho_171 rfl dX4_settleDue_45 ?_
      refine BT.aload_n dX4_settleDue_48 rfl 0 rfl ?_
      refine BT.iload_n dX4_settleDue_49 rfl 2 rfl ?_
      refine BT.mcVp [.ref (52 + (Int32.toNatClampNeg v2)), .int v1] (t_X2_given (pieceC8 (h.2 c2).1) ((h.2 c2).2.1 c3).1 ((h.2 c2).2.1 c3).2.1 (fun N hN => ⟨rfl, hN⟩)) mb_X2_given mv_X2_given lk_X4_77 rfl (by decide) rfl (recvRep ho_167 rfl) (Nat.le_of_ble_eq_true rfl) dX4_settleDue_50 (P := fun N5 => Scr M N5) (fun r5 e5 N5 g5 => ?_)
      show B_X4_settleDue G K 53 [(3, .ref (52 + (Int32.toNatClampNeg v2))), (0, .ref 171), (1, .int v1), (2, .int v2)] [.int r5, .int v2, .ref 172] N5
      refine BT.iast ha_172 (((h.2 c2).2.1 c3).2.2 r5 e5 N5 g5).1 dX4_settleDue_53 ?_
      refine BT.iinc (j := 3) (v := (v2 + 1)) (L' := [(2, .int (v2 + 1)), (3, .ref (52 + (Int32.toNatClampNeg v2))), (0, .ref 171), (1, .int v1)]) dX4_settleDue_54 rfl rfl (by decide) rfl ?_
      refine BT.goto (tgt := 2) dX4_settleDue_57 (by decide) ?_
      refine BT.sub [2, 3, 0] rfl ?_
      exact (((h.2 c2).2.1 c3).2.2 r5 e5 N5 g5).2
    · have c4 := c
      refine BT.aload_n dX4_settleDue_37 rfl 0 rfl ?_
      refine BT.getI fl_X4_72 (pieceC8 (h.2 c2).1) rfl dX4_settleDue_38 ?_
      refine BT.goto (tgt := 53) dX4_settleDue_41 (by decide) ?_
      refine BT.iast ha_172 ((h.2 c2).2.2 c4).1 dX4_settleDue_53 ?_
      refine BT.iinc (j := 3) (v := (v2 + 1)) (L' := [(2, .int (v2 + 1)), (3, .ref (52 + (Int32.toNatClampNeg v2))), (0, .ref 171), (1, .int v1)]) dX4_settleDue_54 rfl rfl (by decide) rfl ?_
      refine BT.goto (tgt := 2) dX4_settleDue_57 (by decide) ?_
      refine BT.sub [2, 3, 0] rfl ?_
      exact ((h.2 c2).2.2 c4).2

theorem t_X4_settleDue {G : GT} {K : Int32 → Mem → Prop} {M : Mem} {v1 : Int32} (hw : WOk (wv M)) (h : ∀ N, (Sc9 M N ∧ ∀ p, p < w_p (wv M) → N.1 172 p = w_due (wv M) v1 p) → K 0 N) : T_X4_settleDue G [.ref 171, .int v1] M K := by
  obtain ⟨-, ⟨hq, h9⟩, -⟩ := id hw
  refine e_X4_settleDue (k_X4_settleDue_0 ?_)
  refine up_loop (P := fun j => ∀ N, (Sc9 M N ∧ ∀ p, p < j → N.1 172 p = w_due (wv M) v1 p) → B_X4_settleDue G K 2 [(0, .ref 171), (1, .int v1), (2, .int (nI j))] [] N) (w_p (wv M)) (fun N hN => ?_) (fun j hj ih N hN => ?_) 0 (Nat.zero_le _) M ⟨Sc9.rf, fun p hp => absurd hp (Nat.not_lt_zero p)⟩
  · have e4 : N.1 8 4 = nI (w_p (wv M)) := by rw [hN.1 8 (by decide), ← hq, wv_at (by decide)]
    refine k_X4_settleDue_2 ⟨fun _ => h N hN, fun c => ?_⟩
    rw [e4] at c
    exact absurd (Int32.le_refl _) c
  · have off : ∀ c k, (c < 60 ∨ c = 174) → N.1 c k = wv M c k := fun c k hc => by rw [hN.1 c (by omega), wv_at hc]
    have next : ∀ (N2 : Mem) (x : Int32), (∀ c, ¬ (166 ≤ c ∧ c ≤ 173) → N2.1 c = M.1 c) → (∀ p, p < j → N2.1 172 p = w_due (wv M) v1 p) → x = w_due (wv M) v1 j → Sc9 M (m_i N2 172 j x) ∧ ∀ p, p < j + 1 → (m_i N2 172 j x).1 172 p = w_due (wv M) v1 p := by
      intro N2 x h1 h2 h3
      refine ⟨Sc9.mi h1 (by decide), fun p hp => ?_⟩
      by_cases hpj : p = j
      · rw [hpj, m_i_at, h3]
      · rw [m_i_ne (fun q => hpj q.2), h2 p (by omega)]
    refine k_X4_settleDue_2 ?_
    rw [off 8 4 (by decide), hq]
    simp only [ix_nI (show j < 2 ^ 31 by omega), nI_1]
    rw [off (52 + j) 4 (by omega)]
    refine ⟨fun c => ?_, fun c => ⟨vp_nI (by omega) (by decide), fun c1 => ⟨by omega, by rw [hN.1.wvE]; exact hw, fun r5 e5 N5 g5 => ⟨vp_nI (by omega) (by decide), ?_⟩⟩, fun c1 => ⟨vp_nI (by omega) (by decide), ?_⟩⟩⟩
    · rw [nI_leI (by omega) (by omega)] at c
      omega
    · rw [hN.1.wvE] at e5
      exact ih _ (next N5 r5 (hN.1.tr g5.s9) (fun p hp => by rw [g5.1 172 (by decide)]; exact hN.2 p hp) (by rw [e5, w_due, sel_t c1]))
    · exact ih _ (next N _ hN.1 hN.2 (by rw [w_due, sel_f c1]))

/-! BetweenLaws$Mender.comesOut(I)Z -/
abbrev rm_X4_comesOut : Room := { frames := 5, cells := 0, slots := 0, locals := 126 }
abbrev B_X4_comesOut (G : GT) (K : Int32 → Mem → Prop) := BT G (Rep G) RX4 "comesOut" cX4_comesOut 3 (some .boolean) rm_X4_comesOut K 0 0
abbrev T_X4_comesOut (G : GT) (as : List Value) (M : Mem) (K : Int32 → Mem → Prop) : Prop := MT G (Rep G) yX4_comesOut cX4_comesOut 3 (some .boolean) rm_X4_comesOut as M K
theorem e_X4_comesOut {G : GT} {K : Int32 → Mem → Prop} {M : Mem} {v1 : Int32} (h : B_X4_comesOut G K 0 [(0, .ref 171), (1, .int v1)] [] M) : T_X4_comesOut G [.ref 171, .int v1] M K := MT.of (by decide +kernel) rfl rfl (Nat.le_of_ble_eq_true rfl) rfl h
set_option maxRecDepth 4000 in
theorem k_X4_comesOut_0 {G : GT} {K : Int32 → Mem → Prop} {M : Mem} {v1 : Int32} (h : B_X4_comesOut G K 2 [(0, .ref 171), (1, .int v1), (2, .int 0)] [] M) : B_X4_comesOut G K 0 [(0, .ref 171), (1, .int v1)] [] M := by
  refine BT.iconst (v := 0) dX4_comesOut_0 (by decide) ?_
  refine BT.istore_n (L' := [(2, .int 0), (0, .ref 171), (1, .int v1)]) dX4_comesOut_1 rfl (by decide) rfl ?_
  refine BT.sub [1, 2, 0] rfl ?_
  exact h
set_option maxRecDepth 4000 in
theorem k_X4_comesOut_2 {G : GT} {K : Int32 → Mem → Prop} {M : Mem} {v1 : Int32} {v2 : Int32} (h : ((M.1 8 4) ≤ v2 → K 1 M) ∧ (¬ (M.1 8 4) ≤ v2 → (vp_in v2 8) ∧ ((52 + (Int32.toNatClampNeg v2)) < 60 ∨ (52 + (Int32.toNatClampNeg v2)) = 174) ∧ (WOk (wv M)) ∧ (∀ r3 : Int32, r3 = (w_given (wv M) (52 + (Int32.toNatClampNeg v2)) v1) → ∀ N3 : Mem, (Scr M N3) → (vp_in v2 8) ∧ (r3 = (N3.1 172 (Int32.toNatClampNeg v2)) → B_X4_comesOut G K 2 [(0, .ref 171), (1, .int v1), (2, .int (v2 + 1))] [] N3) ∧ (¬ r3 = (N3.1 172 (Int32.toNatClampNeg v2)) → K 0 N3)))) : B_X4_comesOut G K 2 [(0, .ref 171), (1, .int v1), (2, .int v2)] [] M := by
  refine BT.iload_n dX4_comesOut_2 rfl 2 rfl ?_
  refine BT.aload_n dX4_comesOut_3 rfl 0 rfl ?_
  refine BT.getR (r := 8) fl_X4_9 ho_171 rfl dX4_comesOut_4 ?_
  refine BT.getI fl_X4_65 ho_8 rfl dX4_comesOut_7 ?_
  refine BT.icmp_ge (tgt := 47) dX4_comesOut_10 (by decide) (fun c => ?_) (fun c => ?_)
  · have c1 := c
    refine BT.iconst (v := 1) dX4_comesOut_47 (by decide) ?_
    exact BT.zret dX4_comesOut_48 rfl (by decide) (by decide) (nar01 ((Or.inr rfl))) (h.1 c1)
  · have c2 := c
    refine BT.aload_n dX4_comesOut_13 rfl 0 rfl ?_
    refine BT.getR (r := 167) fl_X4_15 ho_171 rfl dX4_comesOut_14 ?_
    refine BT.aload_n dX4_comesOut_17 rfl 0 rfl ?_
    refine BT.getR (r := 8) fl_X4_9 ho_171 rfl dX4_comesOut_18 ?_
    refine BT.getR (r := 51) fl_X4_68 ho_8 rfl dX4_comesOut_21 ?_
    refine BT.iload_n dX4_comesOut_24 rfl 2 rfl ?_
    refine BT.aald1 ha_51 (by decide) (h.2 c2).1 dX4_comesOut_25 ?_
    refine BT.iload_n dX4_comesOut_26 rfl 1 rfl ?_
    refine BT.mcVp [.ref (52 + (Int32.toNatClampNeg v2)), .int v1] (t_X2_given (pieceC8 (h.2 c2).1) (h.2 c2).2.1 (h.2 c2).2.2.1 (fun N hN => ⟨rfl, hN⟩)) mb_X2_given mv_X2_given lk_X4_77 rfl (by decide) rfl (recvRep ho_167 rfl) (Nat.le_of_ble_eq_true rfl) dX4_comesOut_27 (P := fun N3 => Scr M N3) (fun r3 e3 N3 g3 => ?_)
    show B_X4_comesOut G K 30 [(0, .ref 171), (1, .int v1), (2, .int v2)] [.int r3] N3
    refine BT.aload_n dX4_comesOut_30 rfl 0 rfl ?_
    refine BT.getR (r := 172) fl_X4_19 ho_171 rfl dX4_comesOut_31 ?_
    refine BT.iload_n dX4_comesOut_34 rfl 2 rfl ?_
    refine BT.iald ha_172 ((h.2 c2).2.2.2 r3 e3 N3 g3).1 dX4_comesOut_35 ?_
    refine BT.icmp_eq (tgt := 41) dX4_comesOut_36 (by decide) (fun c => ?_) (fun c => ?_)
    · have c4 := c
      refine BT.iinc (j := 2) (v := (v2 + 1)) (L' := [(2, .int (v2 + 1)), (0, .ref 171), (1, .int v1)]) dX4_comesOut_41 rfl rfl (by decide) rfl ?_
      refine BT.goto (tgt := 2) dX4_comesOut_44 (by decide) ?_
      refine BT.sub [1, 2, 0] rfl ?_
      exact (((h.2 c2).2.2.2 r3 e3 N3 g3).2.1 c4)
    · have c5 := c
      refine BT.iconst (v := 0) dX4_comesOut_39 (by decide) ?_
      exact BT.zret dX4_comesOut_40 rfl (by decide) (by decide) (nar01 ((Or.inl rfl))) (((h.2 c2).2.2.2 r3 e3 N3 g3).2.2 c5)

theorem t_X4_comesOut {G : GT} {K : Int32 → Mem → Prop} {M : Mem} {v1 : Int32} (hw : WOk (wv M)) (h : ∀ N, Scr M N → K (bi (∀ p, p < w_p (wv M) → w_given (wv M) (52 + p) v1 = M.1 172 p)) N) : T_X4_comesOut G [.ref 171, .int v1] M K := by
  obtain ⟨-, ⟨hq, h9⟩, -⟩ := id hw
  have h1 : (∀ p, p < w_p (wv M) → w_given (wv M) (52 + p) v1 = M.1 172 p) → ∀ N, Scr M N → K 1 N := fun q N hN => (bi_K (h N hN)).1 q
  have h0 : ¬ (∀ p, p < w_p (wv M) → w_given (wv M) (52 + p) v1 = M.1 172 p) → ∀ N, Scr M N → K 0 N := fun q N hN => (bi_K (h N hN)).2 q
  clear h
  refine e_X4_comesOut (k_X4_comesOut_0 ?_)
  refine up_loop (P := fun j => (∀ p, p < j → w_given (wv M) (52 + p) v1 = M.1 172 p) → ∀ N, Scr M N → B_X4_comesOut G K 2 [(0, .ref 171), (1, .int v1), (2, .int (nI j))] [] N) (w_p (wv M)) (fun hall N hN => ?_) (fun j hj ih hall N hN => ?_) 0 (Nat.zero_le _) (fun p hp => absurd hp (Nat.not_lt_zero p)) M Scr.rf
  · have e4 : N.1 8 4 = nI (w_p (wv M)) := by rw [hN.1 8 (by decide), ← hq, wv_at (by decide)]
    refine k_X4_comesOut_2 ⟨fun _ => h1 hall N hN, fun c => ?_⟩
    rw [e4] at c
    exact absurd (Int32.le_refl _) c
  · have e4 : N.1 8 4 = nI (w_p (wv M)) := by rw [hN.1 8 (by decide), ← hq, wv_at (by decide)]
    refine k_X4_comesOut_2 ?_
    rw [e4]
    simp only [ix_nI (show j < 2 ^ 31 by omega), nI_1]
    refine ⟨fun c => ?_, fun c => ⟨vp_nI (by omega) (by decide), by omega, by rw [hN.wvE]; exact hw, fun r3 e3 N3 g3 => ⟨vp_nI (by omega) (by decide), fun c1 => ?_, fun c1 => ?_⟩⟩⟩
    · rw [nI_leI (by omega) (by omega)] at c
      omega
    · rw [e3, hN.wvE, g3.1 172 (by decide), hN.1 172 (by decide)] at c1
      refine ih (fun p hp => ?_) N3 (hN.tr g3)
      rcases Nat.lt_succ_iff_lt_or_eq.mp hp with q | rfl
      · exact hall p q
      · exact c1
    · rw [e3, hN.wvE, g3.1 172 (by decide), hN.1 172 (by decide)] at c1
      exact h0 (fun q => c1 (q j hj)) N3 (hN.tr g3)

/-! BetweenLaws$Mender.keep(ILBetweenLaws$Law;I)V -/
abbrev rm_X4_keep : Room := { frames := 0, cells := 0, slots := 0, locals := 0 }
abbrev B_X4_keep (G : GT) (K : Int32 → Mem → Prop) := BT G (Rep G) RX4 "keep" cX4_keep 4 none rm_X4_keep K 0 0
abbrev T_X4_keep (G : GT) (as : List Value) (M : Mem) (K : Int32 → Mem → Prop) : Prop := MT G (Rep G) yX4_keep cX4_keep 4 none rm_X4_keep as M K
theorem e_X4_keep {G : GT} {K : Int32 → Mem → Prop} {M : Mem} {v1 : Int32} {a2 : Nat} {v3 : Int32} (h : B_X4_keep G K 0 [(0, .ref 171), (1, .int v1), (2, .ref a2), (3, .int v3)] [] M) : T_X4_keep G [.ref 171, .int v1, .ref a2, .int v3] M K := MT.of (by decide +kernel) rfl rfl (Nat.le_of_ble_eq_true rfl) rfl h
set_option maxRecDepth 4000 in
theorem k_X4_keep_0 {G : GT} {K : Int32 → Mem → Prop} {M : Mem} {v1 : Int32} {a2 : Nat} {v3 : Int32} (ha2 : LawC a2) (h : (((m_i (m_i M 171 3 v1) 171 4 ((m_i M 171 3 v1).1 a2 9)).1 a2 10) = 0 → (0 ≤ v3 → K 0 (m_i (m_i (m_i (m_i M 171 3 v1) 171 4 ((m_i M 171 3 v1).1 a2 9)) 171 5 0) 171 6 v3)) ∧ (¬ 0 ≤ v3 → K 0 (m_i (m_i (m_i (m_i M 171 3 v1) 171 4 ((m_i M 171 3 v1).1 a2 9)) 171 5 0) 171 6 (-6)))) ∧ (¬ ((m_i (m_i M 171 3 v1) 171 4 ((m_i M 171 3 v1).1 a2 9)).1 a2 10) = 0 → (0 ≤ v3 → K 0 (m_i (m_i (m_i (m_i M 171 3 v1) 171 4 ((m_i M 171 3 v1).1 a2 9)) 171 5 1) 171 6 v3)) ∧ (¬ 0 ≤ v3 → K 0 (m_i (m_i (m_i (m_i M 171 3 v1) 171 4 ((m_i M 171 3 v1).1 a2 9)) 171 5 1) 171 6 (-6))))) : B_X4_keep G K 0 [(0, .ref 171), (1, .int v1), (2, .ref a2), (3, .int v3)] [] M := by
  refine BT.aload_n dX4_keep_0 rfl 0 rfl ?_
  refine BT.iload_n dX4_keep_1 rfl 1 rfl ?_
  refine BT.putI fl_X4_37 ft_4_3 ho_171 rfl dX4_keep_2 ?_
  refine BT.aload_n dX4_keep_5 rfl 0 rfl ?_
  refine BT.aload_n dX4_keep_6 rfl 2 rfl ?_
  refine BT.getI fl_X4_43 ha2.1 rfl dX4_keep_7 ?_
  refine BT.putI fl_X4_83 ft_4_4 ho_171 rfl dX4_keep_10 ?_
  refine BT.aload_n dX4_keep_13 rfl 0 rfl ?_
  refine BT.aload_n dX4_keep_14 rfl 2 rfl ?_
  refine BT.getI fl_X4_33 ha2.1 rfl dX4_keep_15 ?_
  refine BT.if_eq (tgt := 25) dX4_keep_18 (by decide) (fun c => ?_) (fun c => ?_)
  · have c1 := c
    refine BT.iconst (v := 0) dX4_keep_25 (by decide) ?_
    refine BT.putI fl_X4_84 ft_4_5 ho_171 rfl dX4_keep_26 ?_
    refine BT.aload_n dX4_keep_29 rfl 0 rfl ?_
    refine BT.iload_n dX4_keep_30 rfl 3 rfl ?_
    refine BT.if_ge (tgt := 39) dX4_keep_31 (by decide) (fun c => ?_) (fun c => ?_)
    · have c3 := c
      refine BT.iload_n dX4_keep_39 rfl 3 rfl ?_
      refine BT.putI fl_X4_86 ft_4_6 ho_171 rfl dX4_keep_40 ?_
      exact BT.vret dX4_keep_43 rfl (by decide) (by decide) ((h.1 c1).1 c3)
    · have c4 := c
      refine BT.bipush (v := (-6)) dX4_keep_34 (by decide) ?_
      refine BT.goto (tgt := 40) dX4_keep_36 (by decide) ?_
      refine BT.putI fl_X4_86 ft_4_6 ho_171 rfl dX4_keep_40 ?_
      exact BT.vret dX4_keep_43 rfl (by decide) (by decide) ((h.1 c1).2 c4)
  · have c2 := c
    refine BT.iconst (v := 1) dX4_keep_21 (by decide) ?_
    refine BT.goto (tgt := 26) dX4_keep_22 (by decide) ?_
    refine BT.putI fl_X4_84 ft_4_5 ho_171 rfl dX4_keep_26 ?_
    refine BT.aload_n dX4_keep_29 rfl 0 rfl ?_
    refine BT.iload_n dX4_keep_30 rfl 3 rfl ?_
    refine BT.if_ge (tgt := 39) dX4_keep_31 (by decide) (fun c => ?_) (fun c => ?_)
    · have c5 := c
      refine BT.iload_n dX4_keep_39 rfl 3 rfl ?_
      refine BT.putI fl_X4_86 ft_4_6 ho_171 rfl dX4_keep_40 ?_
      exact BT.vret dX4_keep_43 rfl (by decide) (by decide) ((h.2 c2).1 c5)
    · have c6 := c
      refine BT.bipush (v := (-6)) dX4_keep_34 (by decide) ?_
      refine BT.goto (tgt := 40) dX4_keep_36 (by decide) ?_
      refine BT.putI fl_X4_86 ft_4_6 ho_171 rfl dX4_keep_40 ?_
      exact BT.vret dX4_keep_43 rfl (by decide) (by decide) ((h.2 c2).2 c6)

theorem t_X4_keep {G : GT} {K : Int32 → Mem → Prop} {M : Mem} {v1 : Int32} {a2 : Nat} {v3 : Int32} (ha2 : LawC a2) (h60 : a2 < 60) (h : ∀ N, ((∀ c, ¬ c = 171 → N.1 c = M.1 c) ∧ N.1 171 3 = v1 ∧ N.1 171 4 = M.1 a2 9 ∧ N.1 171 5 = (if M.1 a2 10 = 0 then 0 else 1) ∧ N.1 171 6 = (if 0 ≤ v3 then v3 else -6)) → K 0 N) : T_X4_keep G [.ref 171, .int v1, .ref a2, .int v3] M K := by
  refine e_X4_keep (k_X4_keep_0 ha2 ?_)
  have e9 : (m_i M 171 3 v1).1 a2 9 = M.1 a2 9 := m_i_ne (by omega)
  have e10 : ∀ x, (m_i (m_i M 171 3 v1) 171 4 x).1 a2 10 = M.1 a2 10 := fun x => by rw [m_i_ne (by omega), m_i_ne (by omega)]
  rw [e9, e10]
  have fin : ∀ a b, (a = if M.1 a2 10 = 0 then 0 else 1) → (b = if 0 ≤ v3 then v3 else -6) → K 0 (m_i (m_i (m_i (m_i M 171 3 v1) 171 4 (M.1 a2 9)) 171 5 a) 171 6 b) := by
    intro a b ea eb
    refine h _ ⟨fun c hc => by rw [mi_off hc, mi_off hc, mi_off hc, mi_off hc], ?_, ?_, ?_, ?_⟩
    · rw [m_i_ne (by decide), m_i_ne (by decide), m_i_ne (by decide), m_i_at]
    · rw [m_i_ne (by decide), m_i_ne (by decide), m_i_at]
    · rw [m_i_ne (by decide), m_i_at, ea]
    · rw [m_i_at, eb]
  exact ⟨fun c => ⟨fun c1 => fin _ _ (by rw [if_pos c]) (by rw [if_pos c1]), fun c1 => fin _ _ (by rw [if_pos c]) (by rw [if_neg c1])⟩, fun c => ⟨fun c1 => fin _ _ (by rw [if_neg c]) (by rw [if_pos c1]), fun c1 => fin _ _ (by rw [if_neg c]) (by rw [if_neg c1])⟩⟩

