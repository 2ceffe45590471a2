/-! ===== 58.text4 ===== -/
theorem t_w {T : TT} {was s c : Int32} (hs : ¬ s = 1 ∧ ¬ s = 3 ∧ ¬ s = 6 ∧ ¬ (s = 4 ∨ s = 5)) (hc : ¬ (c = 124 ∨ c = 47)) : t_step T was s c = (T.1, t_word T.2 s c) := by
  unfold t_step
  rw [if_neg hs.1, if_neg hs.2.1, if_neg hs.2.2.1, if_neg hs.2.2.2, if_neg hc]
theorem tm_nb {c : Int32} (h : tmB c) : ¬ (c = 124 ∨ c = 47) := by rcases h with rfl | rfl | rfl <;> decide
theorem wy_nb {c : Int32} (h : wyB c) : ¬ (c = 124 ∨ c = 47) := by rcases h with rfl | rfl | rfl <;> decide
theorem wy_nd {c : Int32} (h : wyB c) : ¬ dgB c := by rcases h with rfl | rfl | rfl <;> decide
theorem dg_nb {d : Nat} (h : d < 10) : ¬ (nI (48 + d) = 124 ∨ nI (48 + d) = 47) := by
  rintro (q | q)
  · have := (nI_eq (b := 124) (by omega) (by omega)).mp q; omega
  · have := (nI_eq (b := 47) (by omega) (by omega)).mp q; omega
def WdPre (E : ET) (w : Int32) (M : Mem) : Prop := ∃ i p T, PS E i (8, p) T M ∧ p.2.2.2 = w ∧ (1 ≤ T.1.1 ∧ T.1.1 ≤ 6) ∧ CR M.1 T.1.1 T.1.2.1 T.1.2.2.1 ∧ WR M.1 T.2 ∧ LT T.2
def TiPre (E : ET) (M : Mem) : Prop := (∃ w, w < 1 ∧ WdPre E w M) ∧ tmB (pd_nx M.1)
def TmPre (E : ET) (M : Mem) : Prop := ∃ i p T, PS E i (13, p) T M ∧ p.2.2.2 = 3 ∧ (1 ≤ T.1.1 ∧ T.1.1 ≤ 6) ∧ CR M.1 T.1.1 T.1.2.1 T.1.2.2.1 ∧ WR M.1 T.2 ∧ LT T.2
def WdEnd (E : ET) (M : Mem) (w : Int32) (N : Mem) : Prop := ∃ i s p T, PS E i (s, p) T N ∧ (q_whole s ∧ ¬ s = 4 ∧ ¬ s = 5) ∧ p.2.2.2 = w ∧ (1 ≤ T.1.1 ∧ T.1.1 ≤ 6) ∧ CR N.1 T.1.1 T.1.2.1 T.1.2.2.1 ∧ WR N.1 T.2 ∧ LT T.2 ∧ M.1 1 2 < N.1 1 2 ∧ q_step (s, p) 44 = (8, p) ∧ (¬ sx E i = 44 → (q_step (s, p) (sx E i)).1 < 0)
def WdOut (E : ET) (M : Mem) (w : Int32) (N : Mem) (r : Int32) : Prop := (r = 0 ∧ Fail E N) ∨ (r = 1 ∧ WdEnd E M w N)
def WordOut (E : ET) (M N : Mem) (r : Int32) : Prop := (r = -6 ∧ Fail E N) ∨ (¬ r = -6 ∧ ¬ r = 0 ∧ WdEnd E M r N)
def TextEnd (E : ET) (N : Mem) : Prop := ∃ i q T k, PS E i q T N ∧ q_whole q.1 ∧ (q_step q (sx E i)).1 < 0 ∧ (1 ≤ k ∧ k ≤ 6) ∧ k = T.1.1 + (if q.2.2.2.2 = 0 then 1 else 0) ∧ CR N.1 k T.1.2.1 T.1.2.2.1 ∧ WR N.1 T.2 ∧ LT T.2
def WordsOut (E : ET) (N : Mem) (r : Int32) : Prop := (r = 0 ∧ Fail E N) ∨ (r = 1 ∧ TextEnd E N)
theorem WdEnd.le {E : ET} {M M' N : Mem} {w : Int32} (h : WdEnd E M w N) (e : M'.1 1 2 ≤ M.1 1 2) : WdEnd E M' w N := by
  obtain ⟨i, s, p, T, h1, h2, h3, h4, h5, h6, h7, h8, h9⟩ := h
  exact ⟨i, s, p, T, h1, h2, h3, h4, h5, h6, h7, Int32.lt_of_le_of_lt e h8, h9⟩
theorem PS.lt {E : ET} {i j : Nat} {q q' : QT} {T T' : TT} {M N : Mem} (h : PS E i q T M) (h' : PS E j q' T' N) (hij : i < j) : M.1 1 2 < N.1 1 2 := by
  obtain ⟨⟨hn, hi, -, e2⟩, -⟩ := h
  obtain ⟨⟨-, hj, -, e2'⟩, -⟩ := h'
  rw [e2, e2']
  exact nI_lt hij (by omega)

/-! BetweenLaws$Pad.readTime(LBetweenLaws$Law;)Z -/
abbrev rm_X5_readTime : Room := { frames := 2, cells := 0, slots := 0, locals := 41 }
abbrev B_X5_readTime (G : GT) (K : Int32 → Mem → Prop) := BT G (Rep G) RX5 "readTime" cX5_readTime 2 (some .boolean) rm_X5_readTime K 0 0
abbrev T_X5_readTime (G : GT) (as : List Value) (M : Mem) (K : Int32 → Mem → Prop) : Prop := MT G (Rep G) yX5_readTime cX5_readTime 2 (some .boolean) rm_X5_readTime as M K
theorem e_X5_readTime {G : GT} {K : Int32 → Mem → Prop} {M : Mem}  (h : B_X5_readTime G K 0 [(0, .ref 1), (1, .ref 3)] [] M) : T_X5_readTime G [.ref 1, .ref 3] M K := MT.of (by decide +kernel) rfl rfl (Nat.le_of_ble_eq_true rfl) rfl h
set_option maxRecDepth 4000 in
theorem k_X5_readTime_0 {G : GT} {K : Int32 → Mem → Prop} {M : Mem}  (h : (PdOk M) ∧ (∀ r1 : Int32, r1 = (pd_nx M.1) → (∀ N2 : Mem, N2 = (m_i M 3 7 r1) → (∀ N3 : Mem, N3 = (m_i N2 3 9 (N2.1 3 7)) → (∀ N4 : Mem, N4 = (m_i N3 1 2 ((N3.1 1 2) + 1)) → (PdOk N4) ∧ (∀ (r5 : Int32) (N5 : Mem), ((r5 = 1 ∧ pd_nx N4.1 = 63 ∧ N5 = pd_adv N4) ∨ (r5 = 0 ∧ ¬ pd_nx N4.1 = 63 ∧ N5 = N4)) → (¬ r5 = 0 → (PdOk N5) ∧ (∀ r8 : Int32, r8 = (pd_nx N5.1) → (¬ (r8 = 110 ∨ r8 = 104 ∨ r8 = 97) → K 0 N5) ∧ ((r8 = 110 ∨ r8 = 104 ∨ r8 = 97) → (PdOk N5) ∧ (∀ r12 : Int32, r12 = (pd_nx N5.1) → (¬ r12 = (N5.1 3 7) → (PdOk N5) ∧ (∀ r15 : Int32, r15 = (pd_nx N5.1) → (∀ N16 : Mem, N16 = (m_i N5 3 8 r15) → (∀ N17 : Mem, N17 = (m_i N16 1 2 ((N16.1 1 2) + 1)) → K 1 N17)))) ∧ (r12 = (N5.1 3 7) → K 0 N5))))) ∧ (r5 = 0 → K 1 N5))))))) : B_X5_readTime G K 0 [(0, .ref 1), (1, .ref 3)] [] M := by
  refine BT.aload_n dX5_readTime_0 rfl 1 rfl ?_
  refine BT.aload_n dX5_readTime_1 rfl 0 rfl ?_
  refine BT.mcVr [] (t_X5_next h.1 ⟨rfl, rfl⟩) mb_X5_next mv_X5_next lk_X5_62 rfl (by decide) rfl (recvRep ho_1 rfl) (Nat.le_of_ble_eq_true rfl) dX5_readTime_2 (fun r1 e1 => ?_)
  show B_X5_readTime G K 5 [(0, .ref 1), (1, .ref 3)] [.int r1, .ref 3] M
  refine BT.putI fl_X5_90 ft_3_7 ho_3 rfl dX5_readTime_5 ?_
  refine BT.topm (fun N2 f2 => ?_)
  refine BT.aload_n dX5_readTime_8 rfl 1 rfl ?_
  refine BT.aload_n dX5_readTime_9 rfl 1 rfl ?_
  refine BT.getI fl_X5_90 ho_3 rfl dX5_readTime_10 ?_
  refine BT.putI fl_X5_93 ft_3_9 ho_3 rfl dX5_readTime_13 ?_
  refine BT.topm (fun N3 f3 => ?_)
  refine BT.aload_n dX5_readTime_16 rfl 0 rfl ?_
  refine BT.dup dX5_readTime_17 rfl ?_
  refine BT.getI fl_X5_24 ho_1 rfl dX5_readTime_18 ?_
  refine BT.iconst (v := 1) dX5_readTime_21 (by decide) ?_
  refine BT.iadd dX5_readTime_22 ?_
  refine BT.putI fl_X5_24 ft_5_2 ho_1 rfl dX5_readTime_23 ?_
  refine BT.topm (fun N4 f4 => ?_)
  refine BT.aload_n dX5_readTime_26 rfl 0 rfl ?_
  refine BT.bipush (v := 63) dX5_readTime_27 (by decide) ?_
  refine BT.mcV [.int 63] (t_X5_takes ((((h.2 r1 e1) N2 f2) N3 f3) N4 f4).1 (fun r5 N5 g5 => ?_)) mb_X5_takes mv_X5_takes lk_X5_31 rfl (by decide) rfl (recvRep ho_1 rfl) (Nat.le_of_ble_eq_true rfl) dX5_readTime_29
  show B_X5_readTime G K 32 [(0, .ref 1), (1, .ref 3)] [.int r5] N5
  refine BT.if_ne (tgt := 37) dX5_readTime_32 (by decide) (fun c => ?_) (fun c => ?_)
  · have c6 := c
    refine BT.aload_n dX5_readTime_37 rfl 0 rfl ?_
    refine BT.mcVr [] (t_X5_next ((((((h.2 r1 e1) N2 f2) N3 f3) N4 f4).2 r5 N5 g5).1 c6).1 ⟨rfl, rfl⟩) mb_X5_next mv_X5_next lk_X5_62 rfl (by decide) rfl (recvRep ho_1 rfl) (Nat.le_of_ble_eq_true rfl) dX5_readTime_38 (fun r8 e8 => ?_)
    show B_X5_readTime G K 41 [(0, .ref 1), (1, .ref 3)] [.int r8] N5
    refine BT.bipush (v := 110) dX5_readTime_41 (by decide) ?_
    refine BT.bipush (v := 104) dX5_readTime_43 (by decide) ?_
    refine BT.bipush (v := 97) dX5_readTime_45 (by decide) ?_
    refine BT.mcS [.int r8, .int 110, .int 104, .int 97] (t_X5_isOneOf  ?_) mb_X5_isOneOf ms_X5_isOneOf lk_X5_73 rfl (by decide) rfl (Nat.le_of_ble_eq_true rfl) dX5_readTime_47
    show B_X5_readTime G K 50 [(0, .ref 1), (1, .ref 3)] [.int (bi (r8 = 110 ∨ r8 = 104 ∨ r8 = 97))] N5
    refine BT.if_eq (tgt := 64) dX5_readTime_50 (by decide) (fun c => ?_) (fun c => ?_)
    · have c10 := bi_eq0.mp c
      refine BT.iconst (v := 0) dX5_readTime_64 (by decide) ?_
      exact BT.zret dX5_readTime_65 rfl (by decide) (by decide) (nar01 ((Or.inl rfl))) ((((((((h.2 r1 e1) N2 f2) N3 f3) N4 f4).2 r5 N5 g5).1 c6).2 r8 e8).1 c10)
    · have c11 := bi_ne0.mp c
      refine BT.aload_n dX5_readTime_53 rfl 0 rfl ?_
      refine BT.mcVr [] (t_X5_next ((((((((h.2 r1 e1) N2 f2) N3 f3) N4 f4).2 r5 N5 g5).1 c6).2 r8 e8).2 c11).1 ⟨rfl, rfl⟩) mb_X5_next mv_X5_next lk_X5_62 rfl (by decide) rfl (recvRep ho_1 rfl) (Nat.le_of_ble_eq_true rfl) dX5_readTime_54 (fun r12 e12 => ?_)
      show B_X5_readTime G K 57 [(0, .ref 1), (1, .ref 3)] [.int r12] N5
      refine BT.aload_n dX5_readTime_57 rfl 1 rfl ?_
      refine BT.getI fl_X5_90 ho_3 rfl dX5_readTime_58 ?_
      refine BT.icmp_ne (tgt := 66) dX5_readTime_61 (by decide) (fun c => ?_) (fun c => ?_)
      · have c13 := c
        refine BT.aload_n dX5_readTime_66 rfl 1 rfl ?_
        refine BT.aload_n dX5_readTime_67 rfl 0 rfl ?_
        refine BT.mcVr [] (t_X5_next ((((((((((h.2 r1 e1) N2 f2) N3 f3) N4 f4).2 r5 N5 g5).1 c6).2 r8 e8).2 c11).2 r12 e12).1 c13).1 ⟨rfl, rfl⟩) mb_X5_next mv_X5_next lk_X5_62 rfl (by decide) rfl (recvRep ho_1 rfl) (Nat.le_of_ble_eq_true rfl) dX5_readTime_68 (fun r15 e15 => ?_)
        show B_X5_readTime G K 71 [(0, .ref 1), (1, .ref 3)] [.int r15, .ref 3] N5
        refine BT.putI fl_X5_96 ft_3_8 ho_3 rfl dX5_readTime_71 ?_
        refine BT.topm (fun N16 f16 => ?_)
        refine BT.aload_n dX5_readTime_74 rfl 0 rfl ?_
        refine BT.dup dX5_readTime_75 rfl ?_
        refine BT.getI fl_X5_24 ho_1 rfl dX5_readTime_76 ?_
        refine BT.iconst (v := 1) dX5_readTime_79 (by decide) ?_
        refine BT.iadd dX5_readTime_80 ?_
        refine BT.putI fl_X5_24 ft_5_2 ho_1 rfl dX5_readTime_81 ?_
        refine BT.topm (fun N17 f17 => ?_)
        refine BT.iconst (v := 1) dX5_readTime_84 (by decide) ?_
        exact BT.zret dX5_readTime_85 rfl (by decide) (by decide) (nar01 ((Or.inr rfl))) (((((((((((((h.2 r1 e1) N2 f2) N3 f3) N4 f4).2 r5 N5 g5).1 c6).2 r8 e8).2 c11).2 r12 e12).1 c13).2 r15 e15) N16 f16) N17 f17)
      · have c14 := c
        refine BT.iconst (v := 0) dX5_readTime_64 (by decide) ?_
        exact BT.zret dX5_readTime_65 rfl (by decide) (by decide) (nar01 ((Or.inl rfl))) ((((((((((h.2 r1 e1) N2 f2) N3 f3) N4 f4).2 r5 N5 g5).1 c6).2 r8 e8).2 c11).2 r12 e12).2 c14)
  · have c7 := c
    refine BT.iconst (v := 1) dX5_readTime_35 (by decide) ?_
    exact BT.zret dX5_readTime_36 rfl (by decide) (by decide) (nar01 ((Or.inr rfl))) ((((((h.2 r1 e1) N2 f2) N3 f3) N4 f4).2 r5 N5 g5).2 c7)

theorem t_X5_readTime {G : GT} {K : Int32 → Mem → Prop} {M : Mem} {E : ET} (hE : TiPre E M) (h : ∀ (r : Int32) (N : Mem), WdOut E M 1 N r → K r N) : T_X5_readTime G [.ref 1, .ref 3] M K := by
  obtain ⟨⟨w, hw, i, p, T, hP, hp, hk, hC, hW, hL⟩, ht⟩ := hE
  obtain ⟨w1, w2, w3, w4, w5, w6, w7, w8⟩ := hW
  obtain ⟨l1, l2, l3, l4, l5⟩ := hL
  refine e_X5_readTime (k_X5_readTime_0 ⟨hP.ok, fun r1 e1 N2 g2 N3 g3 N4 g4 => ?_⟩)
  rw [← e1] at ht
  have hP3 : PS E i (8, p) T N3 := by rw [g3, g2]; exact (hP.mi (by omega)).mi (by omega)
  have e4 : N4 = pd_adv N3 := g4
  have hx3 : pd_nx N3.1 = r1 := by rw [hP3.nx, ← hP.nx, e1]
  have hP4 := hP3.adv hx3 (q' := (9, p.1, p.2.1, r1, 1)) (by
    rw [q_s8]
    unfold q_word
    rw [if_pos ⟨ht, show p.2.2.2 < 1 from hp ▸ hw⟩]) (of_decide_eq_true rfl) (T' := (T.1, (r1, T.2.2))) ((t_w (of_decide_eq_true rfl) (tm_nb ht)).trans rfl)
  rw [← e4] at hP4
  have f : ∀ k, ¬ k = 7 → ¬ k = 9 → N4.1 3 k = M.1 3 k := fun k a b => by rw [e4, pd_adv_off (by omega), g3, m_i_ne (by omega), g2, m_i_ne (by omega)]
  have f7 : N4.1 3 7 = r1 := by rw [e4, pd_adv_off (by omega), g3, m_i_ne (by omega), g2, m_i_at]
  have f9 : N4.1 3 9 = r1 := by rw [e4, pd_adv_off (by omega), g3, m_i_at, g2, m_i_at]
  have fo : ∀ c, ¬ c = 1 → ¬ c = 3 → N4.1 c = M.1 c := fun c a b => by rw [e4, pd_adv_off (by omega), g3, mi_off (by omega), g2, mi_off (by omega)]
  have hC4 : CR N4.1 T.1.1 T.1.2.1 T.1.2.2.1 := hC.same (f 2 (by decide) (by decide)) (fo 4 (by decide) (by decide)) (fo 5 (by decide) (by decide))
  have hW4 : WR N4.1 (r1, T.2.2) := ⟨f7, by rw [f 8 (by decide) (by decide), w2], f9, by rw [f 10 (by decide) (by decide), w4], by rw [f 11 (by decide) (by decide), w5], by rw [f 12 (by decide) (by decide), w6], by rw [f 13 (by decide) (by decide), w7], by rw [f 14 (by decide) (by decide), w8]⟩
  refine ⟨hP4.ok, fun r5 N5 g5 => ?_⟩
  rcases g5 with ⟨rfl, hc, rfl⟩ | ⟨rfl, hc, rfl⟩
  · refine ⟨fun _ => ?_, fun c => absurd c (by decide)⟩
    have hP5 := hP4.adv hc (q' := (10, p.1, p.2.1, r1, 1)) rfl (of_decide_eq_true rfl) (T' := (T.1, (r1, T.2.2))) rfl
    have h57 : (pd_adv N4).1 3 7 = r1 := by rw [pd_adv_off (by omega), f7]
    have hC5 := hC4.adv
    have hW5 := hW4.adv
    generalize pd_adv N4 = N5 at *
    have fail : ¬ (tmB (pd_nx N5.1) ∧ ¬ pd_nx N5.1 = r1) → K 0 N5 := fun z => h _ _ (Or.inl ⟨rfl, _, _, _, hP5, qw_n10, by
      rw [← hP5.nx, q_s10, if_neg z]; exact m1_lt⟩)
    refine ⟨hP5.ok, fun r8 e8 => ⟨fun c => fail (fun z => c (by rw [e8]; exact z.1)), fun c8 => ⟨hP5.ok, fun r12 e12 => ⟨fun c12 => ⟨hP5.ok, fun r15 e15 N16 g16 N17 g17 => ?_⟩, fun c => fail (fun z => z.2 (by rw [← e12, c, h57]))⟩⟩⟩⟩
    have e815 : r8 = r15 := e8.trans e15.symm
    subst e815
    have hP16 : PS E (i + 1 + 1) (10, p.1, p.2.1, r1, 1) (T.1, (r1, T.2.2)) N16 := by rw [g16]; exact hP5.mi (by omega)
    have e17 : N17 = pd_adv N16 := g17
    have hx16 : pd_nx N16.1 = r8 := by rw [hP16.nx, ← hP5.nx, e8]
    have hn : ¬ r8 = r1 := fun z => c12 (by rw [e12, ← e8, z, h57])
    have hP17 := hP16.adv hx16 (q' := (11, p.1, p.2.1, r1, 1)) (by
      rw [q_s10, if_pos ⟨c8, hn⟩]) (of_decide_eq_true rfl) (T' := (T.1, (r1, r8, T.2.2.2))) ((t_w (of_decide_eq_true rfl) (tm_nb c8)).trans rfl)
    rw [← e17] at hP17
    have u : ∀ k, ¬ k = 8 → N17.1 3 k = N5.1 3 k := fun k a => by rw [e17, pd_adv_off (by omega), g16, m_i_ne (by omega)]
    have u8 : N17.1 3 8 = r8 := by rw [e17, pd_adv_off (by omega), g16, m_i_at]
    have uo : ∀ c, ¬ c = 1 → ¬ c = 3 → N17.1 c = N5.1 c := fun c a b => by rw [e17, pd_adv_off (by omega), g16, mi_off (by omega)]
    obtain ⟨v1, v2, v3, v4, v5, v6, v7, v8⟩ := hW5
    refine h _ _ (Or.inr ⟨rfl, _, 11, _, _, hP17, ⟨qw_11, by decide, by decide⟩, rfl, hk, hC5.same (u 2 (by decide)) (uo 4 (by decide) (by decide)) (uo 5 (by decide) (by decide)), ⟨by rw [u 7 (by decide), v1], u8, by rw [u 9 (by decide), v3], by rw [u 10 (by decide), v4], by rw [u 11 (by decide), v5], by rw [u 12 (by decide), v6], by rw [u 13 (by decide), v7], by rw [u 14 (by decide), v8]⟩, ⟨ht, Or.inr c8, l3, l4, l5⟩, hP.lt hP17 (by omega), rfl, fun z => ?_⟩)
    rw [q_s11, if_neg z]; exact m1_lt
  · refine ⟨fun c => absurd rfl c, fun _ => h _ _ (Or.inr ⟨rfl, _, 9, _, _, hP4, ⟨qw_9, by decide, by decide⟩, rfl, hk, hC4, hW4, ⟨ht, l2, l3, l4, l5⟩, hP.lt hP4 (by omega), rfl, fun z => ?_⟩)⟩
    rw [q_s9, if_neg (by rw [← hP4.nx]; exact hc), if_neg z]; exact m1_lt

/-! BetweenLaws$Pad.readTerm(LBetweenLaws$Law;)Z -/
abbrev rm_X5_readTerm : Room := { frames := 3, cells := 0, slots := 0, locals := 66 }
abbrev B_X5_readTerm (G : GT) (K : Int32 → Mem → Prop) := BT G (Rep G) RX5 "readTerm" cX5_readTerm 2 (some .boolean) rm_X5_readTerm K 0 0
abbrev T_X5_readTerm (G : GT) (as : List Value) (M : Mem) (K : Int32 → Mem → Prop) : Prop := MT G (Rep G) yX5_readTerm cX5_readTerm 2 (some .boolean) rm_X5_readTerm as M K
theorem e_X5_readTerm {G : GT} {K : Int32 → Mem → Prop} {M : Mem}  (h : B_X5_readTerm G K 0 [(0, .ref 1), (1, .ref 3)] [] M) : T_X5_readTerm G [.ref 1, .ref 3] M K := MT.of (by decide +kernel) rfl rfl (Nat.le_of_ble_eq_true rfl) rfl h
set_option maxRecDepth 4000 in
theorem k_X5_readTerm_0 {G : GT} {K : Int32 → Mem → Prop} {M : Mem}  (h : (PdOk M) ∧ (∀ (r1 : Int32) (N1 : Mem), (PdNum M N1 r1) → (∀ N2 : Mem, N2 = (m_i N1 3 11 r1) → ((N2.1 3 11) = (-6) → K 0 N2) ∧ (¬ (N2.1 3 11) = (-6) → (PdOk N2) ∧ (∀ r5 : Int32, r5 = (pd_nx N2.1) → ((r5 = 99 ∨ r5 = 98 ∨ r5 = 108) → (PdOk N2) ∧ (∀ r9 : Int32, r9 = (pd_nx N2.1) → (∀ N10 : Mem, N10 = (m_i N2 3 12 r9) → (∀ N11 : Mem, N11 = (m_i N10 1 2 ((N10.1 1 2) + 1)) → (PdOk N11) ∧ (∀ (r12 : Int32) (N12 : Mem), ((r12 = 1 ∧ pd_nx N11.1 = 63 ∧ N12 = pd_adv N11) ∨ (r12 = 0 ∧ ¬ pd_nx N11.1 = 63 ∧ N12 = N11)) → (¬ r12 = 0 → (PdOk N12) ∧ (∀ r15 : Int32, r15 = (pd_nx N12.1) → (¬ (r15 = 99 ∨ r15 = 98 ∨ r15 = 108) → K 0 N12) ∧ ((r15 = 99 ∨ r15 = 98 ∨ r15 = 108) → (PdOk N12) ∧ (∀ r19 : Int32, r19 = (pd_nx N12.1) → (¬ r19 = (N12.1 3 12) → (PdOk N12) ∧ (∀ r22 : Int32, r22 = (pd_nx N12.1) → (∀ N23 : Mem, N23 = (m_i N12 3 13 r22) → (∀ N24 : Mem, N24 = (m_i N23 1 2 ((N23.1 1 2) + 1)) → K 1 N24)))) ∧ (r19 = (N12.1 3 12) → K 0 N12))))) ∧ (r12 = 0 → K 1 N12)))))) ∧ (¬ (r5 = 99 ∨ r5 = 98 ∨ r5 = 108) → K 0 N2)))))) : B_X5_readTerm G K 0 [(0, .ref 1), (1, .ref 3)] [] M := by
  refine BT.aload_n dX5_readTerm_0 rfl 1 rfl ?_
  refine BT.aload_n dX5_readTerm_1 rfl 0 rfl ?_
  refine BT.mcV [] (t_X5_readNumber h.1 (fun r1 N1 g1 => ?_)) mb_X5_readNumber mv_X5_readNumber lk_X5_51 rfl (by decide) rfl (recvRep ho_1 rfl) (Nat.le_of_ble_eq_true rfl) dX5_readTerm_2
  show B_X5_readTerm G K 5 [(0, .ref 1), (1, .ref 3)] [.int r1, .ref 3] N1
  refine BT.putI fl_X5_99 ft_3_11 ho_3 rfl dX5_readTerm_5 ?_
  refine BT.topm (fun N2 f2 => ?_)
  refine BT.aload_n dX5_readTerm_8 rfl 1 rfl ?_
  refine BT.getI fl_X5_99 ho_3 rfl dX5_readTerm_9 ?_
  refine BT.bipush (v := (-6)) dX5_readTerm_12 (by decide) ?_
  refine BT.icmp_eq (tgt := 33) dX5_readTerm_14 (by decide) (fun c => ?_) (fun c => ?_)
  · have c3 := c
    refine BT.iconst (v := 0) dX5_readTerm_33 (by decide) ?_
    exact BT.zret dX5_readTerm_34 rfl (by decide) (by decide) (nar01 ((Or.inl rfl))) (((h.2 r1 N1 g1) N2 f2).1 c3)
  · have c4 := c
    refine BT.aload_n dX5_readTerm_17 rfl 0 rfl ?_
    refine BT.mcVr [] (t_X5_next (((h.2 r1 N1 g1) N2 f2).2 c4).1 ⟨rfl, rfl⟩) mb_X5_next mv_X5_next lk_X5_62 rfl (by decide) rfl (recvRep ho_1 rfl) (Nat.le_of_ble_eq_true rfl) dX5_readTerm_18 (fun r5 e5 => ?_)
    show B_X5_readTerm G K 21 [(0, .ref 1), (1, .ref 3)] [.int r5] N2
    refine BT.bipush (v := 99) dX5_readTerm_21 (by decide) ?_
    refine BT.bipush (v := 98) dX5_readTerm_23 (by decide) ?_
    refine BT.bipush (v := 108) dX5_readTerm_25 (by decide) ?_
    refine BT.mcS [.int r5, .int 99, .int 98, .int 108] (t_X5_isOneOf  ?_) mb_X5_isOneOf ms_X5_isOneOf lk_X5_73 rfl (by decide) rfl (Nat.le_of_ble_eq_true rfl) dX5_readTerm_27
    show B_X5_readTerm G K 30 [(0, .ref 1), (1, .ref 3)] [.int (bi (r5 = 99 ∨ r5 = 98 ∨ r5 = 108))] N2
    refine BT.if_ne (tgt := 35) dX5_readTerm_30 (by decide) (fun c => ?_) (fun c => ?_)
    · have c7 := bi_ne0.mp c
      refine BT.aload_n dX5_readTerm_35 rfl 1 rfl ?_
      refine BT.aload_n dX5_readTerm_36 rfl 0 rfl ?_
      refine BT.mcVr [] (t_X5_next (((((h.2 r1 N1 g1) N2 f2).2 c4).2 r5 e5).1 c7).1 ⟨rfl, rfl⟩) mb_X5_next mv_X5_next lk_X5_62 rfl (by decide) rfl (recvRep ho_1 rfl) (Nat.le_of_ble_eq_true rfl) dX5_readTerm_37 (fun r9 e9 => ?_)
      show B_X5_readTerm G K 40 [(0, .ref 1), (1, .ref 3)] [.int r9, .ref 3] N2
      refine BT.putI fl_X5_102 ft_3_12 ho_3 rfl dX5_readTerm_40 ?_
      refine BT.topm (fun N10 f10 => ?_)
      refine BT.aload_n dX5_readTerm_43 rfl 0 rfl ?_
      refine BT.dup dX5_readTerm_44 rfl ?_
      refine BT.getI fl_X5_24 ho_1 rfl dX5_readTerm_45 ?_
      refine BT.iconst (v := 1) dX5_readTerm_48 (by decide) ?_
      refine BT.iadd dX5_readTerm_49 ?_
      refine BT.putI fl_X5_24 ft_5_2 ho_1 rfl dX5_readTerm_50 ?_
      refine BT.topm (fun N11 f11 => ?_)
      refine BT.aload_n dX5_readTerm_53 rfl 0 rfl ?_
      refine BT.bipush (v := 63) dX5_readTerm_54 (by decide) ?_
      refine BT.mcV [.int 63] (t_X5_takes ((((((((h.2 r1 N1 g1) N2 f2).2 c4).2 r5 e5).1 c7).2 r9 e9) N10 f10) N11 f11).1 (fun r12 N12 g12 => ?_)) mb_X5_takes mv_X5_takes lk_X5_31 rfl (by decide) rfl (recvRep ho_1 rfl) (Nat.le_of_ble_eq_true rfl) dX5_readTerm_56
      show B_X5_readTerm G K 59 [(0, .ref 1), (1, .ref 3)] [.int r12] N12
      refine BT.if_ne (tgt := 64) dX5_readTerm_59 (by decide) (fun c => ?_) (fun c => ?_)
      · have c13 := c
        refine BT.aload_n dX5_readTerm_64 rfl 0 rfl ?_
        refine BT.mcVr [] (t_X5_next ((((((((((h.2 r1 N1 g1) N2 f2).2 c4).2 r5 e5).1 c7).2 r9 e9) N10 f10) N11 f11).2 r12 N12 g12).1 c13).1 ⟨rfl, rfl⟩) mb_X5_next mv_X5_next lk_X5_62 rfl (by decide) rfl (recvRep ho_1 rfl) (Nat.le_of_ble_eq_true rfl) dX5_readTerm_65 (fun r15 e15 => ?_)
        show B_X5_readTerm G K 68 [(0, .ref 1), (1, .ref 3)] [.int r15] N12
        refine BT.bipush (v := 99) dX5_readTerm_68 (by decide) ?_
        refine BT.bipush (v := 98) dX5_readTerm_70 (by decide) ?_
        refine BT.bipush (v := 108) dX5_readTerm_72 (by decide) ?_
        refine BT.mcS [.int r15, .int 99, .int 98, .int 108] (t_X5_isOneOf  ?_) mb_X5_isOneOf ms_X5_isOneOf lk_X5_73 rfl (by decide) rfl (Nat.le_of_ble_eq_true rfl) dX5_readTerm_74
        show B_X5_readTerm G K 77 [(0, .ref 1), (1, .ref 3)] [.int (bi (r15 = 99 ∨ r15 = 98 ∨ r15 = 108))] N12
        refine BT.if_eq (tgt := 91) dX5_readTerm_77 (by decide) (fun c => ?_) (fun c => ?_)
        · have c17 := bi_eq0.mp c
          refine BT.iconst (v := 0) dX5_readTerm_91 (by decide) ?_
          exact BT.zret dX5_readTerm_92 rfl (by decide) (by decide) (nar01 ((Or.inl rfl))) ((((((((((((h.2 r1 N1 g1) N2 f2).2 c4).2 r5 e5).1 c7).2 r9 e9) N10 f10) N11 f11).2 r12 N12 g12).1 c13).2 r15 e15).1 c17)
        · have c18 := bi_ne0.mp c
          refine BT.aload_n dX5_readTerm_80 rfl 0 rfl ?_
          refine BT.mcVr [] (t_X5_next ((((((((((((h.2 r1 N1 g1) N2 f2).2 c4).2 r5 e5).1 c7).2 r9 e9) N10 f10) N11 f11).2 r12 N12 g12).1 c13).2 r15 e15).2 c18).1 ⟨rfl, rfl⟩) mb_X5_next mv_X5_next lk_X5_62 rfl (by decide) rfl (recvRep ho_1 rfl) (Nat.le_of_ble_eq_true rfl) dX5_readTerm_81 (fun r19 e19 => ?_)
          show B_X5_readTerm G K 84 [(0, .ref 1), (1, .ref 3)] [.int r19] N12
          refine BT.aload_n dX5_readTerm_84 rfl 1 rfl ?_
          refine BT.getI fl_X5_102 ho_3 rfl dX5_readTerm_85 ?_
          refine BT.icmp_ne (tgt := 93) dX5_readTerm_88 (by decide) (fun c => ?_) (fun c => ?_)
          · have c20 := c
            refine BT.aload_n dX5_readTerm_93 rfl 1 rfl ?_
            refine BT.aload_n dX5_readTerm_94 rfl 0 rfl ?_
            refine BT.mcVr [] (t_X5_next ((((((((((((((h.2 r1 N1 g1) N2 f2).2 c4).2 r5 e5).1 c7).2 r9 e9) N10 f10) N11 f11).2 r12 N12 g12).1 c13).2 r15 e15).2 c18).2 r19 e19).1 c20).1 ⟨rfl, rfl⟩) mb_X5_next mv_X5_next lk_X5_62 rfl (by decide) rfl (recvRep ho_1 rfl) (Nat.le_of_ble_eq_true rfl) dX5_readTerm_95 (fun r22 e22 => ?_)
            show B_X5_readTerm G K 98 [(0, .ref 1), (1, .ref 3)] [.int r22, .ref 3] N12
            refine BT.putI fl_X5_105 ft_3_13 ho_3 rfl dX5_readTerm_98 ?_
            refine BT.topm (fun N23 f23 => ?_)
            refine BT.aload_n dX5_readTerm_101 rfl 0 rfl ?_
            refine BT.dup dX5_readTerm_102 rfl ?_
            refine BT.getI fl_X5_24 ho_1 rfl dX5_readTerm_103 ?_
            refine BT.iconst (v := 1) dX5_readTerm_106 (by decide) ?_
            refine BT.iadd dX5_readTerm_107 ?_
            refine BT.putI fl_X5_24 ft_5_2 ho_1 rfl dX5_readTerm_108 ?_
            refine BT.topm (fun N24 f24 => ?_)
            refine BT.iconst (v := 1) dX5_readTerm_111 (by decide) ?_
            exact BT.zret dX5_readTerm_112 rfl (by decide) (by decide) (nar01 ((Or.inr rfl))) (((((((((((((((((h.2 r1 N1 g1) N2 f2).2 c4).2 r5 e5).1 c7).2 r9 e9) N10 f10) N11 f11).2 r12 N12 g12).1 c13).2 r15 e15).2 c18).2 r19 e19).1 c20).2 r22 e22) N23 f23) N24 f24)
          · have c21 := c
            refine BT.iconst (v := 0) dX5_readTerm_91 (by decide) ?_
            exact BT.zret dX5_readTerm_92 rfl (by decide) (by decide) (nar01 ((Or.inl rfl))) ((((((((((((((h.2 r1 N1 g1) N2 f2).2 c4).2 r5 e5).1 c7).2 r9 e9) N10 f10) N11 f11).2 r12 N12 g12).1 c13).2 r15 e15).2 c18).2 r19 e19).2 c21)
      · have c14 := c
        refine BT.iconst (v := 1) dX5_readTerm_62 (by decide) ?_
        exact BT.zret dX5_readTerm_63 rfl (by decide) (by decide) (nar01 ((Or.inr rfl))) ((((((((((h.2 r1 N1 g1) N2 f2).2 c4).2 r5 e5).1 c7).2 r9 e9) N10 f10) N11 f11).2 r12 N12 g12).2 c14)
    · have c8 := bi_eq0.mp c
      refine BT.iconst (v := 0) dX5_readTerm_33 (by decide) ?_
      exact BT.zret dX5_readTerm_34 rfl (by decide) (by decide) (nar01 ((Or.inl rfl))) (((((h.2 r1 N1 g1) N2 f2).2 c4).2 r5 e5).2 c8)

theorem t_X5_readTerm {G : GT} {K : Int32 → Mem → Prop} {M : Mem} {E : ET} (hE : TmPre E M) (h : ∀ (r : Int32) (N : Mem), WdOut E M 3 N r → K r N) : T_X5_readTerm G [.ref 1, .ref 3] M K := by
  obtain ⟨i0, p, T, hP0, hp, hk, hC0, hW0, hL⟩ := hE
  obtain ⟨l1, l2, l3, l4, l5⟩ := hL
  refine e_X5_readTerm (k_X5_readTerm_0 ⟨hP0.ok, fun r1 N1 g1 N2 g2 => ?_⟩)
  -- with the number read
  have fin : ∀ (i : Nat) (s : Int32) (t : Nat), PS E i (s, p) (T.1, (T.2.1, T.2.2.1, T.2.2.2.1, nI t, T.2.2.2.2.2)) N1 → i0 < i → (s = 14 ∨ s = 15) → (s = 14 → ¬ dgB (sx E i)) → t < 100 → r1 = nI t → CR N1.1 T.1.1 T.1.2.1 T.1.2.2.1 → WR N1.1 T.2 → ((N2.1 3 11) = (-6) → K 0 N2) ∧ (¬ (N2.1 3 11) = (-6) → (PdOk N2) ∧ (∀ r5 : Int32, r5 = (pd_nx N2.1) → ((r5 = 99 ∨ r5 = 98 ∨ r5 = 108) → (PdOk N2) ∧ (∀ r9 : Int32, r9 = (pd_nx N2.1) → (∀ N10 : Mem, N10 = (m_i N2 3 12 r9) → (∀ N11 : Mem, N11 = (m_i N10 1 2 ((N10.1 1 2) + 1)) → (PdOk N11) ∧ (∀ (r12 : Int32) (N12 : Mem), ((r12 = 1 ∧ pd_nx N11.1 = 63 ∧ N12 = pd_adv N11) ∨ (r12 = 0 ∧ ¬ pd_nx N11.1 = 63 ∧ N12 = N11)) → (¬ r12 = 0 → (PdOk N12) ∧ (∀ r15 : Int32, r15 = (pd_nx N12.1) → (¬ (r15 = 99 ∨ r15 = 98 ∨ r15 = 108) → K 0 N12) ∧ ((r15 = 99 ∨ r15 = 98 ∨ r15 = 108) → (PdOk N12) ∧ (∀ r19 : Int32, r19 = (pd_nx N12.1) → (¬ r19 = (N12.1 3 12) → (PdOk N12) ∧ (∀ r22 : Int32, r22 = (pd_nx N12.1) → (∀ N23 : Mem, N23 = (m_i N12 3 13 r22) → (∀ N24 : Mem, N24 = (m_i N23 1 2 ((N23.1 1 2) + 1)) → K 1 N24)))) ∧ (r19 = (N12.1 3 12) → K 0 N12))))) ∧ (r12 = 0 → K 1 N12)))))) ∧ (¬ (r5 = 99 ∨ r5 = 98 ∨ r5 = 108) → K 0 N2))) := by
    intro i s t hP hi hs h14 ht er hC hW
    obtain ⟨w1, w2, w3, w4, w5, w6, w7, w8⟩ := hW
    have e11 : N2.1 3 11 = nI t := by rw [g2, m_i_at, er]
    have hP2 : PS E i (s, p) (T.1, (T.2.1, T.2.2.1, T.2.2.2.1, nI t, T.2.2.2.2.2)) N2 := by rw [g2]; exact hP.mi (by omega)
    refine ⟨fun c => absurd (e11.symm.trans c) (nI_n6 (by omega)), fun _ => ⟨hP2.ok, fun r5 e5 => ⟨fun c5 => ⟨hP2.ok, fun r9 e9 N10 g10 N11 g11 => ?_⟩, fun c5 => ?_⟩⟩⟩
    · have e59 : r5 = r9 := e5.trans e9.symm
      subst e59
      have hP10 : PS E i (s, p) (T.1, (T.2.1, T.2.2.1, T.2.2.2.1, nI t, T.2.2.2.2.2)) N10 := by rw [g10]; exact hP2.mi (by omega)
      have hx10 : pd_nx N10.1 = r5 := by rw [hP10.nx, ← hP2.nx, e5]
      have e11' : N11 = pd_adv N10 := g11
      have hP11 := hP10.adv hx10 (q' := (16, p.1, p.2.1, r5, p.2.2.2)) (by
        rcases hs with rfl | rfl
        · rw [q_s14, if_neg (wy_nd c5), if_pos c5]
        · rw [q_s15, if_pos c5]) (of_decide_eq_true rfl) (T' := (T.1, (T.2.1, T.2.2.1, T.2.2.2.1, nI t, r5, T.2.2.2.2.2.2))) ((t_w (of_decide_eq_true rfl) (wy_nb c5)).trans rfl)
      rw [← e11'] at hP11
      have f : ∀ k, ¬ k = 11 → ¬ k = 12 → N11.1 3 k = N1.1 3 k := fun k a b => by rw [e11', pd_adv_off (by omega), g10, m_i_ne (by omega), g2, m_i_ne (by omega)]
      have f11 : N11.1 3 11 = nI t := by rw [e11', pd_adv_off (by omega), g10, m_i_ne (by omega), e11]
      have f12 : N11.1 3 12 = r5 := by rw [e11', pd_adv_off (by omega), g10, m_i_at]
      have fo : ∀ c, ¬ c = 1 → ¬ c = 3 → N11.1 c = N1.1 c := fun c a b => by rw [e11', pd_adv_off (by omega), g10, mi_off (by omega), g2, mi_off (by omega)]
      have hC11 : CR N11.1 T.1.1 T.1.2.1 T.1.2.2.1 := hC.same (f 2 (by decide) (by decide)) (fo 4 (by decide) (by decide)) (fo 5 (by decide) (by decide))
      have hW11 : WR N11.1 (T.2.1, T.2.2.1, T.2.2.2.1, nI t, r5, T.2.2.2.2.2.2) := ⟨by rw [f 7 (by decide) (by decide), w1], by rw [f 8 (by decide) (by decide), w2], by rw [f 9 (by decide) (by decide), w3], by rw [f 10 (by decide) (by decide), w4], f11, f12, by rw [f 13 (by decide) (by decide), w7], by rw [f 14 (by decide) (by decide), w8]⟩
      refine ⟨hP11.ok, fun r12 N12 g12 => ?_⟩
      rcases g12 with ⟨rfl, hc, rfl⟩ | ⟨rfl, hc, rfl⟩
      · refine ⟨fun _ => ?_, fun c => absurd c (by decide)⟩
        have hP12 := hP11.adv hc (q' := (17, p.1, p.2.1, r5, p.2.2.2)) rfl (of_decide_eq_true rfl) (T' := (T.1, (T.2.1, T.2.2.1, T.2.2.2.1, nI t, r5, T.2.2.2.2.2.2))) rfl
        have h12 : (pd_adv N11).1 3 12 = r5 := by rw [pd_adv_off (by omega), f12]
        have hC12 := hC11.adv
        have hW12 := hW11.adv
        generalize pd_adv N11 = N12 at *
        have fail : ¬ (wyB (pd_nx N12.1) ∧ ¬ pd_nx N12.1 = r5) → K 0 N12 := fun z => h _ _ (Or.inl ⟨rfl, _, _, _, hP12, qw_n17, by
          rw [← hP12.nx, q_s17, if_neg z]; exact m1_lt⟩)
        refine ⟨hP12.ok, fun r15 e15 => ⟨fun c => fail (fun z => c (by rw [e15]; exact z.1)), fun c15 => ⟨hP12.ok, fun r19 e19 => ⟨fun c19 => ⟨hP12.ok, fun r22 e22 N23 g23 N24 g24 => ?_⟩, fun c => fail (fun z => z.2 (by rw [← e19, c, h12]))⟩⟩⟩⟩
        have e1522 : r15 = r22 := e15.trans e22.symm
        subst e1522
        have hP23 : PS E (i + 1 + 1) (17, p.1, p.2.1, r5, p.2.2.2) (T.1, (T.2.1, T.2.2.1, T.2.2.2.1, nI t, r5, T.2.2.2.2.2.2)) N23 := by rw [g23]; exact hP12.mi (by omega)
        have e24 : N24 = pd_adv N23 := g24
        have hx23 : pd_nx N23.1 = r15 := by rw [hP23.nx, ← hP12.nx, e15]
        have hn : ¬ r15 = r5 := fun z => c19 (by rw [e19, ← e15, z, h12])
        have hP24 := hP23.adv hx23 (q' := (19, p.1, p.2.1, r5, p.2.2.2)) (by
          rw [q_s17, if_pos ⟨c15, hn⟩]) (of_decide_eq_true rfl) (T' := (T.1, (T.2.1, T.2.2.1, T.2.2.2.1, nI t, r5, r15, T.2.2.2.2.2.2.2))) ((t_w (of_decide_eq_true rfl) (wy_nb c15)).trans rfl)
        rw [← e24] at hP24
        have u : ∀ k, ¬ k = 13 → N24.1 3 k = N12.1 3 k := fun k a => by rw [e24, pd_adv_off (by omega), g23, m_i_ne (by omega)]
        have u13 : N24.1 3 13 = r15 := by rw [e24, pd_adv_off (by omega), g23, m_i_at]
        have uo : ∀ c, ¬ c = 1 → ¬ c = 3 → N24.1 c = N12.1 c := fun c a b => by rw [e24, pd_adv_off (by omega), g23, mi_off (by omega)]
        obtain ⟨v1, v2, v3, v4, v5, v6, v7, v8⟩ := hW12
        refine h _ _ (Or.inr ⟨rfl, _, 19, _, _, hP24, ⟨qw_19, by decide, by decide⟩, hp, hk, hC12.same (u 2 (by decide)) (uo 4 (by decide) (by decide)) (uo 5 (by decide) (by decide)), ⟨by rw [u 7 (by decide), v1], by rw [u 8 (by decide), v2], by rw [u 9 (by decide), v3], by rw [u 10 (by decide), v4], by rw [u 11 (by decide), v5], by rw [u 12 (by decide), v6], u13, by rw [u 14 (by decide), v8]⟩, ⟨l1, l2, Or.inr ⟨⟨t, ht, rfl⟩, c5⟩, Or.inr c15, l5⟩, hP0.lt hP24 (by omega), rfl, fun z => ?_⟩)
        rw [q_s19, if_neg z]; exact m1_lt
      · refine ⟨fun c => absurd rfl c, fun _ => h _ _ (Or.inr ⟨rfl, _, 16, _, _, hP11, ⟨qw_16, by decide, by decide⟩, hp, hk, hC11, hW11, ⟨l1, l2, Or.inr ⟨⟨t, ht, rfl⟩, c5⟩, l4, l5⟩, hP0.lt hP11 (by omega), rfl, fun z => ?_⟩)⟩
        rw [q_s16, if_neg (by rw [← hP11.nx]; exact hc), if_neg z]; exact m1_lt
    · refine h _ _ (Or.inl ⟨rfl, _, _, _, hP2, ?_, ?_⟩)
      · rcases hs with rfl | rfl
        · exact qw_n14
        · exact qw_n15
      · have c5' : ¬ wyB (sx E i) := by rw [← hP2.nx, ← e5]; exact c5
        rcases hs with rfl | rfl
        · rw [q_s14, if_neg (h14 rfl), if_neg c5']; exact m1_lt
        · rw [q_s15, if_neg c5']; exact m1_lt
  rcases g1 with ⟨er, rfl, nd⟩ | ⟨d, hd, ed, ⟨e, he, ee, er, rfl⟩ | ⟨nd, er, rfl⟩⟩
  · have e11 : N2.1 3 11 = -6 := by rw [g2, m_i_at, er]
    have hP2 : PS E i0 (13, p) T N2 := by rw [g2]; exact hP0.mi (by omega)
    refine ⟨fun _ => h _ _ (Or.inl ⟨rfl, _, _, _, hP2, qw_n13, ?_⟩), fun c => absurd e11 c⟩
    rw [q_s13, if_neg (by rw [← hP0.nx]; exact nd)]; exact m1_lt
  · have hP1 := hP0.adv ed (q' := (14, p)) (by rw [q_s13, if_pos (dgB_is.mpr ⟨d, hd, rfl⟩)]) (of_decide_eq_true rfl) (T' := (T.1, (T.2.1, T.2.2.1, T.2.2.2.1, nI d, T.2.2.2.2.2))) (by
      rw [t_w (of_decide_eq_true rfl) (dg_nb hd), ← dg_sub (d := d)]; rfl)
    have hP2 := hP1.adv ee (q' := (15, p)) (by rw [q_s14, if_pos (dgB_is.mpr ⟨e, he, rfl⟩)]) (of_decide_eq_true rfl) (T' := (T.1, (T.2.1, T.2.2.1, T.2.2.2.1, nI (10 * d + e), T.2.2.2.2.2))) (by
      have e0 : (10 : Int32) * nI d + nI (48 + e) - 48 = nI (10 * d + e) := by
        rw [show (10 : Int32) = nI 10 from rfl, nI_mul, nI_add, show 10 * d + (48 + e) = 48 + (10 * d + e) by omega, dg_sub]
      rw [t_w (of_decide_eq_true rfl) (dg_nb he), ← e0]; rfl)
    exact fin _ 15 (10 * d + e) hP2 (by omega) (Or.inr rfl) (fun z => absurd z (by decide)) (by omega) er hC0.adv.adv hW0.adv.adv
  · have hP1 := hP0.adv ed (q' := (14, p)) (by rw [q_s13, if_pos (dgB_is.mpr ⟨d, hd, rfl⟩)]) (of_decide_eq_true rfl) (T' := (T.1, (T.2.1, T.2.2.1, T.2.2.2.1, nI d, T.2.2.2.2.2))) (by
      rw [t_w (of_decide_eq_true rfl) (dg_nb hd), ← dg_sub (d := d)]; rfl)
    exact fin _ 14 d hP1 (by omega) (Or.inl rfl) (fun _ => by rw [← hP1.nx]; exact nd) (by omega) er hC0.adv hW0.adv

