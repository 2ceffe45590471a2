/-! ===== 57.text3 ===== -/
def LwBl (M N : Mem) (a0 : Nat) : Prop := ((∀ d, ¬ d = a0 → N.1 d = M.1 d) ∧ N.2 = M.2 ∧ N.1 a0 0 = M.1 a0 0 ∧ N.1 a0 1 = M.1 a0 1 ∧ N.1 a0 2 = 0 ∧ N.1 a0 7 = 110 ∧ N.1 a0 8 = -6 ∧ N.1 a0 9 = 110 ∧ N.1 a0 10 = 0 ∧ N.1 a0 11 = -6 ∧ N.1 a0 12 = -6 ∧ N.1 a0 13 = -6 ∧ N.1 a0 14 = 0)
def LwAd (M N : Mem) (a0 : Nat) (v1 v2 : Int32) : Prop := ((∀ d, ¬ (d = a0 ∨ d = a0 + 1 ∨ d = a0 + 2) → N.1 d = M.1 d) ∧ N.2 = M.2 ∧ N.1 a0 2 = M.1 a0 2 + 1 ∧ (∀ j, ¬ j = 2 → N.1 a0 j = M.1 a0 j) ∧ (N.1 (a0 + 1) (Int32.toNatClampNeg (M.1 a0 2)) = v1 ∧ N.1 (a0 + 2) (Int32.toNatClampNeg (M.1 a0 2)) = v2) ∧ (∀ j, ¬ j = Int32.toNatClampNeg (M.1 a0 2) → N.1 (a0 + 1) j = M.1 (a0 + 1) j ∧ N.1 (a0 + 2) j = M.1 (a0 + 2) j))
def LwFt (M N : Mem) (a0 : Nat) : Prop := ((∀ d, ¬ (d = a0 + 3 ∨ d = a0 + 4) → N.1 d = M.1 d) ∧ N.2 = M.2 ∧ FitW N.1 a0)
theorem t_X3_blank2 {G : GT} {K : Int32 → Mem → Prop} {M : Mem} {a0 : Nat} (ha0 : LawC a0) (h : ∀ N, LwBl M N a0 → K 0 N) : T_X3_blank G [.ref a0] M K := t_X3_blank ha0 h
theorem t_X3_addCase2 {G : GT} {K : Int32 → Mem → Prop} {M : Mem} {a0 : Nat} {v1 v2 : Int32} (ha0 : LawC a0) (hk : ∃ k, k < 6 ∧ M.1 a0 2 = nI k) (h : ∀ N, LwAd M N a0 v1 v2 → K 0 N) : T_X3_addCase G [.ref a0, .int v1, .int v2] M K := t_X3_addCase ha0 hk h
theorem t_X3_fitCases2 {G : GT} {K : Int32 → Mem → Prop} {M : Mem} {a0 : Nat} (ha0 : LawC a0) (hk : ∃ n, n ≤ 6 ∧ M.1 a0 2 = nI n ∧ ∀ i, i < n → ∃ m, m < 32 ∧ M.1 (a0 + 1) i = nI m) (h : ∀ N, LwFt M N a0 → K 0 N) : T_X3_fitCases G [.ref a0] M K := t_X3_fitCases ha0 hk h
theorem dg_sub {d : Nat} : nI (48 + d) - 48 = nI d := by
  rw [Nat.add_comm, ← nI_add]
  exact Int32.add_sub_cancel _ _
def CaseEnd (E : ET) (k : Nat) (N : Mem) : Prop := ∃ i s mN lN T, PS E i (s, nI k, mN, lN, 0) T N ∧ (s = 4 ∨ s = 5) ∧ (1 ≤ k ∧ k ≤ 6) ∧ T.1.1 + 1 = k ∧ T.1.2.2.2 = 0 ∧ T.2 = w_0 ∧ CR N.1 k T.1.2.1 T.1.2.2.1 ∧ WR N.1 w_0 ∧ (s = 4 → ¬ dgB (sx E i))
def CaseOut (E : ET) (M N : Mem) (r : Int32) : Prop := (r = 0 ∧ Fail E N) ∨ (r = 1 ∧ ∃ k, M.1 3 2 = nI k ∧ k < 6 ∧ CaseEnd E (k + 1) N)
def CasesEnd (E : ET) (N : Mem) : Prop := ∃ k i s mN lN T, PS E i (s, nI k, mN, lN, 0) T N ∧ (s = 4 ∨ s = 5) ∧ (1 ≤ k ∧ k ≤ 6) ∧ T.1.1 + 1 = k ∧ T.1.2.2.2 = 0 ∧ T.2 = w_0 ∧ CR N.1 k T.1.2.1 T.1.2.2.1 ∧ WR N.1 w_0 ∧ (s = 4 → ¬ dgB (sx E i)) ∧ (sx E i = 124 → k = 6)
def CasesOut (E : ET) (N : Mem) (r : Int32) : Prop := (r = 0 ∧ Fail E N) ∨ (r = 1 ∧ CasesEnd E N)
theorem case_end {E : ET} {i k m g : Nat} {s mN lN : Int32} {T : TT} {N P : Mem} {cm cg : Nat → Int32} (hP : PS E i (s, nI (k + 1), mN, lN, 0) T N) (hs : s = 4 ∨ s = 5) (hk : k < 6) (h1 : T.1.1 = k) (h2 : T.1.2.2.2 = 0) (h3 : T.2 = w_0) (h4 : T.1.2.1 = t_put cm k (nI m)) (h5 : T.1.2.2.1 k = nI g) (h6 : ∀ j, j < k → T.1.2.2.1 j = cg j) (hC : CR N.1 k cm cg) (hW : WR N.1 w_0) (hm : m < 32) (hg : g < 108) (h9 : s = 4 → ¬ dgB (sx E i)) (hA : LwAd N P 3 (nI m) (nI g)) : CaseEnd E (k + 1) P := by
  obtain ⟨a1, a2, a3, a4, ⟨a5, a6⟩, a7⟩ := hA
  obtain ⟨c1, c2⟩ := hC
  rw [c1, ix_nI (by omega)] at a5 a6 a7
  have a5 : P.1 4 k = nI m := a5
  have a6 : P.1 5 k = nI g := a6
  refine ⟨i, s, mN, lN, T, hP.chg (fun d hd => a1 d (by omega)) a2, hs, ⟨by omega, by omega⟩, by omega, h2, h3, ⟨?_, fun j hj => ?_⟩, hW.same (fun j hj => a4 j (by omega)), h9⟩
  · rw [a3, c1, nI_1]
  · by_cases z : j = k
    · subst z
      rw [h4, t_put_at, h5, a5, a6]
      exact ⟨⟨m, hm, rfl⟩, ⟨g, hg, rfl⟩, rfl, rfl⟩
    · have b4 : P.1 4 j = N.1 4 j := (a7 j z).1
      have b5 : P.1 5 j = N.1 5 j := (a7 j z).2
      obtain ⟨d1, d2, d3, d4⟩ := c2 j (by omega)
      rw [h4, t_put_ne z, h6 j (by omega), b4, b5]
      exact ⟨d1, d2, d3, d4⟩

/-! BetweenLaws$Pad.readCase(LBetweenLaws$Law;)Z -/
abbrev rm_X5_readCase : Room := { frames := 3, cells := 0, slots := 0, locals := 66 }
abbrev B_X5_readCase (G : GT) (K : Int32 → Mem → Prop) := BT G (Rep G) RX5 "readCase" cX5_readCase 4 (some .boolean) rm_X5_readCase K 0 0
abbrev T_X5_readCase (G : GT) (as : List Value) (M : Mem) (K : Int32 → Mem → Prop) : Prop := MT G (Rep G) yX5_readCase cX5_readCase 4 (some .boolean) rm_X5_readCase as M K
theorem e_X5_readCase {G : GT} {K : Int32 → Mem → Prop} {M : Mem}  (h : B_X5_readCase G K 0 [(0, .ref 1), (1, .ref 3)] [] M) : T_X5_readCase G [.ref 1, .ref 3] M K := MT.of (by decide +kernel) rfl rfl (Nat.le_of_ble_eq_true rfl) rfl h
set_option maxRecDepth 4000 in
theorem k_X5_readCase_0 {G : GT} {K : Int32 → Mem → Prop} {M : Mem} {E : ET}  (h : (MkPre E M) ∧ (∀ (r1 : Int32) (N1 : Mem), (MkOut E M N1 r1) → (r1 = (-6) → K 0 N1) ∧ (¬ r1 = (-6) → (PdOk N1) ∧ (∀ (r4 : Int32) (N4 : Mem), ((r4 = 1 ∧ pd_nx N1.1 = 58 ∧ N4 = pd_adv N1) ∨ (r4 = 0 ∧ ¬ pd_nx N1.1 = 58 ∧ N4 = N1)) → (¬ r4 = 0 → (PdOk N4) ∧ (∀ (r7 : Int32) (N7 : Mem), ((r7 = 1 ∧ pd_nx N4.1 = 64 ∧ N7 = pd_adv N4) ∨ (r7 = 0 ∧ ¬ pd_nx N4.1 = 64 ∧ N7 = N4)) → (r7 = 0 → (PdOk N7) ∧ (∀ (r10 : Int32) (N10 : Mem), (PdNum N7 N10 r10) → (¬ r10 = (-6) → (∃ k, k < 6 ∧ N10.1 3 2 = nI k) ∧ (∀ N13 : Mem, (LwAd N10 N13 3 r1 r10) → K 1 N13)) ∧ (r10 = (-6) → K 0 N10))) ∧ (¬ r7 = 0 → (PdOk N7) ∧ (∀ (r14 : Int32) (N14 : Mem), (PdLaw N7 N14 r14) → (¬ r14 = (-6) → (∃ k, k < 6 ∧ N14.1 3 2 = nI k) ∧ (∀ N17 : Mem, (LwAd N14 N17 3 r1 r14) → K 1 N17)) ∧ (r14 = (-6) → K 0 N14))))) ∧ (r4 = 0 → K 0 N4))))) : B_X5_readCase G K 0 [(0, .ref 1), (1, .ref 3)] [] M := by
  refine BT.aload_n dX5_readCase_0 rfl 0 rfl ?_
  refine BT.mcV [] (t_X5_readMarks h.1 (fun r1 N1 g1 => ?_)) mb_X5_readMarks mv_X5_readMarks lk_X5_44 rfl (by decide) rfl (recvRep ho_1 rfl) (Nat.le_of_ble_eq_true rfl) dX5_readCase_1
  show B_X5_readCase G K 4 [(0, .ref 1), (1, .ref 3)] [.int r1] N1
  refine BT.istore_n (L' := [(2, .int r1), (0, .ref 1), (1, .ref 3)]) dX5_readCase_4 rfl (by decide) rfl ?_
  refine BT.iload_n dX5_readCase_5 rfl 0 rfl ?_
  refine BT.bipush (v := (-6)) dX5_readCase_6 (by decide) ?_
  refine BT.icmp_eq (tgt := 20) dX5_readCase_8 (by decide) (fun c => ?_) (fun c => ?_)
  · have c2 := c
    refine BT.iconst (v := 0) dX5_readCase_20 (by decide) ?_
    exact BT.zret dX5_readCase_21 rfl (by decide) (by decide) (nar01 ((Or.inl rfl))) ((h.2 r1 N1 g1).1 c2)
  · have c3 := c
    refine BT.aload_n dX5_readCase_11 rfl 1 rfl ?_
    refine BT.bipush (v := 58) dX5_readCase_12 (by decide) ?_
    refine BT.mcV [.int 58] (t_X5_takes ((h.2 r1 N1 g1).2 c3).1 (fun r4 N4 g4 => ?_)) mb_X5_takes mv_X5_takes lk_X5_31 rfl (by decide) rfl (recvRep ho_1 rfl) (Nat.le_of_ble_eq_true rfl) dX5_readCase_14
    show B_X5_readCase G K 17 [(2, .int r1), (0, .ref 1), (1, .ref 3)] [.int r4] N4
    refine BT.if_ne (tgt := 22) dX5_readCase_17 (by decide) (fun c => ?_) (fun c => ?_)
    · have c5 := c
      refine BT.aload_n dX5_readCase_22 rfl 1 rfl ?_
      refine BT.bipush (v := 64) dX5_readCase_23 (by decide) ?_
      refine BT.mcV [.int 64] (t_X5_takes ((((h.2 r1 N1 g1).2 c3).2 r4 N4 g4).1 c5).1 (fun r7 N7 g7 => ?_)) mb_X5_takes mv_X5_takes lk_X5_31 rfl (by decide) rfl (recvRep ho_1 rfl) (Nat.le_of_ble_eq_true rfl) dX5_readCase_25
      show B_X5_readCase G K 28 [(2, .int r1), (0, .ref 1), (1, .ref 3)] [.int r7] N7
      refine BT.if_eq (tgt := 38) dX5_readCase_28 (by decide) (fun c => ?_) (fun c => ?_)
      · have c8 := c
        refine BT.aload_n dX5_readCase_38 rfl 1 rfl ?_
        refine BT.mcV [] (t_X5_readNumber ((((((h.2 r1 N1 g1).2 c3).2 r4 N4 g4).1 c5).2 r7 N7 g7).1 c8).1 (fun r10 N10 g10 => ?_)) mb_X5_readNumber mv_X5_readNumber lk_X5_51 rfl (by decide) rfl (recvRep ho_1 rfl) (Nat.le_of_ble_eq_true rfl) dX5_readCase_39
        show B_X5_readCase G K 42 [(2, .int r1), (0, .ref 1), (1, .ref 3)] [.int r10] N10
        refine BT.istore_n (L' := [(3, .int r10), (2, .int r1), (0, .ref 1), (1, .ref 3)]) dX5_readCase_42 rfl (by decide) rfl ?_
        refine BT.iload_n dX5_readCase_43 rfl 0 rfl ?_
        refine BT.bipush (v := (-6)) dX5_readCase_44 (by decide) ?_
        refine BT.icmp_ne (tgt := 51) dX5_readCase_46 (by decide) (fun c => ?_) (fun c => ?_)
        · have c11 := c
          refine BT.aload_n dX5_readCase_51 rfl 3 rfl ?_
          refine BT.iload_n dX5_readCase_52 rfl 1 rfl ?_
          refine BT.iload_n dX5_readCase_53 rfl 0 rfl ?_
          refine BT.mcVvp [.int r1, .int r10] (t_X3_addCase2 lawC_3 ((((((((h.2 r1 N1 g1).2 c3).2 r4 N4 g4).1 c5).2 r7 N7 g7).1 c8).2 r10 N10 g10).1 c11).1 (fun N hN => ⟨rfl, hN⟩)) mb_X3_addCase mv_X3_addCase lk_X5_54 rfl (by decide) rfl (recvRep ho_3 rfl) (Nat.le_of_ble_eq_true rfl) dX5_readCase_54 (P := fun N13 => LwAd N10 N13 3 r1 r10) (fun N13 g13 => ?_)
          show B_X5_readCase G K 57 [(3, .int r10), (2, .int r1), (0, .ref 1), (1, .ref 3)] [] N13
          refine BT.iconst (v := 1) dX5_readCase_57 (by decide) ?_
          exact BT.zret dX5_readCase_58 rfl (by decide) (by decide) (nar01 ((Or.inr rfl))) (((((((((h.2 r1 N1 g1).2 c3).2 r4 N4 g4).1 c5).2 r7 N7 g7).1 c8).2 r10 N10 g10).1 c11).2 N13 g13)
        · have c12 := c
          refine BT.iconst (v := 0) dX5_readCase_49 (by decide) ?_
          exact BT.zret dX5_readCase_50 rfl (by decide) (by decide) (nar01 ((Or.inl rfl))) ((((((((h.2 r1 N1 g1).2 c3).2 r4 N4 g4).1 c5).2 r7 N7 g7).1 c8).2 r10 N10 g10).2 c12)
      · have c9 := c
        refine BT.aload_n dX5_readCase_31 rfl 1 rfl ?_
        refine BT.mcV [] (t_X5_readLawNumber ((((((h.2 r1 N1 g1).2 c3).2 r4 N4 g4).1 c5).2 r7 N7 g7).2 c9).1 (fun r14 N14 g14 => ?_)) mb_X5_readLawNumber mv_X5_readLawNumber lk_X5_48 rfl (by decide) rfl (recvRep ho_1 rfl) (Nat.le_of_ble_eq_true rfl) dX5_readCase_32
        show B_X5_readCase G K 35 [(2, .int r1), (0, .ref 1), (1, .ref 3)] [.int r14] N14
        refine BT.goto (tgt := 42) dX5_readCase_35 (by decide) ?_
        refine BT.istore_n (L' := [(3, .int r14), (2, .int r1), (0, .ref 1), (1, .ref 3)]) dX5_readCase_42 rfl (by decide) rfl ?_
        refine BT.iload_n dX5_readCase_43 rfl 0 rfl ?_
        refine BT.bipush (v := (-6)) dX5_readCase_44 (by decide) ?_
        refine BT.icmp_ne (tgt := 51) dX5_readCase_46 (by decide) (fun c => ?_) (fun c => ?_)
        · have c15 := c
          refine BT.aload_n dX5_readCase_51 rfl 3 rfl ?_
          refine BT.iload_n dX5_readCase_52 rfl 1 rfl ?_
          refine BT.iload_n dX5_readCase_53 rfl 0 rfl ?_
          refine BT.mcVvp [.int r1, .int r14] (t_X3_addCase2 lawC_3 ((((((((h.2 r1 N1 g1).2 c3).2 r4 N4 g4).1 c5).2 r7 N7 g7).2 c9).2 r14 N14 g14).1 c15).1 (fun N hN => ⟨rfl, hN⟩)) mb_X3_addCase mv_X3_addCase lk_X5_54 rfl (by decide) rfl (recvRep ho_3 rfl) (Nat.le_of_ble_eq_true rfl) dX5_readCase_54 (P := fun N17 => LwAd N14 N17 3 r1 r14) (fun N17 g17 => ?_)
          show B_X5_readCase G K 57 [(3, .int r14), (2, .int r1), (0, .ref 1), (1, .ref 3)] [] N17
          refine BT.iconst (v := 1) dX5_readCase_57 (by decide) ?_
          exact BT.zret dX5_readCase_58 rfl (by decide) (by decide) (nar01 ((Or.inr rfl))) (((((((((h.2 r1 N1 g1).2 c3).2 r4 N4 g4).1 c5).2 r7 N7 g7).2 c9).2 r14 N14 g14).1 c15).2 N17 g17)
        · have c16 := c
          refine BT.iconst (v := 0) dX5_readCase_49 (by decide) ?_
          exact BT.zret dX5_readCase_50 rfl (by decide) (by decide) (nar01 ((Or.inl rfl))) ((((((((h.2 r1 N1 g1).2 c3).2 r4 N4 g4).1 c5).2 r7 N7 g7).2 c9).2 r14 N14 g14).2 c16)
    · have c6 := c
      refine BT.iconst (v := 0) dX5_readCase_20 (by decide) ?_
      exact BT.zret dX5_readCase_21 rfl (by decide) (by decide) (nar01 ((Or.inl rfl))) ((((h.2 r1 N1 g1).2 c3).2 r4 N4 g4).2 c6)

theorem t_X5_readCase {G : GT} {K : Int32 → Mem → Prop} {M : Mem} {E : ET} (hE : MkPre E M) (h : ∀ (r : Int32) (N : Mem), CaseOut E M N r → K r N) : T_X5_readCase G [.ref 1, .ref 3] M K := by
  refine e_X5_readCase (k_X5_readCase_0 ⟨hE, fun r1 N1 g1 => ?_⟩)
  rcases g1 with ⟨rfl, hF⟩ | ⟨m, hm, rfl, ⟨i, s, k, mN, lN, T, hP, hs, hk, hT1, hT2, hT3, hC, hW, h1⟩, h3⟩
  · exact ⟨fun _ => h _ _ (Or.inl ⟨rfl, hF⟩), fun c => absurd rfl c⟩
  have eM : M.1 3 2 = nI k := by rw [← h3]; exact hC.1
  have hx := hP.nx
  refine ⟨fun c => absurd c (nI_n6 (by omega)), fun _ => ⟨hP.ok, fun r4 N4 g4 => ?_⟩⟩
  rcases g4 with ⟨rfl, hc, rfl⟩ | ⟨rfl, hc, rfl⟩
  · -- the marks are told
    refine ⟨fun _ => ?_, fun c => absurd c (by decide)⟩
    have est : q_step (s, nI (k + 1), mN, lN, 0) 58 = (3, nI (k + 1), mN, lN, 0) := by
      rcases hs with rfl | rfl
      · rw [q_s1, if_neg (fun z => absurd z.1 (by decide)), if_pos rfl]
      · rfl
    have hP4 := hP.adv hc est (of_decide_eq_true rfl) rfl
    have hC4 := hC.adv
    have hW4 := hW.adv
    have h34 : (pd_adv N1).1 3 = M.1 3 := (pd_adv_off (by omega)).trans h3
    generalize pd_adv N1 = N4 at *
    have e4 : t_step T s (3, nI (k + 1), mN, lN, (0 : Int32)).1 58 = ((k, t_put T.1.2.1 k (nI m), t_put T.1.2.2.1 k 0, 0), w_0) := by
      show ((T.1.1, t_put T.1.2.1 T.1.1 T.1.2.2.2, t_put T.1.2.2.1 T.1.1 0, (0 : Int32)), T.2) = _
      rw [hT1, hT2, hT3]
    rw [e4] at hP4
    have hx4 := hP4.nx
    refine ⟨hP4.ok, fun r7 N7 g7 => ?_⟩
    rcases g7 with ⟨rfl, hc7, rfl⟩ | ⟨rfl, hc7, rfl⟩
    · refine ⟨fun c => absurd c (by decide), fun _ => ?_⟩
      have hP7 := hP4.adv hc7 rfl (of_decide_eq_true rfl) rfl
      refine ⟨hP7.ok, fun r14 N14 g14 => ?_⟩
      rcases g14 with ⟨d, hd, ed, rfl, rfl⟩ | ⟨nd, rfl, rfl⟩
      · have hP14 := hP7.adv (q' := (5, nI (k + 1), mN, lN, 0)) ed (by
          show q_step (6, _) _ = _
          rw [q_s6, if_pos (lwB_is.mpr ⟨d, hd, rfl⟩)]) (of_decide_eq_true rfl) rfl
        refine ⟨fun _ => ⟨⟨k, hk, ?_⟩, fun N17 g17 => h _ _ (Or.inr ⟨rfl, k, eM, hk, case_end hP14 (Or.inr rfl) hk rfl rfl rfl rfl ?_ (fun j hj => ?_) hC4.adv.adv hW4.adv.adv hm (g := 100 + d) (by omega) (fun z => absurd z (by decide)) g17⟩)⟩, fun c => absurd c (nI_n6 (by omega))⟩
        · rw [pd_adv_off (by omega), pd_adv_off (by omega), h34, eM]
        · show t_put _ k _ k = _
          rw [t_put_at]
          show (100 : Int32) + nI (48 + d) - 48 = _
          rw [show (100 : Int32) = nI 100 from rfl, nI_add, show 100 + (48 + d) = 48 + (100 + d) by omega, dg_sub]
        · show t_put _ k _ j = _
          have z : ¬ j = k := by omega
          rw [t_put_ne z]
          show t_put _ k _ j = _
          rw [t_put_ne z]
          show t_put _ k _ j = _
          rw [t_put_ne z]
      · refine ⟨fun c => absurd rfl c, fun _ => h _ _ (Or.inl ⟨rfl, _, _, _, hP7, qw_n6, ?_⟩)⟩
        show (q_step (6, _) _).1 < 0
        rw [q_s6, if_neg (by rw [← hP7.nx]; exact nd)]
        exact m1_lt
    · refine ⟨fun _ => ?_, fun c => absurd rfl c⟩
      refine ⟨hP4.ok, fun r10 N10 g10 => ?_⟩
      rcases g10 with ⟨rfl, rfl, nd⟩ | ⟨d, hd, ed, ⟨e, he, ee, rfl, rfl⟩ | ⟨nd, rfl, rfl⟩⟩
      · refine ⟨fun c => absurd rfl c, fun _ => h _ _ (Or.inl ⟨rfl, _, _, _, hP4, qw_n3, ?_⟩)⟩
        show (q_step (3, _) _).1 < 0
        rw [q_s3, if_neg (by rw [← hx4]; exact nd), if_neg (by rw [← hx4]; exact hc7)]
        exact m1_lt
      · have hP10 := hP4.adv (q' := (4, nI (k + 1), mN, lN, 0)) ed (by
          show q_step (3, _) _ = _
          rw [q_s3, if_pos (dgB_is.mpr ⟨d, hd, rfl⟩)]) (of_decide_eq_true rfl) rfl
        have hP11 := hP10.adv (q' := (5, nI (k + 1), mN, lN, 0)) ee (by
          show q_step (4, _) _ = _
          rw [q_s4, if_pos (dgB_is.mpr ⟨e, he, rfl⟩)]) (of_decide_eq_true rfl) rfl
        refine ⟨fun _ => ⟨⟨k, hk, ?_⟩, fun N17 g17 => h _ _ (Or.inr ⟨rfl, k, eM, hk, case_end hP11 (Or.inr rfl) hk rfl rfl rfl rfl ?_ (fun j hj => ?_) hC4.adv.adv hW4.adv.adv hm (g := 10 * d + e) (by omega) (fun z => absurd z (by decide)) g17⟩)⟩, fun c => absurd c (nI_n6 (by omega))⟩
        · rw [pd_adv_off (by omega), pd_adv_off (by omega), h34, eM]
        · show t_put _ k (10 * t_put _ k (10 * t_put _ k 0 k + nI (48 + d) - 48) k + nI (48 + e) - 48) k = _
          rw [t_put_at, t_put_at, t_put_at, Int32.mul_zero, Int32.zero_add, dg_sub, show (10 : Int32) = nI 10 from rfl, nI_mul, nI_add, show 10 * d + (48 + e) = 48 + (10 * d + e) by omega, dg_sub]
        · have z : ¬ j = k := by omega
          show t_put (t_put (t_put _ k _) k _) k _ j = _
          rw [t_put_ne z, t_put_ne z, t_put_ne z]
      · have hP10 := hP4.adv (q' := (4, nI (k + 1), mN, lN, 0)) ed (by
          show q_step (3, _) _ = _
          rw [q_s3, if_pos (dgB_is.mpr ⟨d, hd, rfl⟩)]) (of_decide_eq_true rfl) rfl
        refine ⟨fun _ => ⟨⟨k, hk, ?_⟩, fun N17 g17 => h _ _ (Or.inr ⟨rfl, k, eM, hk, case_end hP10 (Or.inl rfl) hk rfl rfl rfl rfl ?_ (fun j hj => ?_) hC4.adv hW4.adv hm (g := d) (by omega) (fun _ => by rw [← hP10.nx]; exact nd) g17⟩)⟩, fun c => absurd c (nI_n6 (by omega))⟩
        · rw [pd_adv_off (by omega), h34, eM]
        · show t_put _ k (10 * t_put _ k 0 k + nI (48 + d) - 48) k = _
          rw [t_put_at, t_put_at, Int32.mul_zero, Int32.zero_add, dg_sub]
        · have z : ¬ j = k := by omega
          show t_put (t_put _ k _) k _ j = _
          rw [t_put_ne z, t_put_ne z]
  · refine ⟨fun c => absurd rfl c, fun _ => h _ _ (Or.inl ⟨rfl, _, _, _, hP, ?_, ?_⟩)⟩
    · rcases hs with rfl | rfl
      · exact qw_n1
      · exact qw_n2
    · rw [hx] at hc
      rcases hs with rfl | rfl
      · rw [q_s1, if_neg (h1 rfl), if_neg hc]; exact m1_lt
      · rw [q_s2, if_neg hc]; exact m1_lt

/-! BetweenLaws$Pad.readCases(LBetweenLaws$Law;)Z -/
abbrev rm_X5_readCases : Room := { frames := 4, cells := 0, slots := 0, locals := 89 }
abbrev B_X5_readCases (G : GT) (K : Int32 → Mem → Prop) := BT G (Rep G) RX5 "readCases" cX5_readCases 3 (some .boolean) rm_X5_readCases K 0 0
abbrev T_X5_readCases (G : GT) (as : List Value) (M : Mem) (K : Int32 → Mem → Prop) : Prop := MT G (Rep G) yX5_readCases cX5_readCases 3 (some .boolean) rm_X5_readCases as M K
theorem e_X5_readCases {G : GT} {K : Int32 → Mem → Prop} {M : Mem}  (h : B_X5_readCases G K 0 [(0, .ref 1), (1, .ref 3)] [] M) : T_X5_readCases G [.ref 1, .ref 3] M K := MT.of (by decide +kernel) rfl rfl (Nat.le_of_ble_eq_true rfl) rfl h
set_option maxRecDepth 4000 in
theorem k_X5_readCases_0 {G : GT} {K : Int32 → Mem → Prop} {M : Mem} {E : ET}  (h : (MkPre E M) ∧ (∀ (r1 : Int32) (N1 : Mem), (CaseOut E M N1 r1) → (¬ r1 = 0 → B_X5_readCases G K 12 [(0, .ref 1), (1, .ref 3), (2, .int 1)] [] N1) ∧ (r1 = 0 → K 0 N1))) : B_X5_readCases G K 0 [(0, .ref 1), (1, .ref 3)] [] M := by
  refine BT.aload_n dX5_readCases_0 rfl 0 rfl ?_
  refine BT.aload_n dX5_readCases_1 rfl 1 rfl ?_
  refine BT.mcV [.ref 3] (t_X5_readCase h.1 (fun r1 N1 g1 => ?_)) mb_X5_readCase mv_X5_readCase lk_X5_41 rfl (by decide) rfl (recvRep ho_1 rfl) (Nat.le_of_ble_eq_true rfl) dX5_readCases_2
  show B_X5_readCases G K 5 [(0, .ref 1), (1, .ref 3)] [.int r1] N1
  refine BT.if_ne (tgt := 10) dX5_readCases_5 (by decide) (fun c => ?_) (fun c => ?_)
  · have c2 := c
    refine BT.iconst (v := 1) dX5_readCases_10 (by decide) ?_
    refine BT.istore_n (L' := [(2, .int 1), (0, .ref 1), (1, .ref 3)]) dX5_readCases_11 rfl (by decide) rfl ?_
    refine BT.sub [1, 2, 0] rfl ?_
    exact ((h.2 r1 N1 g1).1 c2)
  · have c3 := c
    refine BT.iconst (v := 0) dX5_readCases_8 (by decide) ?_
    exact BT.zret dX5_readCases_9 rfl (by decide) (by decide) (nar01 ((Or.inl rfl))) ((h.2 r1 N1 g1).2 c3)
set_option maxRecDepth 4000 in
theorem k_X5_readCases_12 {G : GT} {K : Int32 → Mem → Prop} {M : Mem} {E : ET} {v2 : Int32} (h : (6 ≤ v2 → K 1 M) ∧ (¬ 6 ≤ v2 → (PdOk M) ∧ (∀ (r3 : Int32) (N3 : Mem), ((r3 = 1 ∧ pd_nx M.1 = 124 ∧ N3 = pd_adv M) ∨ (r3 = 0 ∧ ¬ pd_nx M.1 = 124 ∧ N3 = M)) → (r3 = 0 → K 1 N3) ∧ (¬ r3 = 0 → (MkPre E N3) ∧ (∀ (r6 : Int32) (N6 : Mem), (CaseOut E N3 N6 r6) → (¬ r6 = 0 → B_X5_readCases G K 12 [(0, .ref 1), (1, .ref 3), (2, .int (v2 + 1))] [] N6) ∧ (r6 = 0 → K 0 N6)))))) : B_X5_readCases G K 12 [(0, .ref 1), (1, .ref 3), (2, .int v2)] [] M := by
  refine BT.iload_n dX5_readCases_12 rfl 2 rfl ?_
  refine BT.bipush (v := 6) dX5_readCases_13 (by decide) ?_
  refine BT.icmp_ge (tgt := 43) dX5_readCases_15 (by decide) (fun c => ?_) (fun c => ?_)
  · have c1 := c
    refine BT.iconst (v := 1) dX5_readCases_43 (by decide) ?_
    exact BT.zret dX5_readCases_44 rfl (by decide) (by decide) (nar01 ((Or.inr rfl))) (h.1 c1)
  · have c2 := c
    refine BT.aload_n dX5_readCases_18 rfl 0 rfl ?_
    refine BT.bipush (v := 124) dX5_readCases_19 (by decide) ?_
    refine BT.mcV [.int 124] (t_X5_takes (h.2 c2).1 (fun r3 N3 g3 => ?_)) mb_X5_takes mv_X5_takes lk_X5_31 rfl (by decide) rfl (recvRep ho_1 rfl) (Nat.le_of_ble_eq_true rfl) dX5_readCases_21
    show B_X5_readCases G K 24 [(0, .ref 1), (1, .ref 3), (2, .int v2)] [.int r3] N3
    refine BT.if_eq (tgt := 43) dX5_readCases_24 (by decide) (fun c => ?_) (fun c => ?_)
    · have c4 := c
      refine BT.iconst (v := 1) dX5_readCases_43 (by decide) ?_
      exact BT.zret dX5_readCases_44 rfl (by decide) (by decide) (nar01 ((Or.inr rfl))) (((h.2 c2).2 r3 N3 g3).1 c4)
    · have c5 := c
      refine BT.aload_n dX5_readCases_27 rfl 0 rfl ?_
      refine BT.aload_n dX5_readCases_28 rfl 1 rfl ?_
      refine BT.mcV [.ref 3] (t_X5_readCase (((h.2 c2).2 r3 N3 g3).2 c5).1 (fun r6 N6 g6 => ?_)) mb_X5_readCase mv_X5_readCase lk_X5_41 rfl (by decide) rfl (recvRep ho_1 rfl) (Nat.le_of_ble_eq_true rfl) dX5_readCases_29
      show B_X5_readCases G K 32 [(0, .ref 1), (1, .ref 3), (2, .int v2)] [.int r6] N6
      refine BT.if_ne (tgt := 37) dX5_readCases_32 (by decide) (fun c => ?_) (fun c => ?_)
      · have c7 := c
        refine BT.iinc (j := 2) (v := (v2 + 1)) (L' := [(2, .int (v2 + 1)), (0, .ref 1), (1, .ref 3)]) dX5_readCases_37 rfl rfl (by decide) rfl ?_
        refine BT.goto (tgt := 12) dX5_readCases_40 (by decide) ?_
        refine BT.sub [1, 2, 0] rfl ?_
        exact (((((h.2 c2).2 r3 N3 g3).2 c5).2 r6 N6 g6).1 c7)
      · have c8 := c
        refine BT.iconst (v := 0) dX5_readCases_35 (by decide) ?_
        exact BT.zret dX5_readCases_36 rfl (by decide) (by decide) (nar01 ((Or.inl rfl))) (((((h.2 c2).2 r3 N3 g3).2 c5).2 r6 N6 g6).2 c8)

theorem t_X5_readCases {G : GT} {K : Int32 → Mem → Prop} {M : Mem} {E : ET} (hE : MkPre E M ∧ M.1 3 2 = 0) (h : ∀ (r : Int32) (N : Mem), CasesOut E N r → K r N) : T_X5_readCases G [.ref 1, .ref 3] M K := by
  have loop : ∀ f k, k + f = 6 → ∀ N, CaseEnd E k N → B_X5_readCases G K 12 [(0, .ref 1), (1, .ref 3), (2, .int (nI k))] [] N := by
    intro f
    induction f with
    | zero =>
      intro k hk N hI
      obtain ⟨i, s, mN, lN, T, hP, hs, hk6, r⟩ := hI
      obtain ⟨r1, r2, r3, r4, r5, r6⟩ := r
      have hk : k = 6 := by omega
      refine k_X5_readCases_12 (E := E) ⟨fun _ => h _ _ (Or.inr ⟨rfl, k, i, s, mN, lN, T, hP, hs, hk6, r1, r2, r3, r4, r5, r6, fun _ => hk⟩), fun c => absurd ?_ c⟩
      rw [hk]; decide
    | succ f ih =>
      intro k hk N hI
      obtain ⟨i, s, mN, lN, T, hP, hs, hk6, r1, r2, r3, r4, r5, r6⟩ := hI
      have hlt : nI k < 6 := nI_lt (b := 6) (by omega) (by omega)
      have hx := hP.nx
      refine k_X5_readCases_12 (E := E) ⟨fun c => absurd c (Int32.not_le.mpr hlt), fun _ => ⟨hP.ok, fun r3' N3 g3 => ?_⟩⟩
      rcases g3 with ⟨rfl, hc, rfl⟩ | ⟨rfl, hc, rfl⟩
      · refine ⟨fun c => absurd c (by decide), fun _ => ?_⟩
        have est : q_step (s, nI k, mN, lN, 0) 124 = (0, nI (k + 1), -1, lN, 0) := by
          have e : ∀ s : Int32, q_gift 124 (s, nI k, mN, lN, 0) = (0, nI (k + 1), -1, lN, 0) := fun s => by
            unfold q_gift
            rw [if_pos ⟨rfl, hlt⟩, nI_1]
          rcases hs with rfl | rfl
          · rw [q_s4, if_neg (by decide), e]
          · rw [q_s5, e]
        have hn : MkPre E (pd_adv N) := by
          refine ⟨i + 1, k, lN, _, hP.adv hc est (of_decide_eq_true rfl) (T' := ((T.1.1 + 1, T.1.2), T.2)) rfl, by omega, r1, r2, r3, r4.adv, r5.adv⟩
        refine ⟨hn, fun r6 N6 g6 => ?_⟩
        rcases g6 with ⟨rfl, hF⟩ | ⟨rfl, k', ek, hk', hI'⟩
        · exact ⟨fun c => absurd rfl c, fun _ => h _ _ (Or.inl ⟨rfl, hF⟩)⟩
        · refine ⟨fun _ => ?_, fun c => absurd c (by decide)⟩
          rw [pd_adv_off (by omega), r4.1] at ek
          have : k = k' := (nI_eq (by omega) (by omega)).mp ek
          subst this
          rw [nI_1]
          exact ih (k + 1) (by omega) N6 hI'
      · refine ⟨fun _ => h _ _ (Or.inr ⟨rfl, k, i, s, mN, lN, T, hP, hs, hk6, r1, r2, r3, r4, r5, r6, fun z => absurd (hx.trans z) hc⟩), fun c => absurd rfl c⟩
  refine e_X5_readCases (k_X5_readCases_0 ⟨hE.1, fun r1 N1 g1 => ?_⟩)
  rcases g1 with ⟨rfl, hF⟩ | ⟨rfl, k', ek, hk', hI'⟩
  · exact ⟨fun c => absurd rfl c, fun _ => h _ _ (Or.inl ⟨rfl, hF⟩)⟩
  · refine ⟨fun _ => ?_, fun c => absurd c (by decide)⟩
    have : k' = 0 := (nI_eq (b := 0) (by omega) (by omega)).mp (ek.symm.trans hE.2)
    subst this
    exact loop 5 1 (by omega) N1 hI'

