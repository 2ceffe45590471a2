/-! ===== 69.laws ===== -/
/-! ===== the letter of before does not matter ===== -/
def qs (q r : QT) : Prop := q.1 = r.1 ∧ q.2.1 = r.2.1 ∧ q.2.2.1 = r.2.2.1 ∧ q.2.2.2.2 = r.2.2.2.2 ∧ ((q.1 = 9 ∨ q.1 = 10 ∨ q.1 = 16 ∨ q.1 = 17) → q.2.2.2.1 = r.2.2.2.1)
theorem qs_rf {q : QT} : qs q q := ⟨rfl, rfl, rfl, rfl, fun _ => rfl⟩
theorem qs_step {q r : QT} {c : Int32} (h : qs q r) : qs (q_step q c) (q_step r c) := by
  obtain ⟨s, a, b, l, w⟩ := q
  obtain ⟨s', a', b', l', w'⟩ := r
  obtain ⟨e1, e2, e3, e4, e5⟩ := h
  dsimp only at e1 e2 e3 e4 e5
  subst e1 e2 e3 e4
  by_cases h9 : s = 9
  · rw [e5 (Or.inl h9)]; exact qs_rf
  by_cases h10 : s = 10
  · rw [e5 (Or.inr (Or.inl h10))]; exact qs_rf
  by_cases h16 : s = 16
  · rw [e5 (Or.inr (Or.inr (Or.inl h16)))]; exact qs_rf
  by_cases h17 : s = 17
  · rw [e5 (Or.inr (Or.inr (Or.inr h17)))]; exact qs_rf
  clear e5
  by_cases h0 : s = 0
  · subst h0; rw [q_s0, q_s0]; dsimp only
    repeat' split
    all_goals exact ⟨rfl, rfl, rfl, rfl, fun z => absurd z (of_decide_eq_false rfl)⟩
  by_cases h1 : s = 1
  · subst h1; rw [q_s1, q_s1]; dsimp only
    repeat' split
    all_goals exact ⟨rfl, rfl, rfl, rfl, fun z => absurd z (of_decide_eq_false rfl)⟩
  by_cases h2 : s = 2
  · subst h2; rw [q_s2, q_s2]
    repeat' split
    all_goals exact ⟨rfl, rfl, rfl, rfl, fun z => absurd z (of_decide_eq_false rfl)⟩
  by_cases h3 : s = 3
  · subst h3; rw [q_s3, q_s3]
    repeat' split
    all_goals exact ⟨rfl, rfl, rfl, rfl, fun z => absurd z (of_decide_eq_false rfl)⟩
  by_cases h4 : s = 4
  · subst h4; rw [q_s4, q_s4]; unfold q_gift; dsimp only
    repeat' split
    all_goals exact ⟨rfl, rfl, rfl, rfl, fun z => absurd z (of_decide_eq_false rfl)⟩
  by_cases h5 : s = 5
  · subst h5; rw [q_s5, q_s5]; unfold q_gift; dsimp only
    repeat' split
    all_goals exact ⟨rfl, rfl, rfl, rfl, fun z => absurd z (of_decide_eq_false rfl)⟩
  by_cases h6 : s = 6
  · subst h6; rw [q_s6, q_s6]
    repeat' split
    all_goals exact ⟨rfl, rfl, rfl, rfl, fun z => absurd z (of_decide_eq_false rfl)⟩
  by_cases h8 : s = 8
  · subst h8; rw [q_s8, q_s8]; unfold q_word; dsimp only
    repeat' split
    all_goals first | exact ⟨rfl, rfl, rfl, rfl, fun _ => rfl⟩ | exact ⟨rfl, rfl, rfl, rfl, fun z => absurd z (of_decide_eq_false rfl)⟩
  by_cases h13 : s = 13
  · subst h13; rw [q_s13, q_s13]
    repeat' split
    all_goals exact ⟨rfl, rfl, rfl, rfl, fun z => absurd z (of_decide_eq_false rfl)⟩
  by_cases h14 : s = 14
  · subst h14; rw [q_s14, q_s14]; dsimp only
    repeat' split
    all_goals first | exact ⟨rfl, rfl, rfl, rfl, fun _ => rfl⟩ | exact ⟨rfl, rfl, rfl, rfl, fun z => absurd z (of_decide_eq_false rfl)⟩
  by_cases h15 : s = 15
  · subst h15; rw [q_s15, q_s15]; dsimp only
    repeat' split
    all_goals first | exact ⟨rfl, rfl, rfl, rfl, fun _ => rfl⟩ | exact ⟨rfl, rfl, rfl, rfl, fun z => absurd z (of_decide_eq_false rfl)⟩
  by_cases h18 : s = 18
  · subst h18; rw [q_s18, q_s18]
    repeat' split
    all_goals exact ⟨rfl, rfl, rfl, rfl, fun z => absurd z (of_decide_eq_false rfl)⟩
  have n : ¬ (s = 0 ∨ s = 1 ∨ s = 2 ∨ s = 3 ∨ s = 4 ∨ s = 5 ∨ s = 6 ∨ s = 8 ∨ s = 9 ∨ s = 10 ∨ s = 13 ∨ s = 14 ∨ s = 15 ∨ s = 16 ∨ s = 17 ∨ s = 18) := by
    simp only [not_or]; exact ⟨h0, h1, h2, h3, h4, h5, h6, h8, h9, h10, h13, h14, h15, h16, h17, h18⟩
  rw [q_def n, q_def n]
  repeat' split
  all_goals exact ⟨rfl, rfl, rfl, rfl, fun z => absurd z (of_decide_eq_false rfl)⟩
theorem qs_at (sg : Nat → Int32) (l0 l1 : Int32) : ∀ i, qs (q_at sg l0 i) (q_at sg l1 i)
  | 0 => ⟨rfl, rfl, rfl, rfl, fun z => absurd z (of_decide_eq_false rfl)⟩
  | i + 1 => qs_step (qs_at sg l0 l1 i)
theorem t_sim (sg : Nat → Int32) (l0 l1 : Int32) (cm cg : Nat → Int32) : ∀ i, t_at sg l0 cm cg i = t_at sg l1 cm cg i
  | 0 => rfl
  | i + 1 => by
    show t_step (t_at sg l0 cm cg i) (q_at sg l0 i).1 (q_at sg l0 (i + 1)).1 (sg i) = t_step (t_at sg l1 cm cg i) (q_at sg l1 i).1 (q_at sg l1 (i + 1)).1 (sg i)
    rw [t_sim sg l0 l1 cm cg i, (qs_at sg l0 l1 i).1, (qs_at sg l0 l1 (i + 1)).1]
theorem FltR.sim {sg : Nat → Int32} {l0 l1 : Int32} {n : Nat} {r : Int32} (h : FltR sg l0 n r) : FltR sg l1 n r := by
  have e : ∀ j, (q_at sg l1 j).1 = (q_at sg l0 j).1 := fun j => (qs_at sg l1 l0 j).1
  unfold FltR
  simp only [e]
  exact h
theorem FltR.one {sg : Nat → Int32} {l0 : Int32} {n : Nat} {r s : Int32} (hn : n ≤ 60) (h : FltR sg l0 n r) (g : FltR sg l0 n s) : r = s := by
  rcases h with ⟨er, h1, h2⟩ | ⟨i, er, h1, hi, h2⟩ <;> rcases g with ⟨es, g1, g2⟩ | ⟨j, es, g1, hj, g2⟩
  · rw [er, es]
  · rcases g2 with ⟨a, b⟩ | ⟨a, b⟩
    · exact absurd b (Int32.not_lt.mpr (h1 (j + 1) (by omega)))
    · rw [a] at b; exact absurd h2 b
  · rcases h2 with ⟨a, b⟩ | ⟨a, b⟩
    · exact absurd b (Int32.not_lt.mpr (g1 (i + 1) (by omega)))
    · rw [a] at b; exact absurd g2 b
  · have : i = j := by
      rcases Nat.lt_trichotomy i j with q | q | q
      · rcases h2 with ⟨a, b⟩ | ⟨a, b⟩
        · exact absurd b (Int32.not_lt.mpr (g1 (i + 1) (by omega)))
        · omega
      · exact q
      · rcases g2 with ⟨a, b⟩ | ⟨a, b⟩
        · exact absurd b (Int32.not_lt.mpr (h1 (j + 1) (by omega)))
        · omega
    rw [er, es, this]
theorem InOut.flt {E : ET} {N : Mem} {r : Int32} (h : InOut E N r) : FltR (E.1.1 2) E.2.2.1 E.2.1 r := by
  rcases h.2 with ⟨er, hG⟩ | ⟨i, er, h1, h2, h3⟩
  · exact Or.inl ⟨er, hG.1, hG.2.1⟩
  · exact Or.inr ⟨i, er, h1, h2, h3⟩
theorem InOut.good {E : ET} {N : Mem} (h : InOut E N (-6)) (hn : E.2.1 ≤ 60) : Good E N := by
  rcases h.2 with ⟨er, hG⟩ | ⟨i, er, h1, h2, h3⟩
  · exact hG
  · exact absurd er.symm (nI_n6 (by omega))

/-! BetweenLaws.fault()I -/
abbrev rm_X10_fault : Room := { frames := 7, cells := 0, slots := 0, locals := 155 }
abbrev B_X10_fault (G : GT) (K : Int32 → Mem → Prop) := BT G (Rep G) RX10 "fault" cX10_fault 1 (some .int) rm_X10_fault K 0 0
abbrev T_X10_fault (G : GT) (as : List Value) (M : Mem) (K : Int32 → Mem → Prop) : Prop := MT G (Rep G) yX10_fault cX10_fault 1 (some .int) rm_X10_fault as M K
theorem e_X10_fault {G : GT} {K : Int32 → Mem → Prop} {M : Mem}  (h : B_X10_fault G K 0 [(0, .ref 0)] [] M) : T_X10_fault G [.ref 0] M K := MT.of (by decide +kernel) rfl rfl (Nat.le_of_ble_eq_true rfl) rfl h
set_option maxRecDepth 4000 in
theorem k_X10_fault_0 {G : GT} {K : Int32 → Mem → Prop} {M : Mem} {E : ET}  (h : (InPre E M) ∧ (∀ (r1 : Int32) (N1 : Mem), (InOut E N1 r1) → K r1 N1)) : B_X10_fault G K 0 [(0, .ref 0)] [] M := by
  refine BT.aload_n dX10_fault_0 rfl 0 rfl ?_
  refine BT.getR (r := 1) fl_X10_10 ho_0 rfl dX10_fault_1 ?_
  refine BT.aload_n dX10_fault_4 rfl 0 rfl ?_
  refine BT.getR (r := 3) fl_X10_19 ho_0 rfl dX10_fault_5 ?_
  refine BT.mcV [.ref 3] (t_X5_readInto h.1 (fun r1 N1 g1 => ?_)) mb_X5_readInto mv_X5_readInto lk_X10_97 rfl (by decide) rfl (recvRep ho_1 rfl) (Nat.le_of_ble_eq_true rfl) dX10_fault_8
  show B_X10_fault G K 11 [(0, .ref 0)] [.int r1] N1
  exact BT.iret dX10_fault_11 rfl (by decide) (by decide) (h.2 r1 N1 g1)

theorem t_X10_fault {G : GT} {K : Int32 → Mem → Prop} {M : Mem} {E : ET} (hE : InPre E M) (h : ∀ (r : Int32) (N : Mem), InOut E N r → K r N) : T_X10_fault G [.ref 0] M K :=
  e_X10_fault (k_X10_fault_0 ⟨hE, h⟩)

/-! BetweenLaws.law(II)I -/
abbrev rm_X10_law : Room := { frames := 7, cells := 0, slots := 0, locals := 155 }
abbrev B_X10_law (G : GT) (K : Int32 → Mem → Prop) := BT G (Rep G) RX10 "law" cX10_law 3 (some .int) rm_X10_law K 0 0
abbrev T_X10_law (G : GT) (as : List Value) (M : Mem) (K : Int32 → Mem → Prop) : Prop := MT G (Rep G) yX10_law cX10_law 3 (some .int) rm_X10_law as M K
theorem e_X10_law {G : GT} {K : Int32 → Mem → Prop} {M : Mem} {v1 : Int32} {v2 : Int32} (h : B_X10_law G K 0 [(0, .ref 0), (1, .int v1), (2, .int v2)] [] M) : T_X10_law G [.ref 0, .int v1, .int v2] M K := MT.of (by decide +kernel) rfl rfl (Nat.le_of_ble_eq_true rfl) rfl h
set_option maxRecDepth 4000 in
theorem k_X10_law_0 {G : GT} {K : Int32 → Mem → Prop} {M : Mem} {E : ET} {v1 : Int32} {v2 : Int32} (h : (¬ ((0 : Int32) ≤ v1 ∧ v1 ≤ 99) → K (-2) M) ∧ (((0 : Int32) ≤ v1 ∧ v1 ≤ 99) → (((v1 + 1) ≤ v2 ∧ v2 ≤ 100) → (InPre E M) ∧ (∀ (r7 : Int32) (N7 : Mem), (InOut E N7 r7) → (r7 = (-6) → ((N7.1 8 1) < 8 → (∀ N12 : Mem, N12 = (m_i N7 1 1 0) → (N12.1 8 1 = nI (w_n (wv N12)) ∧ w_n (wv N12) < 8) ∧ (N12.1 3 10 = 0 ∨ N12.1 3 10 = 1) ∧ (∀ r13 : Int32, r13 = (nI (w_n (wv N12))) → ∀ N13 : Mem, (AddN N12 N13 (w_n (wv N12)) v1 v2) → K r13 N13))) ∧ (¬ (N7.1 8 1) < 8 → K (-4) N7)) ∧ (¬ r7 = (-6) → K (-5) N7))) ∧ (¬ ((v1 + 1) ≤ v2 ∧ v2 ≤ 100) → K (-2) M))) : B_X10_law G K 0 [(0, .ref 0), (1, .int v1), (2, .int v2)] [] M := by
  refine BT.iload_n dX10_law_0 rfl 1 rfl ?_
  refine BT.mcS [.int v1] (t_X10_isDay  ?_) mb_X10_isDay ms_X10_isDay lk_X10_101 rfl (by decide) rfl (Nat.le_of_ble_eq_true rfl) dX10_law_1
  show B_X10_law G K 4 [(0, .ref 0), (1, .int v1), (2, .int v2)] [.int (bi ((0 : Int32) ≤ v1 ∧ v1 ≤ 99))] M
  refine BT.if_eq (tgt := 19) dX10_law_4 (by decide) (fun c => ?_) (fun c => ?_)
  · have c2 := bi_eq0.mp c
    refine BT.bipush (v := (-2)) dX10_law_19 (by decide) ?_
    exact BT.iret dX10_law_21 rfl (by decide) (by decide) (h.1 c2)
  · have c3 := bi_ne0.mp c
    refine BT.iload_n dX10_law_7 rfl 2 rfl ?_
    refine BT.iload_n dX10_law_8 rfl 1 rfl ?_
    refine BT.iconst (v := 1) dX10_law_9 (by decide) ?_
    refine BT.iadd dX10_law_10 ?_
    refine BT.bipush (v := 100) dX10_law_11 (by decide) ?_
    refine BT.mcS [.int v2, .int (v1 + 1), .int 100] (t_X10_within  ?_) mb_X10_within ms_X10_within lk_X10_82 rfl (by decide) rfl (Nat.le_of_ble_eq_true rfl) dX10_law_13
    show B_X10_law G K 16 [(0, .ref 0), (1, .int v1), (2, .int v2)] [.int (bi ((v1 + 1) ≤ v2 ∧ v2 ≤ 100))] M
    refine BT.if_ne (tgt := 22) dX10_law_16 (by decide) (fun c => ?_) (fun c => ?_)
    · have c5 := bi_ne0.mp c
      refine BT.aload_n dX10_law_22 rfl 0 rfl ?_
      refine BT.getR (r := 1) fl_X10_10 ho_0 rfl dX10_law_23 ?_
      refine BT.aload_n dX10_law_26 rfl 0 rfl ?_
      refine BT.getR (r := 3) fl_X10_19 ho_0 rfl dX10_law_27 ?_
      refine BT.mcV [.ref 3] (t_X5_readInto ((h.2 c3).1 c5).1 (fun r7 N7 g7 => ?_)) mb_X5_readInto mv_X5_readInto lk_X10_97 rfl (by decide) rfl (recvRep ho_1 rfl) (Nat.le_of_ble_eq_true rfl) dX10_law_30
      show B_X10_law G K 33 [(0, .ref 0), (1, .int v1), (2, .int v2)] [.int r7] N7
      refine BT.bipush (v := (-6)) dX10_law_33 (by decide) ?_
      refine BT.icmp_eq (tgt := 41) dX10_law_35 (by decide) (fun c => ?_) (fun c => ?_)
      · have c8 := c
        refine BT.aload_n dX10_law_41 rfl 0 rfl ?_
        refine BT.getR (r := 8) fl_X10_26 ho_0 rfl dX10_law_42 ?_
        refine BT.getI fl_X10_104 ho_8 rfl dX10_law_45 ?_
        refine BT.bipush (v := 8) dX10_law_48 (by decide) ?_
        refine BT.icmp_lt (tgt := 56) dX10_law_50 (by decide) (fun c => ?_) (fun c => ?_)
        · have c10 := c
          refine BT.aload_n dX10_law_56 rfl 0 rfl ?_
          refine BT.getR (r := 1) fl_X10_10 ho_0 rfl dX10_law_57 ?_
          refine BT.mcVvm [] (t_X5_clear  ⟨rfl, rfl⟩) mb_X5_clear mv_X5_clear lk_X10_94 rfl (by decide) rfl (recvRep ho_1 rfl) (Nat.le_of_ble_eq_true rfl) dX10_law_60 (fun N12 g12 => ?_)
          show B_X10_law G K 63 [(0, .ref 0), (1, .int v1), (2, .int v2)] [] N12
          refine BT.aload_n dX10_law_63 rfl 0 rfl ?_
          refine BT.getR (r := 8) fl_X10_26 ho_0 rfl dX10_law_64 ?_
          refine BT.aload_n dX10_law_67 rfl 0 rfl ?_
          refine BT.getR (r := 3) fl_X10_19 ho_0 rfl dX10_law_68 ?_
          refine BT.iload_n dX10_law_71 rfl 1 rfl ?_
          refine BT.iload_n dX10_law_72 rfl 2 rfl ?_
          refine BT.mcVp [.ref 3, .int v1, .int v2] (t_X9_addLaw ((((((h.2 c3).1 c5).2 r7 N7 g7).1 c8).1 c10) N12 g12).1 ((((((h.2 c3).1 c5).2 r7 N7 g7).1 c8).1 c10) N12 g12).2.1 (fun N hN => ⟨rfl, hN⟩)) mb_X9_addLaw mv_X9_addLaw lk_X10_107 rfl (by decide) rfl (recvRep ho_8 rfl) (Nat.le_of_ble_eq_true rfl) dX10_law_73 (P := fun N13 => AddN N12 N13 (w_n (wv N12)) v1 v2) (fun r13 e13 N13 g13 => ?_)
          show B_X10_law G K 76 [(0, .ref 0), (1, .int v1), (2, .int v2)] [.int r13] N13
          exact BT.iret dX10_law_76 rfl (by decide) (by decide) (((((((h.2 c3).1 c5).2 r7 N7 g7).1 c8).1 c10) N12 g12).2.2 r13 e13 N13 g13)
        · have c11 := c
          refine BT.bipush (v := (-4)) dX10_law_53 (by decide) ?_
          exact BT.iret dX10_law_55 rfl (by decide) (by decide) (((((h.2 c3).1 c5).2 r7 N7 g7).1 c8).2 c11)
      · have c9 := c
        refine BT.bipush (v := (-5)) dX10_law_38 (by decide) ?_
        exact BT.iret dX10_law_40 rfl (by decide) (by decide) ((((h.2 c3).1 c5).2 r7 N7 g7).2 c9)
    · have c6 := bi_eq0.mp c
      refine BT.bipush (v := (-2)) dX10_law_19 (by decide) ?_
      exact BT.iret dX10_law_21 rfl (by decide) (by decide) ((h.2 c3).2 c6)

def lawOk (v1 v2 : Int32) : Prop := ((0 : Int32) ≤ v1 ∧ v1 ≤ 99) ∧ (v1 + 1 ≤ v2 ∧ v2 ≤ 100)
theorem Good.q10 {E : ET} {N : Mem} (h : Good E N) : N.1 3 10 = 0 ∨ N.1 3 10 = 1 := by
  obtain ⟨-, -, k, -, -, -, hW, hL, -⟩ := h
  rw [hW.2.2.2.1]
  exact hL.2.2.2.2
theorem t_X10_law {G : GT} {K : Int32 → Mem → Prop} {M : Mem} {E : ET} {n : Nat} {v1 v2 : Int32} (hE : InPre E M) (hn : M.1 8 1 = nI n ∧ n ≤ 8) (h1 : ¬ lawOk v1 v2 → K (-2) M) (hno : lawOk v1 v2 → ∀ r N, InOut E N r → ¬ r = -6 → K (-5) N) (hfull : lawOk v1 v2 → ∀ N, InOut E N (-6) → n = 8 → K (-4) N) (hok : lawOk v1 v2 → ∀ N, InOut E N (-6) → n < 8 → ∀ P, AddN (m_i N 1 1 0) P n v1 v2 → K (nI n) P) : T_X10_law G [.ref 0, .int v1, .int v2] M K := by
  refine e_X10_law (k_X10_law_0 (E := E) ⟨fun c => h1 (fun z => c z.1), fun c => ⟨fun c2 => ⟨hE, fun r7 N7 g7 => ?_⟩, fun c2 => h1 (fun z => c2 z.2)⟩⟩)
  have ok : lawOk v1 v2 := ⟨c, c2⟩
  have e8 : N7.1 8 1 = nI n := by rw [g7.1.2.1 8 (by omega), hE.1]; exact hn.1
  refine ⟨fun c3 => ?_, fun c3 => hno ok r7 N7 g7 c3⟩
  subst c3
  rw [e8]
  refine ⟨fun c4 N12 g12 => ?_, fun c4 => hfull ok N7 g7 ?_⟩
  · have hlt : n < 8 := (nI_ltI (b := 8) (by omega) (by omega)).mp c4
    subst g12
    have f8 : (m_i N7 1 1 0).1 8 1 = nI n := by rw [m_i_ne (by omega), e8]
    have en : w_n (wv (m_i N7 1 1 0)) = n := by
      unfold w_n
      rw [wv_at (by decide), f8, ix_nI (by omega)]
    rw [en]
    refine ⟨⟨f8, hlt⟩, ?_, fun r13 e13 N13 g13 => ?_⟩
    · rw [m_i_ne (by omega)]
      exact (g7.good hE.2.2).q10
    · rw [e13]; exact hok ok N7 g7 hlt N13 g13
  · have : ¬ n < 8 := fun z => c4 (nI_lt (b := 8) z (by omega))
    omega

/-! BetweenLaws.anew(I)I -/
abbrev rm_X10_anew : Room := { frames := 7, cells := 0, slots := 0, locals := 155 }
abbrev B_X10_anew (G : GT) (K : Int32 → Mem → Prop) := BT G (Rep G) RX10 "anew" cX10_anew 2 (some .int) rm_X10_anew K 0 0
abbrev T_X10_anew (G : GT) (as : List Value) (M : Mem) (K : Int32 → Mem → Prop) : Prop := MT G (Rep G) yX10_anew cX10_anew 2 (some .int) rm_X10_anew as M K
theorem e_X10_anew {G : GT} {K : Int32 → Mem → Prop} {M : Mem} {v1 : Int32} (h : B_X10_anew G K 0 [(0, .ref 0), (1, .int v1)] [] M) : T_X10_anew G [.ref 0, .int v1] M K := MT.of (by decide +kernel) rfl rfl (Nat.le_of_ble_eq_true rfl) rfl h
set_option maxRecDepth 4000 in
theorem k_X10_anew_0 {G : GT} {K : Int32 → Mem → Prop} {M : Mem} {E : ET} {v1 : Int32} (h : (((0 : Int32) ≤ v1 ∧ v1 < (M.1 8 1)) → (InPre E M) ∧ (∀ (r4 : Int32) (N4 : Mem), (InOut E N4 r4) → (r4 = (-6) → (∀ N7 : Mem, N7 = (m_i N4 1 1 0) → (vp_in v1 8) ∧ ((10 + 5 * (Int32.toNatClampNeg v1)) + 4 < 3 ∨ 3 + 4 < (10 + 5 * (Int32.toNatClampNeg v1))) ∧ (N7.1 3 10 = 0 ∨ N7.1 3 10 = 1) ∧ (∀ N8 : Mem, (TkN N7 N8 (10 + 5 * (Int32.toNatClampNeg v1)) 3) → K (N8.1 3 2) N8))) ∧ (¬ r4 = (-6) → K (-5) N4))) ∧ (¬ ((0 : Int32) ≤ v1 ∧ v1 < (M.1 8 1)) → K (-1) M)) : B_X10_anew G K 0 [(0, .ref 0), (1, .int v1)] [] M := by
  refine BT.aload_n dX10_anew_0 rfl 0 rfl ?_
  refine BT.getR (r := 8) fl_X10_26 ho_0 rfl dX10_anew_1 ?_
  refine BT.iload_n dX10_anew_4 rfl 1 rfl ?_
  refine BT.mcV [.int v1] (t_X9_hasLaw  ?_) mb_X9_hasLaw mv_X9_hasLaw lk_X10_111 rfl (by decide) rfl (recvRep ho_8 rfl) (Nat.le_of_ble_eq_true rfl) dX10_anew_5
  show B_X10_anew G K 8 [(0, .ref 0), (1, .int v1)] [.int (bi ((0 : Int32) ≤ v1 ∧ v1 < (M.1 8 1)))] M
  refine BT.if_ne (tgt := 13) dX10_anew_8 (by decide) (fun c => ?_) (fun c => ?_)
  · have c2 := bi_ne0.mp c
    refine BT.aload_n dX10_anew_13 rfl 0 rfl ?_
    refine BT.getR (r := 1) fl_X10_10 ho_0 rfl dX10_anew_14 ?_
    refine BT.aload_n dX10_anew_17 rfl 0 rfl ?_
    refine BT.getR (r := 3) fl_X10_19 ho_0 rfl dX10_anew_18 ?_
    refine BT.mcV [.ref 3] (t_X5_readInto (h.1 c2).1 (fun r4 N4 g4 => ?_)) mb_X5_readInto mv_X5_readInto lk_X10_97 rfl (by decide) rfl (recvRep ho_1 rfl) (Nat.le_of_ble_eq_true rfl) dX10_anew_21
    show B_X10_anew G K 24 [(0, .ref 0), (1, .int v1)] [.int r4] N4
    refine BT.bipush (v := (-6)) dX10_anew_24 (by decide) ?_
    refine BT.icmp_eq (tgt := 32) dX10_anew_26 (by decide) (fun c => ?_) (fun c => ?_)
    · have c5 := c
      refine BT.aload_n dX10_anew_32 rfl 0 rfl ?_
      refine BT.getR (r := 1) fl_X10_10 ho_0 rfl dX10_anew_33 ?_
      refine BT.mcVvm [] (t_X5_clear  ⟨rfl, rfl⟩) mb_X5_clear mv_X5_clear lk_X10_94 rfl (by decide) rfl (recvRep ho_1 rfl) (Nat.le_of_ble_eq_true rfl) dX10_anew_36 (fun N7 g7 => ?_)
      show B_X10_anew G K 39 [(0, .ref 0), (1, .int v1)] [] N7
      refine BT.aload_n dX10_anew_39 rfl 0 rfl ?_
      refine BT.getR (r := 8) fl_X10_26 ho_0 rfl dX10_anew_40 ?_
      refine BT.getR (r := 9) fl_X10_114 ho_8 rfl dX10_anew_43 ?_
      refine BT.iload_n dX10_anew_46 rfl 1 rfl ?_
      refine BT.aald ha_9 (by decide) ((((h.1 c2).2 r4 N4 g4).1 c5) N7 g7).1 dX10_anew_47 ?_
      refine BT.aload_n dX10_anew_48 rfl 0 rfl ?_
      refine BT.getR (r := 3) fl_X10_19 ho_0 rfl dX10_anew_49 ?_
      refine BT.mcVvp [.ref 3] (t_X3_takeText (lawC8 ((((h.1 c2).2 r4 N4 g4).1 c5) N7 g7).1) lawC_3 ((((h.1 c2).2 r4 N4 g4).1 c5) N7 g7).2.1 ((((h.1 c2).2 r4 N4 g4).1 c5) N7 g7).2.2.1 (fun N hN => ⟨rfl, hN⟩)) mb_X3_takeText mv_X3_takeText lk_X10_118 rfl (by decide) rfl (recvRep (lawC8 ((((h.1 c2).2 r4 N4 g4).1 c5) N7 g7).1).1 rfl) (Nat.le_of_ble_eq_true rfl) dX10_anew_52 (P := fun N8 => TkN N7 N8 (10 + 5 * (Int32.toNatClampNeg v1)) 3) (fun N8 g8 => ?_)
      show B_X10_anew G K 55 [(0, .ref 0), (1, .int v1)] [] N8
      refine BT.aload_n dX10_anew_55 rfl 0 rfl ?_
      refine BT.getR (r := 3) fl_X10_19 ho_0 rfl dX10_anew_56 ?_
      refine BT.getI fl_X10_122 ho_3 rfl dX10_anew_59 ?_
      exact BT.iret dX10_anew_62 rfl (by decide) (by decide) (((((h.1 c2).2 r4 N4 g4).1 c5) N7 g7).2.2.2 N8 g8)
    · have c6 := c
      refine BT.bipush (v := (-5)) dX10_anew_29 (by decide) ?_
      exact BT.iret dX10_anew_31 rfl (by decide) (by decide) (((h.1 c2).2 r4 N4 g4).2 c6)
  · have c3 := bi_eq0.mp c
    refine BT.iconst (v := (-1)) dX10_anew_11 (by decide) ?_
    exact BT.iret dX10_anew_12 rfl (by decide) (by decide) (h.2 c3)

theorem t_X10_anew {G : GT} {K : Int32 → Mem → Prop} {M : Mem} {E : ET} {v1 : Int32} (hw : WOk (wv M)) (hE : InPre E M) (h1 : ¬ ((0 : Int32) ≤ v1 ∧ v1 < wv M 8 1) → K (-1) M) (hno : ((0 : Int32) ≤ v1 ∧ v1 < wv M 8 1) → ∀ r N, InOut E N r → ¬ r = -6 → K (-5) N) (hok : ((0 : Int32) ≤ v1 ∧ v1 < wv M 8 1) → ∀ N, InOut E N (-6) → ∀ P, TkN (m_i N 1 1 0) P (10 + 5 * Int32.toNatClampNeg v1) 3 → K (P.1 3 2) P) : T_X10_anew G [.ref 0, .int v1] M K := by
  refine e_X10_anew (k_X10_anew_0 (E := E) ?_)
  rw [← wv_at (M := M) (c := 8) (k := 1) (by decide)]
  refine ⟨fun c => ⟨hE, fun r4 N4 g4 => ⟨fun c4 N7 g7 => ?_, fun c4 => hno c r4 N4 g4 c4⟩⟩, fun c => h1 c⟩
  obtain ⟨i1, i2, i3⟩ := lw_ix hw c
  subst c4
  subst g7
  refine ⟨vp8 i2 i3, by omega, ?_, fun N8 g8 => hok c N4 g4 N8 g8⟩
  rw [m_i_ne (by omega)]
  exact (g4.good hE.2.2).q10

/-! BetweenLawsModel.anew(I)I -/
abbrev rm_X11_anew : Room := { frames := 5, cells := 0, slots := 0, locals := 116 }
abbrev B_X11_anew (G : GT) (K : Int32 → Mem → Prop) := BT G (Rep G) RX11 "anew" cX11_anew 2 (some .int) rm_X11_anew K 0 0
abbrev T_X11_anew (G : GT) (as : List Value) (M : Mem) (K : Int32 → Mem → Prop) : Prop := MT G (Rep G) yX11_anew cX11_anew 2 (some .int) rm_X11_anew as M K
theorem e_X11_anew {G : GT} {K : Int32 → Mem → Prop} {M : Mem} {v1 : Int32} (h : B_X11_anew G K 0 [(0, .ref 175), (1, .int v1)] [] M) : T_X11_anew G [.ref 175, .int v1] M K := MT.of (by decide +kernel) rfl rfl (Nat.le_of_ble_eq_true rfl) rfl h
set_option maxRecDepth 4000 in
theorem k_X11_anew_0 {G : GT} {K : Int32 → Mem → Prop} {M : Mem} {W : WT} {v1 : Int32} (h : (RG W M) ∧ (((0 : Int32) ≤ v1 ∧ v1 < W 8 1) → (∃ n, n ≤ 60 ∧ M.1 175 1 = nI n) ∧ (∀ (r4 : Int32) (N4 : Mem), (ZFr M N4 ∧ FltR (M.1 176) (M.1 175 4) (Int32.toNatClampNeg (M.1 175 1)) r4) → (r4 < 0 → (∃ l, l < 8 ∧ v1 = nI l) ∧ (∃ n, n ≤ 60 ∧ N4.1 175 1 = nI n ∧ ∀ j, j ≤ n → 0 ≤ (qL N4 j).1) ∧ (∀ N7 : Mem, (LaidN N4 N7 (Int32.toNatClampNeg v1) (Int32.toNatClampNeg (N4.1 175 1))) → (vp_in v1 8) ∧ K (N7.1 179 (Int32.toNatClampNeg v1)) N7)) ∧ (¬ r4 < 0 → K (-5) N4))) ∧ (¬ ((0 : Int32) ≤ v1 ∧ v1 < W 8 1) → K (-1) M)) : B_X11_anew G K 0 [(0, .ref 175), (1, .int v1)] [] M := by
  refine BT.aload_n dX11_anew_0 rfl 0 rfl ?_
  refine BT.iload_n dX11_anew_1 rfl 1 rfl ?_
  refine BT.mcV [.int v1] (t_X11_isLaw h.1 ?_) mb_X11_isLaw mv_X11_isLaw lk_X11_169 rfl (by decide) rfl (recvRep ho_175 rfl) (Nat.le_of_ble_eq_true rfl) dX11_anew_2
  show B_X11_anew G K 5 [(0, .ref 175), (1, .int v1)] [.int (bi ((0 : Int32) ≤ v1 ∧ v1 < W 8 1))] M
  refine BT.if_ne (tgt := 10) dX11_anew_5 (by decide) (fun c => ?_) (fun c => ?_)
  · have c2 := bi_ne0.mp c
    refine BT.aload_n dX11_anew_10 rfl 0 rfl ?_
    refine BT.mcV [] (t_X11_fault (h.2.1 c2).1 (fun r4 N4 g4 => ?_)) mb_X11_fault mv_X11_fault lk_X11_161 rfl (by decide) rfl (recvRep ho_175 rfl) (Nat.le_of_ble_eq_true rfl) dX11_anew_11
    show B_X11_anew G K 14 [(0, .ref 175), (1, .int v1)] [.int r4] N4
    refine BT.if_lt (tgt := 20) dX11_anew_14 (by decide) (fun c => ?_) (fun c => ?_)
    · have c5 := c
      refine BT.aload_n dX11_anew_20 rfl 0 rfl ?_
      refine BT.iload_n dX11_anew_21 rfl 1 rfl ?_
      refine BT.mcVvp [.int v1] (t_X11_layText (((h.2.1 c2).2 r4 N4 g4).1 c5).1 (((h.2.1 c2).2 r4 N4 g4).1 c5).2.1 (fun N hN => ⟨rfl, hN⟩)) mb_X11_layText mv_X11_layText lk_X11_165 rfl (by decide) rfl (recvRep ho_175 rfl) (Nat.le_of_ble_eq_true rfl) dX11_anew_22 (P := fun N7 => LaidN N4 N7 (Int32.toNatClampNeg v1) (Int32.toNatClampNeg (N4.1 175 1))) (fun N7 g7 => ?_)
      show B_X11_anew G K 25 [(0, .ref 175), (1, .int v1)] [] N7
      refine BT.aload_n dX11_anew_25 rfl 0 rfl ?_
      refine BT.getR (r := 179) fl_X11_19 ho_175 rfl dX11_anew_26 ?_
      refine BT.iload_n dX11_anew_29 rfl 1 rfl ?_
      refine BT.iald ha_179 ((((h.2.1 c2).2 r4 N4 g4).1 c5).2.2 N7 g7).1 dX11_anew_30 ?_
      exact BT.iret dX11_anew_31 rfl (by decide) (by decide) ((((h.2.1 c2).2 r4 N4 g4).1 c5).2.2 N7 g7).2
    · have c6 := c
      refine BT.bipush (v := (-5)) dX11_anew_17 (by decide) ?_
      exact BT.iret dX11_anew_19 rfl (by decide) (by decide) (((h.2.1 c2).2 r4 N4 g4).2 c6)
  · have c3 := bi_eq0.mp c
    refine BT.iconst (v := (-1)) dX11_anew_8 (by decide) ?_
    exact BT.iret dX11_anew_9 rfl (by decide) (by decide) (h.2.2 c3)

/-! BetweenLawsModel.law(II)I -/
abbrev rm_X11_law : Room := { frames := 5, cells := 0, slots := 0, locals := 116 }
abbrev B_X11_law (G : GT) (K : Int32 → Mem → Prop) := BT G (Rep G) RX11 "law" cX11_law 3 (some .int) rm_X11_law K 0 0
abbrev T_X11_law (G : GT) (as : List Value) (M : Mem) (K : Int32 → Mem → Prop) : Prop := MT G (Rep G) yX11_law cX11_law 3 (some .int) rm_X11_law as M K
theorem e_X11_law {G : GT} {K : Int32 → Mem → Prop} {M : Mem} {v1 : Int32} {v2 : Int32} (h : B_X11_law G K 0 [(0, .ref 175), (1, .int v1), (2, .int v2)] [] M) : T_X11_law G [.ref 175, .int v1, .int v2] M K := MT.of (by decide +kernel) rfl rfl (Nat.le_of_ble_eq_true rfl) rfl h
set_option maxRecDepth 4000 in
theorem k_X11_law_0 {G : GT} {K : Int32 → Mem → Prop} {M : Mem} {v1 : Int32} {v2 : Int32} (h : (¬ ((0 : Int32) ≤ v1 ∧ v1 ≤ 99) → K (-2) M) ∧ (((0 : Int32) ≤ v1 ∧ v1 ≤ 99) → (((v1 + 1) ≤ v2 ∧ v2 ≤ (100 : Int32)) → (∃ n, n ≤ 60 ∧ M.1 175 1 = nI n) ∧ (∀ (r6 : Int32) (N6 : Mem), (ZFr M N6 ∧ FltR (M.1 176) (M.1 175 4) (Int32.toNatClampNeg (M.1 175 1)) r6) → (r6 < 0 → (¬ (N6.1 175 18) = 8 → (vp_in (N6.1 175 18) 8) ∧ (∀ N11 : Mem, N11 = (m_i N6 177 (Int32.toNatClampNeg (N6.1 175 18)) v1) → (vp_in (N11.1 175 18) 8) ∧ (∀ N12 : Mem, N12 = (m_i N11 178 (Int32.toNatClampNeg (N11.1 175 18)) v2) → (∃ l, l < 8 ∧ (N12.1 175 18) = nI l) ∧ (∃ n, n ≤ 60 ∧ N12.1 175 1 = nI n ∧ ∀ j, j ≤ n → 0 ≤ (qL N12 j).1) ∧ (∀ N13 : Mem, (LaidN N12 N13 (Int32.toNatClampNeg (N12.1 175 18)) (Int32.toNatClampNeg (N12.1 175 1))) → (∀ N14 : Mem, N14 = (m_i N13 175 18 ((N13.1 175 18) + 1)) → K ((N14.1 175 18) - 1) N14))))) ∧ ((N6.1 175 18) = 8 → K (-4) N6)) ∧ (¬ r6 < 0 → K (-5) N6))) ∧ (¬ ((v1 + 1) ≤ v2 ∧ v2 ≤ (100 : Int32)) → K (-2) M))) : B_X11_law G K 0 [(0, .ref 175), (1, .int v1), (2, .int v2)] [] M := by
  refine BT.iload_n dX11_law_0 rfl 1 rfl ?_
  refine BT.mcS [.int v1] (t_X11_isDay  ?_) mb_X11_isDay ms_X11_isDay lk_X11_156 rfl (by decide) rfl (Nat.le_of_ble_eq_true rfl) dX11_law_1
  show B_X11_law G K 4 [(0, .ref 175), (1, .int v1), (2, .int v2)] [.int (bi ((0 : Int32) ≤ v1 ∧ v1 ≤ 99))] M
  refine BT.if_eq (tgt := 22) dX11_law_4 (by decide) (fun c => ?_) (fun c => ?_)
  · have c2 := bi_eq0.mp c
    refine BT.bipush (v := (-2)) dX11_law_22 (by decide) ?_
    exact BT.iret dX11_law_24 rfl (by decide) (by decide) (h.1 c2)
  · have c3 := bi_ne0.mp c
    refine BT.iload_n dX11_law_7 rfl 2 rfl ?_
    refine BT.i2l dX11_law_8 ?_
    refine BT.iload_n dX11_law_9 rfl 1 rfl ?_
    refine BT.iconst (v := 1) dX11_law_10 (by decide) ?_
    refine BT.iadd dX11_law_11 ?_
    refine BT.i2l dX11_law_12 ?_
    refine BT.ldc2 dX11_law_13 kc_X11_159 ?_
    refine BT.mcS [.long (Int32.toInt64 v2), .long (Int32.toInt64 (v1 + 1)), .long 100] (t_X11_in (x := v2) (y := (v1 + 1)) (z := (100 : Int32)) rfl rfl (by decide) ?_) mb_X11_in ms_X11_in lk_X11_86 rfl (by decide) rfl (Nat.le_of_ble_eq_true rfl) dX11_law_16
    show B_X11_law G K 19 [(0, .ref 175), (1, .int v1), (2, .int v2)] [.int (bi ((v1 + 1) ≤ v2 ∧ v2 ≤ (100 : Int32)))] M
    refine BT.if_ne (tgt := 25) dX11_law_19 (by decide) (fun c => ?_) (fun c => ?_)
    · have c4 := bi_ne0.mp c
      refine BT.aload_n dX11_law_25 rfl 0 rfl ?_
      refine BT.mcV [] (t_X11_fault ((h.2 c3).1 c4).1 (fun r6 N6 g6 => ?_)) mb_X11_fault mv_X11_fault lk_X11_161 rfl (by decide) rfl (recvRep ho_175 rfl) (Nat.le_of_ble_eq_true rfl) dX11_law_26
      show B_X11_law G K 29 [(0, .ref 175), (1, .int v1), (2, .int v2)] [.int r6] N6
      refine BT.if_lt (tgt := 35) dX11_law_29 (by decide) (fun c => ?_) (fun c => ?_)
      · have c7 := c
        refine BT.aload_n dX11_law_35 rfl 0 rfl ?_
        refine BT.getI fl_X11_149 ho_175 rfl dX11_law_36 ?_
        refine BT.bipush (v := 8) dX11_law_39 (by decide) ?_
        refine BT.icmp_ne (tgt := 47) dX11_law_41 (by decide) (fun c => ?_) (fun c => ?_)
        · have c9 := c
          refine BT.aload_n dX11_law_47 rfl 0 rfl ?_
          refine BT.getR (r := 177) fl_X11_13 ho_175 rfl dX11_law_48 ?_
          refine BT.aload_n dX11_law_51 rfl 0 rfl ?_
          refine BT.getI fl_X11_149 ho_175 rfl dX11_law_52 ?_
          refine BT.iload_n dX11_law_55 rfl 1 rfl ?_
          refine BT.iast ha_177 (((((h.2 c3).1 c4).2 r6 N6 g6).1 c7).1 c9).1 dX11_law_56 ?_
          refine BT.topm (fun N11 f11 => ?_)
          refine BT.aload_n dX11_law_57 rfl 0 rfl ?_
          refine BT.getR (r := 178) fl_X11_16 ho_175 rfl dX11_law_58 ?_
          refine BT.aload_n dX11_law_61 rfl 0 rfl ?_
          refine BT.getI fl_X11_149 ho_175 rfl dX11_law_62 ?_
          refine BT.iload_n dX11_law_65 rfl 2 rfl ?_
          refine BT.iast ha_178 ((((((h.2 c3).1 c4).2 r6 N6 g6).1 c7).1 c9).2 N11 f11).1 dX11_law_66 ?_
          refine BT.topm (fun N12 f12 => ?_)
          refine BT.aload_n dX11_law_67 rfl 0 rfl ?_
          refine BT.aload_n dX11_law_68 rfl 0 rfl ?_
          refine BT.getI fl_X11_149 ho_175 rfl dX11_law_69 ?_
          refine BT.mcVvp [.int (N12.1 175 18)] (t_X11_layText (((((((h.2 c3).1 c4).2 r6 N6 g6).1 c7).1 c9).2 N11 f11).2 N12 f12).1 (((((((h.2 c3).1 c4).2 r6 N6 g6).1 c7).1 c9).2 N11 f11).2 N12 f12).2.1 (fun N hN => ⟨rfl, hN⟩)) mb_X11_layText mv_X11_layText lk_X11_165 rfl (by decide) rfl (recvRep ho_175 rfl) (Nat.le_of_ble_eq_true rfl) dX11_law_72 (P := fun N13 => LaidN N12 N13 (Int32.toNatClampNeg (N12.1 175 18)) (Int32.toNatClampNeg (N12.1 175 1))) (fun N13 g13 => ?_)
          show B_X11_law G K 75 [(0, .ref 175), (1, .int v1), (2, .int v2)] [] N13
          refine BT.aload_n dX11_law_75 rfl 0 rfl ?_
          refine BT.dup dX11_law_76 rfl ?_
          refine BT.getI fl_X11_149 ho_175 rfl dX11_law_77 ?_
          refine BT.iconst (v := 1) dX11_law_80 (by decide) ?_
          refine BT.iadd dX11_law_81 ?_
          refine BT.putI fl_X11_149 ft_11_18 ho_175 rfl dX11_law_82 ?_
          refine BT.topm (fun N14 f14 => ?_)
          refine BT.aload_n dX11_law_85 rfl 0 rfl ?_
          refine BT.getI fl_X11_149 ho_175 rfl dX11_law_86 ?_
          refine BT.iconst (v := 1) dX11_law_89 (by decide) ?_
          refine BT.isub dX11_law_90 ?_
          exact BT.iret dX11_law_91 rfl (by decide) (by decide) (((((((((h.2 c3).1 c4).2 r6 N6 g6).1 c7).1 c9).2 N11 f11).2 N12 f12).2.2 N13 g13) N14 f14)
        · have c10 := c
          refine BT.bipush (v := (-4)) dX11_law_44 (by decide) ?_
          exact BT.iret dX11_law_46 rfl (by decide) (by decide) (((((h.2 c3).1 c4).2 r6 N6 g6).1 c7).2 c10)
      · have c8 := c
        refine BT.bipush (v := (-5)) dX11_law_32 (by decide) ?_
        exact BT.iret dX11_law_34 rfl (by decide) (by decide) ((((h.2 c3).1 c4).2 r6 N6 g6).2 c8)
    · have c5 := bi_eq0.mp c
      refine BT.bipush (v := (-2)) dX11_law_22 (by decide) ?_
      exact BT.iret dX11_law_24 rfl (by decide) (by decide) ((h.2 c3).2 c5)

theorem FltR.neg {sg : Nat → Int32} {l0 : Int32} {n : Nat} {r : Int32} (hn : n ≤ 60) (h : FltR sg l0 n r) : r < 0 ↔ r = -6 := by
  rcases h with ⟨er, -⟩ | ⟨i, er, -, hi, -⟩
  · rw [er]; decide
  · rw [er]
    exact ⟨fun z => absurd z (nI_ge0 (by omega)), fun z => absurd z (nI_n6 (by omega))⟩
theorem FltR.ok {sg : Nat → Int32} {l0 : Int32} {n : Nat} (hn : n ≤ 60) (h : FltR sg l0 n (-6)) : ∀ j, j ≤ n → 0 ≤ (q_at sg l0 j).1 := by
  rcases h with ⟨er, h, -⟩ | ⟨i, er, -, hi, -⟩
  · exact h
  · exact absurd er.symm (nI_n6 (by omega))
theorem t_X11_law {G : GT} {K : Int32 → Mem → Prop} {M : Mem} {n t : Nat} {v1 v2 : Int32} (ht : t ≤ 60 ∧ M.1 175 1 = nI t) (hn : M.1 175 18 = nI n ∧ n ≤ 8) (h1 : ¬ lawOk v1 v2 → K (-2) M) (hno : lawOk v1 v2 → ∀ r N, ZFr M N → FltR (M.1 176) (M.1 175 4) t r → ¬ r = -6 → K (-5) N) (hfull : lawOk v1 v2 → ∀ N, ZFr M N → FltR (M.1 176) (M.1 175 4) t (-6) → n = 8 → K (-4) N) (hok : lawOk v1 v2 → ∀ N, ZFr M N → FltR (M.1 176) (M.1 175 4) t (-6) → n < 8 → ∀ P, LaidN (m_i (m_i N 177 n v1) 178 n v2) P n t → K (nI n) (m_i P 175 18 (nI (n + 1)))) : T_X11_law G [.ref 175, .int v1, .int v2] M K := by
  obtain ⟨ht60, et⟩ := ht
  obtain ⟨en, hn8⟩ := hn
  refine e_X11_law (k_X11_law_0 ⟨fun c => h1 (fun z => c z.1), fun c => ⟨fun c2 => ⟨⟨t, ht60, et⟩, fun r6 N6 g6 => ?_⟩, fun c2 => h1 (fun z => c2 z.2)⟩⟩)
  have ok : lawOk v1 v2 := ⟨c, c2⟩
  rw [et, ix_nI (by omega)] at g6
  obtain ⟨hF, hR⟩ := g6
  have e18 : N6.1 175 18 = nI n := by rw [hF.2.1 18 (by decide), en]
  rw [hR.neg ht60, e18]
  refine ⟨fun c3 => ?_, fun c3 => hno ok r6 N6 hF hR c3⟩
  subst c3
  refine ⟨fun c4 => ?_, fun c4 => hfull ok N6 hF hR ((nI_eq (b := 8) (by omega) (by omega)).mp c4)⟩
  have hlt : n < 8 := by
    have : ¬ n = 8 := fun z => c4 (by rw [z]; rfl)
    omega
  rw [ix_nI (by omega)]
  refine ⟨vp_nI hlt (by decide), fun N11 g11 => ?_⟩
  have f18 : N11.1 175 18 = nI n := by rw [g11, m_i_ne (by omega), e18]
  rw [f18, ix_nI (by omega)]
  refine ⟨vp_nI hlt (by decide), fun N12 g12 => ?_⟩
  have h18 : N12.1 175 18 = nI n := by rw [g12, m_i_ne (by omega), f18]
  have h1' : N12.1 175 1 = nI t := by rw [g12, m_i_ne (by omega), g11, m_i_ne (by omega), hF.2.1 1 (by decide), et]
  have h176 : N12.1 176 = M.1 176 := by rw [g12, mi_off (by omega), g11, mi_off (by omega), hF.1 176 (by decide)]
  rw [h18, h1', ix_nI (by omega), ix_nI (by omega)]
  refine ⟨⟨n, hlt, rfl⟩, ⟨t, ht60, rfl, fun j hj => ?_⟩, fun N13 g13 N14 g14 => ?_⟩
  · unfold qL
    rw [h176, (qs_at (M.1 176) (N12.1 175 4) (M.1 175 4) j).1]
    exact hR.ok ht60 j hj
  · have k18 : N13.1 175 18 = nI n := by rw [g13.1.2.2.2.1 18 (by decide), h18]
    rw [k18, nI_1] at g14
    subst g14
    rw [m_i_at, nI_pred]
    subst g12 g11
    exact hok ok N6 hF hR hlt N13 g13
theorem t_X11_anew {G : GT} {K : Int32 → Mem → Prop} {M : Mem} {W : WT} {t : Nat} {v1 : Int32} (hR : RG W M) (ht : t ≤ 60 ∧ M.1 175 1 = nI t) (h1 : ¬ ((0 : Int32) ≤ v1 ∧ v1 < W 8 1) → K (-1) M) (hno : ((0 : Int32) ≤ v1 ∧ v1 < W 8 1) → ∀ r N, ZFr M N → FltR (M.1 176) (M.1 175 4) t r → ¬ r = -6 → K (-5) N) (hok : ((0 : Int32) ≤ v1 ∧ v1 < W 8 1) → ∀ N, ZFr M N → FltR (M.1 176) (M.1 175 4) t (-6) → ∀ P, LaidN N P (Int32.toNatClampNeg v1) t → K (P.1 179 (Int32.toNatClampNeg v1)) P) : T_X11_anew G [.ref 175, .int v1] M K := by
  obtain ⟨ht60, et⟩ := ht
  refine e_X11_anew (k_X11_anew_0 (W := W) ⟨hR, fun c => ⟨⟨t, ht60, et⟩, fun r4 N4 g4 => ?_⟩, fun c => h1 c⟩)
  obtain ⟨i1, i2, i3⟩ := hR.1.ix c
  rw [et, ix_nI (by omega)] at g4
  obtain ⟨hF, hL⟩ := g4
  rw [hL.neg ht60]
  refine ⟨fun c3 => ?_, fun c3 => hno c r4 N4 hF hL c3⟩
  subst c3
  have h1' : N4.1 175 1 = nI t := by rw [hF.2.1 1 (by decide), et]
  rw [h1', ix_nI (by omega)]
  refine ⟨⟨_, i2, i3⟩, ⟨t, ht60, rfl, fun j hj => ?_⟩, fun N7 g7 => ⟨vp8 i2 i3, hok c N4 hF hL N7 g7⟩⟩
  unfold qL
  rw [hF.1 176 (by decide), (qs_at (M.1 176) (N4.1 175 4) (M.1 175 4) j).1]
  exact hL.ok ht60 j hj

