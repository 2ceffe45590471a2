/-! ===== 56.text2 ===== -/
/-! ===== where the class's reading stands: E is the start, the number of signs, a letter and the cases of before ===== -/
abbrev ET : Type := Mem × Nat × Int32 × (Nat → Int32) × (Nat → Int32)
def q_a (E : ET) (i : Nat) : QT := q_at (E.1.1 2) E.2.2.1 i
def t_a (E : ET) (i : Nat) : TT := t_at (E.1.1 2) E.2.2.1 E.2.2.2.1 E.2.2.2.2 i
def sx (E : ET) (i : Nat) : Int32 := if i < E.2.1 then E.1.1 2 i else -1
def PS (E : ET) (i : Nat) (q : QT) (T : TT) (N : Mem) : Prop :=
  (E.2.1 ≤ 60 ∧ i ≤ E.2.1 ∧ N.1 1 1 = nI E.2.1 ∧ N.1 1 2 = nI i) ∧ (N.1 2 = E.1.1 2 ∧ (∀ c, ¬ (c = 1 ∨ (3 ≤ c ∧ c ≤ 7)) → N.1 c = E.1.1 c) ∧ N.2 = E.1.2) ∧ (∀ j, j ≤ i → 0 ≤ (q_a E j).1) ∧ q_a E i = q ∧ t_a E i = T
theorem PS.ok {E : ET} {i : Nat} {q : QT} {T : TT} {N : Mem} (h : PS E i q T N) : PdOk N := ⟨E.2.1, i, h.1⟩
theorem PS.nx {E : ET} {i : Nat} {q : QT} {T : TT} {N : Mem} (h : PS E i q T N) : pd_nx N.1 = sx E i := by
  obtain ⟨⟨hn, hi, e1, e2⟩, ⟨hs, -⟩, -⟩ := h
  unfold pd_nx sx
  rw [e1, e2, hs]
  by_cases c : i < E.2.1
  · rw [if_pos (nI_lt c (by omega)), if_pos c, ix_nI (by omega)]
  · rw [if_neg (fun z => c ((nI_ltI (by omega) (by omega)).mp z)), if_neg c]
theorem PS.chg {E : ET} {i : Nat} {q : QT} {T : TT} {N P : Mem} (h : PS E i q T N) (h1 : ∀ d, ¬ (3 ≤ d ∧ d ≤ 7) → P.1 d = N.1 d) (h2 : P.2 = N.2) : PS E i q T P := by
  obtain ⟨⟨hn, hi, e1, e2⟩, ⟨hs, hf, h3⟩, r⟩ := h
  refine ⟨⟨hn, hi, by rw [h1 1 (by omega), e1], by rw [h1 1 (by omega), e2]⟩, ⟨by rw [h1 2 (by omega), hs], fun c hc => ?_, h2.trans h3⟩, r⟩
  rw [h1 c (by omega), hf c hc]
theorem PS.mi {E : ET} {i : Nat} {q : QT} {T : TT} {N : Mem} (h : PS E i q T N) {c k : Nat} {v : Int32} (hc : 3 ≤ c ∧ c ≤ 7) : PS E i q T (m_i N c k v) :=
  h.chg (fun d hd => mi_off (by omega)) rfl
theorem PS.adv {E : ET} {i : Nat} {q q' : QT} {T T' : TT} {N : Mem} {c : Int32} (h : PS E i q T N) (hc : pd_nx N.1 = c) (e : q_step q c = q') (hs : 0 ≤ q'.1) (et : t_step T q.1 q'.1 c = T') : PS E (i + 1) q' T' (pd_adv N) := by
  have hx := h.nx
  obtain ⟨⟨hn, hi, e1, e2⟩, ⟨hsg, hf, h3⟩, hok, eq, eT⟩ := h
  have hlt : i < E.2.1 := by
    refine Classical.byContradiction fun z => ?_
    unfold sx at hx
    rw [if_neg z] at hx
    rw [← e, ← hc, hx, q_end] at hs
    exact absurd hs (by decide)
  have ec : E.1.1 2 i = c := by
    unfold sx at hx
    rw [if_pos hlt] at hx
    rw [← hx, hc]
  have qa : q_a E (i + 1) = q' := by
    show q_step (q_a E i) (E.1.1 2 i) = q'
    rw [eq, ec, e]
  have ta : t_a E (i + 1) = T' := by
    show t_step (t_a E i) (q_a E i).1 (q_a E (i + 1)).1 (E.1.1 2 i) = T'
    rw [qa, eq, eT, ec, et]
  refine ⟨⟨hn, hlt, ?_, ?_⟩, ⟨?_, fun d hd => ?_, h3⟩, fun j hj => ?_, qa, ta⟩
  · unfold pd_adv; rw [m_i_ne (by omega), e1]
  · unfold pd_adv; rw [m_i_at, e2, nI_1]
  · rw [pd_adv_off (by omega), hsg]
  · rw [pd_adv_off (by omega), hf d hd]
  · by_cases z : j = i + 1
    · rw [z, qa]; exact hs
    · exact hok j (by omega)
def CR (Z : WT) (k : Nat) (cm cg : Nat → Int32) : Prop := Z 3 2 = nI k ∧ ∀ j, j < k → (∃ m, m < 32 ∧ Z 4 j = nI m) ∧ (∃ g, g < 108 ∧ Z 5 j = nI g) ∧ cm j = Z 4 j ∧ cg j = Z 5 j
def WR (Z : WT) (w : WdT) : Prop := Z 3 7 = w.1 ∧ Z 3 8 = w.2.1 ∧ Z 3 9 = w.1 ∧ Z 3 10 = w.2.2.1 ∧ Z 3 11 = w.2.2.2.1 ∧ Z 3 12 = w.2.2.2.2.1 ∧ Z 3 13 = w.2.2.2.2.2.1 ∧ Z 3 14 = w.2.2.2.2.2.2
def LT (w : WdT) : Prop := TimeL w.1 ∧ (w.2.1 = -6 ∨ TimeL w.2.1) ∧ (w.2.2.2.1 = -6 ∨ ((∃ t, t < 100 ∧ w.2.2.2.1 = nI t) ∧ WayL w.2.2.2.2.1)) ∧ (w.2.2.2.2.2.1 = -6 ∨ WayL w.2.2.2.2.2.1) ∧ (w.2.2.1 = 0 ∨ w.2.2.1 = 1)
theorem LT_0 : LT w_0 := ⟨Or.inl rfl, Or.inl rfl, Or.inl rfl, Or.inl rfl, Or.inl rfl⟩
theorem CR.same {Z Y : WT} {k : Nat} {cm cg : Nat → Int32} (h : CR Z k cm cg) (e3 : Y 3 2 = Z 3 2) (e4 : Y 4 = Z 4) (e5 : Y 5 = Z 5) : CR Y k cm cg := by
  unfold CR; rw [e3, e4, e5]; exact h
theorem WR.same {Z Y : WT} {w : WdT} (h : WR Z w) (e : ∀ k, 7 ≤ k → Y 3 k = Z 3 k) : WR Y w := by
  unfold WR
  rw [e 7 (by decide), e 8 (by decide), e 9 (by decide), e 10 (by decide), e 11 (by decide), e 12 (by decide), e 13 (by decide), e 14 (by decide)]
  exact h
theorem CR.adv {N : Mem} {k : Nat} {cm cg : Nat → Int32} (h : CR N.1 k cm cg) : CR (pd_adv N).1 k cm cg := h.same (by rw [pd_adv_off (by omega)]) (pd_adv_off (by omega)) (pd_adv_off (by omega))
theorem WR.adv {N : Mem} {w : WdT} (h : WR N.1 w) : WR (pd_adv N).1 w := h.same (fun k _ => by rw [pd_adv_off (by omega)])
/-- the reading stops at a sign that can not stand there -/
def Fail (E : ET) (N : Mem) : Prop := ∃ i q T, PS E i q T N ∧ ¬ q_whole q.1 ∧ (q_step q (sx E i)).1 < 0
def MkPre (E : ET) (M : Mem) : Prop := ∃ i k lN T, PS E i (0, nI (k + 1), -1, lN, 0) T M ∧ k < 6 ∧ T.1.1 = k ∧ T.1.2.2.2 = 0 ∧ T.2 = w_0 ∧ CR M.1 k T.1.2.1 T.1.2.2.1 ∧ WR M.1 w_0
def MkEnd (E : ET) (N : Mem) (m : Nat) : Prop := ∃ i s k mN lN T, PS E i (s, nI (k + 1), mN, lN, 0) T N ∧ (s = 1 ∨ s = 2) ∧ k < 6 ∧ T.1.1 = k ∧ T.1.2.2.2 = nI m ∧ T.2 = w_0 ∧ CR N.1 k T.1.2.1 T.1.2.2.1 ∧ WR N.1 w_0 ∧ (s = 1 → ¬ (mkB (sx E i) ∧ mN < sx E i - 97))
def MkOut (E : ET) (M N : Mem) (r : Int32) : Prop := (r = -6 ∧ Fail E N) ∨ ∃ m, m < 32 ∧ r = nI m ∧ MkEnd E N m ∧ N.1 3 = M.1 3
def LI (E : ET) (M : Mem) (k j m : Nat) (N : Mem) : Prop := N.1 3 = M.1 3 ∧ ∃ i s mN lN T, PS E i (s, nI (k + 1), mN, lN, 0) T N ∧ T.1.1 = k ∧ T.1.2.2.2 = nI m ∧ T.2 = w_0 ∧ CR N.1 k T.1.2.1 T.1.2.2.1 ∧ WR N.1 w_0 ∧ m < 2 ^ j ∧ ((m = 0 ∧ s = 0 ∧ mN = -1 ∧ ¬ sx E i = 42) ∨ (¬ m = 0 ∧ s = 1 ∧ ∃ b, b < j ∧ mN = nI b)) ∧ ∀ b, b < j → mN < nI b → ¬ sx E i = nI (97 + b)
theorem mk_sub {j : Nat} : nI (97 + j) - 97 = nI j := by
  rw [Nat.add_comm, ← nI_add]
  exact Int32.add_sub_cancel _ _
theorem mkB_is {c : Int32} : mkB c ↔ ∃ b, b < 5 ∧ c = nI (97 + b) := by
  constructor
  · rintro ⟨h0, h1⟩
    obtain ⟨j, hj, rfl⟩ := i_nat (x := c) (N := 102) (by omega) (Int32.le_trans (by decide) h0) (Int32.lt_of_le_of_lt h1 (by decide))
    have : 97 ≤ j := (nI_leI (a := 97) (by omega) (by omega)).mp h0
    exact ⟨j - 97, by omega, by rw [show 97 + (j - 97) = j by omega]⟩
  · rintro ⟨d, hd, rfl⟩
    exact ⟨nI_le (a := 97) (by omega) (by omega), nI_le (b := 101) (by omega) (by omega)⟩
theorem mk_or : ∀ j, j < 5 → ∀ m, m < 2 ^ j → (nI m ||| ((1 : Int32) <<< ((nI (97 + j) - 97) &&& 31))) = nI (m + 2 ^ j) := by decide +kernel
theorem m1_lt : (-1 : Int32) < 0 := by decide
theorem qw_n0 : ¬ q_whole 0 := by unfold q_whole; decide
theorem qw_n1 : ¬ q_whole 1 := by unfold q_whole; decide
theorem qw_n2 : ¬ q_whole 2 := by unfold q_whole; decide
theorem qw_n3 : ¬ q_whole 3 := by unfold q_whole; decide
theorem qw_n6 : ¬ q_whole 6 := by unfold q_whole; decide
theorem qw_n8 : ¬ q_whole 8 := by unfold q_whole; decide
theorem qw_n10 : ¬ q_whole 10 := by unfold q_whole; decide
theorem qw_n13 : ¬ q_whole 13 := by unfold q_whole; decide
theorem qw_n14 : ¬ q_whole 14 := by unfold q_whole; decide
theorem qw_n15 : ¬ q_whole 15 := by unfold q_whole; decide
theorem qw_n17 : ¬ q_whole 17 := by unfold q_whole; decide
theorem qw_n18 : ¬ q_whole 18 := by unfold q_whole; decide
theorem qw_4 : q_whole 4 := by unfold q_whole; decide
theorem qw_5 : q_whole 5 := by unfold q_whole; decide
theorem qw_9 : q_whole 9 := by unfold q_whole; decide
theorem qw_11 : q_whole 11 := by unfold q_whole; decide
theorem qw_12 : q_whole 12 := by unfold q_whole; decide
theorem qw_16 : q_whole 16 := by unfold q_whole; decide
theorem qw_19 : q_whole 19 := by unfold q_whole; decide
theorem qw_20 : q_whole 20 := by unfold q_whole; decide

/-! BetweenLaws$Pad.readMarks()I -/
abbrev rm_X5_readMarks : Room := { frames := 2, cells := 0, slots := 0, locals := 41 }
abbrev B_X5_readMarks (G : GT) (K : Int32 → Mem → Prop) := BT G (Rep G) RX5 "readMarks" cX5_readMarks 3 (some .int) rm_X5_readMarks K 0 0
abbrev T_X5_readMarks (G : GT) (as : List Value) (M : Mem) (K : Int32 → Mem → Prop) : Prop := MT G (Rep G) yX5_readMarks cX5_readMarks 3 (some .int) rm_X5_readMarks as M K
theorem e_X5_readMarks {G : GT} {K : Int32 → Mem → Prop} {M : Mem}  (h : B_X5_readMarks G K 0 [(0, .ref 1)] [] M) : T_X5_readMarks G [.ref 1] M K := MT.of (by decide +kernel) rfl rfl (Nat.le_of_ble_eq_true rfl) rfl h
set_option maxRecDepth 4000 in
theorem k_X5_readMarks_0 {G : GT} {K : Int32 → Mem → Prop} {M : Mem}  (h : (PdOk M) ∧ (∀ (r1 : Int32) (N1 : Mem), ((r1 = 1 ∧ pd_nx M.1 = 42 ∧ N1 = pd_adv M) ∨ (r1 = 0 ∧ ¬ pd_nx M.1 = 42 ∧ N1 = M)) → (r1 = 0 → B_X5_readMarks G K 16 [(0, .ref 1), (1, .int 0), (2, .int 97)] [] N1) ∧ (¬ r1 = 0 → K 0 N1))) : B_X5_readMarks G K 0 [(0, .ref 1)] [] M := by
  refine BT.aload_n dX5_readMarks_0 rfl 0 rfl ?_
  refine BT.bipush (v := 42) dX5_readMarks_1 (by decide) ?_
  refine BT.mcV [.int 42] (t_X5_takes h.1 (fun r1 N1 g1 => ?_)) mb_X5_takes mv_X5_takes lk_X5_31 rfl (by decide) rfl (recvRep ho_1 rfl) (Nat.le_of_ble_eq_true rfl) dX5_readMarks_3
  show B_X5_readMarks G K 6 [(0, .ref 1)] [.int r1] N1
  refine BT.if_eq (tgt := 11) dX5_readMarks_6 (by decide) (fun c => ?_) (fun c => ?_)
  · have c2 := c
    refine BT.iconst (v := 0) dX5_readMarks_11 (by decide) ?_
    refine BT.istore_n (L' := [(1, .int 0), (0, .ref 1)]) dX5_readMarks_12 rfl (by decide) rfl ?_
    refine BT.bipush (v := 97) dX5_readMarks_13 (by decide) ?_
    refine BT.istore_n (L' := [(2, .int 97), (1, .int 0), (0, .ref 1)]) dX5_readMarks_15 rfl (by decide) rfl ?_
    refine BT.sub [2, 1, 0] rfl ?_
    exact ((h.2 r1 N1 g1).1 c2)
  · have c3 := c
    refine BT.iconst (v := 0) dX5_readMarks_9 (by decide) ?_
    exact BT.iret dX5_readMarks_10 rfl (by decide) (by decide) ((h.2 r1 N1 g1).2 c3)
set_option maxRecDepth 4000 in
theorem k_X5_readMarks_16 {G : GT} {K : Int32 → Mem → Prop} {M : Mem} {v1 : Int32} {v2 : Int32} (h : (101 < v2 → (¬ v1 = 0 → K v1 M) ∧ (v1 = 0 → K (-6) M)) ∧ (¬ 101 < v2 → (PdOk M) ∧ (∀ (r5 : Int32) (N5 : Mem), ((r5 = 1 ∧ pd_nx M.1 = v2 ∧ N5 = pd_adv M) ∨ (r5 = 0 ∧ ¬ pd_nx M.1 = v2 ∧ N5 = M)) → (r5 = 0 → B_X5_readMarks G K 16 [(0, .ref 1), (1, .int v1), (2, .int (v2 + 1))] [] N5) ∧ (¬ r5 = 0 → B_X5_readMarks G K 16 [(0, .ref 1), (1, .int (v1 ||| ((1 : Int32) <<< ((v2 - 97) &&& 31)))), (2, .int (v2 + 1))] [] N5)))) : B_X5_readMarks G K 16 [(0, .ref 1), (1, .int v1), (2, .int v2)] [] M := by
  refine BT.iload_n dX5_readMarks_16 rfl 2 rfl ?_
  refine BT.bipush (v := 101) dX5_readMarks_17 (by decide) ?_
  refine BT.icmp_gt (tgt := 45) dX5_readMarks_19 (by decide) (fun c => ?_) (fun c => ?_)
  · have c1 := c
    refine BT.iload_n dX5_readMarks_45 rfl 1 rfl ?_
    refine BT.if_ne (tgt := 54) dX5_readMarks_46 (by decide) (fun c => ?_) (fun c => ?_)
    · have c3 := c
      refine BT.iload_n dX5_readMarks_54 rfl 1 rfl ?_
      exact BT.iret dX5_readMarks_55 rfl (by decide) (by decide) ((h.1 c1).1 c3)
    · have c4 := c
      refine BT.bipush (v := (-6)) dX5_readMarks_49 (by decide) ?_
      refine BT.goto (tgt := 55) dX5_readMarks_51 (by decide) ?_
      exact BT.iret dX5_readMarks_55 rfl (by decide) (by decide) ((h.1 c1).2 c4)
  · have c2 := c
    refine BT.aload_n dX5_readMarks_22 rfl 0 rfl ?_
    refine BT.iload_n dX5_readMarks_23 rfl 2 rfl ?_
    refine BT.mcV [.int v2] (t_X5_takes (h.2 c2).1 (fun r5 N5 g5 => ?_)) mb_X5_takes mv_X5_takes lk_X5_31 rfl (by decide) rfl (recvRep ho_1 rfl) (Nat.le_of_ble_eq_true rfl) dX5_readMarks_24
    show B_X5_readMarks G K 27 [(0, .ref 1), (1, .int v1), (2, .int v2)] [.int r5] N5
    refine BT.if_eq (tgt := 39) dX5_readMarks_27 (by decide) (fun c => ?_) (fun c => ?_)
    · have c6 := c
      refine BT.iinc (j := 2) (v := (v2 + 1)) (L' := [(2, .int (v2 + 1)), (0, .ref 1), (1, .int v1)]) dX5_readMarks_39 rfl rfl (by decide) rfl ?_
      refine BT.goto (tgt := 16) dX5_readMarks_42 (by decide) ?_
      refine BT.sub [1, 2, 0] rfl ?_
      exact (((h.2 c2).2 r5 N5 g5).1 c6)
    · have c7 := c
      refine BT.iload_n dX5_readMarks_30 rfl 1 rfl ?_
      refine BT.iconst (v := 1) dX5_readMarks_31 (by decide) ?_
      refine BT.iload_n dX5_readMarks_32 rfl 2 rfl ?_
      refine BT.bipush (v := 97) dX5_readMarks_33 (by decide) ?_
      refine BT.isub dX5_readMarks_35 ?_
      refine BT.ishl dX5_readMarks_36 ?_
      refine BT.ior dX5_readMarks_37 ?_
      refine BT.istore_n (L' := [(1, .int (v1 ||| ((1 : Int32) <<< ((v2 - 97) &&& 31)))), (0, .ref 1), (2, .int v2)]) dX5_readMarks_38 rfl (by decide) rfl ?_
      refine BT.iinc (j := 2) (v := (v2 + 1)) (L' := [(2, .int (v2 + 1)), (1, .int (v1 ||| ((1 : Int32) <<< ((v2 - 97) &&& 31)))), (0, .ref 1)]) dX5_readMarks_39 rfl rfl (by decide) rfl ?_
      refine BT.goto (tgt := 16) dX5_readMarks_42 (by decide) ?_
      refine BT.sub [2, 1, 0] rfl ?_
      exact (((h.2 c2).2 r5 N5 g5).2 c7)

theorem t_X5_readMarks {G : GT} {K : Int32 → Mem → Prop} {M : Mem} {E : ET} (hE : MkPre E M) (h : ∀ (r : Int32) (N : Mem), MkOut E M N r → K r N) : T_X5_readMarks G [.ref 1] M K := by
  obtain ⟨i, k, lN, T, hP, hk, hT1, hT2, hT3, hC, hW⟩ := hE
  refine e_X5_readMarks (k_X5_readMarks_0 ⟨hP.ok, fun r1 N1 g1 => ?_⟩)
  have loop : ∀ f j, j + f = 5 → ∀ m N, LI E M k j m N → B_X5_readMarks G K 16 [(0, .ref 1), (1, .int (nI m)), (2, .int (nI (97 + j)))] [] N := by
    intro f
    induction f with
    | zero =>
      intro j hj m N hI
      have hj : j = 5 := by omega
      subst hj
      obtain ⟨h3, i, s, mN, lN, T, hP, hT1, hT2, hT3, hC, hW, hm, hs, hb⟩ := hI
      refine k_X5_readMarks_16 ⟨fun _ => ⟨fun c => ?_, fun c => ?_⟩, fun c => absurd (by decide) c⟩
      · rcases hs with ⟨rfl, -⟩ | ⟨hm0, rfl, b, hb5, rfl⟩
        · exact absurd rfl c
        · refine h _ _ (Or.inr ⟨m, hm, rfl, ⟨i, 1, k, nI b, lN, T, hP, Or.inl rfl, hk, hT1, hT2, hT3, hC, hW, fun _ q => ?_⟩, h3⟩)
          obtain ⟨b', hb', eb⟩ := mkB_is.mp q.1
          have q2 := q.2
          rw [eb, mk_sub] at q2
          exact hb b' hb' q2 eb
      · have hm0 : m = 0 := (nI_eq (b := 0) (by omega) (by omega)).mp c
        rcases hs with ⟨-, rfl, rfl, h42⟩ | ⟨hm1, -⟩
        · refine h _ _ (Or.inl ⟨rfl, i, _, T, hP, qw_n0, ?_⟩)
          rw [q_s0, if_neg, if_neg h42]
          · exact m1_lt
          · rintro ⟨q1, q2⟩
            obtain ⟨b', hb', eb⟩ := mkB_is.mp q1
            rw [eb, mk_sub] at q2
            exact hb b' hb' q2 eb
        · exact absurd hm0 hm1
    | succ f ih =>
      intro j hj m N hI
      obtain ⟨h3, i, s, mN, lN, T, hP, hT1, hT2, hT3, hC, hW, hm, hs, hb⟩ := hI
      have hx := hP.nx
      refine k_X5_readMarks_16 ⟨fun c => absurd ((nI_ltI (a := 101) (by omega) (by omega)).mp c) (by omega), fun _ => ⟨hP.ok, fun r5 N5 g5 => ?_⟩⟩
      rw [nI_1]
      rcases g5 with ⟨rfl, hc, rfl⟩ | ⟨rfl, hc, rfl⟩
      · refine ⟨fun c => absurd c (by decide), fun _ => ?_⟩
        have hlt : mN < nI j := by
          rcases hs with ⟨-, -, rfl, -⟩ | ⟨-, -, b, hb5, rfl⟩
          · exact Int32.lt_of_lt_of_le (by decide) (nI_pos' (by omega))
          · exact nI_lt hb5 (by omega)
        have hmk : mkB (nI (97 + j)) ∧ mN < nI (97 + j) - 97 := ⟨mkB_is.mpr ⟨j, by omega, rfl⟩, by rw [mk_sub]; exact hlt⟩
        have est : q_step (s, nI (k + 1), mN, lN, 0) (nI (97 + j)) = (1, nI (k + 1), nI j, lN, 0) := by
          rcases hs with ⟨-, rfl, -⟩ | ⟨-, rfl, -⟩
          · rw [q_s0, if_pos hmk, mk_sub]
          · rw [q_s1, if_pos hmk, mk_sub]
        rw [mk_or j (by omega) m hm]
        refine ih (j + 1) (by omega) _ _ ⟨(pd_adv_off (by omega)).trans h3, i + 1, 1, nI j, lN, _, hP.adv hc est (of_decide_eq_true rfl) rfl, hT1, ?_, hT3, hC.adv, hW.adv, ?_, Or.inr ⟨?_, rfl, j, by omega, rfl⟩, fun b hb1 hb2 => ?_⟩
        · show T.1.2.2.2 ||| _ = _
          rw [hT2, mk_or j (by omega) m hm]
        · rw [Nat.pow_succ]; omega
        · have := Nat.two_pow_pos j
          omega
        · exact absurd ((nI_ltI (by omega) (by omega)).mp hb2) (by omega)
      · refine ⟨fun _ => ?_, fun c => absurd rfl c⟩
        refine ih (j + 1) (by omega) m _ ⟨h3, i, s, mN, lN, T, hP, hT1, hT2, hT3, hC, hW, ?_, ?_, fun b hb1 hb2 => ?_⟩
        · rw [Nat.pow_succ]; omega
        · exact hs.imp id (fun ⟨a1, a2, b, a3, a4⟩ => ⟨a1, a2, b, by omega, a4⟩)
        · by_cases z : b = j
          · rw [z, ← hx]; exact hc
          · exact hb b (by omega) hb2
  rcases g1 with ⟨rfl, hc, rfl⟩ | ⟨rfl, hc, rfl⟩
  · refine ⟨fun c => absurd c (by decide), fun _ => h _ _ (Or.inr ⟨0, by omega, rfl, ⟨i + 1, 2, k, -1, lN, T, hP.adv hc rfl (of_decide_eq_true rfl) rfl, Or.inr rfl, hk, hT1, hT2, hT3, hC.adv, hW.adv, fun z => absurd z (by decide)⟩, pd_adv_off (by omega)⟩)⟩
  · refine ⟨fun _ => loop 5 0 (by omega) 0 _ ⟨rfl, i, 0, -1, lN, T, hP, hT1, hT2, hT3, hC, hW, by decide, Or.inl ⟨rfl, rfl, rfl, by rw [← hP.nx]; exact hc⟩, fun b hb => absurd hb (by omega)⟩, fun c => absurd rfl c⟩

