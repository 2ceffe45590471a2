/-! ===== 10.leaf ===== -/
noncomputable def sel {α : Type} (p : Prop) (a b : α) : α := @ite _ p (Classical.propDecidable p) a b
theorem sel_t {α : Type} {p : Prop} {a b : α} (h : p) : sel p a b = a := if_pos h
theorem sel_f {α : Type} {p : Prop} {a b : α} (h : ¬ p) : sel p a b = b := if_neg h
def c_gift (W : Nat → Nat → Int32) (c : Nat) (marks : Int32) : Int32 := if 0 ≤ marks ∧ marks < 32 then W (c + 3) (Int32.toNatClampNeg marks) else -6
def c_weight (W : Nat → Nat → Int32) (c : Nat) (marks : Int32) : Int32 := if 0 ≤ marks ∧ marks < 32 then W (c + 4) (Int32.toNatClampNeg marks) else 0
def c_dayOn (W : Nat → Nat → Int32) (p : Nat) (day : Int32) : Int32 := if W p 2 = -6 then day else if W p 2 < day then W p 2 else day
def c_begin (M : Mem) (p : Nat) (day marks : Int32) : Mem := m_i (m_i (m_i (m_i (m_i M p 0 day) p 1 (-6)) p 2 (-6)) p 3 marks) p 4 (-6)
/-- the piece p is reached by the time of the law c -/
def c_reach (W : Nat → Nat → Int32) (c p : Nat) : Prop :=
  ¬ (¬ W c 10 = 0 ∧ ¬ (W p 1 = -6 ∨ W c 0 ≤ W p 1)) ∧ (W c 9 = 97 ∨ W c 0 ≤ W p 0 ∨ (W c 9 = 104 ∧ (W p 1 = -6 ∨ W c 0 ≤ W p 1)))
theorem i_le {a b : Int32} : (¬ a < b) ↔ b ≤ a := Int32.not_lt
theorem i_lt {a b : Int32} : (¬ a ≤ b) ↔ b < a := Int32.not_le
theorem vp_of {i : Int32} {n : Nat} (h0 : 0 ≤ i) (h : i < nI n) (hn : n < 2 ^ 31) : vp_in i n := by
  obtain ⟨j, hj, rfl⟩ := nI_of (Int32.not_lt.mpr h0)
  exact vp_in_nI ((nI_ltI hj hn).mp h) hn

/-! BetweenLaws.within(III)Z -/
abbrev rm_X10_within : Room := { frames := 0, cells := 0, slots := 0, locals := 0 }
abbrev B_X10_within (G : GT) (K : Int32 → Mem → Prop) := BT G (Rep G) RX10 "within" cX10_within 3 (some .boolean) rm_X10_within K 0 0
abbrev T_X10_within (G : GT) (as : List Value) (M : Mem) (K : Int32 → Mem → Prop) : Prop := MT G (Rep G) yX10_within cX10_within 3 (some .boolean) rm_X10_within as M K
theorem e_X10_within {G : GT} {K : Int32 → Mem → Prop} {M : Mem} {v0 : Int32} {v1 : Int32} {v2 : Int32} (h : B_X10_within G K 0 [(0, .int v0), (1, .int v1), (2, .int v2)] [] M) : T_X10_within G [.int v0, .int v1, .int v2] M K := MT.of (by decide +kernel) rfl rfl (Nat.le_of_ble_eq_true rfl) rfl h
set_option maxRecDepth 4000 in
theorem k_X10_within_0 {G : GT} {K : Int32 → Mem → Prop} {M : Mem} {v0 : Int32} {v1 : Int32} {v2 : Int32} (h : (v0 < v1 → K 0 M) ∧ (¬ v0 < v1 → (v2 < v0 → K 0 M) ∧ (¬ v2 < v0 → K 1 M))) : B_X10_within G K 0 [(0, .int v0), (1, .int v1), (2, .int v2)] [] M := by
  refine BT.iload_n dX10_within_0 rfl 0 rfl ?_
  refine BT.iload_n dX10_within_1 rfl 1 rfl ?_
  refine BT.icmp_lt (tgt := 14) dX10_within_2 (by decide) (fun c => ?_) (fun c => ?_)
  · have c1 := c
    refine BT.iconst (v := 0) dX10_within_14 (by decide) ?_
    exact BT.zret dX10_within_15 rfl (by decide) (by decide) (nar01 ((Or.inl rfl))) (h.1 c1)
  · have c2 := c
    refine BT.iload_n dX10_within_5 rfl 0 rfl ?_
    refine BT.iload_n dX10_within_6 rfl 2 rfl ?_
    refine BT.icmp_gt (tgt := 14) dX10_within_7 (by decide) (fun c => ?_) (fun c => ?_)
    · have c3 := c
      refine BT.iconst (v := 0) dX10_within_14 (by decide) ?_
      exact BT.zret dX10_within_15 rfl (by decide) (by decide) (nar01 ((Or.inl rfl))) ((h.2 c2).1 c3)
    · have c4 := c
      refine BT.iconst (v := 1) dX10_within_10 (by decide) ?_
      refine BT.goto (tgt := 15) dX10_within_11 (by decide) ?_
      exact BT.zret dX10_within_15 rfl (by decide) (by decide) (nar01 ((Or.inr rfl))) ((h.2 c2).2 c4)

theorem t_X10_within {G : GT} {K : Int32 → Mem → Prop} {M : Mem} {v0 v1 v2 : Int32} (h : K (bi (v1 ≤ v0 ∧ v0 ≤ v2)) M) : T_X10_within G [.int v0, .int v1, .int v2] M K := by
  obtain ⟨h1, h0⟩ := bi_K h
  refine e_X10_within (k_X10_within_0 ?_)
  simp only [i_le, i_lt] at *
  grind

/-! BetweenLaws.isDay(I)Z -/
abbrev rm_X10_isDay : Room := { frames := 1, cells := 0, slots := 0, locals := 22 }
abbrev B_X10_isDay (G : GT) (K : Int32 → Mem → Prop) := BT G (Rep G) RX10 "isDay" cX10_isDay 1 (some .boolean) rm_X10_isDay K 0 0
abbrev T_X10_isDay (G : GT) (as : List Value) (M : Mem) (K : Int32 → Mem → Prop) : Prop := MT G (Rep G) yX10_isDay cX10_isDay 1 (some .boolean) rm_X10_isDay as M K
theorem e_X10_isDay {G : GT} {K : Int32 → Mem → Prop} {M : Mem} {v0 : Int32} (h : B_X10_isDay G K 0 [(0, .int v0)] [] M) : T_X10_isDay G [.int v0] M K := MT.of (by decide +kernel) rfl rfl (Nat.le_of_ble_eq_true rfl) rfl h
set_option maxRecDepth 4000 in
theorem k_X10_isDay_0 {G : GT} {K : Int32 → Mem → Prop} {M : Mem} {v0 : Int32} (h : K (bi (0 ≤ v0 ∧ v0 ≤ 99)) M) : B_X10_isDay G K 0 [(0, .int v0)] [] M := by
  refine BT.iload_n dX10_isDay_0 rfl 0 rfl ?_
  refine BT.iconst (v := 0) dX10_isDay_1 (by decide) ?_
  refine BT.bipush (v := 99) dX10_isDay_2 (by decide) ?_
  refine BT.mcS [.int v0, .int 0, .int 99] (t_X10_within  ?_) mb_X10_within ms_X10_within lk_X10_82 rfl (by decide) rfl (Nat.le_of_ble_eq_true rfl) dX10_isDay_4
  show B_X10_isDay G K 7 [(0, .int v0)] [.int (bi (0 ≤ v0 ∧ v0 ≤ 99))] M
  exact BT.zret dX10_isDay_7 rfl (by decide) (by decide) (nar01 (bi_01)) h

theorem t_X10_isDay {G : GT} {K : Int32 → Mem → Prop} {M : Mem} {v0 : Int32} (h : K (bi ((0 : Int32) ≤ v0 ∧ v0 ≤ 99)) M) : T_X10_isDay G [.int v0] M K := e_X10_isDay (k_X10_isDay_0 h)

/-! BetweenLaws.isMarks(I)Z -/
abbrev rm_X10_isMarks : Room := { frames := 1, cells := 0, slots := 0, locals := 22 }
abbrev B_X10_isMarks (G : GT) (K : Int32 → Mem → Prop) := BT G (Rep G) RX10 "isMarks" cX10_isMarks 1 (some .boolean) rm_X10_isMarks K 0 0
abbrev T_X10_isMarks (G : GT) (as : List Value) (M : Mem) (K : Int32 → Mem → Prop) : Prop := MT G (Rep G) yX10_isMarks cX10_isMarks 1 (some .boolean) rm_X10_isMarks as M K
theorem e_X10_isMarks {G : GT} {K : Int32 → Mem → Prop} {M : Mem} {v0 : Int32} (h : B_X10_isMarks G K 0 [(0, .int v0)] [] M) : T_X10_isMarks G [.int v0] M K := MT.of (by decide +kernel) rfl rfl (Nat.le_of_ble_eq_true rfl) rfl h
set_option maxRecDepth 4000 in
theorem k_X10_isMarks_0 {G : GT} {K : Int32 → Mem → Prop} {M : Mem} {v0 : Int32} (h : K (bi (0 ≤ v0 ∧ v0 ≤ 31)) M) : B_X10_isMarks G K 0 [(0, .int v0)] [] M := by
  refine BT.iload_n dX10_isMarks_0 rfl 0 rfl ?_
  refine BT.iconst (v := 0) dX10_isMarks_1 (by decide) ?_
  refine BT.bipush (v := 31) dX10_isMarks_2 (by decide) ?_
  refine BT.mcS [.int v0, .int 0, .int 31] (t_X10_within  ?_) mb_X10_within ms_X10_within lk_X10_82 rfl (by decide) rfl (Nat.le_of_ble_eq_true rfl) dX10_isMarks_4
  show B_X10_isMarks G K 7 [(0, .int v0)] [.int (bi (0 ≤ v0 ∧ v0 ≤ 31))] M
  exact BT.zret dX10_isMarks_7 rfl (by decide) (by decide) (nar01 (bi_01)) h

theorem t_X10_isMarks {G : GT} {K : Int32 → Mem → Prop} {M : Mem} {v0 : Int32} (h : K (bi ((0 : Int32) ≤ v0 ∧ v0 ≤ 31)) M) : T_X10_isMarks G [.int v0] M K := e_X10_isMarks (k_X10_isMarks_0 h)

/-! BetweenLaws$Law.isInForce(I)Z -/
abbrev rm_X3_isInForce : Room := { frames := 0, cells := 0, slots := 0, locals := 0 }
abbrev B_X3_isInForce (G : GT) (K : Int32 → Mem → Prop) := BT G (Rep G) RX3 "isInForce" cX3_isInForce 2 (some .boolean) rm_X3_isInForce K 0 0
abbrev T_X3_isInForce (G : GT) (as : List Value) (M : Mem) (K : Int32 → Mem → Prop) : Prop := MT G (Rep G) yX3_isInForce cX3_isInForce 2 (some .boolean) rm_X3_isInForce as M K
theorem e_X3_isInForce {G : GT} {K : Int32 → Mem → Prop} {M : Mem} {a0 : Nat} {v1 : Int32} (h : B_X3_isInForce G K 0 [(0, .ref a0), (1, .int v1)] [] M) : T_X3_isInForce G [.ref a0, .int v1] M K := MT.of (by decide +kernel) rfl rfl (Nat.le_of_ble_eq_true rfl) rfl h
set_option maxRecDepth 4000 in
theorem k_X3_isInForce_0 {G : GT} {K : Int32 → Mem → Prop} {M : Mem} {a0 : Nat} {v1 : Int32} (ha0 : LawC a0) (h : (v1 < (M.1 a0 0) → K 0 M) ∧ (¬ v1 < (M.1 a0 0) → ((M.1 a0 1) ≤ v1 → K 0 M) ∧ (¬ (M.1 a0 1) ≤ v1 → K 1 M))) : B_X3_isInForce G K 0 [(0, .ref a0), (1, .int v1)] [] M := by
  refine BT.aload_n dX3_isInForce_0 rfl 0 rfl ?_
  refine BT.getI fl_X3_72 ha0.1 rfl dX3_isInForce_1 ?_
  refine BT.iload_n dX3_isInForce_4 rfl 1 rfl ?_
  refine BT.icmp_gt (tgt := 20) dX3_isInForce_5 (by decide) (fun c => ?_) (fun c => ?_)
  · have c1 := c
    refine BT.iconst (v := 0) dX3_isInForce_20 (by decide) ?_
    exact BT.zret dX3_isInForce_21 rfl (by decide) (by decide) (nar01 ((Or.inl rfl))) (h.1 c1)
  · have c2 := c
    refine BT.iload_n dX3_isInForce_8 rfl 1 rfl ?_
    refine BT.aload_n dX3_isInForce_9 rfl 0 rfl ?_
    refine BT.getI fl_X3_75 ha0.1 rfl dX3_isInForce_10 ?_
    refine BT.icmp_ge (tgt := 20) dX3_isInForce_13 (by decide) (fun c => ?_) (fun c => ?_)
    · have c3 := c
      refine BT.iconst (v := 0) dX3_isInForce_20 (by decide) ?_
      exact BT.zret dX3_isInForce_21 rfl (by decide) (by decide) (nar01 ((Or.inl rfl))) ((h.2 c2).1 c3)
    · have c4 := c
      refine BT.iconst (v := 1) dX3_isInForce_16 (by decide) ?_
      refine BT.goto (tgt := 21) dX3_isInForce_17 (by decide) ?_
      exact BT.zret dX3_isInForce_21 rfl (by decide) (by decide) (nar01 ((Or.inr rfl))) ((h.2 c2).2 c4)

theorem t_X3_isInForce {G : GT} {K : Int32 → Mem → Prop} {M : Mem} {a0 : Nat} {v1 : Int32} (ha0 : LawC a0) (h : K (bi (M.1 a0 0 ≤ v1 ∧ v1 < M.1 a0 1)) M) : T_X3_isInForce G [.ref a0, .int v1] M K := by
  obtain ⟨h1, h0⟩ := bi_K h
  refine e_X3_isInForce (k_X3_isInForce_0 ha0 ?_)
  simp only [i_le, i_lt] at *
  grind

/-! BetweenLaws$Law.daysInForce()I -/
abbrev rm_X3_daysInForce : Room := { frames := 0, cells := 0, slots := 0, locals := 0 }
abbrev B_X3_daysInForce (G : GT) (K : Int32 → Mem → Prop) := BT G (Rep G) RX3 "daysInForce" cX3_daysInForce 1 (some .int) rm_X3_daysInForce K 0 0
abbrev T_X3_daysInForce (G : GT) (as : List Value) (M : Mem) (K : Int32 → Mem → Prop) : Prop := MT G (Rep G) yX3_daysInForce cX3_daysInForce 1 (some .int) rm_X3_daysInForce as M K
theorem e_X3_daysInForce {G : GT} {K : Int32 → Mem → Prop} {M : Mem} {a0 : Nat} (h : B_X3_daysInForce G K 0 [(0, .ref a0)] [] M) : T_X3_daysInForce G [.ref a0] M K := MT.of (by decide +kernel) rfl rfl (Nat.le_of_ble_eq_true rfl) rfl h
set_option maxRecDepth 4000 in
theorem k_X3_daysInForce_0 {G : GT} {K : Int32 → Mem → Prop} {M : Mem} {a0 : Nat} (ha0 : LawC a0) (h : K ((M.1 a0 1) - (M.1 a0 0)) M) : B_X3_daysInForce G K 0 [(0, .ref a0)] [] M := by
  refine BT.aload_n dX3_daysInForce_0 rfl 0 rfl ?_
  refine BT.getI fl_X3_75 ha0.1 rfl dX3_daysInForce_1 ?_
  refine BT.aload_n dX3_daysInForce_4 rfl 0 rfl ?_
  refine BT.getI fl_X3_72 ha0.1 rfl dX3_daysInForce_5 ?_
  refine BT.isub dX3_daysInForce_8 ?_
  exact BT.iret dX3_daysInForce_9 rfl (by decide) (by decide) h

theorem t_X3_daysInForce {G : GT} {K : Int32 → Mem → Prop} {M : Mem} {a0 : Nat} (ha0 : LawC a0) (h : K (M.1 a0 1 - M.1 a0 0) M) : T_X3_daysInForce G [.ref a0] M K := e_X3_daysInForce (k_X3_daysInForce_0 ha0 h)

/-! BetweenLaws$Law.giftFor(I)I -/
abbrev rm_X3_giftFor : Room := { frames := 0, cells := 0, slots := 0, locals := 0 }
abbrev B_X3_giftFor (G : GT) (K : Int32 → Mem → Prop) := BT G (Rep G) RX3 "giftFor" cX3_giftFor 2 (some .int) rm_X3_giftFor K 0 0
abbrev T_X3_giftFor (G : GT) (as : List Value) (M : Mem) (K : Int32 → Mem → Prop) : Prop := MT G (Rep G) yX3_giftFor cX3_giftFor 2 (some .int) rm_X3_giftFor as M K
theorem e_X3_giftFor {G : GT} {K : Int32 → Mem → Prop} {M : Mem} {a0 : Nat} {v1 : Int32} (h : B_X3_giftFor G K 0 [(0, .ref a0), (1, .int v1)] [] M) : T_X3_giftFor G [.ref a0, .int v1] M K := MT.of (by decide +kernel) rfl rfl (Nat.le_of_ble_eq_true rfl) rfl h
set_option maxRecDepth 4000 in
theorem k_X3_giftFor_0 {G : GT} {K : Int32 → Mem → Prop} {M : Mem} {a0 : Nat} {v1 : Int32} (ha0 : LawC a0) (h : (v1 < 0 → K (-6) M) ∧ (¬ v1 < 0 → (32 ≤ v1 → K (-6) M) ∧ (¬ 32 ≤ v1 → (vp_in v1 32) ∧ K (M.1 (a0 + 3) (Int32.toNatClampNeg v1)) M))) : B_X3_giftFor G K 0 [(0, .ref a0), (1, .int v1)] [] M := by
  refine BT.iload_n dX3_giftFor_0 rfl 1 rfl ?_
  refine BT.if_lt (tgt := 19) dX3_giftFor_1 (by decide) (fun c => ?_) (fun c => ?_)
  · have c1 := c
    refine BT.bipush (v := (-6)) dX3_giftFor_19 (by decide) ?_
    exact BT.iret dX3_giftFor_21 rfl (by decide) (by decide) (h.1 c1)
  · have c2 := c
    refine BT.iload_n dX3_giftFor_4 rfl 1 rfl ?_
    refine BT.bipush (v := 32) dX3_giftFor_5 (by decide) ?_
    refine BT.icmp_ge (tgt := 19) dX3_giftFor_7 (by decide) (fun c => ?_) (fun c => ?_)
    · have c3 := c
      refine BT.bipush (v := (-6)) dX3_giftFor_19 (by decide) ?_
      exact BT.iret dX3_giftFor_21 rfl (by decide) (by decide) ((h.2 c2).1 c3)
    · have c4 := c
      refine BT.aload_n dX3_giftFor_10 rfl 0 rfl ?_
      refine BT.getR (r := (a0 + 3)) fl_X3_18 ha0.1 rfl dX3_giftFor_11 ?_
      refine BT.iload_n dX3_giftFor_14 rfl 1 rfl ?_
      refine BT.iald ha0.2.2.2.1 ((h.2 c2).2 c4).1 dX3_giftFor_15 ?_
      refine BT.goto (tgt := 21) dX3_giftFor_16 (by decide) ?_
      exact BT.iret dX3_giftFor_21 rfl (by decide) (by decide) ((h.2 c2).2 c4).2

theorem t_X3_giftFor {G : GT} {K : Int32 → Mem → Prop} {M : Mem} {a0 : Nat} {v1 : Int32} (ha0 : LawC a0) (h : K (c_gift M.1 a0 v1) M) : T_X3_giftFor G [.ref a0, .int v1] M K := by
  unfold c_gift at h
  refine e_X3_giftFor (k_X3_giftFor_0 ha0 ⟨fun c => ?_, fun c => ⟨fun d => ?_, fun d => ⟨?_, ?_⟩⟩⟩)
  · rwa [if_neg (fun q => Int32.not_lt.mpr q.1 c)] at h
  · rwa [if_neg (fun q => Int32.not_le.mpr q.2 d)] at h
  · exact vp_of (Int32.not_lt.mp c) (Int32.not_le.mp d) (by decide)
  · rwa [if_pos ⟨Int32.not_lt.mp c, Int32.not_le.mp d⟩] at h

/-! BetweenLaws$Law.weightFor(I)I -/
abbrev rm_X3_weightFor : Room := { frames := 0, cells := 0, slots := 0, locals := 0 }
abbrev B_X3_weightFor (G : GT) (K : Int32 → Mem → Prop) := BT G (Rep G) RX3 "weightFor" cX3_weightFor 2 (some .int) rm_X3_weightFor K 0 0
abbrev T_X3_weightFor (G : GT) (as : List Value) (M : Mem) (K : Int32 → Mem → Prop) : Prop := MT G (Rep G) yX3_weightFor cX3_weightFor 2 (some .int) rm_X3_weightFor as M K
theorem e_X3_weightFor {G : GT} {K : Int32 → Mem → Prop} {M : Mem} {a0 : Nat} {v1 : Int32} (h : B_X3_weightFor G K 0 [(0, .ref a0), (1, .int v1)] [] M) : T_X3_weightFor G [.ref a0, .int v1] M K := MT.of (by decide +kernel) rfl rfl (Nat.le_of_ble_eq_true rfl) rfl h
set_option maxRecDepth 4000 in
theorem k_X3_weightFor_0 {G : GT} {K : Int32 → Mem → Prop} {M : Mem} {a0 : Nat} {v1 : Int32} (ha0 : LawC a0) (h : (v1 < 0 → K 0 M) ∧ (¬ v1 < 0 → (32 ≤ v1 → K 0 M) ∧ (¬ 32 ≤ v1 → (vp_in v1 32) ∧ K (M.1 (a0 + 4) (Int32.toNatClampNeg v1)) M))) : B_X3_weightFor G K 0 [(0, .ref a0), (1, .int v1)] [] M := by
  refine BT.iload_n dX3_weightFor_0 rfl 1 rfl ?_
  refine BT.if_lt (tgt := 19) dX3_weightFor_1 (by decide) (fun c => ?_) (fun c => ?_)
  · have c1 := c
    refine BT.iconst (v := 0) dX3_weightFor_19 (by decide) ?_
    exact BT.iret dX3_weightFor_20 rfl (by decide) (by decide) (h.1 c1)
  · have c2 := c
    refine BT.iload_n dX3_weightFor_4 rfl 1 rfl ?_
    refine BT.bipush (v := 32) dX3_weightFor_5 (by decide) ?_
    refine BT.icmp_ge (tgt := 19) dX3_weightFor_7 (by decide) (fun c => ?_) (fun c => ?_)
    · have c3 := c
      refine BT.iconst (v := 0) dX3_weightFor_19 (by decide) ?_
      exact BT.iret dX3_weightFor_20 rfl (by decide) (by decide) ((h.2 c2).1 c3)
    · have c4 := c
      refine BT.aload_n dX3_weightFor_10 rfl 0 rfl ?_
      refine BT.getR (r := (a0 + 4)) fl_X3_21 ha0.1 rfl dX3_weightFor_11 ?_
      refine BT.iload_n dX3_weightFor_14 rfl 1 rfl ?_
      refine BT.iald ha0.2.2.2.2 ((h.2 c2).2 c4).1 dX3_weightFor_15 ?_
      refine BT.goto (tgt := 20) dX3_weightFor_16 (by decide) ?_
      exact BT.iret dX3_weightFor_20 rfl (by decide) (by decide) ((h.2 c2).2 c4).2

theorem t_X3_weightFor {G : GT} {K : Int32 → Mem → Prop} {M : Mem} {a0 : Nat} {v1 : Int32} (ha0 : LawC a0) (h : K (c_weight M.1 a0 v1) M) : T_X3_weightFor G [.ref a0, .int v1] M K := by
  unfold c_weight at h
  refine e_X3_weightFor (k_X3_weightFor_0 ha0 ⟨fun c => ?_, fun c => ⟨fun d => ?_, fun d => ⟨?_, ?_⟩⟩⟩)
  · rwa [if_neg (fun q => Int32.not_lt.mpr q.1 c)] at h
  · rwa [if_neg (fun q => Int32.not_le.mpr q.2 d)] at h
  · exact vp_of (Int32.not_lt.mp c) (Int32.not_le.mp d) (by decide)
  · rwa [if_pos ⟨Int32.not_lt.mp c, Int32.not_le.mp d⟩] at h

/-! BetweenLaws$Law.reachesByTime(LBetweenLaws$Piece;)Z -/
abbrev rm_X3_reachesByTime : Room := { frames := 0, cells := 0, slots := 0, locals := 0 }
abbrev B_X3_reachesByTime (G : GT) (K : Int32 → Mem → Prop) := BT G (Rep G) RX3 "reachesByTime" cX3_reachesByTime 4 (some .boolean) rm_X3_reachesByTime K 0 0
abbrev T_X3_reachesByTime (G : GT) (as : List Value) (M : Mem) (K : Int32 → Mem → Prop) : Prop := MT G (Rep G) yX3_reachesByTime cX3_reachesByTime 4 (some .boolean) rm_X3_reachesByTime as M K
theorem e_X3_reachesByTime {G : GT} {K : Int32 → Mem → Prop} {M : Mem} {a0 : Nat} {a1 : Nat} (h : B_X3_reachesByTime G K 0 [(0, .ref a0), (1, .ref a1)] [] M) : T_X3_reachesByTime G [.ref a0, .ref a1] M K := MT.of (by decide +kernel) rfl rfl (Nat.le_of_ble_eq_true rfl) rfl h
set_option maxRecDepth 4000 in
theorem k_X3_reachesByTime_0 {G : GT} {K : Int32 → Mem → Prop} {M : Mem} {a0 : Nat} {a1 : Nat} (ha0 : LawC a0) (ha1 : PieceC a1) (h : ((M.1 a1 0) < (M.1 a0 0) → ((M.1 a1 1) = (-6) → ((M.1 a0 10) = 0 → (¬ (M.1 a0 9) = 97 → (¬ (M.1 a0 9) = 104 → K 0 M) ∧ ((M.1 a0 9) = 104 → K 1 M)) ∧ ((M.1 a0 9) = 97 → K 1 M)) ∧ (¬ (M.1 a0 10) = 0 → (¬ (M.1 a0 9) = 97 → (¬ (M.1 a0 9) = 104 → K 0 M) ∧ ((M.1 a0 9) = 104 → K 1 M)) ∧ ((M.1 a0 9) = 97 → K 1 M))) ∧ (¬ (M.1 a1 1) = (-6) → ((M.1 a1 1) < (M.1 a0 0) → ((M.1 a0 10) = 0 → (¬ (M.1 a0 9) = 97 → (¬ (M.1 a0 9) = 104 → K 0 M) ∧ ((M.1 a0 9) = 104 → K 0 M)) ∧ ((M.1 a0 9) = 97 → K 1 M)) ∧ (¬ (M.1 a0 10) = 0 → K 0 M)) ∧ (¬ (M.1 a1 1) < (M.1 a0 0) → ((M.1 a0 10) = 0 → (¬ (M.1 a0 9) = 97 → (¬ (M.1 a0 9) = 104 → K 0 M) ∧ ((M.1 a0 9) = 104 → K 1 M)) ∧ ((M.1 a0 9) = 97 → K 1 M)) ∧ (¬ (M.1 a0 10) = 0 → (¬ (M.1 a0 9) = 97 → (¬ (M.1 a0 9) = 104 → K 0 M) ∧ ((M.1 a0 9) = 104 → K 1 M)) ∧ ((M.1 a0 9) = 97 → K 1 M))))) ∧ (¬ (M.1 a1 0) < (M.1 a0 0) → ((M.1 a1 1) = (-6) → ((M.1 a0 10) = 0 → (¬ (M.1 a0 9) = 97 → K 1 M) ∧ ((M.1 a0 9) = 97 → K 1 M)) ∧ (¬ (M.1 a0 10) = 0 → (¬ (M.1 a0 9) = 97 → K 1 M) ∧ ((M.1 a0 9) = 97 → K 1 M))) ∧ (¬ (M.1 a1 1) = (-6) → ((M.1 a1 1) < (M.1 a0 0) → ((M.1 a0 10) = 0 → (¬ (M.1 a0 9) = 97 → K 1 M) ∧ ((M.1 a0 9) = 97 → K 1 M)) ∧ (¬ (M.1 a0 10) = 0 → K 0 M)) ∧ (¬ (M.1 a1 1) < (M.1 a0 0) → ((M.1 a0 10) = 0 → (¬ (M.1 a0 9) = 97 → K 1 M) ∧ ((M.1 a0 9) = 97 → K 1 M)) ∧ (¬ (M.1 a0 10) = 0 → (¬ (M.1 a0 9) = 97 → K 1 M) ∧ ((M.1 a0 9) = 97 → K 1 M)))))) : B_X3_reachesByTime G K 0 [(0, .ref a0), (1, .ref a1)] [] M := by
  refine BT.aload_n dX3_reachesByTime_0 rfl 1 rfl ?_
  refine BT.getI fl_X3_78 ha1 rfl dX3_reachesByTime_1 ?_
  refine BT.aload_n dX3_reachesByTime_4 rfl 0 rfl ?_
  refine BT.getI fl_X3_72 ha0.1 rfl dX3_reachesByTime_5 ?_
  refine BT.icmp_lt (tgt := 15) dX3_reachesByTime_8 (by decide) (fun c => ?_) (fun c => ?_)
  · have c1 := c
    refine BT.iconst (v := 0) dX3_reachesByTime_15 (by decide) ?_
    refine BT.istore_n (L' := [(2, .int 0), (0, .ref a0), (1, .ref a1)]) dX3_reachesByTime_16 rfl (by decide) rfl ?_
    refine BT.aload_n dX3_reachesByTime_17 rfl 2 rfl ?_
    refine BT.getI fl_X3_83 ha1 rfl dX3_reachesByTime_18 ?_
    refine BT.bipush (v := (-6)) dX3_reachesByTime_21 (by decide) ?_
    refine BT.icmp_eq (tgt := 37) dX3_reachesByTime_23 (by decide) (fun c => ?_) (fun c => ?_)
    · have c3 := c
      refine BT.iconst (v := 1) dX3_reachesByTime_37 (by decide) ?_
      refine BT.goto (tgt := 42) dX3_reachesByTime_38 (by decide) ?_
      refine BT.istore_n (L' := [(3, .int 1), (2, .int 0), (0, .ref a0), (1, .ref a1)]) dX3_reachesByTime_42 rfl (by decide) rfl ?_
      refine BT.aload_n dX3_reachesByTime_43 rfl 2 rfl ?_
      refine BT.getI fl_X3_37 ha0.1 rfl dX3_reachesByTime_44 ?_
      refine BT.if_eq (tgt := 56) dX3_reachesByTime_47 (by decide) (fun c => ?_) (fun c => ?_)
      · have c5 := c
        refine BT.aload_n dX3_reachesByTime_56 rfl 2 rfl ?_
        refine BT.getI fl_X3_34 ha0.1 rfl dX3_reachesByTime_57 ?_
        refine BT.bipush (v := 97) dX3_reachesByTime_60 (by decide) ?_
        refine BT.icmp_ne (tgt := 67) dX3_reachesByTime_62 (by decide) (fun c => ?_) (fun c => ?_)
        · have c7 := c
          refine BT.iload_n dX3_reachesByTime_67 rfl 1 rfl ?_
          refine BT.if_ne (tgt := 84) dX3_reachesByTime_68 (by decide) (fun c => absurd c (by decide)) (fun _ => ?_)
          refine BT.aload_n dX3_reachesByTime_71 rfl 2 rfl ?_
          refine BT.getI fl_X3_34 ha0.1 rfl dX3_reachesByTime_72 ?_
          refine BT.bipush (v := 104) dX3_reachesByTime_75 (by decide) ?_
          refine BT.icmp_ne (tgt := 88) dX3_reachesByTime_77 (by decide) (fun c => ?_) (fun c => ?_)
          · have c9 := c
            refine BT.iconst (v := 0) dX3_reachesByTime_88 (by decide) ?_
            exact BT.zret dX3_reachesByTime_89 rfl (by decide) (by decide) (nar01 ((Or.inl rfl))) (((((h.1 c1).1 c3).1 c5).1 c7).1 c9)
          · have c10 := c
            refine BT.iload_n dX3_reachesByTime_80 rfl 0 rfl ?_
            refine BT.if_eq (tgt := 88) dX3_reachesByTime_81 (by decide) (fun c => absurd c (by decide)) (fun _ => ?_)
            refine BT.iconst (v := 1) dX3_reachesByTime_84 (by decide) ?_
            refine BT.goto (tgt := 89) dX3_reachesByTime_85 (by decide) ?_
            exact BT.zret dX3_reachesByTime_89 rfl (by decide) (by decide) (nar01 ((Or.inr rfl))) (((((h.1 c1).1 c3).1 c5).1 c7).2 c10)
        · have c8 := c
          refine BT.iconst (v := 1) dX3_reachesByTime_65 (by decide) ?_
          exact BT.zret dX3_reachesByTime_66 rfl (by decide) (by decide) (nar01 ((Or.inr rfl))) ((((h.1 c1).1 c3).1 c5).2 c8)
      · have c6 := c
        refine BT.iload_n dX3_reachesByTime_50 rfl 0 rfl ?_
        refine BT.if_ne (tgt := 56) dX3_reachesByTime_51 (by decide) (fun _ => ?_) (fun c => absurd c (by decide))
        refine BT.aload_n dX3_reachesByTime_56 rfl 2 rfl ?_
        refine BT.getI fl_X3_34 ha0.1 rfl dX3_reachesByTime_57 ?_
        refine BT.bipush (v := 97) dX3_reachesByTime_60 (by decide) ?_
        refine BT.icmp_ne (tgt := 67) dX3_reachesByTime_62 (by decide) (fun c => ?_) (fun c => ?_)
        · have c11 := c
          refine BT.iload_n dX3_reachesByTime_67 rfl 1 rfl ?_
          refine BT.if_ne (tgt := 84) dX3_reachesByTime_68 (by decide) (fun c => absurd c (by decide)) (fun _ => ?_)
          refine BT.aload_n dX3_reachesByTime_71 rfl 2 rfl ?_
          refine BT.getI fl_X3_34 ha0.1 rfl dX3_reachesByTime_72 ?_
          refine BT.bipush (v := 104) dX3_reachesByTime_75 (by decide) ?_
          refine BT.icmp_ne (tgt := 88) dX3_reachesByTime_77 (by decide) (fun c => ?_) (fun c => ?_)
          · have c13 := c
            refine BT.iconst (v := 0) dX3_reachesByTime_88 (by decide) ?_
            exact BT.zret dX3_reachesByTime_89 rfl (by decide) (by decide) (nar01 ((Or.inl rfl))) (((((h.1 c1).1 c3).2 c6).1 c11).1 c13)
          · have c14 := c
            refine BT.iload_n dX3_reachesByTime_80 rfl 0 rfl ?_
            refine BT.if_eq (tgt := 88) dX3_reachesByTime_81 (by decide) (fun c => absurd c (by decide)) (fun _ => ?_)
            refine BT.iconst (v := 1) dX3_reachesByTime_84 (by decide) ?_
            refine BT.goto (tgt := 89) dX3_reachesByTime_85 (by decide) ?_
            exact BT.zret dX3_reachesByTime_89 rfl (by decide) (by decide) (nar01 ((Or.inr rfl))) (((((h.1 c1).1 c3).2 c6).1 c11).2 c14)
        · have c12 := c
          refine BT.iconst (v := 1) dX3_reachesByTime_65 (by decide) ?_
          exact BT.zret dX3_reachesByTime_66 rfl (by decide) (by decide) (nar01 ((Or.inr rfl))) ((((h.1 c1).1 c3).2 c6).2 c12)
    · have c4 := c
      refine BT.aload_n dX3_reachesByTime_26 rfl 2 rfl ?_
      refine BT.getI fl_X3_83 ha1 rfl dX3_reachesByTime_27 ?_
      refine BT.aload_n dX3_reachesByTime_30 rfl 1 rfl ?_
      refine BT.getI fl_X3_72 ha0.1 rfl dX3_reachesByTime_31 ?_
      refine BT.icmp_lt (tgt := 41) dX3_reachesByTime_34 (by decide) (fun c => ?_) (fun c => ?_)
      · have c15 := c
        refine BT.iconst (v := 0) dX3_reachesByTime_41 (by decide) ?_
        refine BT.istore_n (L' := [(3, .int 0), (2, .int 0), (0, .ref a0), (1, .ref a1)]) dX3_reachesByTime_42 rfl (by decide) rfl ?_
        refine BT.aload_n dX3_reachesByTime_43 rfl 2 rfl ?_
        refine BT.getI fl_X3_37 ha0.1 rfl dX3_reachesByTime_44 ?_
        refine BT.if_eq (tgt := 56) dX3_reachesByTime_47 (by decide) (fun c => ?_) (fun c => ?_)
        · have c17 := c
          refine BT.aload_n dX3_reachesByTime_56 rfl 2 rfl ?_
          refine BT.getI fl_X3_34 ha0.1 rfl dX3_reachesByTime_57 ?_
          refine BT.bipush (v := 97) dX3_reachesByTime_60 (by decide) ?_
          refine BT.icmp_ne (tgt := 67) dX3_reachesByTime_62 (by decide) (fun c => ?_) (fun c => ?_)
          · have c19 := c
            refine BT.iload_n dX3_reachesByTime_67 rfl 1 rfl ?_
            refine BT.if_ne (tgt := 84) dX3_reachesByTime_68 (by decide) (fun c => absurd c (by decide)) (fun _ => ?_)
            refine BT.aload_n dX3_reachesByTime_71 rfl 2 rfl ?_
            refine BT.getI fl_X3_34 ha0.1 rfl dX3_reachesByTime_72 ?_
            refine BT.bipush (v := 104) dX3_reachesByTime_75 (by decide) ?_
            refine BT.icmp_ne (tgt := 88) dX3_reachesByTime_77 (by decide) (fun c => ?_) (fun c => ?_)
            · have c21 := c
              refine BT.iconst (v := 0) dX3_reachesByTime_88 (by decide) ?_
              exact BT.zret dX3_reachesByTime_89 rfl (by decide) (by decide) (nar01 ((Or.inl rfl))) ((((((h.1 c1).2 c4).1 c15).1 c17).1 c19).1 c21)
            · have c22 := c
              refine BT.iload_n dX3_reachesByTime_80 rfl 0 rfl ?_
              refine BT.if_eq (tgt := 88) dX3_reachesByTime_81 (by decide) (fun _ => ?_) (fun c => absurd c (by decide))
              refine BT.iconst (v := 0) dX3_reachesByTime_88 (by decide) ?_
              exact BT.zret dX3_reachesByTime_89 rfl (by decide) (by decide) (nar01 ((Or.inl rfl))) ((((((h.1 c1).2 c4).1 c15).1 c17).1 c19).2 c22)
          · have c20 := c
            refine BT.iconst (v := 1) dX3_reachesByTime_65 (by decide) ?_
            exact BT.zret dX3_reachesByTime_66 rfl (by decide) (by decide) (nar01 ((Or.inr rfl))) (((((h.1 c1).2 c4).1 c15).1 c17).2 c20)
        · have c18 := c
          refine BT.iload_n dX3_reachesByTime_50 rfl 0 rfl ?_
          refine BT.if_ne (tgt := 56) dX3_reachesByTime_51 (by decide) (fun c => absurd c (by decide)) (fun _ => ?_)
          refine BT.iconst (v := 0) dX3_reachesByTime_54 (by decide) ?_
          exact BT.zret dX3_reachesByTime_55 rfl (by decide) (by decide) (nar01 ((Or.inl rfl))) ((((h.1 c1).2 c4).1 c15).2 c18)
      · have c16 := c
        refine BT.iconst (v := 1) dX3_reachesByTime_37 (by decide) ?_
        refine BT.goto (tgt := 42) dX3_reachesByTime_38 (by decide) ?_
        refine BT.istore_n (L' := [(3, .int 1), (2, .int 0), (0, .ref a0), (1, .ref a1)]) dX3_reachesByTime_42 rfl (by decide) rfl ?_
        refine BT.aload_n dX3_reachesByTime_43 rfl 2 rfl ?_
        refine BT.getI fl_X3_37 ha0.1 rfl dX3_reachesByTime_44 ?_
        refine BT.if_eq (tgt := 56) dX3_reachesByTime_47 (by decide) (fun c => ?_) (fun c => ?_)
        · have c23 := c
          refine BT.aload_n dX3_reachesByTime_56 rfl 2 rfl ?_
          refine BT.getI fl_X3_34 ha0.1 rfl dX3_reachesByTime_57 ?_
          refine BT.bipush (v := 97) dX3_reachesByTime_60 (by decide) ?_
          refine BT.icmp_ne (tgt := 67) dX3_reachesByTime_62 (by decide) (fun c => ?_) (fun c => ?_)
          · have c25 := c
            refine BT.iload_n dX3_reachesByTime_67 rfl 1 rfl ?_
            refine BT.if_ne (tgt := 84) dX3_reachesByTime_68 (by decide) (fun c => absurd c (by decide)) (fun _ => ?_)
            refine BT.aload_n dX3_reachesByTime_71 rfl 2 rfl ?_
            refine BT.getI fl_X3_34 ha0.1 rfl dX3_reachesByTime_72 ?_
            refine BT.bipush (v := 104) dX3_reachesByTime_75 (by decide) ?_
            refine BT.icmp_ne (tgt := 88) dX3_reachesByTime_77 (by decide) (fun c => ?_) (fun c => ?_)
            · have c27 := c
              refine BT.iconst (v := 0) dX3_reachesByTime_88 (by decide) ?_
              exact BT.zret dX3_reachesByTime_89 rfl (by decide) (by decide) (nar01 ((Or.inl rfl))) ((((((h.1 c1).2 c4).2 c16).1 c23).1 c25).1 c27)
            · have c28 := c
              refine BT.iload_n dX3_reachesByTime_80 rfl 0 rfl ?_
              refine BT.if_eq (tgt := 88) dX3_reachesByTime_81 (by decide) (fun c => absurd c (by decide)) (fun _ => ?_)
              refine BT.iconst (v := 1) dX3_reachesByTime_84 (by decide) ?_
              refine BT.goto (tgt := 89) dX3_reachesByTime_85 (by decide) ?_
              exact BT.zret dX3_reachesByTime_89 rfl (by decide) (by decide) (nar01 ((Or.inr rfl))) ((((((h.1 c1).2 c4).2 c16).1 c23).1 c25).2 c28)
          · have c26 := c
            refine BT.iconst (v := 1) dX3_reachesByTime_65 (by decide) ?_
            exact BT.zret dX3_reachesByTime_66 rfl (by decide) (by decide) (nar01 ((Or.inr rfl))) (((((h.1 c1).2 c4).2 c16).1 c23).2 c26)
        · have c24 := c
          refine BT.iload_n dX3_reachesByTime_50 rfl 0 rfl ?_
          refine BT.if_ne (tgt := 56) dX3_reachesByTime_51 (by decide) (fun _ => ?_) (fun c => absurd c (by decide))
          refine BT.aload_n dX3_reachesByTime_56 rfl 2 rfl ?_
          refine BT.getI fl_X3_34 ha0.1 rfl dX3_reachesByTime_57 ?_
          refine BT.bipush (v := 97) dX3_reachesByTime_60 (by decide) ?_
          refine BT.icmp_ne (tgt := 67) dX3_reachesByTime_62 (by decide) (fun c => ?_) (fun c => ?_)
          · have c29 := c
            refine BT.iload_n dX3_reachesByTime_67 rfl 1 rfl ?_
            refine BT.if_ne (tgt := 84) dX3_reachesByTime_68 (by decide) (fun c => absurd c (by decide)) (fun _ => ?_)
            refine BT.aload_n dX3_reachesByTime_71 rfl 2 rfl ?_
            refine BT.getI fl_X3_34 ha0.1 rfl dX3_reachesByTime_72 ?_
            refine BT.bipush (v := 104) dX3_reachesByTime_75 (by decide) ?_
            refine BT.icmp_ne (tgt := 88) dX3_reachesByTime_77 (by decide) (fun c => ?_) (fun c => ?_)
            · have c31 := c
              refine BT.iconst (v := 0) dX3_reachesByTime_88 (by decide) ?_
              exact BT.zret dX3_reachesByTime_89 rfl (by decide) (by decide) (nar01 ((Or.inl rfl))) ((((((h.1 c1).2 c4).2 c16).2 c24).1 c29).1 c31)
            · have c32 := c
              refine BT.iload_n dX3_reachesByTime_80 rfl 0 rfl ?_
              refine BT.if_eq (tgt := 88) dX3_reachesByTime_81 (by decide) (fun c => absurd c (by decide)) (fun _ => ?_)
              refine BT.iconst (v := 1) dX3_reachesByTime_84 (by decide) ?_
              refine BT.goto (tgt := 89) dX3_reachesByTime_85 (by decide) ?_
              exact BT.zret dX3_reachesByTime_89 rfl (by decide) (by decide) (nar01 ((Or.inr rfl))) ((((((h.1 c1).2 c4).2 c16).2 c24).1 c29).2 c32)
          · have c30 := c
            refine BT.iconst (v := 1) dX3_reachesByTime_65 (by decide) ?_
            exact BT.zret dX3_reachesByTime_66 rfl (by decide) (by decide) (nar01 ((Or.inr rfl))) (((((h.1 c1).2 c4).2 c16).2 c24).2 c30)
  · have c2 := c
    refine BT.iconst (v := 1) dX3_reachesByTime_11 (by decide) ?_
    refine BT.goto (tgt := 16) dX3_reachesByTime_12 (by decide) ?_
    refine BT.istore_n (L' := [(2, .int 1), (0, .ref a0), (1, .ref a1)]) dX3_reachesByTime_16 rfl (by decide) rfl ?_
    refine BT.aload_n dX3_reachesByTime_17 rfl 2 rfl ?_
    refine BT.getI fl_X3_83 ha1 rfl dX3_reachesByTime_18 ?_
    refine BT.bipush (v := (-6)) dX3_reachesByTime_21 (by decide) ?_
    refine BT.icmp_eq (tgt := 37) dX3_reachesByTime_23 (by decide) (fun c => ?_) (fun c => ?_)
    · have c33 := c
      refine BT.iconst (v := 1) dX3_reachesByTime_37 (by decide) ?_
      refine BT.goto (tgt := 42) dX3_reachesByTime_38 (by decide) ?_
      refine BT.istore_n (L' := [(3, .int 1), (2, .int 1), (0, .ref a0), (1, .ref a1)]) dX3_reachesByTime_42 rfl (by decide) rfl ?_
      refine BT.aload_n dX3_reachesByTime_43 rfl 2 rfl ?_
      refine BT.getI fl_X3_37 ha0.1 rfl dX3_reachesByTime_44 ?_
      refine BT.if_eq (tgt := 56) dX3_reachesByTime_47 (by decide) (fun c => ?_) (fun c => ?_)
      · have c35 := c
        refine BT.aload_n dX3_reachesByTime_56 rfl 2 rfl ?_
        refine BT.getI fl_X3_34 ha0.1 rfl dX3_reachesByTime_57 ?_
        refine BT.bipush (v := 97) dX3_reachesByTime_60 (by decide) ?_
        refine BT.icmp_ne (tgt := 67) dX3_reachesByTime_62 (by decide) (fun c => ?_) (fun c => ?_)
        · have c37 := c
          refine BT.iload_n dX3_reachesByTime_67 rfl 1 rfl ?_
          refine BT.if_ne (tgt := 84) dX3_reachesByTime_68 (by decide) (fun _ => ?_) (fun c => absurd c (by decide))
          refine BT.iconst (v := 1) dX3_reachesByTime_84 (by decide) ?_
          refine BT.goto (tgt := 89) dX3_reachesByTime_85 (by decide) ?_
          exact BT.zret dX3_reachesByTime_89 rfl (by decide) (by decide) (nar01 ((Or.inr rfl))) ((((h.2 c2).1 c33).1 c35).1 c37)
        · have c38 := c
          refine BT.iconst (v := 1) dX3_reachesByTime_65 (by decide) ?_
          exact BT.zret dX3_reachesByTime_66 rfl (by decide) (by decide) (nar01 ((Or.inr rfl))) ((((h.2 c2).1 c33).1 c35).2 c38)
      · have c36 := c
        refine BT.iload_n dX3_reachesByTime_50 rfl 0 rfl ?_
        refine BT.if_ne (tgt := 56) dX3_reachesByTime_51 (by decide) (fun _ => ?_) (fun c => absurd c (by decide))
        refine BT.aload_n dX3_reachesByTime_56 rfl 2 rfl ?_
        refine BT.getI fl_X3_34 ha0.1 rfl dX3_reachesByTime_57 ?_
        refine BT.bipush (v := 97) dX3_reachesByTime_60 (by decide) ?_
        refine BT.icmp_ne (tgt := 67) dX3_reachesByTime_62 (by decide) (fun c => ?_) (fun c => ?_)
        · have c39 := c
          refine BT.iload_n dX3_reachesByTime_67 rfl 1 rfl ?_
          refine BT.if_ne (tgt := 84) dX3_reachesByTime_68 (by decide) (fun _ => ?_) (fun c => absurd c (by decide))
          refine BT.iconst (v := 1) dX3_reachesByTime_84 (by decide) ?_
          refine BT.goto (tgt := 89) dX3_reachesByTime_85 (by decide) ?_
          exact BT.zret dX3_reachesByTime_89 rfl (by decide) (by decide) (nar01 ((Or.inr rfl))) ((((h.2 c2).1 c33).2 c36).1 c39)
        · have c40 := c
          refine BT.iconst (v := 1) dX3_reachesByTime_65 (by decide) ?_
          exact BT.zret dX3_reachesByTime_66 rfl (by decide) (by decide) (nar01 ((Or.inr rfl))) ((((h.2 c2).1 c33).2 c36).2 c40)
    · have c34 := c
      refine BT.aload_n dX3_reachesByTime_26 rfl 2 rfl ?_
      refine BT.getI fl_X3_83 ha1 rfl dX3_reachesByTime_27 ?_
      refine BT.aload_n dX3_reachesByTime_30 rfl 1 rfl ?_
      refine BT.getI fl_X3_72 ha0.1 rfl dX3_reachesByTime_31 ?_
      refine BT.icmp_lt (tgt := 41) dX3_reachesByTime_34 (by decide) (fun c => ?_) (fun c => ?_)
      · have c41 := c
        refine BT.iconst (v := 0) dX3_reachesByTime_41 (by decide) ?_
        refine BT.istore_n (L' := [(3, .int 0), (2, .int 1), (0, .ref a0), (1, .ref a1)]) dX3_reachesByTime_42 rfl (by decide) rfl ?_
        refine BT.aload_n dX3_reachesByTime_43 rfl 2 rfl ?_
        refine BT.getI fl_X3_37 ha0.1 rfl dX3_reachesByTime_44 ?_
        refine BT.if_eq (tgt := 56) dX3_reachesByTime_47 (by decide) (fun c => ?_) (fun c => ?_)
        · have c43 := c
          refine BT.aload_n dX3_reachesByTime_56 rfl 2 rfl ?_
          refine BT.getI fl_X3_34 ha0.1 rfl dX3_reachesByTime_57 ?_
          refine BT.bipush (v := 97) dX3_reachesByTime_60 (by decide) ?_
          refine BT.icmp_ne (tgt := 67) dX3_reachesByTime_62 (by decide) (fun c => ?_) (fun c => ?_)
          · have c45 := c
            refine BT.iload_n dX3_reachesByTime_67 rfl 1 rfl ?_
            refine BT.if_ne (tgt := 84) dX3_reachesByTime_68 (by decide) (fun _ => ?_) (fun c => absurd c (by decide))
            refine BT.iconst (v := 1) dX3_reachesByTime_84 (by decide) ?_
            refine BT.goto (tgt := 89) dX3_reachesByTime_85 (by decide) ?_
            exact BT.zret dX3_reachesByTime_89 rfl (by decide) (by decide) (nar01 ((Or.inr rfl))) (((((h.2 c2).2 c34).1 c41).1 c43).1 c45)
          · have c46 := c
            refine BT.iconst (v := 1) dX3_reachesByTime_65 (by decide) ?_
            exact BT.zret dX3_reachesByTime_66 rfl (by decide) (by decide) (nar01 ((Or.inr rfl))) (((((h.2 c2).2 c34).1 c41).1 c43).2 c46)
        · have c44 := c
          refine BT.iload_n dX3_reachesByTime_50 rfl 0 rfl ?_
          refine BT.if_ne (tgt := 56) dX3_reachesByTime_51 (by decide) (fun c => absurd c (by decide)) (fun _ => ?_)
          refine BT.iconst (v := 0) dX3_reachesByTime_54 (by decide) ?_
          exact BT.zret dX3_reachesByTime_55 rfl (by decide) (by decide) (nar01 ((Or.inl rfl))) ((((h.2 c2).2 c34).1 c41).2 c44)
      · have c42 := c
        refine BT.iconst (v := 1) dX3_reachesByTime_37 (by decide) ?_
        refine BT.goto (tgt := 42) dX3_reachesByTime_38 (by decide) ?_
        refine BT.istore_n (L' := [(3, .int 1), (2, .int 1), (0, .ref a0), (1, .ref a1)]) dX3_reachesByTime_42 rfl (by decide) rfl ?_
        refine BT.aload_n dX3_reachesByTime_43 rfl 2 rfl ?_
        refine BT.getI fl_X3_37 ha0.1 rfl dX3_reachesByTime_44 ?_
        refine BT.if_eq (tgt := 56) dX3_reachesByTime_47 (by decide) (fun c => ?_) (fun c => ?_)
        · have c47 := c
          refine BT.aload_n dX3_reachesByTime_56 rfl 2 rfl ?_
          refine BT.getI fl_X3_34 ha0.1 rfl dX3_reachesByTime_57 ?_
          refine BT.bipush (v := 97) dX3_reachesByTime_60 (by decide) ?_
          refine BT.icmp_ne (tgt := 67) dX3_reachesByTime_62 (by decide) (fun c => ?_) (fun c => ?_)
          · have c49 := c
            refine BT.iload_n dX3_reachesByTime_67 rfl 1 rfl ?_
            refine BT.if_ne (tgt := 84) dX3_reachesByTime_68 (by decide) (fun _ => ?_) (fun c => absurd c (by decide))
            refine BT.iconst (v := 1) dX3_reachesByTime_84 (by decide) ?_
            refine BT.goto (tgt := 89) dX3_reachesByTime_85 (by decide) ?_
            exact BT.zret dX3_reachesByTime_89 rfl (by decide) (by decide) (nar01 ((Or.inr rfl))) (((((h.2 c2).2 c34).2 c42).1 c47).1 c49)
          · have c50 := c
            refine BT.iconst (v := 1) dX3_reachesByTime_65 (by decide) ?_
            exact BT.zret dX3_reachesByTime_66 rfl (by decide) (by decide) (nar01 ((Or.inr rfl))) (((((h.2 c2).2 c34).2 c42).1 c47).2 c50)
        · have c48 := c
          refine BT.iload_n dX3_reachesByTime_50 rfl 0 rfl ?_
          refine BT.if_ne (tgt := 56) dX3_reachesByTime_51 (by decide) (fun _ => ?_) (fun c => absurd c (by decide))
          refine BT.aload_n dX3_reachesByTime_56 rfl 2 rfl ?_
          refine BT.getI fl_X3_34 ha0.1 rfl dX3_reachesByTime_57 ?_
          refine BT.bipush (v := 97) dX3_reachesByTime_60 (by decide) ?_
          refine BT.icmp_ne (tgt := 67) dX3_reachesByTime_62 (by decide) (fun c => ?_) (fun c => ?_)
          · have c51 := c
            refine BT.iload_n dX3_reachesByTime_67 rfl 1 rfl ?_
            refine BT.if_ne (tgt := 84) dX3_reachesByTime_68 (by decide) (fun _ => ?_) (fun c => absurd c (by decide))
            refine BT.iconst (v := 1) dX3_reachesByTime_84 (by decide) ?_
            refine BT.goto (tgt := 89) dX3_reachesByTime_85 (by decide) ?_
            exact BT.zret dX3_reachesByTime_89 rfl (by decide) (by decide) (nar01 ((Or.inr rfl))) (((((h.2 c2).2 c34).2 c42).2 c48).1 c51)
          · have c52 := c
            refine BT.iconst (v := 1) dX3_reachesByTime_65 (by decide) ?_
            exact BT.zret dX3_reachesByTime_66 rfl (by decide) (by decide) (nar01 ((Or.inr rfl))) (((((h.2 c2).2 c34).2 c42).2 c48).2 c52)

theorem t_X3_reachesByTime {G : GT} {K : Int32 → Mem → Prop} {M : Mem} {a0 a1 : Nat} (ha0 : LawC a0) (ha1 : PieceC a1) (h : K (bi (c_reach M.1 a0 a1)) M) : T_X3_reachesByTime G [.ref a0, .ref a1] M K := by
  obtain ⟨h1, h0⟩ := bi_K h
  refine e_X3_reachesByTime (k_X3_reachesByTime_0 ha0 ha1 ?_)
  clear h
  unfold c_reach at h0 h1
  simp only [i_le, i_lt] at *
  grind

/-! BetweenLaws$Piece.dayOn(I)I -/
abbrev rm_X6_dayOn : Room := { frames := 1, cells := 0, slots := 0, locals := 21 }
abbrev B_X6_dayOn (G : GT) (K : Int32 → Mem → Prop) := BT G (Rep G) RX6 "dayOn" cX6_dayOn 2 (some .int) rm_X6_dayOn K 0 0
abbrev T_X6_dayOn (G : GT) (as : List Value) (M : Mem) (K : Int32 → Mem → Prop) : Prop := MT G (Rep G) yX6_dayOn cX6_dayOn 2 (some .int) rm_X6_dayOn as M K
theorem e_X6_dayOn {G : GT} {K : Int32 → Mem → Prop} {M : Mem} {a0 : Nat} {v1 : Int32} (h : B_X6_dayOn G K 0 [(0, .ref a0), (1, .int v1)] [] M) : T_X6_dayOn G [.ref a0, .int v1] M K := MT.of (by decide +kernel) rfl rfl (Nat.le_of_ble_eq_true rfl) rfl h
set_option maxRecDepth 4000 in
theorem k_X6_dayOn_0 {G : GT} {K : Int32 → Mem → Prop} {M : Mem} {a0 : Nat} {v1 : Int32} (ha0 : PieceC a0) (h : (¬ (M.1 a0 2) = (-6) → K (if (M.1 a0 2) < v1 then (M.1 a0 2) else v1) M) ∧ ((M.1 a0 2) = (-6) → K v1 M)) : B_X6_dayOn G K 0 [(0, .ref a0), (1, .int v1)] [] M := by
  refine BT.aload_n dX6_dayOn_0 rfl 0 rfl ?_
  refine BT.getI fl_X6_18 ha0 rfl dX6_dayOn_1 ?_
  refine BT.bipush (v := (-6)) dX6_dayOn_4 (by decide) ?_
  refine BT.icmp_ne (tgt := 13) dX6_dayOn_6 (by decide) (fun c => ?_) (fun c => ?_)
  · have c1 := c
    refine BT.iload_n dX6_dayOn_13 rfl 1 rfl ?_
    refine BT.aload_n dX6_dayOn_14 rfl 0 rfl ?_
    refine BT.getI fl_X6_18 ha0 rfl dX6_dayOn_15 ?_
    refine BT.mmin lk_X6_27 mm_1 mm_2 mm_3 (Nat.le_of_ble_eq_true rfl) dX6_dayOn_18 (by decide) (by decide) (by decide) (by decide) ?_
    exact BT.iret dX6_dayOn_21 rfl (by decide) (by decide) (h.1 c1)
  · have c2 := c
    refine BT.iload_n dX6_dayOn_9 rfl 1 rfl ?_
    refine BT.goto (tgt := 21) dX6_dayOn_10 (by decide) ?_
    exact BT.iret dX6_dayOn_21 rfl (by decide) (by decide) (h.2 c2)

theorem t_X6_dayOn {G : GT} {K : Int32 → Mem → Prop} {M : Mem} {a0 : Nat} {v1 : Int32} (ha0 : PieceC a0) (h : K (c_dayOn M.1 a0 v1) M) : T_X6_dayOn G [.ref a0, .int v1] M K := by
  unfold c_dayOn at h
  refine e_X6_dayOn (k_X6_dayOn_0 ha0 ⟨fun c => ?_, fun c => ?_⟩)
  · rwa [if_neg c] at h
  · rwa [if_pos c] at h

/-! BetweenLaws$Piece.begin(II)V -/
abbrev rm_X6_begin : Room := { frames := 0, cells := 0, slots := 0, locals := 0 }
abbrev B_X6_begin (G : GT) (K : Int32 → Mem → Prop) := BT G (Rep G) RX6 "begin" cX6_begin 3 none rm_X6_begin K 0 0
abbrev T_X6_begin (G : GT) (as : List Value) (M : Mem) (K : Int32 → Mem → Prop) : Prop := MT G (Rep G) yX6_begin cX6_begin 3 none rm_X6_begin as M K
theorem e_X6_begin {G : GT} {K : Int32 → Mem → Prop} {M : Mem} {a0 : Nat} {v1 : Int32} {v2 : Int32} (h : B_X6_begin G K 0 [(0, .ref a0), (1, .int v1), (2, .int v2)] [] M) : T_X6_begin G [.ref a0, .int v1, .int v2] M K := MT.of (by decide +kernel) rfl rfl (Nat.le_of_ble_eq_true rfl) rfl h
set_option maxRecDepth 4000 in
theorem k_X6_begin_0 {G : GT} {K : Int32 → Mem → Prop} {M : Mem} {a0 : Nat} {v1 : Int32} {v2 : Int32} (ha0 : PieceC a0) (h : K 0 (m_i (m_i (m_i (m_i (m_i M a0 0 v1) a0 1 (-6)) a0 2 (-6)) a0 3 v2) a0 4 (-6))) : B_X6_begin G K 0 [(0, .ref a0), (1, .int v1), (2, .int v2)] [] M := by
  refine BT.aload_n dX6_begin_0 rfl 0 rfl ?_
  refine BT.iload_n dX6_begin_1 rfl 1 rfl ?_
  refine BT.putI fl_X6_9 ft_6_0 ha0 rfl dX6_begin_2 ?_
  refine BT.aload_n dX6_begin_5 rfl 0 rfl ?_
  refine BT.bipush (v := (-6)) dX6_begin_6 (by decide) ?_
  refine BT.putI fl_X6_15 ft_6_1 ha0 rfl dX6_begin_8 ?_
  refine BT.aload_n dX6_begin_11 rfl 0 rfl ?_
  refine BT.bipush (v := (-6)) dX6_begin_12 (by decide) ?_
  refine BT.putI fl_X6_18 ft_6_2 ha0 rfl dX6_begin_14 ?_
  refine BT.aload_n dX6_begin_17 rfl 0 rfl ?_
  refine BT.iload_n dX6_begin_18 rfl 2 rfl ?_
  refine BT.putI fl_X6_21 ft_6_3 ha0 rfl dX6_begin_19 ?_
  refine BT.aload_n dX6_begin_22 rfl 0 rfl ?_
  refine BT.bipush (v := (-6)) dX6_begin_23 (by decide) ?_
  refine BT.putI fl_X6_24 ft_6_4 ha0 rfl dX6_begin_25 ?_
  exact BT.vret dX6_begin_28 rfl (by decide) (by decide) h

theorem t_X6_begin {G : GT} {K : Int32 → Mem → Prop} {M : Mem} {a0 : Nat} {v1 v2 : Int32} (ha0 : PieceC a0) (h : K 0 (c_begin M a0 v1 v2)) : T_X6_begin G [.ref a0, .int v1, .int v2] M K := e_X6_begin (k_X6_begin_0 ha0 h)

/-! BetweenLaws$World.hasLaw(I)Z -/
abbrev rm_X9_hasLaw : Room := { frames := 0, cells := 0, slots := 0, locals := 0 }
abbrev B_X9_hasLaw (G : GT) (K : Int32 → Mem → Prop) := BT G (Rep G) RX9 "hasLaw" cX9_hasLaw 2 (some .boolean) rm_X9_hasLaw K 0 0
abbrev T_X9_hasLaw (G : GT) (as : List Value) (M : Mem) (K : Int32 → Mem → Prop) : Prop := MT G (Rep G) yX9_hasLaw cX9_hasLaw 2 (some .boolean) rm_X9_hasLaw as M K
theorem e_X9_hasLaw {G : GT} {K : Int32 → Mem → Prop} {M : Mem} {v1 : Int32} (h : B_X9_hasLaw G K 0 [(0, .ref 8), (1, .int v1)] [] M) : T_X9_hasLaw G [.ref 8, .int v1] M K := MT.of (by decide +kernel) rfl rfl (Nat.le_of_ble_eq_true rfl) rfl h
set_option maxRecDepth 4000 in
theorem k_X9_hasLaw_0 {G : GT} {K : Int32 → Mem → Prop} {M : Mem} {v1 : Int32} (h : (v1 < 0 → K 0 M) ∧ (¬ v1 < 0 → ((M.1 8 1) ≤ v1 → K 0 M) ∧ (¬ (M.1 8 1) ≤ v1 → K 1 M))) : B_X9_hasLaw G K 0 [(0, .ref 8), (1, .int v1)] [] M := by
  refine BT.iload_n dX9_hasLaw_0 rfl 1 rfl ?_
  refine BT.if_lt (tgt := 16) dX9_hasLaw_1 (by decide) (fun c => ?_) (fun c => ?_)
  · have c1 := c
    refine BT.iconst (v := 0) dX9_hasLaw_16 (by decide) ?_
    exact BT.zret dX9_hasLaw_17 rfl (by decide) (by decide) (nar01 ((Or.inl rfl))) (h.1 c1)
  · have c2 := c
    refine BT.iload_n dX9_hasLaw_4 rfl 1 rfl ?_
    refine BT.aload_n dX9_hasLaw_5 rfl 0 rfl ?_
    refine BT.getI fl_X9_29 ho_8 rfl dX9_hasLaw_6 ?_
    refine BT.icmp_ge (tgt := 16) dX9_hasLaw_9 (by decide) (fun c => ?_) (fun c => ?_)
    · have c3 := c
      refine BT.iconst (v := 0) dX9_hasLaw_16 (by decide) ?_
      exact BT.zret dX9_hasLaw_17 rfl (by decide) (by decide) (nar01 ((Or.inl rfl))) ((h.2 c2).1 c3)
    · have c4 := c
      refine BT.iconst (v := 1) dX9_hasLaw_12 (by decide) ?_
      refine BT.goto (tgt := 17) dX9_hasLaw_13 (by decide) ?_
      exact BT.zret dX9_hasLaw_17 rfl (by decide) (by decide) (nar01 ((Or.inr rfl))) ((h.2 c2).2 c4)

theorem t_X9_hasLaw {G : GT} {K : Int32 → Mem → Prop} {M : Mem} {v1 : Int32} (h : K (bi ((0 : Int32) ≤ v1 ∧ v1 < M.1 8 1)) M) : T_X9_hasLaw G [.ref 8, .int v1] M K := by
  obtain ⟨h1, h0⟩ := bi_K h
  refine e_X9_hasLaw (k_X9_hasLaw_0 ?_)
  simp only [i_le, i_lt] at *
  grind

/-! BetweenLaws$World.hasPiece(I)Z -/
abbrev rm_X9_hasPiece : Room := { frames := 0, cells := 0, slots := 0, locals := 0 }
abbrev B_X9_hasPiece (G : GT) (K : Int32 → Mem → Prop) := BT G (Rep G) RX9 "hasPiece" cX9_hasPiece 2 (some .boolean) rm_X9_hasPiece K 0 0
abbrev T_X9_hasPiece (G : GT) (as : List Value) (M : Mem) (K : Int32 → Mem → Prop) : Prop := MT G (Rep G) yX9_hasPiece cX9_hasPiece 2 (some .boolean) rm_X9_hasPiece as M K
theorem e_X9_hasPiece {G : GT} {K : Int32 → Mem → Prop} {M : Mem} {v1 : Int32} (h : B_X9_hasPiece G K 0 [(0, .ref 8), (1, .int v1)] [] M) : T_X9_hasPiece G [.ref 8, .int v1] M K := MT.of (by decide +kernel) rfl rfl (Nat.le_of_ble_eq_true rfl) rfl h
set_option maxRecDepth 4000 in
theorem k_X9_hasPiece_0 {G : GT} {K : Int32 → Mem → Prop} {M : Mem} {v1 : Int32} (h : (v1 < 0 → K 0 M) ∧ (¬ v1 < 0 → ((M.1 8 4) ≤ v1 → K 0 M) ∧ (¬ (M.1 8 4) ≤ v1 → K 1 M))) : B_X9_hasPiece G K 0 [(0, .ref 8), (1, .int v1)] [] M := by
  refine BT.iload_n dX9_hasPiece_0 rfl 1 rfl ?_
  refine BT.if_lt (tgt := 16) dX9_hasPiece_1 (by decide) (fun c => ?_) (fun c => ?_)
  · have c1 := c
    refine BT.iconst (v := 0) dX9_hasPiece_16 (by decide) ?_
    exact BT.zret dX9_hasPiece_17 rfl (by decide) (by decide) (nar01 ((Or.inl rfl))) (h.1 c1)
  · have c2 := c
    refine BT.iload_n dX9_hasPiece_4 rfl 1 rfl ?_
    refine BT.aload_n dX9_hasPiece_5 rfl 0 rfl ?_
    refine BT.getI fl_X9_33 ho_8 rfl dX9_hasPiece_6 ?_
    refine BT.icmp_ge (tgt := 16) dX9_hasPiece_9 (by decide) (fun c => ?_) (fun c => ?_)
    · have c3 := c
      refine BT.iconst (v := 0) dX9_hasPiece_16 (by decide) ?_
      exact BT.zret dX9_hasPiece_17 rfl (by decide) (by decide) (nar01 ((Or.inl rfl))) ((h.2 c2).1 c3)
    · have c4 := c
      refine BT.iconst (v := 1) dX9_hasPiece_12 (by decide) ?_
      refine BT.goto (tgt := 17) dX9_hasPiece_13 (by decide) ?_
      exact BT.zret dX9_hasPiece_17 rfl (by decide) (by decide) (nar01 ((Or.inr rfl))) ((h.2 c2).2 c4)

theorem t_X9_hasPiece {G : GT} {K : Int32 → Mem → Prop} {M : Mem} {v1 : Int32} (h : K (bi ((0 : Int32) ≤ v1 ∧ v1 < M.1 8 4)) M) : T_X9_hasPiece G [.ref 8, .int v1] M K := by
  obtain ⟨h1, h0⟩ := bi_K h
  refine e_X9_hasPiece (k_X9_hasPiece_0 ?_)
  simp only [i_le, i_lt] at *
  grind

/-! BetweenLaws$Pad.isOneOf(IIII)Z -/
abbrev rm_X5_isOneOf : Room := { frames := 0, cells := 0, slots := 0, locals := 0 }
abbrev B_X5_isOneOf (G : GT) (K : Int32 → Mem → Prop) := BT G (Rep G) RX5 "isOneOf" cX5_isOneOf 4 (some .boolean) rm_X5_isOneOf K 0 0
abbrev T_X5_isOneOf (G : GT) (as : List Value) (M : Mem) (K : Int32 → Mem → Prop) : Prop := MT G (Rep G) yX5_isOneOf cX5_isOneOf 4 (some .boolean) rm_X5_isOneOf as M K
theorem e_X5_isOneOf {G : GT} {K : Int32 → Mem → Prop} {M : Mem} {v0 : Int32} {v1 : Int32} {v2 : Int32} {v3 : Int32} (h : B_X5_isOneOf G K 0 [(0, .int v0), (1, .int v1), (2, .int v2), (3, .int v3)] [] M) : T_X5_isOneOf G [.int v0, .int v1, .int v2, .int v3] M K := MT.of (by decide +kernel) rfl rfl (Nat.le_of_ble_eq_true rfl) rfl h
set_option maxRecDepth 4000 in
theorem k_X5_isOneOf_0 {G : GT} {K : Int32 → Mem → Prop} {M : Mem} {v0 : Int32} {v1 : Int32} {v2 : Int32} {v3 : Int32} (h : (v0 = v1 → K 1 M) ∧ (¬ v0 = v1 → (v0 = v2 → K 1 M) ∧ (¬ v0 = v2 → (¬ v0 = v3 → K 0 M) ∧ (v0 = v3 → K 1 M)))) : B_X5_isOneOf G K 0 [(0, .int v0), (1, .int v1), (2, .int v2), (3, .int v3)] [] M := by
  refine BT.iload_n dX5_isOneOf_0 rfl 0 rfl ?_
  refine BT.iload_n dX5_isOneOf_1 rfl 1 rfl ?_
  refine BT.icmp_eq (tgt := 15) dX5_isOneOf_2 (by decide) (fun c => ?_) (fun c => ?_)
  · have c1 := c
    refine BT.iconst (v := 1) dX5_isOneOf_15 (by decide) ?_
    refine BT.goto (tgt := 20) dX5_isOneOf_16 (by decide) ?_
    exact BT.zret dX5_isOneOf_20 rfl (by decide) (by decide) (nar01 ((Or.inr rfl))) (h.1 c1)
  · have c2 := c
    refine BT.iload_n dX5_isOneOf_5 rfl 0 rfl ?_
    refine BT.iload_n dX5_isOneOf_6 rfl 2 rfl ?_
    refine BT.icmp_eq (tgt := 15) dX5_isOneOf_7 (by decide) (fun c => ?_) (fun c => ?_)
    · have c3 := c
      refine BT.iconst (v := 1) dX5_isOneOf_15 (by decide) ?_
      refine BT.goto (tgt := 20) dX5_isOneOf_16 (by decide) ?_
      exact BT.zret dX5_isOneOf_20 rfl (by decide) (by decide) (nar01 ((Or.inr rfl))) ((h.2 c2).1 c3)
    · have c4 := c
      refine BT.iload_n dX5_isOneOf_10 rfl 0 rfl ?_
      refine BT.iload_n dX5_isOneOf_11 rfl 3 rfl ?_
      refine BT.icmp_ne (tgt := 19) dX5_isOneOf_12 (by decide) (fun c => ?_) (fun c => ?_)
      · have c5 := c
        refine BT.iconst (v := 0) dX5_isOneOf_19 (by decide) ?_
        exact BT.zret dX5_isOneOf_20 rfl (by decide) (by decide) (nar01 ((Or.inl rfl))) (((h.2 c2).2 c4).1 c5)
      · have c6 := c
        refine BT.iconst (v := 1) dX5_isOneOf_15 (by decide) ?_
        refine BT.goto (tgt := 20) dX5_isOneOf_16 (by decide) ?_
        exact BT.zret dX5_isOneOf_20 rfl (by decide) (by decide) (nar01 ((Or.inr rfl))) (((h.2 c2).2 c4).2 c6)

theorem t_X5_isOneOf {G : GT} {K : Int32 → Mem → Prop} {M : Mem} {v0 v1 v2 v3 : Int32} (h : K (bi (v0 = v1 ∨ v0 = v2 ∨ v0 = v3)) M) : T_X5_isOneOf G [.int v0, .int v1, .int v2, .int v3] M K := by
  obtain ⟨h1, h0⟩ := bi_K h
  refine e_X5_isOneOf (k_X5_isOneOf_0 ?_)
  grind

