/-! ===== 55.text1 ===== -/
/-! ===== the text: an automaton over its signs, and what it lays ===== -/
abbrev QT : Type := Int32 × Int32 × Int32 × Int32 × Int32
abbrev dgB (c : Int32) : Prop := (48 : Int32) ≤ c ∧ c ≤ 57
abbrev lwB (c : Int32) : Prop := (48 : Int32) ≤ c ∧ c ≤ 55
abbrev mkB (c : Int32) : Prop := (97 : Int32) ≤ c ∧ c ≤ 101
abbrev tmB (c : Int32) : Prop := c = 110 ∨ c = 104 ∨ c = 97
abbrev wyB (c : Int32) : Prop := c = 99 ∨ c = 98 ∨ c = 108
def q_gift (c : Int32) (q : QT) : QT := if c = 124 ∧ q.2.1 < 6 then (0, q.2.1 + 1, -1, q.2.2.2) else if c = 47 then (8, q.2) else (-1, q.2)
def q_word (c : Int32) (q : QT) : QT :=
  if tmB c ∧ q.2.2.2.2 < 1 then (9, q.2.1, q.2.2.1, c, 1)
  else if c = 119 ∧ q.2.2.2.2 < 2 then (12, q.2.1, q.2.2.1, q.2.2.2.1, 2)
  else if c = 116 ∧ q.2.2.2.2 < 3 then (13, q.2.1, q.2.2.1, q.2.2.2.1, 3)
  else if c = 117 then (18, q.2.1, q.2.2.1, q.2.2.2.1, 3) else (-1, q.2)
def q_step (q : QT) (c : Int32) : QT :=
  if q.1 = 0 then (if mkB c ∧ q.2.2.1 < c - 97 then (1, q.2.1, c - 97, q.2.2.2) else if c = 42 then (2, q.2) else (-1, q.2))
  else if q.1 = 1 then (if mkB c ∧ q.2.2.1 < c - 97 then (1, q.2.1, c - 97, q.2.2.2) else if c = 58 then (3, q.2) else (-1, q.2))
  else if q.1 = 2 then (if c = 58 then (3, q.2) else (-1, q.2))
  else if q.1 = 3 then (if dgB c then (4, q.2) else if c = 64 then (6, q.2) else (-1, q.2))
  else if q.1 = 4 then (if dgB c then (5, q.2) else q_gift c q)
  else if q.1 = 5 then q_gift c q
  else if q.1 = 6 then (if lwB c then (5, q.2) else (-1, q.2))
  else if q.1 = 8 then q_word c q
  else if q.1 = 9 then (if c = 63 then (10, q.2) else if c = 44 then (8, q.2) else (-1, q.2))
  else if q.1 = 10 then (if tmB c ∧ ¬ c = q.2.2.2.1 then (11, q.2) else (-1, q.2))
  else if q.1 = 13 then (if dgB c then (14, q.2) else (-1, q.2))
  else if q.1 = 14 then (if dgB c then (15, q.2) else if wyB c then (16, q.2.1, q.2.2.1, c, q.2.2.2.2) else (-1, q.2.1, q.2.2.1, c, q.2.2.2.2))
  else if q.1 = 15 then (if wyB c then (16, q.2.1, q.2.2.1, c, q.2.2.2.2) else (-1, q.2.1, q.2.2.1, c, q.2.2.2.2))
  else if q.1 = 16 then (if c = 63 then (17, q.2) else if c = 44 then (8, q.2) else (-1, q.2))
  else if q.1 = 17 then (if wyB c ∧ ¬ c = q.2.2.2.1 then (19, q.2) else (-1, q.2))
  else if q.1 = 18 then (if lwB c then (20, q.2) else (-1, q.2))
  else (if c = 44 then (8, q.2) else (-1, q.2))
def q_whole (s : Int32) : Prop := s = 4 ∨ s = 5 ∨ s = 9 ∨ s = 11 ∨ s = 12 ∨ s = 16 ∨ s = 19 ∨ s = 20
def q_at (sg : Nat → Int32) (l0 : Int32) : Nat → QT
  | 0 => (0, 1, -1, l0, 0)
  | i + 1 => q_step (q_at sg l0 i) (sg i)
theorem q_s0 {p : Int32 × Int32 × Int32 × Int32} {c : Int32} : q_step (0, p) c = if mkB c ∧ p.2.1 < c - 97 then (1, p.1, c - 97, p.2.2) else if c = 42 then (2, p) else (-1, p) := rfl
theorem q_s1 {p : Int32 × Int32 × Int32 × Int32} {c : Int32} : q_step (1, p) c = if mkB c ∧ p.2.1 < c - 97 then (1, p.1, c - 97, p.2.2) else if c = 58 then (3, p) else (-1, p) := rfl
theorem q_s2 {p : Int32 × Int32 × Int32 × Int32} {c : Int32} : q_step (2, p) c = if c = 58 then (3, p) else (-1, p) := rfl
theorem q_s3 {p : Int32 × Int32 × Int32 × Int32} {c : Int32} : q_step (3, p) c = if dgB c then (4, p) else if c = 64 then (6, p) else (-1, p) := rfl
theorem q_s4 {p : Int32 × Int32 × Int32 × Int32} {c : Int32} : q_step (4, p) c = if dgB c then (5, p) else q_gift c (4, p) := rfl
theorem q_s5 {p : Int32 × Int32 × Int32 × Int32} {c : Int32} : q_step (5, p) c = q_gift c (5, p) := rfl
theorem q_s6 {p : Int32 × Int32 × Int32 × Int32} {c : Int32} : q_step (6, p) c = if lwB c then (5, p) else (-1, p) := rfl
theorem q_s8 {p : Int32 × Int32 × Int32 × Int32} {c : Int32} : q_step (8, p) c = q_word c (8, p) := rfl
theorem q_s9 {p : Int32 × Int32 × Int32 × Int32} {c : Int32} : q_step (9, p) c = if c = 63 then (10, p) else if c = 44 then (8, p) else (-1, p) := rfl
theorem q_s10 {p : Int32 × Int32 × Int32 × Int32} {c : Int32} : q_step (10, p) c = if tmB c ∧ ¬ c = p.2.2.1 then (11, p) else (-1, p) := rfl
theorem q_s11 {p : Int32 × Int32 × Int32 × Int32} {c : Int32} : q_step (11, p) c = if c = 44 then (8, p) else (-1, p) := rfl
theorem q_s12 {p : Int32 × Int32 × Int32 × Int32} {c : Int32} : q_step (12, p) c = if c = 44 then (8, p) else (-1, p) := rfl
theorem q_s13 {p : Int32 × Int32 × Int32 × Int32} {c : Int32} : q_step (13, p) c = if dgB c then (14, p) else (-1, p) := rfl
theorem q_s14 {p : Int32 × Int32 × Int32 × Int32} {c : Int32} : q_step (14, p) c = if dgB c then (15, p) else if wyB c then (16, p.1, p.2.1, c, p.2.2.2) else (-1, p.1, p.2.1, c, p.2.2.2) := rfl
theorem q_s15 {p : Int32 × Int32 × Int32 × Int32} {c : Int32} : q_step (15, p) c = if wyB c then (16, p.1, p.2.1, c, p.2.2.2) else (-1, p.1, p.2.1, c, p.2.2.2) := rfl
theorem q_s16 {p : Int32 × Int32 × Int32 × Int32} {c : Int32} : q_step (16, p) c = if c = 63 then (17, p) else if c = 44 then (8, p) else (-1, p) := rfl
theorem q_s17 {p : Int32 × Int32 × Int32 × Int32} {c : Int32} : q_step (17, p) c = if wyB c ∧ ¬ c = p.2.2.1 then (19, p) else (-1, p) := rfl
theorem q_s18 {p : Int32 × Int32 × Int32 × Int32} {c : Int32} : q_step (18, p) c = if lwB c then (20, p) else (-1, p) := rfl
theorem q_s19 {p : Int32 × Int32 × Int32 × Int32} {c : Int32} : q_step (19, p) c = if c = 44 then (8, p) else (-1, p) := rfl
theorem q_s20 {p : Int32 × Int32 × Int32 × Int32} {c : Int32} : q_step (20, p) c = if c = 44 then (8, p) else (-1, p) := rfl
theorem q_end (q : QT) : (q_step q (-1)).1 = -1 := by
  have a1 : ¬ mkB (-1) := by decide
  have a2 : ¬ dgB (-1) := by decide
  have a3 : ¬ lwB (-1) := by decide
  have a4 : ¬ tmB (-1) := by decide
  have a5 : ¬ wyB (-1) := by decide
  have g : (q_gift (-1) q).1 = -1 := by
    unfold q_gift
    rw [if_neg (fun z => absurd z.1 (by decide)), if_neg (by decide)]
  have w : (q_word (-1) q).1 = -1 := by
    unfold q_word
    rw [if_neg (fun z => a4 z.1), if_neg (fun z => absurd z.1 (by decide)), if_neg (fun z => absurd z.1 (by decide)), if_neg (by decide)]
  unfold q_step
  have m : ¬ (mkB (-1) ∧ q.2.2.1 < -1 - 97) := fun z => a1 z.1
  have t : ¬ (tmB (-1) ∧ ¬ (-1 : Int32) = q.2.2.2.1) := fun z => a4 z.1
  have y : ¬ (wyB (-1) ∧ ¬ (-1 : Int32) = q.2.2.2.1) := fun z => a5 z.1
  simp only [if_neg m, if_neg t, if_neg y, if_neg a2, if_neg a3, if_neg a5, if_neg (show ¬ (-1 : Int32) = 42 by decide), if_neg (show ¬ (-1 : Int32) = 58 by decide), if_neg (show ¬ (-1 : Int32) = 64 by decide), if_neg (show ¬ (-1 : Int32) = 63 by decide), if_neg (show ¬ (-1 : Int32) = 44 by decide)]
  simp only [apply_ite Prod.fst, g, w, ite_self]
/-- what the text lays: cases, their marks and gifts, marks that are told so far; the words -/
abbrev WdT : Type := Int32 × Int32 × Int32 × Int32 × Int32 × Int32 × Int32
abbrev TT : Type := (Nat × (Nat → Int32) × (Nat → Int32) × Int32) × WdT
def t_put (f : Nat → Int32) (k : Nat) (v : Int32) : Nat → Int32 := fun j => if j = k then v else f j
theorem t_put_at {f : Nat → Int32} {k : Nat} {v : Int32} : t_put f k v k = v := if_pos rfl
theorem t_put_ne {f : Nat → Int32} {k j : Nat} {v : Int32} (h : ¬ j = k) : t_put f k v j = f j := if_neg h
def t_word (w : WdT) (s c : Int32) : WdT :=
  if s = 9 then (c, w.2)
  else if s = 11 then (w.1, c, w.2.2)
  else if s = 12 then (w.1, w.2.1, 1, w.2.2.2)
  else if s = 14 then (w.1, w.2.1, w.2.2.1, c - 48, w.2.2.2.2)
  else if s = 15 then (w.1, w.2.1, w.2.2.1, 10 * w.2.2.2.1 + c - 48, w.2.2.2.2)
  else if s = 16 then (w.1, w.2.1, w.2.2.1, w.2.2.2.1, c, w.2.2.2.2.2)
  else if s = 19 then (w.1, w.2.1, w.2.2.1, w.2.2.2.1, w.2.2.2.2.1, c, w.2.2.2.2.2.2)
  else if s = 20 then (w.1, w.2.1, w.2.2.1, w.2.2.2.1, w.2.2.2.2.1, w.2.2.2.2.2.1, w.2.2.2.2.2.2 ||| ((1 : Int32) <<< ((c - 48) &&& 31)))
  else w
def t_step (T : TT) (was s c : Int32) : TT :=
  if s = 1 then ((T.1.1, T.1.2.1, T.1.2.2.1, T.1.2.2.2 ||| ((1 : Int32) <<< ((c - 97) &&& 31))), T.2)
  else if s = 3 then ((T.1.1, t_put T.1.2.1 T.1.1 T.1.2.2.2, t_put T.1.2.2.1 T.1.1 0, 0), T.2)
  else if s = 6 then ((T.1.1, T.1.2.1, t_put T.1.2.2.1 T.1.1 100, T.1.2.2.2), T.2)
  else if s = 4 ∨ s = 5 then ((T.1.1, T.1.2.1, t_put T.1.2.2.1 T.1.1 (if was = 6 then 100 + c - 48 else 10 * T.1.2.2.1 T.1.1 + c - 48), T.1.2.2.2), T.2)
  else if c = 124 ∨ c = 47 then ((T.1.1 + 1, T.1.2), T.2)
  else (T.1, t_word T.2 s c)
def w_0 : WdT := (110, -6, 0, -6, -6, -6, 0)
def t_at (sg : Nat → Int32) (l0 : Int32) (cm cg : Nat → Int32) : Nat → TT
  | 0 => ((0, cm, cg, 0), w_0)
  | i + 1 => t_step (t_at sg l0 cm cg i) (q_at sg l0 i).1 (q_at sg l0 (i + 1)).1 (sg i)
/-! ===== the class's pad ===== -/
def pd_nx (Z : WT) : Int32 := if Z 1 2 < Z 1 1 then Z 2 (Int32.toNatClampNeg (Z 1 2)) else -1
def pd_adv (M : Mem) : Mem := m_i M 1 2 (M.1 1 2 + 1)
def PdOk (M : Mem) : Prop := ∃ n i, n ≤ 60 ∧ i ≤ n ∧ M.1 1 1 = nI n ∧ M.1 1 2 = nI i
theorem PdOk.adv {M : Mem} (h : PdOk M) (hc : 0 ≤ pd_nx M.1) : PdOk (pd_adv M) := by
  obtain ⟨n, i, hn, hi, e1, e2⟩ := h
  have hlt : i < n := by
    refine Classical.byContradiction fun q => ?_
    have : ¬ M.1 1 2 < M.1 1 1 := by
      rw [e1, e2, nI_ltI (by omega) (by omega)]; exact q
    unfold pd_nx at hc
    rw [if_neg this] at hc
    exact absurd hc (by decide)
  refine ⟨n, i + 1, hn, hlt, ?_, ?_⟩
  · unfold pd_adv; rw [m_i_ne (by omega), e1]
  · unfold pd_adv; rw [m_i_at, e2, nI_1]
theorem pd_adv_off {M : Mem} {c : Nat} (h : ¬ c = 1) : (pd_adv M).1 c = M.1 c := mi_off h
def PdDig (M N : Mem) (x r : Int32) : Prop := ((0 ≤ pd_nx M.1 - 48 ∧ pd_nx M.1 - 48 ≤ x) ∧ r = pd_nx M.1 - 48 ∧ N = pd_adv M) ∨ (¬ (0 ≤ pd_nx M.1 - 48 ∧ pd_nx M.1 - 48 ≤ x) ∧ r = -6 ∧ N = M)
theorem dg_of {c : Int32} {m : Nat} (hm : m < 10) : (0 ≤ c - 48 ∧ c - 48 ≤ nI m) ↔ ∃ d, d ≤ m ∧ c = nI (48 + d) := by
  constructor
  · rintro ⟨h0, h1⟩
    obtain ⟨d, hd, ed⟩ := i_nat (x := c - 48) (N := m + 1) (by omega) h0 (Int32.lt_of_le_of_lt h1 (nI_lt (by omega) (by omega)))
    refine ⟨d, by omega, ?_⟩
    have : c = (c - 48) + 48 := (Int32.sub_add_cancel c 48).symm
    rw [this, ed, show (48 : Int32) = nI 48 from rfl, nI_add, Nat.add_comm]
  · rintro ⟨d, hd, rfl⟩
    have : nI (48 + d) - 48 = nI d := by
      rw [Nat.add_comm, ← nI_add]
      exact Int32.add_sub_cancel _ _
    rw [this]
    exact ⟨nI_pos' (by omega), nI_le hd (by omega)⟩
theorem dg_is {c : Int32} {m : Nat} (hm : m < 10) : ((48 : Int32) ≤ c ∧ c ≤ nI (48 + m)) ↔ ∃ d, d ≤ m ∧ c = nI (48 + d) := by
  constructor
  · rintro ⟨h0, h1⟩
    obtain ⟨j, hj, rfl⟩ := i_nat (x := c) (N := 48 + m + 1) (by omega) (Int32.le_trans (by decide) h0) (Int32.lt_of_le_of_lt h1 (nI_lt (by omega) (by omega)))
    have : 48 ≤ j := (nI_leI (a := 48) (by omega) (by omega)).mp h0
    exact ⟨j - 48, by omega, by rw [show 48 + (j - 48) = j by omega]⟩
  · rintro ⟨d, hd, rfl⟩
    exact ⟨nI_le (a := 48) (by omega) (by omega), nI_le (by omega) (by omega)⟩
theorem dgB_is {c : Int32} : dgB c ↔ ∃ d, d < 10 ∧ c = nI (48 + d) := by
  rw [show dgB c = ((48 : Int32) ≤ c ∧ c ≤ nI (48 + 9)) from rfl, dg_is (by omega)]
  exact ⟨fun ⟨d, h, e⟩ => ⟨d, by omega, e⟩, fun ⟨d, h, e⟩ => ⟨d, by omega, e⟩⟩
theorem lwB_is {c : Int32} : lwB c ↔ ∃ d, d < 8 ∧ c = nI (48 + d) := by
  rw [show lwB c = ((48 : Int32) ≤ c ∧ c ≤ nI (48 + 7)) from rfl, dg_is (by omega)]
  exact ⟨fun ⟨d, h, e⟩ => ⟨d, by omega, e⟩, fun ⟨d, h, e⟩ => ⟨d, by omega, e⟩⟩
theorem PdDig.is {M N : Mem} {m : Nat} {x r : Int32} (hm : m < 10) (hx : x = nI m) (h : PdDig M N x r) : (∃ d, d ≤ m ∧ pd_nx M.1 = nI (48 + d) ∧ r = nI d ∧ N = pd_adv M) ∨ ((¬ ∃ d, d ≤ m ∧ pd_nx M.1 = nI (48 + d)) ∧ r = -6 ∧ N = M) := by
  subst hx
  unfold PdDig at h
  rw [dg_of hm] at h
  rcases h with ⟨⟨d, hd, ed⟩, er, eN⟩ | h
  · refine Or.inl ⟨d, hd, ed, ?_, eN⟩
    rw [er, ed, Nat.add_comm, ← nI_add]
    exact Int32.add_sub_cancel _ _
  · exact Or.inr h
def PdNum (M N : Mem) (r : Int32) : Prop := (r = -6 ∧ N = M ∧ ¬ dgB (pd_nx M.1)) ∨ (∃ d, d < 10 ∧ pd_nx M.1 = nI (48 + d) ∧ ((∃ e, e < 10 ∧ pd_nx (pd_adv M).1 = nI (48 + e) ∧ r = nI (10 * d + e) ∧ N = pd_adv (pd_adv M)) ∨ (¬ dgB (pd_nx (pd_adv M).1) ∧ r = nI d ∧ N = pd_adv M)))
def PdLaw (M N : Mem) (r : Int32) : Prop := (∃ d, d < 8 ∧ pd_nx M.1 = nI (48 + d) ∧ r = nI (100 + d) ∧ N = pd_adv M) ∨ (¬ lwB (pd_nx M.1) ∧ r = -6 ∧ N = M)

/-! BetweenLaws$Pad.next()I -/
abbrev rm_X5_next : Room := { frames := 0, cells := 0, slots := 0, locals := 0 }
abbrev B_X5_next (G : GT) (K : Int32 → Mem → Prop) := BT G (Rep G) RX5 "next" cX5_next 1 (some .int) rm_X5_next K 0 0
abbrev T_X5_next (G : GT) (as : List Value) (M : Mem) (K : Int32 → Mem → Prop) : Prop := MT G (Rep G) yX5_next cX5_next 1 (some .int) rm_X5_next as M K
theorem e_X5_next {G : GT} {K : Int32 → Mem → Prop} {M : Mem}  (h : B_X5_next G K 0 [(0, .ref 1)] [] M) : T_X5_next G [.ref 1] M K := MT.of (by decide +kernel) rfl rfl (Nat.le_of_ble_eq_true rfl) rfl h
set_option maxRecDepth 4000 in
theorem k_X5_next_0 {G : GT} {K : Int32 → Mem → Prop} {M : Mem}  (h : ((M.1 1 1) ≤ (M.1 1 2) → K (-1) M) ∧ (¬ (M.1 1 1) ≤ (M.1 1 2) → (vp_in (M.1 1 2) 60) ∧ K (M.1 2 (Int32.toNatClampNeg (M.1 1 2))) M)) : B_X5_next G K 0 [(0, .ref 1)] [] M := by
  refine BT.aload_n dX5_next_0 rfl 0 rfl ?_
  refine BT.getI fl_X5_24 ho_1 rfl dX5_next_1 ?_
  refine BT.aload_n dX5_next_4 rfl 0 rfl ?_
  refine BT.getI fl_X5_15 ho_1 rfl dX5_next_5 ?_
  refine BT.icmp_ge (tgt := 23) dX5_next_8 (by decide) (fun c => ?_) (fun c => ?_)
  · have c1 := c
    refine BT.iconst (v := (-1)) dX5_next_23 (by decide) ?_
    exact BT.iret dX5_next_24 rfl (by decide) (by decide) (h.1 c1)
  · have c2 := c
    refine BT.aload_n dX5_next_11 rfl 0 rfl ?_
    refine BT.getR (r := 2) fl_X5_9 ho_1 rfl dX5_next_12 ?_
    refine BT.aload_n dX5_next_15 rfl 0 rfl ?_
    refine BT.getI fl_X5_24 ho_1 rfl dX5_next_16 ?_
    refine BT.iald ha_2 (h.2 c2).1 dX5_next_19 ?_
    refine BT.goto (tgt := 24) dX5_next_20 (by decide) ?_
    exact BT.iret dX5_next_24 rfl (by decide) (by decide) (h.2 c2).2

theorem t_X5_next {G : GT} {K : Int32 → Mem → Prop} {M : Mem} (hp : PdOk M) (h : K (pd_nx M.1) M) : T_X5_next G [.ref 1] M K := by
  obtain ⟨n, i, hn, hi, e1, e2⟩ := hp
  refine e_X5_next (k_X5_next_0 ⟨fun c => ?_, fun c => ⟨?_, ?_⟩⟩)
  · unfold pd_nx at h
    rw [if_neg (Int32.not_lt.mpr c)] at h; exact h
  · rw [e1, e2, nI_leI (by omega) (by omega)] at c
    rw [e2]; exact vp_nI (by omega) (by decide)
  · unfold pd_nx at h
    rw [if_pos (Int32.not_le.mp c)] at h; exact h

/-! BetweenLaws$Pad.takes(I)Z -/
abbrev rm_X5_takes : Room := { frames := 1, cells := 0, slots := 0, locals := 20 }
abbrev B_X5_takes (G : GT) (K : Int32 → Mem → Prop) := BT G (Rep G) RX5 "takes" cX5_takes 2 (some .boolean) rm_X5_takes K 0 0
abbrev T_X5_takes (G : GT) (as : List Value) (M : Mem) (K : Int32 → Mem → Prop) : Prop := MT G (Rep G) yX5_takes cX5_takes 2 (some .boolean) rm_X5_takes as M K
theorem e_X5_takes {G : GT} {K : Int32 → Mem → Prop} {M : Mem} {v1 : Int32} (h : B_X5_takes G K 0 [(0, .ref 1), (1, .int v1)] [] M) : T_X5_takes G [.ref 1, .int v1] M K := MT.of (by decide +kernel) rfl rfl (Nat.le_of_ble_eq_true rfl) rfl h
set_option maxRecDepth 4000 in
theorem k_X5_takes_0 {G : GT} {K : Int32 → Mem → Prop} {M : Mem} {v1 : Int32} (h : (PdOk M) ∧ (∀ r1 : Int32, r1 = (pd_nx M.1) → (r1 = v1 → K 1 (m_i M 1 2 ((M.1 1 2) + 1))) ∧ (¬ r1 = v1 → K 0 M))) : B_X5_takes G K 0 [(0, .ref 1), (1, .int v1)] [] M := by
  refine BT.aload_n dX5_takes_0 rfl 0 rfl ?_
  refine BT.mcVr [] (t_X5_next h.1 ⟨rfl, rfl⟩) mb_X5_next mv_X5_next lk_X5_62 rfl (by decide) rfl (recvRep ho_1 rfl) (Nat.le_of_ble_eq_true rfl) dX5_takes_1 (fun r1 e1 => ?_)
  show B_X5_takes G K 4 [(0, .ref 1), (1, .int v1)] [.int r1] M
  refine BT.iload_n dX5_takes_4 rfl 1 rfl ?_
  refine BT.icmp_eq (tgt := 10) dX5_takes_5 (by decide) (fun c => ?_) (fun c => ?_)
  · have c2 := c
    refine BT.aload_n dX5_takes_10 rfl 0 rfl ?_
    refine BT.dup dX5_takes_11 rfl ?_
    refine BT.getI fl_X5_24 ho_1 rfl dX5_takes_12 ?_
    refine BT.iconst (v := 1) dX5_takes_15 (by decide) ?_
    refine BT.iadd dX5_takes_16 ?_
    refine BT.putI fl_X5_24 ft_5_2 ho_1 rfl dX5_takes_17 ?_
    refine BT.iconst (v := 1) dX5_takes_20 (by decide) ?_
    exact BT.zret dX5_takes_21 rfl (by decide) (by decide) (nar01 ((Or.inr rfl))) ((h.2 r1 e1).1 c2)
  · have c3 := c
    refine BT.iconst (v := 0) dX5_takes_8 (by decide) ?_
    exact BT.zret dX5_takes_9 rfl (by decide) (by decide) (nar01 ((Or.inl rfl))) ((h.2 r1 e1).2 c3)

theorem t_X5_takes {G : GT} {K : Int32 → Mem → Prop} {M : Mem} {v1 : Int32} (hp : PdOk M) (h : ∀ (r : Int32) (N : Mem), ((r = 1 ∧ pd_nx M.1 = v1 ∧ N = pd_adv M) ∨ (r = 0 ∧ ¬ pd_nx M.1 = v1 ∧ N = M)) → K r N) : T_X5_takes G [.ref 1, .int v1] M K :=
  e_X5_takes (k_X5_takes_0 ⟨hp, fun r e => ⟨fun c => h _ _ (Or.inl ⟨rfl, e.symm.trans c, rfl⟩), fun c => h _ _ (Or.inr ⟨rfl, fun z => c (e.trans z), rfl⟩)⟩⟩)

/-! BetweenLaws$Pad.readDigit(I)I -/
abbrev rm_X5_readDigit : Room := { frames := 1, cells := 0, slots := 0, locals := 22 }
abbrev B_X5_readDigit (G : GT) (K : Int32 → Mem → Prop) := BT G (Rep G) RX5 "readDigit" cX5_readDigit 3 (some .int) rm_X5_readDigit K 0 0
abbrev T_X5_readDigit (G : GT) (as : List Value) (M : Mem) (K : Int32 → Mem → Prop) : Prop := MT G (Rep G) yX5_readDigit cX5_readDigit 3 (some .int) rm_X5_readDigit as M K
theorem e_X5_readDigit {G : GT} {K : Int32 → Mem → Prop} {M : Mem} {v1 : Int32} (h : B_X5_readDigit G K 0 [(0, .ref 1), (1, .int v1)] [] M) : T_X5_readDigit G [.ref 1, .int v1] M K := MT.of (by decide +kernel) rfl rfl (Nat.le_of_ble_eq_true rfl) rfl h
set_option maxRecDepth 4000 in
theorem k_X5_readDigit_0 {G : GT} {K : Int32 → Mem → Prop} {M : Mem} {v1 : Int32} (h : (PdOk M) ∧ (∀ r1 : Int32, r1 = (pd_nx M.1) → ((0 ≤ (r1 - 48) ∧ (r1 - 48) ≤ v1) → K (r1 - 48) (m_i M 1 2 ((M.1 1 2) + 1))) ∧ (¬ (0 ≤ (r1 - 48) ∧ (r1 - 48) ≤ v1) → K (-6) M))) : B_X5_readDigit G K 0 [(0, .ref 1), (1, .int v1)] [] M := by
  refine BT.aload_n dX5_readDigit_0 rfl 0 rfl ?_
  refine BT.mcVr [] (t_X5_next h.1 ⟨rfl, rfl⟩) mb_X5_next mv_X5_next lk_X5_62 rfl (by decide) rfl (recvRep ho_1 rfl) (Nat.le_of_ble_eq_true rfl) dX5_readDigit_1 (fun r1 e1 => ?_)
  show B_X5_readDigit G K 4 [(0, .ref 1), (1, .int v1)] [.int r1] M
  refine BT.bipush (v := 48) dX5_readDigit_4 (by decide) ?_
  refine BT.isub dX5_readDigit_6 ?_
  refine BT.istore_n (L' := [(2, .int (r1 - 48)), (0, .ref 1), (1, .int v1)]) dX5_readDigit_7 rfl (by decide) rfl ?_
  refine BT.iload_n dX5_readDigit_8 rfl 0 rfl ?_
  refine BT.iconst (v := 0) dX5_readDigit_9 (by decide) ?_
  refine BT.iload_n dX5_readDigit_10 rfl 2 rfl ?_
  refine BT.mcSN [.int (r1 - 48), .int 0, .int v1] (t_X10_within  ?_) mb_X10_within ms_X10_within lk_X5_65 rfl (by decide) rfl (Nat.le_of_ble_eq_true rfl) dX5_readDigit_11
  show B_X5_readDigit G K 14 [(2, .int (r1 - 48)), (0, .ref 1), (1, .int v1)] [.int (bi (0 ≤ (r1 - 48) ∧ (r1 - 48) ≤ v1))] M
  refine BT.if_ne (tgt := 20) dX5_readDigit_14 (by decide) (fun c => ?_) (fun c => ?_)
  · have c3 := bi_ne0.mp c
    refine BT.aload_n dX5_readDigit_20 rfl 1 rfl ?_
    refine BT.dup dX5_readDigit_21 rfl ?_
    refine BT.getI fl_X5_24 ho_1 rfl dX5_readDigit_22 ?_
    refine BT.iconst (v := 1) dX5_readDigit_25 (by decide) ?_
    refine BT.iadd dX5_readDigit_26 ?_
    refine BT.putI fl_X5_24 ft_5_2 ho_1 rfl dX5_readDigit_27 ?_
    refine BT.iload_n dX5_readDigit_30 rfl 0 rfl ?_
    exact BT.iret dX5_readDigit_31 rfl (by decide) (by decide) ((h.2 r1 e1).1 c3)
  · have c4 := bi_eq0.mp c
    refine BT.bipush (v := (-6)) dX5_readDigit_17 (by decide) ?_
    exact BT.iret dX5_readDigit_19 rfl (by decide) (by decide) ((h.2 r1 e1).2 c4)

theorem t_X5_readDigit {G : GT} {K : Int32 → Mem → Prop} {M : Mem} {v1 : Int32} (hp : PdOk M) (h : ∀ (r : Int32) (N : Mem), PdDig M N v1 r → K r N) : T_X5_readDigit G [.ref 1, .int v1] M K :=
  e_X5_readDigit (k_X5_readDigit_0 ⟨hp, fun r e => by subst e; exact ⟨fun c => h _ _ (Or.inl ⟨c, rfl, rfl⟩), fun c => h _ _ (Or.inr ⟨c, rfl, rfl⟩)⟩⟩)

/-! BetweenLaws$Pad.readNumber()I -/
abbrev rm_X5_readNumber : Room := { frames := 2, cells := 0, slots := 0, locals := 44 }
abbrev B_X5_readNumber (G : GT) (K : Int32 → Mem → Prop) := BT G (Rep G) RX5 "readNumber" cX5_readNumber 3 (some .int) rm_X5_readNumber K 0 0
abbrev T_X5_readNumber (G : GT) (as : List Value) (M : Mem) (K : Int32 → Mem → Prop) : Prop := MT G (Rep G) yX5_readNumber cX5_readNumber 3 (some .int) rm_X5_readNumber as M K
theorem e_X5_readNumber {G : GT} {K : Int32 → Mem → Prop} {M : Mem}  (h : B_X5_readNumber G K 0 [(0, .ref 1)] [] M) : T_X5_readNumber G [.ref 1] M K := MT.of (by decide +kernel) rfl rfl (Nat.le_of_ble_eq_true rfl) rfl h
set_option maxRecDepth 4000 in
theorem k_X5_readNumber_0 {G : GT} {K : Int32 → Mem → Prop} {M : Mem}  (h : (PdOk M) ∧ (∀ (r1 : Int32) (N1 : Mem), (PdDig M N1 9 r1) → (¬ r1 = (-6) → (PdOk N1) ∧ (∀ (r4 : Int32) (N4 : Mem), (PdDig N1 N4 9 r4) → (¬ r4 = (-6) → K (((10 : Int32) * r1) + r4) N4) ∧ (r4 = (-6) → K r1 N4))) ∧ (r1 = (-6) → K (-6) N1))) : B_X5_readNumber G K 0 [(0, .ref 1)] [] M := by
  refine BT.aload_n dX5_readNumber_0 rfl 0 rfl ?_
  refine BT.bipush (v := 9) dX5_readNumber_1 (by decide) ?_
  refine BT.mcV [.int 9] (t_X5_readDigit h.1 (fun r1 N1 g1 => ?_)) mb_X5_readDigit mv_X5_readDigit lk_X5_58 rfl (by decide) rfl (recvRep ho_1 rfl) (Nat.le_of_ble_eq_true rfl) dX5_readNumber_3
  show B_X5_readNumber G K 6 [(0, .ref 1)] [.int r1] N1
  refine BT.istore_n (L' := [(1, .int r1), (0, .ref 1)]) dX5_readNumber_6 rfl (by decide) rfl ?_
  refine BT.iload_n dX5_readNumber_7 rfl 0 rfl ?_
  refine BT.bipush (v := (-6)) dX5_readNumber_8 (by decide) ?_
  refine BT.icmp_ne (tgt := 16) dX5_readNumber_10 (by decide) (fun c => ?_) (fun c => ?_)
  · have c2 := c
    refine BT.aload_n dX5_readNumber_16 rfl 1 rfl ?_
    refine BT.bipush (v := 9) dX5_readNumber_17 (by decide) ?_
    refine BT.mcV [.int 9] (t_X5_readDigit ((h.2 r1 N1 g1).1 c2).1 (fun r4 N4 g4 => ?_)) mb_X5_readDigit mv_X5_readDigit lk_X5_58 rfl (by decide) rfl (recvRep ho_1 rfl) (Nat.le_of_ble_eq_true rfl) dX5_readNumber_19
    show B_X5_readNumber G K 22 [(1, .int r1), (0, .ref 1)] [.int r4] N4
    refine BT.istore_n (L' := [(2, .int r4), (1, .int r1), (0, .ref 1)]) dX5_readNumber_22 rfl (by decide) rfl ?_
    refine BT.iload_n dX5_readNumber_23 rfl 0 rfl ?_
    refine BT.bipush (v := (-6)) dX5_readNumber_24 (by decide) ?_
    refine BT.icmp_ne (tgt := 33) dX5_readNumber_26 (by decide) (fun c => ?_) (fun c => ?_)
    · have c5 := c
      refine BT.bipush (v := 10) dX5_readNumber_33 (by decide) ?_
      refine BT.iload_n dX5_readNumber_35 rfl 1 rfl ?_
      refine BT.imul dX5_readNumber_36 ?_
      refine BT.iload_n dX5_readNumber_37 rfl 0 rfl ?_
      refine BT.iadd dX5_readNumber_38 ?_
      exact BT.iret dX5_readNumber_39 rfl (by decide) (by decide) ((((h.2 r1 N1 g1).1 c2).2 r4 N4 g4).1 c5)
    · have c6 := c
      refine BT.iload_n dX5_readNumber_29 rfl 1 rfl ?_
      refine BT.goto (tgt := 39) dX5_readNumber_30 (by decide) ?_
      exact BT.iret dX5_readNumber_39 rfl (by decide) (by decide) ((((h.2 r1 N1 g1).1 c2).2 r4 N4 g4).2 c6)
  · have c3 := c
    refine BT.bipush (v := (-6)) dX5_readNumber_13 (by decide) ?_
    exact BT.iret dX5_readNumber_15 rfl (by decide) (by decide) ((h.2 r1 N1 g1).2 c3)

theorem t_X5_readNumber {G : GT} {K : Int32 → Mem → Prop} {M : Mem} (hp : PdOk M) (h : ∀ (r : Int32) (N : Mem), PdNum M N r → K r N) : T_X5_readNumber G [.ref 1] M K := by
  refine e_X5_readNumber (k_X5_readNumber_0 ⟨hp, fun r1 N1 g1 => ?_⟩)
  rcases g1.is (m := 9) (by omega) rfl with ⟨d, hd, ed, rfl, rfl⟩ | ⟨nd, rfl, rfl⟩
  · have hp1 : PdOk (pd_adv M) := hp.adv (by rw [ed]; exact nI_pos' (by omega))
    refine ⟨fun _ => ⟨hp1, fun r4 N4 g4 => ?_⟩, fun c => absurd c (nI_n6 (by omega))⟩
    rcases g4.is (m := 9) (by omega) rfl with ⟨e, he, ee, rfl, rfl⟩ | ⟨nd, rfl, rfl⟩
    · refine ⟨fun _ => ?_, fun c => absurd c (nI_n6 (by omega))⟩
      rw [show (10 : Int32) = nI 10 from rfl, nI_mul, nI_add]
      exact h _ _ (Or.inr ⟨d, by omega, ed, Or.inl ⟨e, by omega, ee, rfl, rfl⟩⟩)
    · refine ⟨fun c => absurd rfl c, fun _ => h _ _ (Or.inr ⟨d, by omega, ed, Or.inr ⟨fun q => ?_, rfl, rfl⟩⟩)⟩
      obtain ⟨e, he, ee⟩ := dgB_is.mp q
      exact nd ⟨e, by omega, ee⟩
  · refine ⟨fun c => absurd rfl c, fun _ => h _ _ (Or.inl ⟨rfl, rfl, fun q => ?_⟩)⟩
    obtain ⟨e, he, ee⟩ := dgB_is.mp q
    exact nd ⟨e, by omega, ee⟩

/-! BetweenLaws$Pad.readLawNumber()I -/
abbrev rm_X5_readLawNumber : Room := { frames := 2, cells := 0, slots := 0, locals := 44 }
abbrev B_X5_readLawNumber (G : GT) (K : Int32 → Mem → Prop) := BT G (Rep G) RX5 "readLawNumber" cX5_readLawNumber 2 (some .int) rm_X5_readLawNumber K 0 0
abbrev T_X5_readLawNumber (G : GT) (as : List Value) (M : Mem) (K : Int32 → Mem → Prop) : Prop := MT G (Rep G) yX5_readLawNumber cX5_readLawNumber 2 (some .int) rm_X5_readLawNumber as M K
theorem e_X5_readLawNumber {G : GT} {K : Int32 → Mem → Prop} {M : Mem}  (h : B_X5_readLawNumber G K 0 [(0, .ref 1)] [] M) : T_X5_readLawNumber G [.ref 1] M K := MT.of (by decide +kernel) rfl rfl (Nat.le_of_ble_eq_true rfl) rfl h
set_option maxRecDepth 4000 in
theorem k_X5_readLawNumber_0 {G : GT} {K : Int32 → Mem → Prop} {M : Mem}  (h : (PdOk M) ∧ (∀ (r1 : Int32) (N1 : Mem), (PdDig M N1 7 r1) → (¬ r1 = (-6) → K ((100 : Int32) + r1) N1) ∧ (r1 = (-6) → K (-6) N1))) : B_X5_readLawNumber G K 0 [(0, .ref 1)] [] M := by
  refine BT.aload_n dX5_readLawNumber_0 rfl 0 rfl ?_
  refine BT.bipush (v := 7) dX5_readLawNumber_1 (by decide) ?_
  refine BT.mcV [.int 7] (t_X5_readDigit h.1 (fun r1 N1 g1 => ?_)) mb_X5_readDigit mv_X5_readDigit lk_X5_58 rfl (by decide) rfl (recvRep ho_1 rfl) (Nat.le_of_ble_eq_true rfl) dX5_readLawNumber_3
  show B_X5_readLawNumber G K 6 [(0, .ref 1)] [.int r1] N1
  refine BT.istore_n (L' := [(1, .int r1), (0, .ref 1)]) dX5_readLawNumber_6 rfl (by decide) rfl ?_
  refine BT.iload_n dX5_readLawNumber_7 rfl 0 rfl ?_
  refine BT.bipush (v := (-6)) dX5_readLawNumber_8 (by decide) ?_
  refine BT.icmp_ne (tgt := 18) dX5_readLawNumber_10 (by decide) (fun c => ?_) (fun c => ?_)
  · have c2 := c
    refine BT.bipush (v := 100) dX5_readLawNumber_18 (by decide) ?_
    refine BT.iload_n dX5_readLawNumber_20 rfl 0 rfl ?_
    refine BT.iadd dX5_readLawNumber_21 ?_
    exact BT.iret dX5_readLawNumber_22 rfl (by decide) (by decide) ((h.2 r1 N1 g1).1 c2)
  · have c3 := c
    refine BT.bipush (v := (-6)) dX5_readLawNumber_13 (by decide) ?_
    refine BT.goto (tgt := 22) dX5_readLawNumber_15 (by decide) ?_
    exact BT.iret dX5_readLawNumber_22 rfl (by decide) (by decide) ((h.2 r1 N1 g1).2 c3)

theorem t_X5_readLawNumber {G : GT} {K : Int32 → Mem → Prop} {M : Mem} (hp : PdOk M) (h : ∀ (r : Int32) (N : Mem), PdLaw M N r → K r N) : T_X5_readLawNumber G [.ref 1] M K := by
  refine e_X5_readLawNumber (k_X5_readLawNumber_0 ⟨hp, fun r1 N1 g1 => ?_⟩)
  rcases g1.is (m := 7) (by omega) rfl with ⟨d, hd, ed, rfl, rfl⟩ | ⟨nd, rfl, rfl⟩
  · refine ⟨fun _ => ?_, fun c => absurd c (nI_n6 (by omega))⟩
    rw [show (100 : Int32) = nI 100 from rfl, nI_add]
    exact h _ _ (Or.inl ⟨d, by omega, ed, rfl, rfl⟩)
  · refine ⟨fun c => absurd rfl c, fun _ => h _ _ (Or.inr ⟨fun q => ?_, rfl, rfl⟩)⟩
    obtain ⟨e, he, ee⟩ := lwB_is.mp q
    exact nd ⟨e, by omega, ee⟩

