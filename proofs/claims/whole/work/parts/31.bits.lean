/-! ===== 31.bits ===== -/
/-! ===== bits ===== -/
def bP (x : Int32) (j : Nat) : Prop := x.toBitVec.getLsbD j = true
theorem bit_1 {x : Int32} {j : Nat} (h : j < 32) : ((x >>> (nI j &&& 31)) &&& 1) = if x.toBitVec.getLsbD j then 1 else 0 := by
  have key : ∀ j, j < 32 → ((nI j &&& 31).toBitVec.smod 32).toNat = j := by decide +kernel
  apply Int32.toBitVec_inj.mp
  rw [Int32.toBitVec_and, Int32.toBitVec_shiftRight]
  show _ &&& 1#32 = _
  rw [BitVec.and_one_eq_setWidth_ofBool_getLsbD, show BitVec.sshiftRight' x.toBitVec ((nI j &&& 31).toBitVec.smod 32) = BitVec.sshiftRight x.toBitVec ((nI j &&& 31).toBitVec.smod 32).toNat from rfl, key j h, BitVec.getLsbD_sshiftRight]
  have h0 : 0 + j < 32 := by omega
  simp only [Nat.add_zero, h, if_true]
  cases x.toBitVec.getLsbD j <;> rfl
theorem bit_is1 {x : Int32} {j : Nat} (h : j < 32) : ((x >>> (nI j &&& 31)) &&& 1) = 1 ↔ bP x j := by
  rw [bit_1 h]; unfold bP
  cases x.toBitVec.getLsbD j <;> decide
theorem bit_is0 {x : Int32} {j : Nat} (h : j < 32) : ((x >>> (nI j &&& 31)) &&& 1) = 0 ↔ ¬ bP x j := by
  rw [bit_1 h]; unfold bP
  cases x.toBitVec.getLsbD j <;> decide
theorem bP_0 {j : Nat} : ¬ bP 0 j := by
  unfold bP
  show ¬ (0#32).getLsbD j = true
  simp
theorem bP_shl {j i : Nat} (hj : j < 32) (hi : i < 32) : bP ((1 : Int32) <<< (nI j &&& 31)) i ↔ i = j := by
  have key : ∀ j, j < 32 → ∀ i, i < 32 → ((1 : Int32) <<< (nI j &&& 31)).toBitVec.getLsbD i = decide (i = j) := by decide +kernel
  unfold bP
  rw [key j hj i hi, decide_eq_true_iff]
theorem bP_or {x y : Int32} {i : Nat} : bP (x ||| y) i ↔ bP x i ∨ bP y i := by
  unfold bP
  rw [Int32.toBitVec_or, BitVec.getLsbD_or, Bool.or_eq_true]
theorem bP_and {x y : Int32} {i : Nat} : bP (x &&& y) i ↔ bP x i ∧ bP y i := by
  unfold bP
  rw [Int32.toBitVec_and, BitVec.getLsbD_and, Bool.and_eq_true]
theorem bP_not {x : Int32} {i : Nat} (hi : i < 32) : bP (x ^^^ (-1)) i ↔ ¬ bP x i := by
  have key : ∀ i, i < 32 → (-1 : Int32).toBitVec.getLsbD i = true := by decide +kernel
  unfold bP
  rw [Int32.toBitVec_xor, BitVec.getLsbD_xor, key i hi]
  cases x.toBitVec.getLsbD i <;> decide
theorem bP_ext {x y : Int32} (h : ∀ i, i < 32 → (bP x i ↔ bP y i)) : x = y := by
  apply Int32.toBitVec_inj.mp
  apply BitVec.eq_of_getLsbD_eq
  intro i hi
  have := h i hi
  unfold bP at this
  revert this
  cases x.toBitVec.getLsbD i <;> cases y.toBitVec.getLsbD i <;> decide
theorem bP_eq0 {x : Int32} : x = 0 ↔ ∀ i, i < 32 → ¬ bP x i := by
  constructor
  · rintro rfl i _; exact bP_0
  · intro h
    exact bP_ext (fun i hi => ⟨fun q => absurd q (h i hi), fun q => absurd q bP_0⟩)
theorem bP_mask {n i : Nat} (hn : n < 32) (hi : i < 32) : bP (((1 : Int32) <<< (nI n &&& 31)) - 1) i ↔ i < n := by
  have key : ∀ n, n < 32 → ∀ i, i < 32 → (((1 : Int32) <<< (nI n &&& 31)) - 1).toBitVec.getLsbD i = decide (i < n) := by decide +kernel
  unfold bP
  rw [key n hn i hi, decide_eq_true_iff]
/-- the set of the numbers below n of which Q holds -/
noncomputable def zset (Q : Nat → Prop) : Nat → Int32
  | 0 => 0
  | l + 1 => sel (Q l) (zset Q l ||| ((1 : Int32) <<< (nI l &&& 31))) (zset Q l)
theorem bP_zset {Q : Nat → Prop} {i : Nat} (hi : i < 32) : ∀ n, n ≤ 32 → (bP (zset Q n) i ↔ i < n ∧ Q i)
  | 0, _ => ⟨fun q => absurd q bP_0, fun q => absurd q.1 (by omega)⟩
  | n + 1, hn => by
    have ih := bP_zset (Q := Q) hi n (by omega)
    unfold zset
    by_cases h : Q n
    · rw [sel_t h, bP_or, bP_shl (by omega) hi, ih]
      constructor
      · rintro (q | q)
        · exact ⟨by omega, q.2⟩
        · subst q; exact ⟨by omega, h⟩
      · rintro ⟨q1, q2⟩
        by_cases e : i = n
        · exact Or.inr e
        · exact Or.inl ⟨by omega, q2⟩
    · rw [sel_f h, ih]
      constructor
      · rintro ⟨q1, q2⟩; exact ⟨by omega, q2⟩
      · rintro ⟨q1, q2⟩
        by_cases e : i = n
        · subst e; exact absurd q2 h
        · exact ⟨by omega, q2⟩
theorem w_force_zset (W : WT) (d : Int32) : ∀ n, w_force W d n = zset (fun l => inF W l d) n
  | 0 => rfl
  | n + 1 => by unfold w_force zset; rw [w_force_zset W d n]
/-- no row of n+1 different numbers below n -/
theorem php : ∀ (n : Nat) (f : Nat → Nat), (∀ i, i < n + 1 → f i < n) → (∀ i j, i < n + 1 → j < n + 1 → f i = f j → i = j) → False
  | 0, f, h, _ => absurd (h 0 (by omega)) (by omega)
  | n + 1, f, h, hi => by
    refine php n (fun i => if f i = n then f (n + 1) else f i) (fun i hin => ?_) (fun i j hin hjn e => ?_)
    · show (if f i = n then f (n + 1) else f i) < n
      by_cases c : f i = n
      · rw [if_pos c]
        have h1 := h (n + 1) (by omega)
        have h2 : ¬ f (n + 1) = n := fun q => absurd (hi i (n + 1) (by omega) (by omega) (c.trans q.symm)) (by omega)
        omega
      · rw [if_neg c]
        have h1 := h i (by omega)
        omega
    · have e : (if f i = n then f (n + 1) else f i) = if f j = n then f (n + 1) else f j := e
      by_cases c : f i = n
      · by_cases c2 : f j = n
        · exact hi i j (by omega) (by omega) (c.trans c2.symm)
        · rw [if_pos c, if_neg c2] at e
          exact absurd (hi (n + 1) j (by omega) (by omega) e) (by omega)
      · by_cases c2 : f j = n
        · rw [if_neg c, if_pos c2] at e
          exact absurd (hi i (n + 1) (by omega) (by omega) e) (by omega)
        · rw [if_neg c, if_neg c2] at e
          exact hi i j (by omega) (by omega) e
theorem php_onto (n : Nat) (f : Nat → Nat) (h : ∀ i, i < n → f i < n) (hi : ∀ i j, i < n → j < n → f i = f j → i = j) : ∀ l, l < n → ∃ i, i < n ∧ f i = l := by
  intro l hl
  refine Classical.byContradiction fun hno => ?_
  cases n with
  | zero => omega
  | succ n =>
    refine php n (fun i => if f i = n then l else f i) (fun i hin => ?_) (fun i j hin hjn e => ?_)
    · show (if f i = n then l else f i) < n
      have hne : ¬ f i = l := fun q => hno ⟨i, hin, q⟩
      have h1 := h i hin
      by_cases c : f i = n
      · rw [if_pos c]; omega
      · rw [if_neg c]; omega
    · have e : (if f i = n then l else f i) = if f j = n then l else f j := e
      by_cases c : f i = n
      · by_cases c2 : f j = n
        · exact hi i j hin hjn (c.trans c2.symm)
        · rw [if_pos c, if_neg c2] at e
          exact absurd ⟨j, hjn, e.symm⟩ hno
      · by_cases c2 : f j = n
        · rw [if_neg c, if_pos c2] at e
          exact absurd ⟨i, hin, e⟩ hno
        · rw [if_neg c, if_neg c2] at e
          exact hi i j hin hjn e
theorem lBefore_irr {W : WT} {a : Nat} : ¬ lBefore W a a := by
  rintro (q | q)
  · exact Int32.lt_irrefl q
  · exact Nat.lt_irrefl _ q.2
theorem lBefore_asym {W : WT} {a b : Nat} (h : lBefore W a b) : ¬ lBefore W b a := by
  intro g
  rcases h with h | h <;> rcases g with g | g
  · exact Int32.lt_irrefl (Int32.lt_trans h g)
  · rw [g.1] at h; exact Int32.lt_irrefl h
  · rw [h.1] at g; exact Int32.lt_irrefl g
  · omega
/-- the order holds each law once -/
theorem LfTo.inj {W : WT} {f : Nat → Int32} {m : Nat} (h : LfTo W f m) {i j : Nat} (hi : i < m) (hj : j < m) (e : f i = f j) : i = j := by
  rcases Nat.lt_trichotomy i j with q | q | q
  · have := h.2 i j q hj
    rw [e] at this
    exact absurd this lBefore_irr
  · exact q
  · have := h.2 j i q hi
    rw [e] at this
    exact absurd this lBefore_irr
theorem LfTo.onto {W : WT} {f : Nat → Int32} {m : Nat} (hm : m < 2 ^ 31) (h : LfTo W f m) {l : Nat} (hl : l < m) : ∃ i, i < m ∧ f i = nI l := by
  have e : ∀ i, i < m → f i = nI (Int32.toNatClampNeg (f i)) ∧ Int32.toNatClampNeg (f i) < m := by
    intro i hi
    obtain ⟨k, hk, q⟩ := h.1 i hi
    rw [q, ix_nI (by omega)]
    exact ⟨rfl, hk⟩
  obtain ⟨i, hi, q⟩ := php_onto m (fun i => Int32.toNatClampNeg (f i)) (fun i hi => (e i hi).2) (fun i j hi hj q => h.inj hi hj (by rw [(e i hi).1, (e j hj).1]; exact congrArg nI q)) l hl
  exact ⟨i, hi, by rw [(e i hi).1]; exact congrArg nI q⟩

