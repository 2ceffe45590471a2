/-! ===== 45.kinds ===== -/
/-! ===== kinds of answers ===== -/
theorem l_or {x y : Int64} : l_N (x ||| y) = l_N x ||| l_N y := by
  unfold l_N
  rw [Int64.toBitVec_or, BitVec.toNat_or]
theorem l_shl1 : ∀ q, q < 64 → l_N ((1 : Int64) <<< (Int32.toInt64 (nI q) &&& 63)) = 2 ^ q := by decide +kernel
/-- the answer of the place k is there -/
def aBit (s : Int64 × Int64) (k : Nat) : Prop := if k = 100 then (l_N s.1).testBit 0 = true else if k = 101 then (l_N s.1).testBit 1 = true else if k < 62 then (l_N s.1).testBit (k + 2) = true else (l_N s.2).testBit (k - 62) = true
def aHi (s : Int64 × Int64) : Prop := ∀ i, 38 ≤ i → ¬ (l_N s.2).testBit i = true
theorem tb_or {x : Int64} {q i : Nat} (hq : q < 64) : (l_N (x ||| ((1 : Int64) <<< (Int32.toInt64 (nI q) &&& 63)))).testBit i = true ↔ (l_N x).testBit i = true ∨ i = q := by
  rw [l_or, l_shl1 q hq, Nat.testBit_or, Nat.testBit_two_pow, Bool.or_eq_true, decide_eq_true_iff]
  exact ⟨fun h => h.imp id Eq.symm, fun h => h.imp id Eq.symm⟩
theorem z_idx_lt {v : Int32} (h : AnsO v) : z_idx v < 102 := by
  unfold z_idx
  rcases h with rfl | rfl | ⟨g, hg, rfl⟩
  · decide
  · decide
  · rw [if_neg (nI_n6 (by omega)), if_neg (fun q => absurd (nI_pos' (n := g) (by omega)) (by rw [q]; decide)), ix_nI (by omega)]
    omega
theorem aBit_put {s : Int64 × Int64} {v : Int32} (h : AnsO v) {k : Nat} (hk : k < 102) : aBit (a_put s v) k ↔ aBit s k ∨ k = z_idx v := by
  unfold a_put z_idx
  rcases h with rfl | rfl | ⟨g, hg, rfl⟩
  · rw [sel_t rfl, if_pos rfl]
    have t : ∀ i, (l_N (s.1 ||| ((1 : Int64) <<< (Int32.toInt64 0 &&& 63)))).testBit i = true ↔ (l_N s.1).testBit i = true ∨ i = 0 := fun i => tb_or (q := 0) (by decide)
    unfold aBit
    dsimp only
    by_cases c1 : k = 100
    · rw [if_pos c1, if_pos c1, t]; exact ⟨fun _ => Or.inr c1, fun _ => Or.inr rfl⟩
    · rw [if_neg c1, if_neg c1]
      by_cases c2 : k = 101
      · rw [if_pos c2, if_pos c2, t]; exact ⟨fun q => q.imp id (fun z => by omega), fun q => q.imp id (fun z => by omega)⟩
      · rw [if_neg c2, if_neg c2]
        by_cases c3 : k < 62
        · rw [if_pos c3, if_pos c3, t]; exact ⟨fun q => q.imp id (fun z => by omega), fun q => q.imp id (fun z => by omega)⟩
        · rw [if_neg c3, if_neg c3]; exact ⟨Or.inl, fun q => q.elim id (fun z => by omega)⟩
  · rw [sel_f (by decide), sel_t rfl, if_neg (by decide), if_pos rfl]
    have t : ∀ i, (l_N (s.1 ||| ((1 : Int64) <<< (Int32.toInt64 1 &&& 63)))).testBit i = true ↔ (l_N s.1).testBit i = true ∨ i = 1 := fun i => tb_or (q := 1) (by decide)
    unfold aBit
    dsimp only
    by_cases c1 : k = 100
    · rw [if_pos c1, if_pos c1, t]; exact ⟨fun q => q.imp id (fun z => by omega), fun q => q.imp id (fun z => by omega)⟩
    · rw [if_neg c1, if_neg c1]
      by_cases c2 : k = 101
      · rw [if_pos c2, if_pos c2, t]; exact ⟨fun _ => Or.inr c2, fun _ => Or.inr rfl⟩
      · rw [if_neg c2, if_neg c2]
        by_cases c3 : k < 62
        · rw [if_pos c3, if_pos c3, t]; exact ⟨fun q => q.imp id (fun z => by omega), fun q => q.imp id (fun z => by omega)⟩
        · rw [if_neg c3, if_neg c3]; exact ⟨Or.inl, fun q => q.elim id (fun z => by omega)⟩
  · have n6 : ¬ nI g = -6 := nI_n6 (by omega)
    have n3 : ¬ nI g = -3 := fun q => absurd (nI_pos' (n := g) (by omega)) (by rw [q]; decide)
    rw [sel_f n6, sel_f n3, if_neg n6, if_neg n3, ix_nI (by omega)]
    have e2 : nI g + 2 = nI (g + 2) := nI_add g 2
    rw [e2]
    by_cases c64 : (64 : Int32) ≤ nI (g + 2)
    · rw [sel_t c64]
      have h64 : 64 ≤ g + 2 := (nI_leI (a := 64) (by decide) (by omega)).mp c64
      have es : nI (g + 2) - 64 = nI (g - 62) := by
        rw [show g + 2 = (g - 62) + 64 by omega, ← nI_add]
        exact Int32.add_sub_cancel _ _
      rw [es]
      have t : ∀ i, (l_N (s.2 ||| ((1 : Int64) <<< (Int32.toInt64 (nI (g - 62)) &&& 63)))).testBit i = true ↔ (l_N s.2).testBit i = true ∨ i = g - 62 := fun i => tb_or (by omega)
      unfold aBit
      dsimp only
      by_cases c1 : k = 100
      · rw [if_pos c1, if_pos c1]; exact ⟨Or.inl, fun q => q.elim id (fun z => by omega)⟩
      · rw [if_neg c1, if_neg c1]
        by_cases c2 : k = 101
        · rw [if_pos c2, if_pos c2]; exact ⟨Or.inl, fun q => q.elim id (fun z => by omega)⟩
        · rw [if_neg c2, if_neg c2]
          by_cases c3 : k < 62
          · rw [if_pos c3, if_pos c3]; exact ⟨Or.inl, fun q => q.elim id (fun z => by omega)⟩
          · rw [if_neg c3, if_neg c3, t]; exact ⟨fun q => q.imp id (fun z => by omega), fun q => q.imp id (fun z => by omega)⟩
    · rw [sel_f c64]
      have h64 : ¬ 64 ≤ g + 2 := fun q => c64 ((nI_leI (a := 64) (by decide) (by omega)).mpr q)
      have t : ∀ i, (l_N (s.1 ||| ((1 : Int64) <<< (Int32.toInt64 (nI (g + 2)) &&& 63)))).testBit i = true ↔ (l_N s.1).testBit i = true ∨ i = g + 2 := fun i => tb_or (by omega)
      unfold aBit
      dsimp only
      by_cases c1 : k = 100
      · rw [if_pos c1, if_pos c1, t]; exact ⟨fun q => q.imp id (fun z => by omega), fun q => q.imp id (fun z => by omega)⟩
      · rw [if_neg c1, if_neg c1]
        by_cases c2 : k = 101
        · rw [if_pos c2, if_pos c2, t]; exact ⟨fun q => q.imp id (fun z => by omega), fun q => q.imp id (fun z => by omega)⟩
        · rw [if_neg c2, if_neg c2]
          by_cases c3 : k < 62
          · rw [if_pos c3, if_pos c3, t]; exact ⟨fun q => q.imp id (fun z => by omega), fun q => q.imp id (fun z => by omega)⟩
          · rw [if_neg c3, if_neg c3]; exact ⟨Or.inl, fun q => q.elim id (fun z => by omega)⟩
theorem aHi_put {s : Int64 × Int64} {v : Int32} (h : AnsO v) (hs : aHi s) : aHi (a_put s v) := by
  unfold a_put
  rcases h with rfl | rfl | ⟨g, hg, rfl⟩
  · rw [sel_t rfl]; exact hs
  · rw [sel_f (by decide), sel_t rfl]; exact hs
  · have n6 : ¬ nI g = -6 := nI_n6 (by omega)
    have n3 : ¬ nI g = -3 := fun q => absurd (nI_pos' (n := g) (by omega)) (by rw [q]; decide)
    rw [sel_f n6, sel_f n3]
    have e2 : nI g + 2 = nI (g + 2) := nI_add g 2
    rw [e2]
    by_cases c64 : (64 : Int32) ≤ nI (g + 2)
    · rw [sel_t c64]
      have h64 : 64 ≤ g + 2 := (nI_leI (a := 64) (by decide) (by omega)).mp c64
      have es : nI (g + 2) - 64 = nI (g - 62) := by
        rw [show g + 2 = (g - 62) + 64 by omega, ← nI_add]
        exact Int32.add_sub_cancel _ _
      rw [es]
      intro i hi
      show ¬ (l_N (s.2 ||| ((1 : Int64) <<< (Int32.toInt64 (nI (g - 62)) &&& 63)))).testBit i = true
      rw [tb_or (by omega)]
      rintro (q | q)
      · exact hs i hi q
      · omega
    · rw [sel_f c64]; exact hs
theorem cnt_pcn {Z : WT} {x a : Nat} : ∀ n, (∀ k, k < n → (¬ Z 195 (a + k) = 0 ↔ x.testBit k = true)) → z_cnt Z (a + n) = z_cnt Z a + pcn x n
  | 0, _ => rfl
  | n + 1, h => by
    have ih := cnt_pcn (Z := Z) (x := x) (a := a) n (fun k hk => h k (by omega))
    have hn := h n (by omega)
    show z_cnt Z (a + n) + sel (Z 195 (a + n) = 0) 0 1 = z_cnt Z a + (pcn x n + (if x.testBit n then 1 else 0))
    rw [ih]
    by_cases c : Z 195 (a + n) = 0
    · rw [sel_t c, if_neg (fun q => (hn.mpr q) c)]; omega
    · rw [sel_f c, if_pos (hn.mp c)]; omega
theorem pcn_0 {x : Nat} : ∀ n, (∀ i, i < n → ¬ x.testBit i = true) → pcn x n = 0
  | 0, _ => rfl
  | n + 1, h => by
    unfold pcn
    rw [pcn_0 n (fun i hi => h i (by omega)), if_neg (h n (by omega))]
theorem a_count {s : Int64 × Int64} {Z : WT} (hh : aHi s) (h : ∀ k, k < 102 → (¬ Z 195 k = 0 ↔ aBit s k)) : nI (z_cnt Z 102) = a_two s := by
  unfold a_two
  rw [l_bc_pcn, l_bc_pcn, nI_add]
  congr 1
  have c1 := cnt_pcn (Z := Z) (x := l_N s.1 / 2 ^ 2) (a := 0) 62 (fun k hk => by
    rw [Nat.zero_add, h k (by omega), Nat.testBit_div_two_pow]
    unfold aBit
    rw [if_neg (by omega), if_neg (by omega), if_pos hk])
  have c2 := cnt_pcn (Z := Z) (x := l_N s.2) (a := 62) 38 (fun k hk => by
    rw [h (62 + k) (by omega)]
    unfold aBit
    rw [if_neg (by omega), if_neg (by omega), if_neg (by omega), show 62 + k - 62 = k by omega])
  have c3 := cnt_pcn (Z := Z) (x := l_N s.1) (a := 100) 2 (fun k hk => by
    rw [h (100 + k) (by omega)]
    unfold aBit
    by_cases e : k = 0
    · subst e; rw [if_pos rfl]
    · have e : k = 1 := by omega
      subst e; rw [if_neg (by decide), if_pos rfl])
  have d1 := pcn_add (l_N s.1) 2 62
  have d2 := pcn_add (l_N s.2) 38 26
  have d3 : pcn (l_N s.2 / 2 ^ 38) 26 = 0 := pcn_0 26 (fun i hi => by
    rw [Nat.testBit_div_two_pow]
    exact hh _ (by omega))
  have z0 : z_cnt Z 0 = 0 := rfl
  rw [show (102 : Nat) = 100 + 2 from rfl, c3, show (100 : Nat) = 62 + 38 from rfl, c2, show (62 : Nat) = 0 + 62 from rfl, c1, z0, show (64 : Nat) = 2 + 62 from rfl, d1, show (2 + 62 : Nat) = 38 + 26 from rfl, d2, d3]
  omega
theorem aBit_0 {k : Nat} : ¬ aBit (0, 0) k := by
  have e : l_N 0 = 0 := rfl
  unfold aBit
  dsimp only
  rw [e]
  simp
theorem aHi_0 : aHi (0, 0) := by
  intro i _
  show ¬ (l_N 0).testBit i = true
  rw [show l_N 0 = 0 from rfl]
  simp

