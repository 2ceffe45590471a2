/-! ===== the memory: 199 cells of a fixed shape, their ints and longs ===== -/
abbrev ShT : Type := (Nat × Nat × Nat × Nat) ⊕ (Nat × List Nat)
def shl : List ShT := [
  .inr (10, [3, 5, 10, 62, 167, 169, 171, 172, 173, 175]),
  .inr (5, [4, 0, 0]),
  .inl (0, 60, 0, 0),
  .inr (3, [0, 0, 0, 6, 7, 8, 9, 0, 0, 0, 0, 0, 0, 0, 0]),
  .inl (0, 6, 0, 0),
  .inl (0, 6, 0, 0),
  .inl (0, 32, 0, 0),
  .inl (0, 32, 0, 0),
  .inr (9, [11, 0, 52, 53, 0, 0, 0, 0]),
  .inl (2, 8, 10, 5),
  .inr (3, [0, 0, 0, 13, 14, 15, 16, 0, 0, 0, 0, 0, 0, 0, 0]),
  .inl (0, 6, 0, 0),
  .inl (0, 6, 0, 0),
  .inl (0, 32, 0, 0),
  .inl (0, 32, 0, 0),
  .inr (3, [0, 0, 0, 18, 19, 20, 21, 0, 0, 0, 0, 0, 0, 0, 0]),
  .inl (0, 6, 0, 0),
  .inl (0, 6, 0, 0),
  .inl (0, 32, 0, 0),
  .inl (0, 32, 0, 0),
  .inr (3, [0, 0, 0, 23, 24, 25, 26, 0, 0, 0, 0, 0, 0, 0, 0]),
  .inl (0, 6, 0, 0),
  .inl (0, 6, 0, 0),
  .inl (0, 32, 0, 0),
  .inl (0, 32, 0, 0),
  .inr (3, [0, 0, 0, 28, 29, 30, 31, 0, 0, 0, 0, 0, 0, 0, 0]),
  .inl (0, 6, 0, 0),
  .inl (0, 6, 0, 0),
  .inl (0, 32, 0, 0),
  .inl (0, 32, 0, 0),
  .inr (3, [0, 0, 0, 33, 34, 35, 36, 0, 0, 0, 0, 0, 0, 0, 0]),
  .inl (0, 6, 0, 0),
  .inl (0, 6, 0, 0),
  .inl (0, 32, 0, 0),
  .inl (0, 32, 0, 0),
  .inr (3, [0, 0, 0, 38, 39, 40, 41, 0, 0, 0, 0, 0, 0, 0, 0]),
  .inl (0, 6, 0, 0),
  .inl (0, 6, 0, 0),
  .inl (0, 32, 0, 0),
  .inl (0, 32, 0, 0),
  .inr (3, [0, 0, 0, 43, 44, 45, 46, 0, 0, 0, 0, 0, 0, 0, 0]),
  .inl (0, 6, 0, 0),
  .inl (0, 6, 0, 0),
  .inl (0, 32, 0, 0),
  .inl (0, 32, 0, 0),
  .inr (3, [0, 0, 0, 48, 49, 50, 51, 0, 0, 0, 0, 0, 0, 0, 0]),
  .inl (0, 6, 0, 0),
  .inl (0, 6, 0, 0),
  .inl (0, 32, 0, 0),
  .inl (0, 32, 0, 0),
  .inl (0, 8, 0, 0),
  .inl (3, 8, 52, 1),
  .inr (6, [0, 0, 0, 0, 0]),
  .inr (6, [0, 0, 0, 0, 0]),
  .inr (6, [0, 0, 0, 0, 0]),
  .inr (6, [0, 0, 0, 0, 0]),
  .inr (6, [0, 0, 0, 0, 0]),
  .inr (6, [0, 0, 0, 0, 0]),
  .inr (6, [0, 0, 0, 0, 0]),
  .inr (6, [0, 0, 0, 0, 0]),
  .inl (4, 2, 61, 52),
  .inr (9, [64, 0, 105, 106, 0, 0, 0, 0]),
  .inl (2, 8, 63, 5),
  .inr (3, [0, 0, 0, 66, 67, 68, 69, 0, 0, 0, 0, 0, 0, 0, 0]),
  .inl (0, 6, 0, 0),
  .inl (0, 6, 0, 0),
  .inl (0, 32, 0, 0),
  .inl (0, 32, 0, 0),
  .inr (3, [0, 0, 0, 71, 72, 73, 74, 0, 0, 0, 0, 0, 0, 0, 0]),
  .inl (0, 6, 0, 0),
  .inl (0, 6, 0, 0),
  .inl (0, 32, 0, 0),
  .inl (0, 32, 0, 0),
  .inr (3, [0, 0, 0, 76, 77, 78, 79, 0, 0, 0, 0, 0, 0, 0, 0]),
  .inl (0, 6, 0, 0),
  .inl (0, 6, 0, 0),
  .inl (0, 32, 0, 0),
  .inl (0, 32, 0, 0),
  .inr (3, [0, 0, 0, 81, 82, 83, 84, 0, 0, 0, 0, 0, 0, 0, 0]),
  .inl (0, 6, 0, 0),
  .inl (0, 6, 0, 0),
  .inl (0, 32, 0, 0),
  .inl (0, 32, 0, 0),
  .inr (3, [0, 0, 0, 86, 87, 88, 89, 0, 0, 0, 0, 0, 0, 0, 0]),
  .inl (0, 6, 0, 0),
  .inl (0, 6, 0, 0),
  .inl (0, 32, 0, 0),
  .inl (0, 32, 0, 0),
  .inr (3, [0, 0, 0, 91, 92, 93, 94, 0, 0, 0, 0, 0, 0, 0, 0]),
  .inl (0, 6, 0, 0),
  .inl (0, 6, 0, 0),
  .inl (0, 32, 0, 0),
  .inl (0, 32, 0, 0),
  .inr (3, [0, 0, 0, 96, 97, 98, 99, 0, 0, 0, 0, 0, 0, 0, 0]),
  .inl (0, 6, 0, 0),
  .inl (0, 6, 0, 0),
  .inl (0, 32, 0, 0),
  .inl (0, 32, 0, 0),
  .inr (3, [0, 0, 0, 101, 102, 103, 104, 0, 0, 0, 0, 0, 0, 0, 0]),
  .inl (0, 6, 0, 0),
  .inl (0, 6, 0, 0),
  .inl (0, 32, 0, 0),
  .inl (0, 32, 0, 0),
  .inl (0, 8, 0, 0),
  .inl (3, 8, 105, 1),
  .inr (6, [0, 0, 0, 0, 0]),
  .inr (6, [0, 0, 0, 0, 0]),
  .inr (6, [0, 0, 0, 0, 0]),
  .inr (6, [0, 0, 0, 0, 0]),
  .inr (6, [0, 0, 0, 0, 0]),
  .inr (6, [0, 0, 0, 0, 0]),
  .inr (6, [0, 0, 0, 0, 0]),
  .inr (6, [0, 0, 0, 0, 0]),
  .inr (9, [116, 0, 157, 158, 0, 0, 0, 0]),
  .inl (2, 8, 115, 5),
  .inr (3, [0, 0, 0, 118, 119, 120, 121, 0, 0, 0, 0, 0, 0, 0, 0]),
  .inl (0, 6, 0, 0),
  .inl (0, 6, 0, 0),
  .inl (0, 32, 0, 0),
  .inl (0, 32, 0, 0),
  .inr (3, [0, 0, 0, 123, 124, 125, 126, 0, 0, 0, 0, 0, 0, 0, 0]),
  .inl (0, 6, 0, 0),
  .inl (0, 6, 0, 0),
  .inl (0, 32, 0, 0),
  .inl (0, 32, 0, 0),
  .inr (3, [0, 0, 0, 128, 129, 130, 131, 0, 0, 0, 0, 0, 0, 0, 0]),
  .inl (0, 6, 0, 0),
  .inl (0, 6, 0, 0),
  .inl (0, 32, 0, 0),
  .inl (0, 32, 0, 0),
  .inr (3, [0, 0, 0, 133, 134, 135, 136, 0, 0, 0, 0, 0, 0, 0, 0]),
  .inl (0, 6, 0, 0),
  .inl (0, 6, 0, 0),
  .inl (0, 32, 0, 0),
  .inl (0, 32, 0, 0),
  .inr (3, [0, 0, 0, 138, 139, 140, 141, 0, 0, 0, 0, 0, 0, 0, 0]),
  .inl (0, 6, 0, 0),
  .inl (0, 6, 0, 0),
  .inl (0, 32, 0, 0),
  .inl (0, 32, 0, 0),
  .inr (3, [0, 0, 0, 143, 144, 145, 146, 0, 0, 0, 0, 0, 0, 0, 0]),
  .inl (0, 6, 0, 0),
  .inl (0, 6, 0, 0),
  .inl (0, 32, 0, 0),
  .inl (0, 32, 0, 0),
  .inr (3, [0, 0, 0, 148, 149, 150, 151, 0, 0, 0, 0, 0, 0, 0, 0]),
  .inl (0, 6, 0, 0),
  .inl (0, 6, 0, 0),
  .inl (0, 32, 0, 0),
  .inl (0, 32, 0, 0),
  .inr (3, [0, 0, 0, 153, 154, 155, 156, 0, 0, 0, 0, 0, 0, 0, 0]),
  .inl (0, 6, 0, 0),
  .inl (0, 6, 0, 0),
  .inl (0, 32, 0, 0),
  .inl (0, 32, 0, 0),
  .inl (0, 8, 0, 0),
  .inl (3, 8, 157, 1),
  .inr (6, [0, 0, 0, 0, 0]),
  .inr (6, [0, 0, 0, 0, 0]),
  .inr (6, [0, 0, 0, 0, 0]),
  .inr (6, [0, 0, 0, 0, 0]),
  .inr (6, [0, 0, 0, 0, 0]),
  .inr (6, [0, 0, 0, 0, 0]),
  .inr (6, [0, 0, 0, 0, 0]),
  .inr (6, [0, 0, 0, 0, 0]),
  .inl (1, 2, 0, 0),
  .inr (0, [1, 1]),
  .inr (2, [10, 0, 170, 0]),
  .inl (0, 8, 0, 0),
  .inr (1, [10, 169, 0, 0, 0, 0, 0]),
  .inr (7, [10, 169, 168, 0, 0]),
  .inr (4, [10, 169, 174, 0, 0, 0, 0]),
  .inl (0, 8, 0, 0),
  .inr (8, [10, 169, 168, 176]),
  .inr (6, [0, 0, 0, 0, 0]),
  .inr (11, [178, 0, 0, 0, 0, 0, 179, 180, 181, 182, 183, 184, 185, 186, 187, 188, 189, 190, 0, 0, 0, 191, 192, 193, 194, 195, 0, 0, 0, 0, 0, 196, 0, 0, 0, 0, 197, 198, 199, 200, 0, 0]),
  .inl (0, 60, 0, 0),
  .inl (0, 8, 0, 0),
  .inl (0, 8, 0, 0),
  .inl (0, 8, 0, 0),
  .inl (0, 48, 0, 0),
  .inl (0, 48, 0, 0),
  .inl (0, 8, 0, 0),
  .inl (0, 8, 0, 0),
  .inl (0, 8, 0, 0),
  .inl (0, 8, 0, 0),
  .inl (0, 8, 0, 0),
  .inl (0, 8, 0, 0),
  .inl (0, 8, 0, 0),
  .inl (0, 9, 0, 0),
  .inl (0, 9, 0, 0),
  .inl (0, 9, 0, 0),
  .inl (0, 9, 0, 0),
  .inl (0, 9, 0, 0),
  .inl (0, 8, 0, 0),
  .inl (1, 102, 0, 0),
  .inl (0, 8, 0, 0),
  .inl (0, 800, 0, 0),
  .inl (1, 2, 0, 0)]
def sh (c : Nat) : ShT := shl.getD c (.inr (99, []))
abbrev Mem : Type := (Nat → Nat → Int32) × (Nat → Nat → Int64)
def m_i (M : Mem) (c k : Nat) (v : Int32) : Mem := (fun i j => if i = c ∧ j = k then v else M.1 i j, M.2)
def m_l (M : Mem) (c k : Nat) (v : Int64) : Mem := (M.1, fun i j => if i = c ∧ j = k then v else M.2 i j)
def m_c (M : Mem) (a sp d dp n : Nat) : Mem := (fun i j => if i = d ∧ dp ≤ j ∧ j < dp + n then M.1 a (sp + (j - dp)) else M.1 i j, M.2)
def fv (G : GT) (M : Mem) (c j z : Nat) : Value := match z with
  | 0 => .int (M.1 c j)
  | 1 => .long (M.2 c j)
  | r + 2 => .ref (g_b G + r)
def fl (G : GT) (M : Mem) (c : Nat) (sp : List Nat) : List Value := sp.mapIdx (fun j z => fv G M c j z)
def cellOf (G : GT) (M : Mem) (c : Nat) : va_E := match sh c with
  | .inl (t, n, s, d) => .inl (g_c G t, n, if t < 2 then .inl (M.1 c) else .inr (.inr (.inr (.inr (fun i => some (g_b G + (s + d * i)))))))
  | .inr (ci, sp) => .inr (ci, fl G M c sp)
def PL (b N : Nat) (f : Nat → va_E) : va_W := (List.range N).map (fun k => (b + k, f k))
theorem PL_at {b N : Nat} {f : Nat → va_E} {k : Nat} (h : k < N) : (PL b N f)[k]? = some (b + k, f k) := by
  unfold PL
  rw [List.getElem?_map, List.getElem?_range h]
  rfl
theorem PL_lt {b N : Nat} {f : Nat → va_E} {k : Nat} {q : Nat × va_E} (h : (PL b N f)[k]? = some q) : k < N ∧ q = (b + k, f k) := by
  have hl := (List.getElem?_eq_some_iff.mp h).1
  unfold PL at hl
  rw [List.length_map, List.length_range] at hl
  exact ⟨hl, (Option.some.inj ((PL_at hl).symm.trans h)).symm⟩
theorem PL_D (b N : Nat) (f : Nat → va_E) : va_D (fun q => b ≤ q) (PL b N f) := by
  refine ⟨fun i j p q hi hj h => ?_, fun k q hk => ?_⟩
  · rw [(PL_lt hi).2, (PL_lt hj).2] at h
    exact Nat.add_left_cancel h
  · rw [(PL_lt hk).2]
    exact Nat.le_add_right b k
theorem PL_set {b N : Nat} {f g : Nat → va_E} {k : Nat} {e : va_E} (hk : g k = e) (ho : ∀ j, j ≠ k → g j = f j) : (PL b N f).set k (b + k, e) = PL b N g := by
  apply List.ext_getElem?
  intro j
  rw [List.getElem?_set]
  by_cases hj : k = j
  · subst hj
    rw [if_pos rfl]
    by_cases hl : k < N
    · rw [PL_at hl, if_pos (by unfold PL; rw [List.length_map, List.length_range]; exact hl), hk]
    · rw [if_neg (by unfold PL; rw [List.length_map, List.length_range]; exact hl)]
      unfold PL
      rw [List.getElem?_map, List.getElem?_eq_none (by rw [List.length_range]; omega)]
      rfl
  · rw [if_neg hj]
    by_cases hl : j < N
    · rw [PL_at hl, PL_at hl, ho j (fun e => hj e.symm)]
    · unfold PL
      rw [List.getElem?_map, List.getElem?_map]
      rw [List.getElem?_eq_none (by rw [List.length_range]; omega)]
      rfl
def Rep (G : GT) (M : Mem) (H : Heap) : Prop := va_P (g_D G) vwCl (PL (g_b G) 199 (cellOf G M)) H
abbrev IsO (c ci : Nat) (sp : List Nat) : Prop := c < 199 ∧ sh c = .inr (ci, sp)
abbrev IsA (c t n s d : Nat) : Prop := c < 199 ∧ sh c = .inl (t, n, s, d)
theorem cellOf_O {G : GT} {M : Mem} {c ci : Nat} {sp : List Nat} (h : IsO c ci sp) : cellOf G M c = .inr (ci, fl G M c sp) := by
  unfold cellOf; rw [h.2]
theorem cellOf_A {G : GT} {M : Mem} {c t n s d : Nat} (h : IsA c t n s d) (ht : t < 2) : cellOf G M c = .inl (g_c G t, n, .inl (M.1 c)) := by
  unfold cellOf; rw [h.2]; simp only [if_pos ht]
theorem cellOf_Q {G : GT} {M : Mem} {c t n s d : Nat} (h : IsA c t n s d) (ht : ¬ t < 2) : cellOf G M c = .inl (g_c G t, n, .inr (.inr (.inr (.inr (fun i => some (g_b G + (s + d * i))))))) := by
  unfold cellOf; rw [h.2]; simp only [if_neg ht]
theorem fl_at {G : GT} {M : Mem} {c k z : Nat} {sp : List Nat} (h : sp[k]? = some z) : (fl G M c sp)[k]? = some (fv G M c k z) := by
  unfold fl
  rw [List.getElem?_mapIdx, h]
  rfl
theorem fl_len {G : GT} {M : Mem} {c : Nat} {sp : List Nat} : (fl G M c sp).length = sp.length := by
  unfold fl; exact List.length_mapIdx
theorem fl_set {G : GT} {M M' : Mem} {c k : Nat} {sp : List Nat} {v : Value} (hv : ∀ z, sp[k]? = some z → fv G M' c k z = v) (ho : ∀ j z, j ≠ k → fv G M' c j z = fv G M c j z) : (fl G M c sp).set k v = fl G M' c sp := by
  apply List.ext_getElem?
  intro j
  rw [List.getElem?_set]
  by_cases hj : k = j
  · subst hj
    rw [if_pos rfl]
    unfold fl
    rw [List.length_mapIdx, List.getElem?_mapIdx]
    by_cases hl : k < sp.length
    · rw [if_pos hl]
      obtain ⟨z, hz⟩ : ∃ z, sp[k]? = some z := ⟨_, List.getElem?_eq_getElem hl⟩
      rw [hz]
      exact congrArg some (hv z hz).symm
    · rw [if_neg hl, List.getElem?_eq_none (by omega)]
      rfl
  · rw [if_neg hj]
    unfold fl
    rw [List.getElem?_mapIdx, List.getElem?_mapIdx]
    cases sp[j]? with
    | none => rfl
    | some z => exact congrArg some (ho j z (fun e => hj e.symm)).symm
theorem cellOf_congr {G : GT} {M M' : Mem} {c : Nat} (h1 : M'.1 c = M.1 c) (h2 : M'.2 c = M.2 c) : cellOf G M' c = cellOf G M c := by
  unfold cellOf
  cases hs : sh c with
  | inl q =>
    obtain ⟨t, n, s, d⟩ := q
    simp only [h1]
  | inr q =>
    obtain ⟨ci, sp⟩ := q
    simp only
    congr 2
    unfold fl
    congr 1
    funext j z
    unfold fv
    rw [h1, h2]
/-- the words of a field: how a class's code reads slot k of the objects of kind ci -/
def FL (own : String) (idx ci k : Nat) : Prop := ∃ (C : String) (T : u_T) (N : Nat), vwCl[ci]? = some (C, T, N) ∧ k < N ∧ (∀ w ∈ u_ws C T N, w ∈ aw_ws) ∧ (Cond.fieldLink own idx (T k).1 (T k).2.1 (T k).2.2.1 ∈ aw_ws ∨ ∃ h : String, Cond.fieldLinkNest own idx (T k).1 (T k).2.1 (T k).2.2.1 h ∈ lw_tbl)
def FT (ci k : Nat) (ty : FieldType) (fin : Bool) : Prop := ∃ (C : String) (T : u_T) (N : Nat) (ty0 : Nat → FieldType), vwCl[ci]? = some (C, T, N) ∧ (∀ k, k < N → parseFieldDescriptor (T k).2.2.1 = some (ty0 k)) ∧ (∀ a, a < N → ∀ b, b < N → a ≠ b → (T a).2.1 ≠ (T b).2.1) ∧ (T k).2.2.2 = fin ∧ parseFieldDescriptor (T k).2.2.1 = some ty ∧ (T k).1 = C
section MEM
variable {G : GT} {own nm : String} {b : ByteArray} {n : Nat} {rt : Option FieldType} {rm : Room} {K : Int32 → Mem → Prop} {kc ks pc : Nat} {L : List (Nat × Value)} {S : List Value} {M : Mem}
theorem get_v {c ci k idx : Nat} {sp : List Nat} {z : Nat} {v : Value} (hf : FL own idx ci k) (hsh : IsO c ci sp) (hsp : sp[k]? = some z) (hv : fv G M c k z = aw_v G v) (hd : decode b pc = .ok (.getfield idx, 3)) (kk : BT G (Rep G) own nm b n rt rm K kc ks (pc + 3) L (v :: S) M) : BT G (Rep G) own nm b n rt rm K kc ks pc L (.ref c :: S) M := by
  intro p e s m args below meth cc H locs F hR hS ls hl
  obtain ⟨C, T, N, hc, hk, hin, hl0⟩ := hf
  have hts := F.2.2.2.2.2.1
  have he : (PL (g_b G) 199 (cellOf G M))[c]? = some (g_b G + c, .inr (ci, fl G M c sp)) := by rw [PL_at hsh.1, cellOf_O hsh]
  have hkk := kk p e s m args below meth cc H locs F hR hS ls hl
  have hv2 : (fl G M c sp)[k]? = some (aw_v G v) := by rw [fl_at hsp, hv]
  rcases hl0 with h | ⟨host, h⟩
  · exact va_get F.1 F.2.1 hts hin F.2.2.2.2.1 F.2.2.2.2.2.2.1.1 hR c he hc k hk (hts _ h) (fun _ h => h) hv2 hd hkk
  · exact va_getN F.1 F.2.1 hts hin F.2.2.2.2.1 F.2.2.2.2.2.2.1.1 hR c he hc k hk (va_Nw.use rfl (F.2.2.2.2.2.2.1.2 _ h rfl)) (fun _ h => h) hv2 hd hkk
theorem BT.getI {c ci k idx : Nat} {sp : List Nat} (hf : FL own idx ci k) (hsh : IsO c ci sp) (hsp : sp[k]? = some 0) (hd : decode b pc = .ok (.getfield idx, 3)) (kk : BT G (Rep G) own nm b n rt rm K kc ks (pc + 3) L (.int (M.1 c k) :: S) M) : BT G (Rep G) own nm b n rt rm K kc ks pc L (.ref c :: S) M :=
  get_v hf hsh hsp rfl hd kk
theorem BT.getL {c ci k idx : Nat} {sp : List Nat} (hf : FL own idx ci k) (hsh : IsO c ci sp) (hsp : sp[k]? = some 1) (hd : decode b pc = .ok (.getfield idx, 3)) (kk : BT G (Rep G) own nm b n rt rm K kc ks (pc + 3) L (.long (M.2 c k) :: S) M) : BT G (Rep G) own nm b n rt rm K kc ks pc L (.ref c :: S) M :=
  get_v hf hsh hsp rfl hd kk
theorem BT.getR {c ci k idx r : Nat} {sp : List Nat} (hf : FL own idx ci k) (hsh : IsO c ci sp) (hsp : sp[k]? = some (r + 2)) (hd : decode b pc = .ok (.getfield idx, 3)) (kk : BT G (Rep G) own nm b n rt rm K kc ks (pc + 3) L (.ref r :: S) M) : BT G (Rep G) own nm b n rt rm K kc ks pc L (.ref c :: S) M :=
  get_v hf hsh hsp rfl hd kk
theorem put_v {c ci k idx : Nat} {sp : List Nat} {v : Value} {ty : FieldType} {M' : Mem} (hf : FL own idx ci k) (hft : FT ci k ty false) (hsh : IsO c ci sp) (hk : k < sp.length) (hn : narrow ty (aw_v G v) = aw_v G v) (hfit : fits ty (aw_v G v) = true) (h1 : cellOf G M' c = .inr (ci, (fl G M c sp).set k (aw_v G v))) (h2 : ∀ j, j ≠ c → cellOf G M' j = cellOf G M j) (hd : decode b pc = .ok (.putfield idx, 3)) (kk : BT G (Rep G) own nm b n rt rm K kc ks (pc + 3) L S M') : BT G (Rep G) own nm b n rt rm K kc ks pc L (v :: .ref c :: S) M := by
  intro p e s m args below meth cc H locs F hR hS ls hl
  obtain ⟨C, T, N, hc, hkN, hin, hl0⟩ := hf
  obtain ⟨C', T', N', ty0, hc', g1, g2, g3, g4, -⟩ := hft
  cases hc.symm.trans hc'
  have hts := F.2.2.2.2.2.1
  have he : (PL (g_b G) 199 (cellOf G M))[c]? = some (g_b G + c, .inr (ci, fl G M c sp)) := by rw [PL_at hsh.1, cellOf_O hsh]
  have hset := PL_set (b := g_b G) (N := 199) h1 h2
  rcases hl0 with h | ⟨host, h⟩
  · refine va_put (v := aw_v G v) (D := g_D G) (ty := ty) F.1 F.2.1 hts hin ty0 g1 g2 F.2.2.2.2.1 F.2.2.2.2.2.2.1.1 hR (PL_D _ _ _) hS c he hc k hkN (hts _ h) (fun _ h => h) g3 g4 hn hfit (by rw [fl_len]; exact hk) hd (fun H1 locs1 hP hD hS1 => ?_)
    rw [hset] at hP
    exact kk p e s m args below meth cc H1 locs1 F hP hS1 ls hl
  · refine va_putN (v := aw_v G v) (D := g_D G) (ty := ty) F.1 F.2.1 hts hin ty0 g1 g2 F.2.2.2.2.1 F.2.2.2.2.2.2.1.1 hR (PL_D _ _ _) hS c he hc k hkN (va_Nw.use rfl (F.2.2.2.2.2.2.1.2 _ h rfl)) (fun _ h => h) g3 g4 hn hfit (by rw [fl_len]; exact hk) hd (fun H1 locs1 hP hD hS1 => ?_)
    rw [hset] at hP
    exact kk p e s m args below meth cc H1 locs1 F hP hS1 ls hl
theorem m_i_set {c ci k : Nat} {sp : List Nat} {v : Int32} (hsh : IsO c ci sp) (hsp : sp[k]? = some 0) : cellOf G (m_i M c k v) c = .inr (ci, (fl G M c sp).set k (.int v)) := by
  rw [cellOf_O hsh]
  congr 2
  refine (fl_set (fun z hz => ?_) (fun j z hj => ?_)).symm
  · rw [hsp] at hz
    cases hz
    show Value.int _ = _
    simp [m_i]
  · unfold fv m_i
    simp [hj]
theorem m_i_off {c k : Nat} {v : Int32} : ∀ j, j ≠ c → cellOf G (m_i M c k v) j = cellOf G M j := by
  intro j hj
  refine cellOf_congr ?_ rfl
  funext i
  simp [m_i, hj]
theorem BT.putI {c ci k idx : Nat} {sp : List Nat} {v : Int32} (hf : FL own idx ci k) (hft : FT ci k .int false) (hsh : IsO c ci sp) (hsp : sp[k]? = some 0) (hd : decode b pc = .ok (.putfield idx, 3)) (kk : BT G (Rep G) own nm b n rt rm K kc ks (pc + 3) L S (m_i M c k v)) : BT G (Rep G) own nm b n rt rm K kc ks pc L (.int v :: .ref c :: S) M :=
  put_v hf hft hsh (List.getElem?_eq_some_iff.mp hsp).1 rfl rfl (m_i_set hsh hsp) m_i_off hd kk
theorem BT.putZ {c ci k idx : Nat} {sp : List Nat} {v : Int32} (hf : FL own idx ci k) (hft : FT ci k .boolean false) (hsh : IsO c ci sp) (hsp : sp[k]? = some 0) (hv : v = 0 ∨ v = 1) (hd : decode b pc = .ok (.putfield idx, 3)) (kk : BT G (Rep G) own nm b n rt rm K kc ks (pc + 3) L S (m_i M c k v)) : BT G (Rep G) own nm b n rt rm K kc ks pc L (.int v :: .ref c :: S) M :=
  put_v hf hft hsh (List.getElem?_eq_some_iff.mp hsp).1 (by rcases hv with rfl | rfl <;> rfl) (by rcases hv with rfl | rfl <;> rfl) (m_i_set hsh hsp) m_i_off hd kk
theorem BT.putL {c ci k idx : Nat} {sp : List Nat} {v : Int64} (hf : FL own idx ci k) (hft : FT ci k .long false) (hsh : IsO c ci sp) (hsp : sp[k]? = some 1) (hd : decode b pc = .ok (.putfield idx, 3)) (kk : BT G (Rep G) own nm b n rt rm K kc ks (pc + 3) L S (m_l M c k v)) : BT G (Rep G) own nm b n rt rm K kc ks pc L (.long v :: .ref c :: S) M := by
  refine put_v hf hft hsh (List.getElem?_eq_some_iff.mp hsp).1 rfl rfl ?_ ?_ hd kk
  · rw [cellOf_O hsh]
    congr 2
    refine (fl_set (fun z hz => ?_) (fun j z hj => ?_)).symm
    · rw [hsp] at hz
      cases hz
      show Value.long _ = _
      simp [m_l, aw_v]
    · unfold fv m_l
      simp [hj]
  · intro j hj
    refine cellOf_congr rfl ?_
    funext i
    simp [m_l, hj]
theorem BT.iald {c nn s0 d0 : Nat} {i : Int32} (hsh : IsA c 0 nn s0 d0) (hi : vp_in i nn) (hd : decode b pc = .ok (.iaload, 1)) (kk : BT G (Rep G) own nm b n rt rm K kc ks (pc + 1) L (.int (M.1 c i.toNatClampNeg) :: S) M) : BT G (Rep G) own nm b n rt rm K kc ks pc L (.int i :: .ref c :: S) M := by
  intro p e s m args below meth cc H locs F hR hS ls hl
  have he : (PL (g_b G) 199 (cellOf G M))[c]? = some (g_b G + c, .inl (g_c G 0, nn, .inl (M.1 c))) := by rw [PL_at hsh.1, cellOf_A hsh (by decide)]
  exact va_iald F.1 F.2.1 F.2.2.2.2.2.2.1.1 hR c 0 he rfl hi hd (kk p e s m args below meth cc H locs F hR hS ls hl)
theorem BT.zald {c nn s0 d0 : Nat} {i : Int32} (hsh : IsA c 1 nn s0 d0) (hi : vp_in i nn) (hd : decode b pc = .ok (.baload, 1)) (kk : BT G (Rep G) own nm b n rt rm K kc ks (pc + 1) L (.int (M.1 c i.toNatClampNeg) :: S) M) : BT G (Rep G) own nm b n rt rm K kc ks pc L (.int i :: .ref c :: S) M := by
  intro p e s m args below meth cc H locs F hR hS ls hl
  have he : (PL (g_b G) 199 (cellOf G M))[c]? = some (g_b G + c, .inl (g_c G 1, nn, .inl (M.1 c))) := by rw [PL_at hsh.1, cellOf_A hsh (by decide)]
  exact va_zald F.1 F.2.1 F.2.2.2.2.2.2.1.1 hR c 1 he rfl hi hd (kk p e s m args below meth cc H locs F hR hS ls hl)
theorem BT.alen {c t nn s0 d0 : Nat} {v : Int32} (hsh : IsA c t nn s0 d0) (ht : t < 2) (hv : Int32.ofNat nn = v) (hd : decode b pc = .ok (.arraylength, 1)) (kk : BT G (Rep G) own nm b n rt rm K kc ks (pc + 1) L (.int v :: S) M) : BT G (Rep G) own nm b n rt rm K kc ks pc L (.ref c :: S) M := by
  intro p e s m args below meth cc H locs F hR hS ls hl
  have he : (PL (g_b G) 199 (cellOf G M))[c]? = some (g_b G + c, .inl (g_c G t, nn, .inl (M.1 c))) := by rw [PL_at hsh.1, cellOf_A hsh ht]
  have hkk := kk p e s m args below meth cc H locs F hR hS ls hl
  match t, ht with
  | 0, _ => exact va_alen F.1 F.2.1 F.2.2.2.2.2.2.1.1 hR c 0 he (ty := .int) rfl hv hd hkk
  | 1, _ => exact va_alen F.1 F.2.1 F.2.2.2.2.2.2.1.1 hR c 1 he (ty := .boolean) rfl hv hd hkk
theorem m_i_arr {c t nn s0 d0 k : Nat} {v : Int32} (hsh : IsA c t nn s0 d0) (ht : t < 2) : cellOf G (m_i M c k v) c = .inl (g_c G t, nn, .inl (upd (M.1 c) k v)) := by
  rw [cellOf_A hsh ht]
  congr 4
  funext j
  simp [m_i, upd]
theorem BT.iast {c nn s0 d0 : Nat} {i x : Int32} (hsh : IsA c 0 nn s0 d0) (hi : vp_in i nn) (hd : decode b pc = .ok (.iastore, 1)) (kk : BT G (Rep G) own nm b n rt rm K kc ks (pc + 1) L S (m_i M c i.toNatClampNeg x)) : BT G (Rep G) own nm b n rt rm K kc ks pc L (.int x :: .int i :: .ref c :: S) M := by
  intro p e s m args below meth cc H locs F hR hS ls hl
  have he : (PL (g_b G) 199 (cellOf G M))[c]? = some (g_b G + c, .inl (g_c G 0, nn, .inl (M.1 c))) := by rw [PL_at hsh.1, cellOf_A hsh (by decide)]
  refine va_iast F.1 F.2.1 F.2.2.2.2.2.2.1.1 hR (PL_D _ _ _) hS c 0 he rfl hi hd (fun H1 locs1 hP hD hS1 => ?_)
  rw [PL_set (m_i_arr hsh (by decide)) m_i_off] at hP
  exact kk p e s m args below meth cc H1 locs1 F hP hS1 ls hl
theorem BT.zast {c nn s0 d0 : Nat} {i x : Int32} (hsh : IsA c 1 nn s0 d0) (hi : vp_in i nn) (hv : x = 0 ∨ x = 1) (hd : decode b pc = .ok (.bastore, 1)) (kk : BT G (Rep G) own nm b n rt rm K kc ks (pc + 1) L S (m_i M c i.toNatClampNeg x)) : BT G (Rep G) own nm b n rt rm K kc ks pc L (.int x :: .int i :: .ref c :: S) M := by
  intro p e s m args below meth cc H locs F hR hS ls hl
  have he : (PL (g_b G) 199 (cellOf G M))[c]? = some (g_b G + c, .inl (g_c G 1, nn, .inl (M.1 c))) := by rw [PL_at hsh.1, cellOf_A hsh (by decide)]
  have hx : vp_nar .boolean x = x := by rcases hv with rfl | rfl <;> decide
  refine va_zast F.1 F.2.1 F.2.2.2.2.2.2.1.1 hR (PL_D _ _ _) hS c 1 he rfl hi hd (fun H1 locs1 hP hD hS1 => ?_)
  rw [hx, PL_set (m_i_arr hsh (by decide)) m_i_off] at hP
  exact kk p e s m args below meth cc H1 locs1 F hP hS1 ls hl
theorem BT.aald {c t nn s0 d0 : Nat} {i : Int32} (hsh : IsA c t nn s0 d0) (ht : 2 ≤ t ∧ t < 5) (hi : vp_in i nn) (hd : decode b pc = .ok (.aaload, 1)) (kk : BT G (Rep G) own nm b n rt rm K kc ks (pc + 1) L (.ref (s0 + d0 * i.toNatClampNeg) :: S) M) : BT G (Rep G) own nm b n rt rm K kc ks pc L (.int i :: .ref c :: S) M := by
  intro p e s m args below meth cc H locs F hR hS ls hl
  have he : (PL (g_b G) 199 (cellOf G M))[c]? = some (g_b G + c, .inl (g_c G t, nn, .inr (.inr (.inr (.inr (fun i => some (g_b G + (s0 + d0 * i)))))))) := by rw [PL_at hsh.1, cellOf_Q hsh (by omega)]
  have hkk := kk p e s m args below meth cc H locs F hR hS ls hl
  match t, ht with
  | 2, _ => exact va_aldq F.1 F.2.1 F.2.2.2.2.2.2.1.1 hR c 2 he (C := "BetweenLaws$Law") rfl hi hd hkk
  | 3, _ => exact va_aldq F.1 F.2.1 F.2.2.2.2.2.2.1.1 hR c 3 he (C := "BetweenLaws$Piece") rfl hi hd hkk
  | 4, _ => exact va_aldq F.1 F.2.1 F.2.2.2.2.2.2.1.1 hR c 4 he (C := "BetweenLaws$World") rfl hi hd hkk
theorem recvRep {c ci : Nat} {sp : List Nat} {C : String} {T : u_T} {N : Nat} (hsh : IsO c ci sp) (hc : vwCl[ci]? = some (C, T, N)) : aw_Recv G (Rep G) M c C := by
  intro s H hR hK
  have he : (PL (g_b G) 199 (cellOf G M))[c]? = some (g_b G + c, .inr (ci, fl G M c sp)) := by rw [PL_at hsh.1, cellOf_O hsh]
  exact va_recv hK.1 hR hc he
theorem BT.acopy {idx a sn s0 d0 c nn s1 d1 : Nat} {sp dp k : Int32} (hlk : Cond.methodLink own idx arraycopyName ∈ aw_ws) (hnat : Cond.native arraycopyName ∈ aw_ws) (hst : Cond.static arraycopyName ∈ aw_ws) (hin : Cond.initialized "java/lang/System" ∈ aw_ws) (hsa : IsA a 0 sn s0 d0) (hsc : IsA c 0 nn s1 d1) (h1 : ¬ sp < 0) (h2 : ¬ dp < 0) (h3 : ¬ k < 0) (h4 : sp.toNatClampNeg + k.toNatClampNeg ≤ sn) (h5 : dp.toNatClampNeg + k.toNatClampNeg ≤ nn) (h8 : (S.map fun v => v.category).sum ≤ 8) (hfr : 1 ≤ rm.frames) (hlo : 8 + (nativeFrameWords "java/lang/System" "arraycopy" 5 + 11) ≤ rm.locals) (hd : decode b pc = .ok (.invokestatic idx, 3))
    (kk : BT G (Rep G) own nm b n rt rm K kc ks (pc + 3) L S (m_c M a sp.toNatClampNeg c dp.toNatClampNeg k.toNatClampNeg)) : BT G (Rep G) own nm b n rt rm K kc ks pc L (.int k :: .int dp :: .ref c :: .int sp :: .ref a :: S) M := by
  intro p e s m args below meth cc H locs F hR hS ls hl
  have hts := F.2.2.2.2.2.1
  have hea : (PL (g_b G) 199 (cellOf G M))[a]? = some (g_b G + a, .inl (g_c G 0, sn, .inl (M.1 a))) := by rw [PL_at hsa.1, cellOf_A hsa (by decide)]
  have hec : (PL (g_b G) 199 (cellOf G M))[c]? = some (g_b G + c, .inl (g_c G 0, nn, .inl (M.1 c))) := by rw [PL_at hsc.1, cellOf_A hsc (by decide)]
  have hc1 : cellOf G (m_c M a sp.toNatClampNeg c dp.toNatClampNeg k.toNatClampNeg) c = .inl (g_c G 0, nn, .inl (va_cpy (M.1 a) (M.1 c) sp.toNatClampNeg dp.toNatClampNeg k.toNatClampNeg)) := by
    rw [cellOf_A hsc (by decide)]
    congr 4
    funext j
    simp [m_c, va_cpy]
  have hc2 : ∀ j, j ≠ c → cellOf G (m_c M a sp.toNatClampNeg c dp.toNatClampNeg k.toNatClampNeg) j = cellOf G M j := by
    intro j hj
    refine cellOf_congr ?_ rfl
    funext i
    simp [m_c, hj]
  have hlo2 : ((S.map (aw_v G)).map fun v => v.category).sum ≤ 8 := by
    have h := aw_sum G S h8 (m := m) (pc := pc) (ls := ls) (st := [])
    have e2 : 2 * (F0 m pc ls []).monitorRoom = 0 := rfl
    omega
  refine va_copyi (ty := .int) F.1 F.2.1 (F.2.2.2.1.trans hl.1.symm) F.2.2.2.2.1 (hts _ hlk) (hts _ hnat) (hts _ hst) (hts _ hin) F.2.2.2.2.2.2.1.1 hR (PL_D _ _ _) hS a c 0 0 hea hec rfl rfl rfl h1 h2 h3 h4 h5 (fun i _ => rfl) hfr (Nat.le_trans (Nat.add_le_add_right hlo2 _) hlo) hd (fun H1 locs1 hP hD hS1 => ?_)
  rw [PL_set hc1 hc2] at hP
  exact kk p e s m args below meth cc H1 locs1 F hP hS1 ls hl
theorem BT.gst1 {idx : Nat} (hlk : Cond.fieldLink own idx "BetweenLaws" "WAY_LETTERS" "[I" ∈ aw_ws) (hd : decode b pc = .ok (.getstatic idx, 3)) (kk : BT G (Rep G) own nm b n rt rm K kc ks (pc + 3) L (.float 1 :: S) M) : BT G (Rep G) own nm b n rt rm K kc ks pc L S M := by
  intro p e s m args below meth cc H locs F hR hS ls hl
  exact va_gets F.1 F.2.1 F.2.2.2.2.2.2.2.1.1.1 hS F.2.2.2.2.1 (F.2.2.2.2.2.1 _ hlk) (fun _ h => h) hd (kk p e s m args below meth cc H locs F hR hS ls hl)
theorem BT.gst2 {idx : Nat} {host : String} (hlk : Cond.fieldLinkNest own idx "BetweenLaws" "TIME_LETTERS" "[I" host ∈ lw_tbl) (hd : decode b pc = .ok (.getstatic idx, 3)) (kk : BT G (Rep G) own nm b n rt rm K kc ks (pc + 3) L (.float 2 :: S) M) : BT G (Rep G) own nm b n rt rm K kc ks pc L S M := by
  intro p e s m args below meth cc H locs F hR hS ls hl
  exact va_getsN F.1 F.2.1 F.2.2.2.2.2.2.2.1.2.1 hS F.2.2.2.2.1 (va_Nw.use rfl (F.2.2.2.2.2.2.1.2 _ hlk rfl)) (fun _ h => h) hd (kk p e s m args below meth cc H locs F hR hS ls hl)
theorem BT.sald1 {i : Int32} (hi : vp_in i 4) (hd : decode b pc = .ok (.iaload, 1)) (kk : BT G (Rep G) own nm b n rt rm K kc ks (pc + 1) L (.int (aw_f1 i.toNatClampNeg) :: S) M) : BT G (Rep G) own nm b n rt rm K kc ks pc L (.int i :: .float 1 :: S) M := by
  intro p e s m args below meth cc H locs F hR hS ls hl
  exact va_ti F.1 F.2.1 F.2.2.2.2.2.2.2.1.1.2 hS hi rfl hd (kk p e s m args below meth cc H locs F hR hS ls hl)
theorem BT.sald2 {i : Int32} (hi : vp_in i 3) (hd : decode b pc = .ok (.iaload, 1)) (kk : BT G (Rep G) own nm b n rt rm K kc ks (pc + 1) L (.int (aw_f2 i.toNatClampNeg) :: S) M) : BT G (Rep G) own nm b n rt rm K kc ks pc L (.int i :: .float 2 :: S) M := by
  intro p e s m args below meth cc H locs F hR hS ls hl
  exact va_ti F.1 F.2.1 F.2.2.2.2.2.2.2.1.2.2 hS hi rfl hd (kk p e s m args below meth cc H locs F hR hS ls hl)
theorem BT.slen1 (hd : decode b pc = .ok (.arraylength, 1)) (kk : BT G (Rep G) own nm b n rt rm K kc ks (pc + 1) L (.int 4 :: S) M) : BT G (Rep G) own nm b n rt rm K kc ks pc L (.float 1 :: S) M := by
  intro p e s m args below meth cc H locs F hR hS ls hl
  exact va_tlen F.1 F.2.1 F.2.2.2.2.2.2.2.1.1.2 hS rfl hd (kk p e s m args below meth cc H locs F hR hS ls hl)
theorem BT.slen2 (hd : decode b pc = .ok (.arraylength, 1)) (kk : BT G (Rep G) own nm b n rt rm K kc ks (pc + 1) L (.int 3 :: S) M) : BT G (Rep G) own nm b n rt rm K kc ks pc L (.float 2 :: S) M := by
  intro p e s m args below meth cc H locs F hR hS ls hl
  exact va_tlen F.1 F.2.1 F.2.2.2.2.2.2.2.1.2.2 hS rfl hd (kk p e s m args below meth cc H locs F hR hS ls hl)
end MEM

