/-! ===== 72.build1 ===== -/
/-! ===== objects being made: all cells behind c stand as they shall, but for x ===== -/
abbrev MZ : Mem := (fun _ _ => 0, fun _ _ => 0)
def Cst (G : GT) (f0 : Nat → va_E) (c x N : Nat) (f : Nat → va_E) : Prop := (∀ d, d < c → f d = f0 d) ∧ ∀ d, c < d → d < N → ¬ d = x → f d = cellOf G MZ d
/-- what a constructor of the object c leaves: the cells c .. N - 1 as they shall be -/
def MkP (G : GT) (f0 : Nat → va_E) (c N : Nat) (_ : Int32) (M : M0T) : Prop := M.1 = N ∧ (∀ d, d < c → M.2 d = f0 d) ∧ ∀ d, c ≤ d → d < N → M.2 d = cellOf G MZ d
theorem Cst.start {G : GT} {c : Nat} {f : Nat → va_E} : Cst G f c c (c + 1) f := ⟨fun _ _ => rfl, fun d h1 h2 _ => absurd h2 (by omega)⟩
theorem Cst.fin {G : GT} {f0 f : Nat → va_E} {c N : Nat} (h : Cst G f0 c c N f) (hc : f c = cellOf G MZ c) : MkP G f0 c N 0 (N, f) := ⟨rfl, h.1, fun d h1 h2 => by
  by_cases z : d = c
  · rw [z]; exact hc
  · exact h.2 d (by omega) h2 z⟩
theorem Cst.close {G : GT} {f0 f : Nat → va_E} {c x N : Nat} (h : Cst G f0 c x N f) (hx : f x = cellOf G MZ x) : Cst G f0 c c N f := ⟨h.1, fun d h1 h2 _ => by
  by_cases z : d = x
  · rw [z]; exact hx
  · exact h.2 d h1 h2 z⟩
/-- an object more, made by its constructor -/
theorem Cst.obj {G : GT} {f0 f f1 : Nat → va_E} {c x N N' : Nat} {M : M0T} (h : Cst G f0 c x N f) (hx : x < N) (hc : c < N) (h1 : ∀ d, d < N → f1 d = f d) (hM : MkP G f1 N N' 0 M) : ∃ f2, M = (N', f2) ∧ Cst G f0 c x N' f2 ∧ (∀ d, d < N → f2 d = f d) ∧ ∀ d, N ≤ d → d < N' → f2 d = cellOf G MZ d := by
  obtain ⟨M1, f2⟩ := M
  obtain ⟨e, a1, a2⟩ := hM
  have e : M1 = N' := e
  subst e
  refine ⟨f2, rfl, ⟨fun d hd => (a1 d (by omega)).trans ((h1 d (by omega)).trans (h.1 d hd)), fun d q1 q2 q3 => ?_⟩, fun d hd => (a1 d hd).trans (h1 d hd), a2⟩
  by_cases z : d < N
  · exact (a1 d z).trans ((h1 d z).trans (h.2 d q1 z q3))
  · exact a2 d (by omega) q2
theorem aw_int : Cond.arrayClass .int ∈ aw_ws := aw_mem 105 (by decide +kernel) (by decide +kernel)
theorem aw_bool : Cond.arrayClass .boolean ∈ aw_ws := aw_mem 298 (by decide +kernel) (by decide +kernel)
section MAKE2
variable {G : GT} {own nm : String} {b : ByteArray} {n : Nat} {rt : Option FieldType} {rm : Room} {K : Int32 → M0T → Prop} {kc ks pc : Nat} {L : List (Nat × Value)} {S : List Value} {N : Nat} {f f0 : Nat → va_E} {c x : Nat}
theorem C0.newi {v : Int32} {nn s0 d0 N1 ks1 : Nat} (hs : Cst G f0 c x N f) (hcN : c < N) (hN1 : N + 1 = N1) (hk1 : ks + nn = ks1) (hsh : IsA N 0 nn s0 d0) (hn : ¬ v < 0) (hN : v.toNatClampNeg = nn) (hbytes : nn * 4 ≤ 536870912) (hcells : kc + 1 ≤ rm.cells) (hslots : ks1 ≤ rm.slots) (hd : decode b pc = .ok (.newarray .int, 2))
    (kk : ∀ f1, Cst G f0 c x N1 f1 → (∀ d, d < N → f1 d = f d) → BT G (R0 G) own nm b n rt rm K (kc + 1) ks1 (pc + 2) L (.ref N :: S) (N1, f1)) : BT G (R0 G) own nm b n rt rm K kc ks pc L (.int v :: S) (N, f) := by
  subst hN1
  subst hk1
  refine B0.newi aw_int hn hN hbytes hcells hslots hd (kk _ ⟨fun d hd => (upf_ne (by omega)).trans (hs.1 d hd), fun d h1 h2 h3 => ?_⟩ (fun d hd => upf_ne (by omega)))
  by_cases z : d = N
  · subst z
    rw [upf_at, cellOf_A hsh (by decide)]
  · rw [upf_ne z]; exact hs.2 d h1 (by omega) h3
theorem C0.newz {v : Int32} {nn s0 d0 N1 ks1 : Nat} (hs : Cst G f0 c x N f) (hcN : c < N) (hN1 : N + 1 = N1) (hk1 : ks + nn = ks1) (hsh : IsA N 1 nn s0 d0) (hn : ¬ v < 0) (hN : v.toNatClampNeg = nn) (hbytes : nn * 1 ≤ 536870912) (hcells : kc + 1 ≤ rm.cells) (hslots : ks1 ≤ rm.slots) (hd : decode b pc = .ok (.newarray .boolean, 2))
    (kk : ∀ f1, Cst G f0 c x N1 f1 → (∀ d, d < N → f1 d = f d) → BT G (R0 G) own nm b n rt rm K (kc + 1) ks1 (pc + 2) L (.ref N :: S) (N1, f1)) : BT G (R0 G) own nm b n rt rm K kc ks pc L (.int v :: S) (N, f) := by
  subst hN1
  subst hk1
  refine B0.newz aw_bool hn hN hbytes hcells hslots hd (kk _ ⟨fun d hd => (upf_ne (by omega)).trans (hs.1 d hd), fun d h1 h2 h3 => ?_⟩ (fun d hd => upf_ne (by omega)))
  by_cases z : d = N
  · subst z
    rw [upf_at, cellOf_A hsh (by decide)]
  · rw [upf_ne z]; exact hs.2 d h1 (by omega) h3
theorem C0.newr {C : String} {t idx nn N1 ks1 : Nat} {v : Int32} (hs : Cst G f0 c c N f) (hcN : c < N) (hN1 : N + 1 = N1) (hk1 : ks + nn = ks1) (hcl : Cond.classLink own idx C ∈ aw_ws) (hover : Cond.arrayOver (.object C) ∈ lw_tbl) (ht : (aw_tys G)[t]? = some (g_c G t, .object C)) (hn : ¬ v < 0) (hN : v.toNatClampNeg = nn) (hbytes : nn * 4 ≤ 536870912) (hcells : kc + 1 ≤ rm.cells) (hslots : ks1 ≤ rm.slots) (hd : decode b pc = .ok (.anewarray idx, 3))
    (kk : ∀ f1, Cst G f0 c N N1 f1 → f1 N = .inl (g_c G t, nn, .inr (.inr (.inr (.inr (fun _ => none))))) → (∀ d, d < N → f1 d = f d) → BT G (R0 G) own nm b n rt rm K (kc + 1) ks1 (pc + 3) L (.ref N :: S) (N1, f1)) : BT G (R0 G) own nm b n rt rm K kc ks pc L (.int v :: S) (N, f) := by
  subst hN1
  subst hk1
  refine B0.newr hcl hover ht hn hN hbytes hcells hslots hd (kk _ ⟨fun d hd => (upf_ne (by omega)).trans (hs.1 d hd), fun d h1 h2 h3 => ?_⟩ upf_at (fun d hd => upf_ne (by omega)))
  rw [upf_ne h3]; exact hs.2 d h1 (by omega) (by omega)
theorem C0.new {C : String} {T : u_T} {nn ci idx N1 ks1 : Nat} {ty : Nat → FieldType} {fs : List Value} (hN1 : N + 1 = N1) (hk1 : ks + nn = ks1) (hcl : Cond.classLink own idx C ∈ aw_ws) (hinst : Cond.instantiable C nn ∈ aw_ws) (hini : Cond.initialized C ∈ aw_ws) (hin : ∀ w ∈ u_ws C T nn, w ∈ aw_ws) (hty : ∀ k, k < nn → parseFieldDescriptor (T k).2.2.1 = some (ty k)) (hc : vwCl[ci]? = some (C, T, nn)) (hfs : ∀ j, j < nn → defaultValue (ty j) = vp_V fs j) (hcells : kc + 1 ≤ rm.cells) (hslots : ks1 ≤ rm.slots) (hd : decode b pc = .ok (.new idx, 3))
    (kk : ∀ f1, f1 N = .inr (ci, fs) → (∀ d, d < N → f1 d = f d) → BT G (R0 G) own nm b n rt rm K (kc + 1) ks1 (pc + 3) L (.ref N :: S) (N1, f1)) : BT G (R0 G) own nm b n rt rm K kc ks pc L S (N, f) := by
  subst hN1
  subst hk1
  exact B0.new hcl hinst hini hin hty hc hfs hcells hslots hd (kk _ upf_at (fun d hd => upf_ne (by omega)))
theorem C0.put {ci k idx : Nat} {fs fs' : List Value} {v : Value} {ty : FieldType} {fin : Bool} (hs : Cst G f0 c x N f) (hf : FL own idx ci k) (hlk : ∀ (C : String) (T : u_T) (NN : Nat), vwCl[ci]? = some (C, T, NN) → Cond.fieldLink own idx (T k).1 (T k).2.1 (T k).2.2.1 ∈ aw_ws ∧ C = own) (hft : FT ci k ty fin) (hnm : nm = "<init>") (hc0 : c < N) (hxc : c ≤ x) (hcell : f c = .inr (ci, fs)) (hk : k < fs.length) (hn : narrow ty (aw_v G v) = aw_v G v) (hfit : fits ty (aw_v G v) = true) (hfs : fs.set k (aw_v G v) = fs') (hd : decode b pc = .ok (.putfield idx, 3))
    (kk : ∀ f1, Cst G f0 c x N f1 → f1 c = .inr (ci, fs') → (∀ d, ¬ d = c → f1 d = f d) → BT G (R0 G) own nm b n rt rm K kc ks (pc + 3) L S (N, f1)) : BT G (R0 G) own nm b n rt rm K kc ks pc L (v :: .ref c :: S) (N, f) := by
  subst hfs
  refine B0.put hf hlk hft hnm hc0 hcell hk hn hfit hd (kk _ ⟨fun d hd => (upf_ne (by omega)).trans (hs.1 d hd), fun d h1 h2 h3 => ?_⟩ upf_at (fun d hd => upf_ne hd))
  rw [upf_ne (by omega)]; exact hs.2 d h1 h2 h3
theorem C0.aast {t nn d ci : Nat} {g : Nat → Option Nat} {vs : List Value} {r : vw_C} {i : Int32} (hs : Cst G f0 c x N f) (hcx : c < x) (hc0 : x < N) (hcell : f x = .inl (g_c G t, nn, .inr (.inr (.inr (.inr g))))) (ht : (aw_tys G)[t]? = some (g_c G t, .object r.1)) (hd0 : d < N) (hdc : f d = .inr (ci, vs)) (hc : vwCl[ci]? = some r) (hi : vp_in i nn) (hd : decode b pc = .ok (.aastore, 1))
    (kk : ∀ f1, Cst G f0 c x N f1 → f1 x = .inl (g_c G t, nn, .inr (.inr (.inr (.inr (va_up g i.toNatClampNeg (some (g_b G + d))))))) → (∀ d, ¬ d = x → f1 d = f d) → BT G (R0 G) own nm b n rt rm K kc ks (pc + 1) L S (N, f1)) : BT G (R0 G) own nm b n rt rm K kc ks pc L (.ref d :: .int i :: .ref x :: S) (N, f) := by
  refine B0.aast hc0 hcell ht hd0 hdc hc hi hd (kk _ ⟨fun d hd => (upf_ne (by omega)).trans (hs.1 d hd), fun d h1 h2 h3 => ?_⟩ upf_at (fun d hd => upf_ne hd))
  rw [upf_ne h3]; exact hs.2 d h1 h2 h3
/-- a row of references that is full -/
theorem C0.full {t nn s0 d0 : Nat} {g : Nat → Option Nat} (hs : Cst G f0 c x N f) (hcx : c < x) (hc0 : x < N) (hsh : IsA x t nn s0 d0) (ht : ¬ t < 2) (hcell : f x = .inl (g_c G t, nn, .inr (.inr (.inr (.inr g))))) (hg : ∀ i, i < nn → g i = some (g_b G + (s0 + d0 * i)))
    (kk : ∀ f1, Cst G f0 c c N f1 → (∀ d, ¬ d = x → f1 d = f d) → BT G (R0 G) own nm b n rt rm K kc ks pc L S (N, f1)) : BT G (R0 G) own nm b n rt rm K kc ks pc L S (N, f) := by
  intro p e s m args below meth cc H locs F hR hS ls hl
  have h1 : Cst G f0 c x N (upf f x (cellOf G MZ x)) := ⟨fun d hd => (upf_ne (by omega)).trans (hs.1 d hd), fun d h1 h2 h3 => by rw [upf_ne h3]; exact hs.2 d h1 h2 h3⟩
  refine kk _ (h1.close upf_at) (fun d hd => upf_ne hd) p e s m args below meth cc H locs F ⟨PL_store hR.1 hc0 ?_ (fun _ _ => rfl), hR.2⟩ hS ls hl
  have h2 := hR.1 x _ (PL_at hc0)
  have h2 : va_at (g_D G) vwCl (g_b G + x, f x) H := h2
  rw [hcell] at h2
  have h2 : H[g_b G + x]? = some (vp_cell (g_c G t) (nn, .inr (.inr (.inr (.inr g))))) := h2
  rw [cellOf_Q hsh ht]
  show H[g_b G + x]? = some (vp_cell (g_c G t) _)
  rw [h2, vp_cell_q, vp_cell_q]
  unfold arrV
  congr 3
  funext j
  show va_rf (g j.val) = va_rf _
  rw [hg j.val j.isLt]
end MAKE2
def flr (G : GT) (M : Mem) (c : Nat) : Nat → List Nat → List Value
  | _, [] => []
  | k, z :: zs => fv G M c k z :: flr G M c (k + 1) zs
theorem fl_r {G : GT} {M : Mem} {c : Nat} (sp : List Nat) : fl G M c sp = flr G M c 0 sp := by
  have key : ∀ (sp : List Nat) (k : Nat), sp.mapIdx (fun j z => fv G M c (k + j) z) = flr G M c k sp := by
    intro sp
    induction sp with
    | nil => intro k; rfl
    | cons z zs ih =>
      intro k
      rw [List.mapIdx_cons]
      show fv G M c (k + 0) z :: zs.mapIdx (fun i z => fv G M c (k + (i + 1)) z) = fv G M c k z :: flr G M c (k + 1) zs
      rw [← ih (k + 1)]
      congr 1
      congr 1
      funext i z
      rw [show k + (i + 1) = k + 1 + i by omega]
  have := key sp 0
  simp only [Nat.zero_add] at this
  exact this
theorem cellOf_R {G : GT} {M : Mem} {c ci : Nat} {sp : List Nat} (h : IsO c ci sp) : cellOf G M c = .inr (ci, flr G M c 0 sp) := by rw [cellOf_O h, fl_r]
theorem m_i_setR {G : GT} {M : Mem} {c ci k : Nat} {sp : List Nat} {v : Int32} (hsh : IsO c ci sp) (hsp : sp[k]? = some 0) : cellOf G (m_i M c k v) c = .inr (ci, (flr G M c 0 sp).set k (.int v)) := by
  rw [← fl_r]; exact m_i_set hsh hsp

