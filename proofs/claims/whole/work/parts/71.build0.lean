/-! ===== 71.build0 ===== -/
/-! ===== making: the cells 0 .. N - 1 of a growing memory ===== -/
abbrev M0T : Type := Nat × (Nat → va_E)
def upf (f : Nat → va_E) (c : Nat) (e : va_E) : Nat → va_E := fun d => if d = c then e else f d
theorem upf_at {f : Nat → va_E} {c : Nat} {e : va_E} : upf f c e c = e := if_pos rfl
theorem upf_ne {f : Nat → va_E} {c d : Nat} {e : va_E} (h : ¬ d = c) : upf f c e d = f d := if_neg h
def R0 (G : GT) (M : M0T) (H : Heap) : Prop := va_P (g_D G) vwCl (PL (g_b G) M.1 M.2) H ∧ H.size = g_b G + M.1
theorem PL_push {D : va_G} {b N : Nat} {f : Nat → va_E} {e : va_E} {H H1 : Heap} (hP : va_P D vwCl (PL b N f) H) (hk : ∀ q : Nat, q < b + N → H1[q]? = H[q]?) (hn : va_at D vwCl (b + N, e) H1) : va_P D vwCl (PL b (N + 1) (upf f N e)) H1 := by
  intro k q hq
  obtain ⟨hk', rfl⟩ := PL_lt hq
  by_cases z : k = N
  · subst z
    rw [upf_at]; exact hn
  · rw [upf_ne z]
    exact (hP k _ (PL_at (by omega))).kept (hk _ (by show b + k < b + N; omega))
theorem PL_store {D : va_G} {b N c : Nat} {f : Nat → va_E} {e : va_E} {H H1 : Heap} (hP : va_P D vwCl (PL b N f) H) (hc : c < N) (hn : va_at D vwCl (b + c, e) H1) (ho : ∀ q : Nat, q ≠ b + c → H1[q]? = H[q]?) : va_P D vwCl (PL b N (upf f c e)) H1 := by
  have h := hP.set (p := c) (PL_D b N f) (PL_at hc) hn ho
  rwa [PL_set (f := f) (g := upf f c e) upf_at (fun j hj => upf_ne hj)] at h
section MAKE
variable {G : GT} {own nm : String} {b : ByteArray} {n : Nat} {rt : Option FieldType} {rm : Room} {K : Int32 → M0T → Prop} {kc ks pc : Nat} {L : List (Nat × Value)} {S : List Value} {N : Nat} {f : Nat → va_E}
theorem B0.new {C : String} {T : u_T} {nn ci idx : Nat} {ty : Nat → FieldType} {fs : List Value} (hcl : Cond.classLink own idx C ∈ aw_ws) (hinst : Cond.instantiable C nn ∈ aw_ws) (hini : Cond.initialized C ∈ aw_ws) (hin : ∀ w ∈ u_ws C T nn, w ∈ aw_ws) (hty : ∀ k, k < nn → parseFieldDescriptor (T k).2.2.1 = some (ty k)) (hc : vwCl[ci]? = some (C, T, nn)) (hfs : ∀ j, j < nn → defaultValue (ty j) = vp_V fs j) (hcells : kc + 1 ≤ rm.cells) (hslots : ks + nn ≤ rm.slots) (hd : decode b pc = .ok (.new idx, 3))
    (kk : BT G (R0 G) own nm b n rt rm K (kc + 1) (ks + nn) (pc + 3) L (.ref N :: S) (N + 1, upf f N (.inr (ci, fs)))) : BT G (R0 G) own nm b n rt rm K kc ks pc L S (N, f) := by
  intro p e s m args below meth c H locs F hR hS ls hl
  obtain ⟨hP, hz⟩ := hR
  have hts := F.2.2.2.2.2.1
  have hKn := F.2.2.2.2.2.2.1.1.1 ci _ hc
  refine W.newcK F.1 F.2.1 F.2.2.2.2.1 (hts _ hcl) (hts _ hinst) (hts _ hini) rfl hd hcells hslots hKn.2.1 hz fun H1 kC hkC e1 z1 o1 => ?_
  have hS1 : va_S (aw_A G) s.heap H1 locs := ⟨Nat.le_trans hS.1 (by omega), fun x h1 h2 => (o1 x (by have := hS.1; omega)).trans (hS.2.1 x h1 h2), hS.2.2⟩
  exact kk p e s m args below meth c H1 locs F ⟨PL_push hP o1 ⟨_, hc, (u_born ty hts hin hKn hkC e1 hty).to hfs⟩, z1⟩ hS1 ls hl
theorem B0.newi {v : Int32} {nn : Nat} (harr : Cond.arrayClass .int ∈ aw_ws) (hn : ¬ v < 0) (hN : v.toNatClampNeg = nn) (hbytes : nn * 4 ≤ 536870912) (hcells : kc + 1 ≤ rm.cells) (hslots : ks + nn ≤ rm.slots) (hd : decode b pc = .ok (.newarray .int, 2))
    (kk : BT G (R0 G) own nm b n rt rm K (kc + 1) (ks + nn) (pc + 2) L (.ref N :: S) (N + 1, upf f N (.inl (g_c G 0, nn, .inl (fun _ => 0))))) : BT G (R0 G) own nm b n rt rm K kc ks pc L (.int v :: S) (N, f) := by
  intro p e s m args below meth c H locs F hR hS ls hl
  obtain ⟨hP, hz⟩ := hR
  have hts := F.2.2.2.2.2.1
  refine va_newaK (atype := .int) F.1 F.2.1 (hts _ harr) rfl hd rfl hn hN hbytes hcells hslots hz fun H1 cA e1 z1 o1 hAr hNm => ?_
  have hg : s.vm.findClass ("[" ++ (FieldType.int).toString) = some (g_c G 0) := (F.2.2.2.2.2.2.1.1.2 0 _ rfl).2
  have ec : cA = g_c G 0 := Option.some.inj (hNm.symm.trans hg)
  subst ec
  have hS1 : va_S (aw_A G) s.heap H1 locs := ⟨Nat.le_trans hS.1 (by omega), fun x h1 h2 => (o1 x (by have := hS.1; omega)).trans (hS.2.1 x h1 h2), hS.2.2⟩
  exact kk p e s m args below meth c H1 locs F ⟨PL_push hP o1 e1, z1⟩ hS1 ls hl
theorem B0.newz {v : Int32} {nn : Nat} (harr : Cond.arrayClass .boolean ∈ aw_ws) (hn : ¬ v < 0) (hN : v.toNatClampNeg = nn) (hbytes : nn * 1 ≤ 536870912) (hcells : kc + 1 ≤ rm.cells) (hslots : ks + nn ≤ rm.slots) (hd : decode b pc = .ok (.newarray .boolean, 2))
    (kk : BT G (R0 G) own nm b n rt rm K (kc + 1) (ks + nn) (pc + 2) L (.ref N :: S) (N + 1, upf f N (.inl (g_c G 1, nn, .inl (fun _ => 0))))) : BT G (R0 G) own nm b n rt rm K kc ks pc L (.int v :: S) (N, f) := by
  intro p e s m args below meth c H locs F hR hS ls hl
  obtain ⟨hP, hz⟩ := hR
  have hts := F.2.2.2.2.2.1
  refine va_newaK (atype := .boolean) F.1 F.2.1 (hts _ harr) rfl hd rfl hn hN hbytes hcells hslots hz fun H1 cA e1 z1 o1 hAr hNm => ?_
  have hg : s.vm.findClass ("[" ++ (FieldType.boolean).toString) = some (g_c G 1) := (F.2.2.2.2.2.2.1.1.2 1 _ rfl).2
  have ec : cA = g_c G 1 := Option.some.inj (hNm.symm.trans hg)
  subst ec
  have hS1 : va_S (aw_A G) s.heap H1 locs := ⟨Nat.le_trans hS.1 (by omega), fun x h1 h2 => (o1 x (by have := hS.1; omega)).trans (hS.2.1 x h1 h2), hS.2.2⟩
  exact kk p e s m args below meth c H1 locs F ⟨PL_push hP o1 e1, z1⟩ hS1 ls hl
theorem B0.newr {C : String} {t idx nn : Nat} {v : Int32} (hcl : Cond.classLink own idx C ∈ aw_ws) (hover : Cond.arrayOver (.object C) ∈ lw_tbl) (ht : (aw_tys G)[t]? = some (g_c G t, .object C)) (hn : ¬ v < 0) (hN : v.toNatClampNeg = nn) (hbytes : nn * 4 ≤ 536870912) (hcells : kc + 1 ≤ rm.cells) (hslots : ks + nn ≤ rm.slots) (hd : decode b pc = .ok (.anewarray idx, 3))
    (kk : BT G (R0 G) own nm b n rt rm K (kc + 1) (ks + nn) (pc + 3) L (.ref N :: S) (N + 1, upf f N (.inl (g_c G t, nn, .inr (.inr (.inr (.inr (fun _ => none)))))))) : BT G (R0 G) own nm b n rt rm K kc ks pc L (.int v :: S) (N, f) := by
  subst hN
  intro p e s m args below meth c H locs F hR hS ls hl
  obtain ⟨hP, hz⟩ := hR
  have hz : H.size = g_b G + N := hz
  have hts := F.2.2.2.2.2.1
  refine W.anew F.1 F.2.1 F.2.2.2.2.1 (hts _ hcl) (va_AO.use (F.2.2.2.2.2.2.1.2 _ hover rfl)) rfl hd rfl hn hbytes hcells hslots fun cA kA comp f1 f2 f3 f4 => ?_
  obtain ⟨kA', comp', -, -, -, hg⟩ := (F.2.2.2.2.2.2.1.1.2 t _ ht).2
  have ec : cA = g_c G t := Option.some.inj (f1.symm.trans hg)
  subst ec
  generalize hH1 : H.push ({ cls := g_c G t, slots := Array.replicate v.toNatClampNeg .null, vm := .none } : Cell) = H1
  have z1 : H1.size = H.size + 1 := by rw [← hH1, Array.size_push]
  have e1 : H1[H.size]? = some (arrV (g_c G t) v.toNatClampNeg (fun _ => .null)) := by rw [← hH1, Array.getElem?_push_size, ← arrV_new]
  have o1 : ∀ q : Nat, q < H.size → H1[q]? = H[q]? := fun q hq => by rw [← hH1, Array.getElem?_push, if_neg (Nat.ne_of_lt hq)]
  rw [hz] at e1 o1 z1 ⊢
  have hS1 : va_S (aw_A G) s.heap H1 locs := ⟨Nat.le_trans hS.1 (by omega), fun x h1 h2 => (o1 x (by have := hS.1; omega)).trans (hS.2.1 x h1 h2), hS.2.2⟩
  exact kk p e s m args below meth c H1 locs F ⟨PL_push hP o1 (by show H1[g_b G + N]? = some (vp_cell _ _); rw [vp_cell_q]; exact e1), z1⟩ hS1 ls hl
theorem B0.put {c0 ci k idx : Nat} {fs : List Value} {v : Value} {ty : FieldType} {fin : Bool} (hf : FL own idx ci k) (hlk : ∀ (C : String) (T : u_T) (NN : Nat), vwCl[ci]? = some (C, T, NN) → Cond.fieldLink own idx (T k).1 (T k).2.1 (T k).2.2.1 ∈ aw_ws ∧ C = own) (hft : FT ci k ty fin) (hnm : nm = "<init>") (hc0 : c0 < N) (hcell : f c0 = .inr (ci, fs)) (hk : k < fs.length) (hn : narrow ty (aw_v G v) = aw_v G v) (hfit : fits ty (aw_v G v) = true) (hd : decode b pc = .ok (.putfield idx, 3))
    (kk : BT G (R0 G) own nm b n rt rm K kc ks (pc + 3) L S (N, upf f c0 (.inr (ci, fs.set k (aw_v G v))))) : BT G (R0 G) own nm b n rt rm K kc ks pc L (v :: .ref c0 :: S) (N, f) := by
  intro p e s m args below meth cc H locs F hR hS ls hl
  obtain ⟨hP, hz⟩ := hR
  obtain ⟨C, T, NN, hc, hkN, hin, -⟩ := hf
  obtain ⟨hlk, hCo⟩ := hlk C T NN hc
  obtain ⟨C', T', N', ty0, hc', g1, g2, g3, g4, g5⟩ := hft
  cases hc.symm.trans hc'
  have hts := F.2.2.2.2.2.1
  have he : (PL (g_b G) N f)[c0]? = some (g_b G + c0, .inr (ci, fs)) := by rw [PL_at hc0, hcell]
  have hap := va_apart (own := own) hts hin ty0 g1 g2 F.2.2.2.2.2.2.1.1 hc
  obtain ⟨r, h1, cell, q1, q2, q3, q4⟩ := hP c0 _ he
  have hr : r = (C, T, NN) := Option.some.inj (h1.symm.trans hc)
  subst hr
  obtain ⟨hSl, hfc, kC, hkC, hkind⟩ := F.2.2.2.2.2.2.1.1.1 ci _ hc
  obtain ⟨cf, kf, fi, ff, hi, hsl⟩ := hSl k hkN
  have hlay := hts _ (hin _ (u_in_lay hkN))
  unfold u_lay at hlay
  have fin2 : ∀ H' : Heap, H'[g_b G + c0]? = some (cell.setSlot ff.slot (aw_v G v)) → H'.size = H.size → (∀ q, q ≠ g_b G + c0 → H'[q]? = H[q]?) → W p (g_l G) e rm s m args below meth cc H' (locs ++ [⟨g_b G + c0, ff.slot⟩]) kc ks (MQ below (aw_Q G (R0 G) rt K) args s rm.cells rm.slots (aw_A G)) (F0 m (pc + 3) ls (S.map (aw_v G))) := by
    intro H' e1 e2 e3
    rw [hsl] at e1 ⊢
    refine kk p e s m args below meth cc H' _ F ⟨PL_store hP hc0 ⟨_, hc, t_OB.to (V := updV (vp_V fs) k (aw_v G v)) ⟨_, e1, q2, q3, t_set q4 hap hkN (aw_v G v)⟩ (fun j _ => vp_updV_set hk (aw_v G v) j)⟩ e3, e2.trans hz⟩ (hS.put e2 e3 (Nat.le_add_right _ _)) ls hl
  cases fin with
  | false =>
    rw [if_neg (by rw [g3]; decide)] at hlay
    have hst := (u_facts hfc hkC (u_lays hts hin hkN) hi).1
    have h6 := u_store hfc hkC hkind hlay hi g4 hn hfit
    exact W.putK F.1 F.2.1 (f := ff) ⟨F.2.2.2.2.1, hts _ hlk, ⟨_, _, _, hi⟩, hst⟩ (by rw [q2]; exact h6) q1 q3 (by rw [hsl]; exact k2_hasslot (q4 k hkN)) rfl rfl hd fin2
  | true =>
    rw [if_pos g3] at hlay
    have hst := (u_facts hfc hkC (u_lays hts hin hkN) hi).1
    have hcf : m.cls = cf := by
      obtain ⟨_, _, c', _, _, _, -, -, hf', -, -, -, hown2, -⟩ := Cond.laysFinal_spec hlay
      have e1 : c' = cf := by have := hi.symm.trans hf'; simp at this; exact this.1.symm
      rw [g5, hCo] at hown2
      rw [← e1]; exact Option.some.inj (F.2.2.2.2.1.symm.trans hown2)
    have h6 := u_fits hfc hkC hkind (Or.inr hlay) hi g4 hn hfit
    exact W.putFinK F.1 F.2.1 F.2.2.2.2.1 (hts _ hlk) hi hst hcf (F.2.2.2.2.2.2.2.2.2.1.trans hnm) (by rw [q2]; exact h6) q1 q3 (by rw [hsl]; exact k2_hasslot (q4 k hkN)) rfl rfl hd fin2
theorem B0.get {c0 ci k idx : Nat} {fs : List Value} {v : Value} (hf : FL own idx ci k) (hc0 : c0 < N) (hcell : f c0 = .inr (ci, fs)) (hv : fs[k]? = some (aw_v G v)) (hd : decode b pc = .ok (.getfield idx, 3)) (kk : BT G (R0 G) own nm b n rt rm K kc ks (pc + 3) L (v :: S) (N, f)) : BT G (R0 G) own nm b n rt rm K kc ks pc L (.ref c0 :: S) (N, f) := by
  intro p e s m args below meth cc H locs F hR hS ls hl
  obtain ⟨C, T, NN, hc, hk, hin, hl0⟩ := hf
  have hts := F.2.2.2.2.2.1
  have he : (PL (g_b G) N f)[c0]? = some (g_b G + c0, .inr (ci, fs)) := by rw [PL_at hc0, hcell]
  have hkk := kk p e s m args below meth cc H locs F hR hS ls hl
  rcases hl0 with h | ⟨host, h⟩
  · exact va_get F.1 F.2.1 hts hin F.2.2.2.2.1 F.2.2.2.2.2.2.1.1 hR.1 c0 he hc k hk (hts _ h) (fun _ h => h) hv hd hkk
  · exact va_getN F.1 F.2.1 hts hin F.2.2.2.2.1 F.2.2.2.2.2.2.1.1 hR.1 c0 he hc k hk (va_Nw.use rfl (F.2.2.2.2.2.2.1.2 _ h rfl)) (fun _ h => h) hv hd hkk
theorem B0.aast {c0 t nn d ci : Nat} {g : Nat → Option Nat} {vs : List Value} {r : vw_C} {i : Int32} (hc0 : c0 < N) (hcell : f c0 = .inl (g_c G t, nn, .inr (.inr (.inr (.inr g))))) (ht : (aw_tys G)[t]? = some (g_c G t, .object r.1)) (hd0 : d < N) (hdc : f d = .inr (ci, vs)) (hc : vwCl[ci]? = some r) (hi : vp_in i nn) (hd : decode b pc = .ok (.aastore, 1))
    (kk : BT G (R0 G) own nm b n rt rm K kc ks (pc + 1) L S (N, upf f c0 (.inl (g_c G t, nn, .inr (.inr (.inr (.inr (va_up g i.toNatClampNeg (some (g_b G + d))))))))))
    : BT G (R0 G) own nm b n rt rm K kc ks pc L (.ref d :: .int i :: .ref c0 :: S) (N, f) := by
  intro p e s m args below meth cc H locs F hR hS ls hl
  obtain ⟨hP, hz⟩ := hR
  have hlt : i.toNatClampNeg < nn := Nat.not_le.mp fun q => hi (Or.inr q)
  have h0 : ¬ i < 0 := fun q => hi (Or.inl q)
  have ha : (PL (g_b G) N f)[c0]? = some (g_b G + c0, .inl (g_c G t, nn, .inr (.inr (.inr (.inr g))))) := by rw [PL_at hc0, hcell]
  have hv : (PL (g_b G) N f)[d]? = some (g_b G + d, .inr (ci, vs)) := by rw [PL_at hd0, hdc]
  have hK := F.2.2.2.2.2.2.1.1
  obtain ⟨r', hr', cellV, g1, g2, g3, -⟩ := hP d _ hv
  have hcls := (hK.1 ci r hc).2
  obtain ⟨kA, comp, k1, k2, k3, -⟩ := (hK.2 t _ ht).2
  have hcomp : comp = (g_D G).1 ci := Option.some.inj (k3.symm.trans hcls.1)
  subst hcomp
  obtain ⟨kC, hkC, -⟩ := hcls.2
  refine W.aast F.1 F.2.1 (hP c0 _ ha) (fun q h => by cases h) (fun h => by cases h) k1 k2 rfl hkC ⟨h0, by show _ < (arrV _ _ _).slots.size; rw [arrV_size]; exact hlt⟩ g1 (fun q h => by rw [g3] at h; cases h) (by rw [g2]; exact hkC) (by rw [g2]; exact va_assign hcls) rfl rfl hd fun H1 e1 z oq => ?_
  refine kk p e s m args below meth cc H1 _ F ⟨PL_store hP hc0 ?_ oq, z.trans hz⟩ (hS.put z oq (Nat.le_add_right _ _)) ls hl
  show H1[g_b G + c0]? = some (vp_cell _ _)
  rw [e1]
  rw [vp_cell_q, vp_cell_q, arrV_store]
  congr 2
  funext q
  by_cases hq : q = i.toNatClampNeg
  · subst hq
    simp [updV, va_up, va_rf]
  · simp [updV, va_up, hq]
end MAKE

