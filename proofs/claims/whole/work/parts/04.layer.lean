/-! ===== the layer: an abstract machine over an abstract memory, proved once over the kit's rows ===== -/
abbrev GT : Type := Launch × Nat × va_G × (Nat → ClassId) × Nat × Nat
abbrev g_l (G : GT) : Launch := G.1
abbrev g_b (G : GT) : Nat := G.2.1
abbrev g_D (G : GT) : va_G := G.2.2.1
abbrev g_c (G : GT) : Nat → ClassId := G.2.2.2.1
abbrev g_t1 (G : GT) : Nat := G.2.2.2.2.1
abbrev g_t2 (G : GT) : Nat := G.2.2.2.2.2
def nw_is : Cond → Bool
  | .fieldLinkNest _ _ _ _ _ _ => true
  | .methodLinkNest _ _ _ _ => true
  | .arrayOver (.object _) => true
  | _ => false
def aw_ws : List Cond := lw_tbl.filter goodWord
theorem aw_mem {w : Cond} (i : Nat) (h : lw_tbl[i]? = some w) (hg : goodWord w = true) : w ∈ aw_ws := List.mem_filter.mpr ⟨List.mem_of_getElem? h, hg⟩
theorem aw_goodIn {w0 : Cond} (h : w0 ∈ aw_ws) : GoodIn aw_ws (w0 :: aw_ws) := by
  intro w hw
  have hm : w ∈ aw_ws := by
    rcases List.mem_cons.mp hw with rfl | h2
    · exact h
    · exact h2
  exact ⟨hm, good_of_word (List.mem_filter.mp hm).2⟩
abbrev aw_tys (G : GT) : List (ClassId × FieldType) := [(g_c G 0, .int), (g_c G 1, .boolean), (g_c G 2, .object "BetweenLaws$Law"), (g_c G 3, .object "BetweenLaws$Piece"), (g_c G 4, .object "BetweenLaws$World")]
abbrev aw_A (G : GT) : Nat → Prop := fun q => g_b G ≤ q
def aw_K (G : GT) (U : State) : Prop := va_K (g_D G) vwCl (aw_tys G) U ∧ ∀ w ∈ lw_tbl, nw_is w = true → va_Nw w U
def aw_f1 : Nat → Int32 := fun j => match j with
  | 0 => -6
  | 1 => 99
  | 2 => 98
  | _ => 108
def aw_f2 : Nat → Int32 := fun j => match j with
  | 0 => 110
  | 1 => 104
  | _ => 97
def aw_T (G : GT) (U : State) (H : Heap) : Prop :=
  (va_Z "BetweenLaws" "WAY_LETTERS" "[I" (.ref (g_t1 G)) (aw_A G) U H ∧ va_T .int (g_t1 G) 4 (fun j => .int (aw_f1 j)) (aw_A G) U H) ∧
  (va_Z "BetweenLaws" "TIME_LETTERS" "[I" (.ref (g_t2 G)) (aw_A G) U H ∧ va_T .int (g_t2 G) 3 (fun j => .int (aw_f2 j)) (aw_A G) U H)
theorem aw_T.moved {G : GT} {u U : State} {H : Heap} (hvm : u.vm.Alike U.vm) (h : aw_T G u H) : aw_T G U H :=
  ⟨⟨h.1.1.moved hvm, h.1.2.moved hvm⟩, ⟨h.2.1.moved hvm, h.2.2.moved hvm⟩⟩
theorem aw_T.kept {G : GT} {U : State} {H H1 : Heap} (h : aw_T G U H) (hq : ∀ a : Nat, a < H.size → ¬ aw_A G a → H1[a]? = H[a]?) : aw_T G U H1 :=
  ⟨⟨h.1.1.kept hq, h.1.2.kept hq⟩, ⟨h.2.1.kept hq, h.2.2.kept hq⟩⟩
theorem aw_K.warm {G : GT} {s U : State} (hW : s.WarmedH U.vm) (h : aw_K G s) : aw_K G U := by
  refine ⟨va_K.moved hW.alike h.1, fun w hw hn => ?_⟩
  have h1 := h.2 w hw hn
  cases w <;> first | (cases hn; done) | exact va_Nw.warmF hW h1 | exact va_Nw.warmM hW h1 | (rename_i t; cases t <;> first | (cases hn; done) | exact va_AO.moved hW.alike h1)
theorem aw_K.same {G : GT} {s U : State} (hv : s.vm = U.vm) (h : aw_K G s) : aw_K G U := by
  refine ⟨va_K.moved (by rw [hv]; exact Vm.Alike.refl U.vm) h.1, fun w hw hn => ?_⟩
  have h1 := h.2 w hw hn
  cases w <;> first | (cases hn; done) | exact va_Nw.same rfl hv h1 | (rename_i t; cases t <;> first | (cases hn; done) | exact va_AO.moved (by rw [hv]; exact Vm.Alike.refl U.vm) h1)
def aw_W {μ : Type} (G : GT) (R : μ → Heap → Prop) (M : μ) (U : State) : Prop := R M U.heap ∧ aw_K G U ∧ aw_T G U U.heap ∧ g_b G ≤ U.heap.size
/-- what a method leaves (the class facts of the caller stand anyhow) -/
def aw_B {μ : Type} (G : GT) (R : μ → Heap → Prop) (M : μ) (t : State) : Prop := R M t.heap
def aw_Q {μ : Type} (G : GT) (R : μ → Heap → Prop) (rt : Option FieldType) (K : Int32 → μ → Prop) : Array Value → State → Outcome → State → Prop := match rt with
  | none => va_Qv (fun M => K 0 M) (aw_B G R) (aw_A G)
  | some _ => va_Qi (fun r M => K r M) (aw_B G R) (aw_A G)
def aw_v (G : GT) : Value → Value
  | .ref c => .ref (g_b G + c)
  | .float x => .ref (if x = 1 then g_t1 G else g_t2 G)
  | v => v
abbrev aw_lv (G : GT) (q : Nat × Value) : Nat × Value := (q.1, aw_v G q.2)
theorem aw_v_cat (G : GT) (v : Value) : (aw_v G v).category = v.category := by cases v <;> rfl
/-- a method's contract over the abstract memory -/
def MT {μ : Type} (G : GT) (R : μ → Heap → Prop) (y : MethodName) (b : ByteArray) (n : Nat) (rt : Option FieldType) (rm : Room) (as : List Value) (M : μ) (K : Int32 → μ → Prop) : Prop :=
  Met (g_l G) y (.code y b n rt :: aw_ws) rm (va_Pc (as.map (aw_v G)) (aw_W G R M)) (aw_Q G R rt K) rm.cells rm.slots (aw_A G)
/-- what stands in a method's body -/
def aw_F (G : GT) (own nm : String) (b : ByteArray) (n : Nat) (rt : Option FieldType) (p : Program) (s : State) (m : MethodId) (args : Array Value) (meth : Method) (c : Code) : Prop :=
  p.tables.exec = Jvm.exec ∧ c.code = b ∧ meth.sig.returnType = rt ∧ c.maxLocals = n ∧ s.vm.findClass own = some m.cls ∧ (∀ w ∈ aw_ws, w.before args s = true) ∧ aw_K G s ∧ aw_T G s s.heap ∧ meth.locks = false ∧ meth.name = nm ∧ g_b G ≤ s.heap.size
/-- the machine in a method's body, at pc, with abstract locals L, stack S, memory M, comes to its end with K -/
def BT {μ : Type} (G : GT) (R : μ → Heap → Prop) (own nm : String) (b : ByteArray) (n : Nat) (rt : Option FieldType) (rm : Room) (K : Int32 → μ → Prop) (kc ks pc : Nat) (L : List (Nat × Value)) (S : List Value) (M : μ) : Prop :=
  ∀ (p : Program) (e : Env) (s : State) (m : MethodId) (args : Array Value) (below : List Frame) (meth : Method) (c : Code) (H : Heap) (locs : List Loc),
    aw_F G own nm b n rt p s m args meth c → R M H → va_S (aw_A G) s.heap H locs → ∀ ls : Array Slot, lv_has ls n (L.map (aw_lv G)) →
    W p (g_l G) e rm s m args below meth c H locs kc ks (MQ below (aw_Q G R rt K) args s rm.cells rm.slots (aw_A G)) (F0 m pc ls (S.map (aw_v G)))
theorem aw_hA {G : GT} {s : State} {H : Heap} {locs : List Loc} (h : g_b G ≤ s.heap.size) (hS : va_S (aw_A G) s.heap H locs) : ∀ q : Nat, H.size ≤ q → aw_A G q := fun q hq => Nat.le_trans h (Nat.le_trans hS.1 hq)
theorem aw_argsmap (G : GT) : ∀ (vs : List Value) (i : Nat), lv_args i (vs.map (aw_v G)) = (lv_args i vs).map (aw_lv G)
  | [], _ => rfl
  | v :: vs, i => by
    show (i, aw_v G v) :: lv_args (if (aw_v G v).category = 2 then i + 2 else i + 1) (vs.map (aw_v G)) = _
    rw [aw_v_cat, aw_argsmap G vs]
    rfl
theorem aw_slen (G : GT) : ∀ (vs : List Value), (lg_sl (vs.map (aw_v G))).length = (lg_sl vs).length
  | [] => rfl
  | v :: vs => by
    have ih := aw_slen G vs
    unfold lg_sl at ih ⊢
    simp only [List.map_cons, List.flatMap_cons, List.length_append, aw_v_cat]
    rw [ih]
    congr 1
    split <;> rfl
section BTS
variable {μ : Type} {G : GT} {R : μ → Heap → Prop} {own nm : String} {b : ByteArray} {n : Nat} {rt : Option FieldType} {rm : Room} {K : Int32 → μ → Prop} {kc ks pc : Nat} {L : List (Nat × Value)} {S : List Value} {M : μ}
set_option maxHeartbeats 1000000 in
theorem MT.of {y : MethodName} (hy : plainName y.cls = true) (hcls : y.cls = own) (hnm : y.name = nm) {as : List Value} (hn : (lg_sl as).length ≤ n) (hL : lv_args 0 as = L) (k : BT G R own nm b n rt rm K 0 0 0 L [] M) : MT G R y b n rt rm as M K := by
  subst hcls
  subst hnm
  refine Met.ofW (cc := b) (maxL := n) (ret := rt) hy rfl ?_
  intro p e s m args below meth c s₁ B hml hv
  obtain ⟨rfl, hR, hK, hT, hz⟩ := hv
  have hts := atoms_spec (ws := Cond.code y b n rt :: aw_ws) B.pre
  have hl := lv_entry (as.map (aw_v G)) (n := n) (by rw [aw_slen]; exact hn)
  rw [lg_entry_eq]
  generalize (lg_sl (as.map (aw_v G)) ++ List.replicate (n - (lg_sl (as.map (aw_v G))).length) Slot.unset).toArray = ls at hl ⊢
  rw [aw_argsmap, hL] at hl
  exact k p e s m _ below meth c s.heap [] ⟨B.exec, B.bytes, B.returns, hml, findClass_of_methodNamed B.named, fun w hw => hts w (List.mem_cons_of_mem _ hw), hK, hT, B.notSynchronized, (name_of_methodNamed B.named B.method).1, hz⟩ hR va_S.rf ls hl
/-- fewer locals, in another order, by their places -/
theorem BT.sub {L' : List (Nat × Value)} (is : List Nat) (h : lv_pick L is = L') (k : BT G R own nm b n rt rm K kc ks pc L' S M) : BT G R own nm b n rt rm K kc ks pc L S M := by
  intro p e s m args below meth c H locs F hR hS ls hl
  refine k p e s m args below meth c H locs F hR hS ls (lv_sub hl is ?_)
  rw [← h]
  unfold lv_pick
  rw [List.map_filterMap]
  congr 1
  funext k
  rw [List.getElem?_map]
theorem BT.widen {kc' ks' : Nat} (h1 : kc ≤ kc') (h2 : ks ≤ ks') (k : BT G R own nm b n rt rm K kc' ks' pc L S M) : BT G R own nm b n rt rm K kc ks pc L S M :=
  fun p e s m args below meth c H locs F hR hS ls hl => W.widen h1 h2 (k p e s m args below meth c H locs F hR hS ls hl)
theorem aw_at {ls : Array Slot} (h : lv_has ls n (L.map (aw_lv G))) (k : Nat) {i : Nat} {v : Value} (hk : L[k]? = some (i, v)) : ls[i]? = some (.val (aw_v G v)) :=
  lv_at h k (by rw [List.getElem?_map, hk]; rfl)
theorem aw_filter1 (G : GT) (i : Nat) (v : Value) (L : List (Nat × Value)) : (i, aw_v G v) :: (L.map (aw_lv G)).filter (fun q => !(q.1 == i) && !(q.1 + 1 == i && q.2.category == 2)) = ((i, v) :: L.filter (fun q => !(q.1 == i) && !(q.1 + 1 == i && q.2.category == 2))).map (aw_lv G) := by
  rw [List.map_cons, List.filter_map]
  congr 2
  apply List.filter_congr
  intro q _
  simp [Function.comp, aw_v_cat]
theorem aw_filter2 (G : GT) (i : Nat) (v : Value) (L : List (Nat × Value)) : (i, aw_v G v) :: (L.map (aw_lv G)).filter (fun q => !(q.1 == i) && (!(q.1 == i + 1) && !(q.1 + 1 == i && q.2.category == 2))) = ((i, v) :: L.filter (fun q => !(q.1 == i) && (!(q.1 == i + 1) && !(q.1 + 1 == i && q.2.category == 2)))).map (aw_lv G) := by
  rw [List.map_cons, List.filter_map]
  congr 2
  apply List.filter_congr
  intro q _
  simp [Function.comp, aw_v_cat]
theorem BT.iconst {k : Int} {v : Int32} (hd : decode b pc = .ok (.iconst k, 1)) (hv : Int32.ofInt k = v) (kk : BT G R own nm b n rt rm K kc ks (pc + 1) L (.int v :: S) M) : BT G R own nm b n rt rm K kc ks pc L S M :=
  fun p e s m args below meth c H locs F hR hS ls hl => lv_iconst F.1 F.2.1 hd hv (kk p e s m args below meth c H locs F hR hS ls hl)
theorem BT.bipush {k : Int} {v : Int32} (hd : decode b pc = .ok (.bipush k, 2)) (hv : (Int8.ofInt k).toInt32 = v) (kk : BT G R own nm b n rt rm K kc ks (pc + 2) L (.int v :: S) M) : BT G R own nm b n rt rm K kc ks pc L S M :=
  fun p e s m args below meth c H locs F hR hS ls hl => lv_bipush F.1 F.2.1 hd hv (kk p e s m args below meth c H locs F hR hS ls hl)
theorem BT.sipush {k : Int} {v : Int32} (hd : decode b pc = .ok (.sipush k, 3)) (hv : (Int16.ofInt k).toInt32 = v) (kk : BT G R own nm b n rt rm K kc ks (pc + 3) L (.int v :: S) M) : BT G R own nm b n rt rm K kc ks pc L S M :=
  fun p e s m args below meth c H locs F hR hS ls hl => lv_sipush F.1 F.2.1 hd hv (kk p e s m args below meth c H locs F hR hS ls hl)
theorem BT.lconst {k : Fin 2} {v : Int64} (hd : decode b pc = .ok (.lconst k, 1)) (hv : Int64.ofNat (k : Nat) = v) (kk : BT G R own nm b n rt rm K kc ks (pc + 1) L (.long v :: S) M) : BT G R own nm b n rt rm K kc ks pc L S M :=
  fun p e s m args below meth c H locs F hR hS ls hl => lv_lconst F.1 F.2.1 hd hv (kk p e s m args below meth c H locs F hR hS ls hl)
theorem BT.iload_n {k : Fin 4} {i : Nat} {x : Int32} (hd : decode b pc = .ok (.iload_n k, 1)) (hi : (k : Nat) = i) (j : Nat) (hj : L[j]? = some (i, .int x)) (kk : BT G R own nm b n rt rm K kc ks (pc + 1) L (.int x :: S) M) : BT G R own nm b n rt rm K kc ks pc L S M :=
  fun p e s m args below meth c H locs F hR hS ls hl => lv_iload_n F.1 F.2.1 hd hi (aw_at hl j hj) (kk p e s m args below meth c H locs F hR hS ls hl)
theorem BT.iload {i : Nat} {x : Int32} (hd : decode b pc = .ok (.iload i, 2)) (j : Nat) (hj : L[j]? = some (i, .int x)) (kk : BT G R own nm b n rt rm K kc ks (pc + 2) L (.int x :: S) M) : BT G R own nm b n rt rm K kc ks pc L S M :=
  fun p e s m args below meth c H locs F hR hS ls hl => lv_iload F.1 F.2.1 hd (aw_at hl j hj) (kk p e s m args below meth c H locs F hR hS ls hl)
theorem BT.lload_n {k : Fin 4} {i : Nat} {x : Int64} (hd : decode b pc = .ok (.lload_n k, 1)) (hi : (k : Nat) = i) (j : Nat) (hj : L[j]? = some (i, .long x)) (kk : BT G R own nm b n rt rm K kc ks (pc + 1) L (.long x :: S) M) : BT G R own nm b n rt rm K kc ks pc L S M :=
  fun p e s m args below meth c H locs F hR hS ls hl => lv_lload_n F.1 F.2.1 hd hi (aw_at hl j hj) (kk p e s m args below meth c H locs F hR hS ls hl)
theorem BT.lload {i : Nat} {x : Int64} (hd : decode b pc = .ok (.lload i, 2)) (j : Nat) (hj : L[j]? = some (i, .long x)) (kk : BT G R own nm b n rt rm K kc ks (pc + 2) L (.long x :: S) M) : BT G R own nm b n rt rm K kc ks pc L S M :=
  fun p e s m args below meth c H locs F hR hS ls hl => lv_lload F.1 F.2.1 hd (aw_at hl j hj) (kk p e s m args below meth c H locs F hR hS ls hl)
theorem BT.aload_n {k : Fin 4} {i : Nat} {x : Nat} (hd : decode b pc = .ok (.aload_n k, 1)) (hi : (k : Nat) = i) (j : Nat) (hj : L[j]? = some (i, .ref x)) (kk : BT G R own nm b n rt rm K kc ks (pc + 1) L (.ref x :: S) M) : BT G R own nm b n rt rm K kc ks pc L S M :=
  fun p e s m args below meth c H locs F hR hS ls hl => lv_aload_n F.1 F.2.1 hd hi (aw_at hl j hj) (kk p e s m args below meth c H locs F hR hS ls hl)
theorem BT.aload {i : Nat} {x : Nat} (hd : decode b pc = .ok (.aload i, 2)) (j : Nat) (hj : L[j]? = some (i, .ref x)) (kk : BT G R own nm b n rt rm K kc ks (pc + 2) L (.ref x :: S) M) : BT G R own nm b n rt rm K kc ks pc L S M :=
  fun p e s m args below meth c H locs F hR hS ls hl => lv_aload F.1 F.2.1 hd (aw_at hl j hj) (kk p e s m args below meth c H locs F hR hS ls hl)
theorem BT.istore_n {k : Fin 4} {i : Nat} {x : Int32} {L' : List (Nat × Value)} (hd : decode b pc = .ok (.istore_n k, 1)) (hi : (k : Nat) = i) (hn : i < n) (h : (i, Value.int x) :: L.filter (fun q => !(q.1 == i) && !(q.1 + 1 == i && q.2.category == 2)) = L') (kk : BT G R own nm b n rt rm K kc ks (pc + 1) L' S M) : BT G R own nm b n rt rm K kc ks pc L (.int x :: S) M :=
  fun p e s m args below meth c H locs F hR hS ls hl => lv_istore_n F.1 F.2.1 hd hi hl hn ((aw_filter1 G i (.int x) L).trans (congrArg _ h)) (fun ls hl => kk p e s m args below meth c H locs F hR hS ls hl)
theorem BT.istore {i : Nat} {x : Int32} {L' : List (Nat × Value)} (hd : decode b pc = .ok (.istore i, 2)) (hn : i < n) (h : (i, Value.int x) :: L.filter (fun q => !(q.1 == i) && !(q.1 + 1 == i && q.2.category == 2)) = L') (kk : BT G R own nm b n rt rm K kc ks (pc + 2) L' S M) : BT G R own nm b n rt rm K kc ks pc L (.int x :: S) M :=
  fun p e s m args below meth c H locs F hR hS ls hl => lv_istore F.1 F.2.1 hd hl hn ((aw_filter1 G i (.int x) L).trans (congrArg _ h)) (fun ls hl => kk p e s m args below meth c H locs F hR hS ls hl)
theorem BT.lstore_n {k : Fin 4} {i : Nat} {x : Int64} {L' : List (Nat × Value)} (hd : decode b pc = .ok (.lstore_n k, 1)) (hi : (k : Nat) = i) (hn : i + 1 < n) (h : (i, Value.long x) :: L.filter (fun q => !(q.1 == i) && (!(q.1 == i + 1) && !(q.1 + 1 == i && q.2.category == 2))) = L') (kk : BT G R own nm b n rt rm K kc ks (pc + 1) L' S M) : BT G R own nm b n rt rm K kc ks pc L (.long x :: S) M :=
  fun p e s m args below meth c H locs F hR hS ls hl => lv_lstore_n F.1 F.2.1 hd hi hl hn ((aw_filter2 G i (.long x) L).trans (congrArg _ h)) (fun ls hl => kk p e s m args below meth c H locs F hR hS ls hl)
theorem BT.astore_n {k : Fin 4} {i : Nat} {x : Nat} {L' : List (Nat × Value)} (hd : decode b pc = .ok (.astore_n k, 1)) (hi : (k : Nat) = i) (hn : i < n) (h : (i, Value.ref x) :: L.filter (fun q => !(q.1 == i) && !(q.1 + 1 == i && q.2.category == 2)) = L') (kk : BT G R own nm b n rt rm K kc ks (pc + 1) L' S M) : BT G R own nm b n rt rm K kc ks pc L (.ref x :: S) M :=
  fun p e s m args below meth c H locs F hR hS ls hl => lv_astore_n F.1 F.2.1 hd hi hl hn ((aw_filter1 G i (.ref x) L).trans (congrArg _ h)) (fun ls hl => kk p e s m args below meth c H locs F hR hS ls hl)
theorem BT.astore {i : Nat} {x : Nat} {L' : List (Nat × Value)} (hd : decode b pc = .ok (.astore i, 2)) (hn : i < n) (h : (i, Value.ref x) :: L.filter (fun q => !(q.1 == i) && !(q.1 + 1 == i && q.2.category == 2)) = L') (kk : BT G R own nm b n rt rm K kc ks (pc + 2) L' S M) : BT G R own nm b n rt rm K kc ks pc L (.ref x :: S) M :=
  fun p e s m args below meth c H locs F hR hS ls hl => lv_astore F.1 F.2.1 hd hl hn ((aw_filter1 G i (.ref x) L).trans (congrArg _ h)) (fun ls hl => kk p e s m args below meth c H locs F hR hS ls hl)
theorem BT.iinc {i j : Nat} {k : Int} {x v : Int32} {L' : List (Nat × Value)} (hd : decode b pc = .ok (.iinc i k, 3)) (hj : L[j]? = some (i, .int x)) (hv : x + Int32.ofInt k = v) (hn : i < n) (h : (i, Value.int v) :: L.filter (fun q => !(q.1 == i) && !(q.1 + 1 == i && q.2.category == 2)) = L') (kk : BT G R own nm b n rt rm K kc ks (pc + 3) L' S M) : BT G R own nm b n rt rm K kc ks pc L S M :=
  fun p e s m args below meth c H locs F hR hS ls hl => lv_iinc F.1 F.2.1 hd hl (k := j) (by rw [List.getElem?_map, hj]; rfl) hv hn ((aw_filter1 G i (.int v) L).trans (congrArg _ h)) (fun ls hl => kk p e s m args below meth c H locs F hR hS ls hl)
theorem BT.iadd {x y : Int32} (hd : decode b pc = .ok (.iadd, 1)) (kk : BT G R own nm b n rt rm K kc ks (pc + 1) L (.int (x + y) :: S) M) : BT G R own nm b n rt rm K kc ks pc L (.int y :: .int x :: S) M :=
  fun p e s m args below meth c H locs F hR hS ls hl => lv_iadd F.1 F.2.1 hd (kk p e s m args below meth c H locs F hR hS ls hl)
theorem BT.isub {x y : Int32} (hd : decode b pc = .ok (.isub, 1)) (kk : BT G R own nm b n rt rm K kc ks (pc + 1) L (.int (x - y) :: S) M) : BT G R own nm b n rt rm K kc ks pc L (.int y :: .int x :: S) M :=
  fun p e s m args below meth c H locs F hR hS ls hl => lv_isub F.1 F.2.1 hd (kk p e s m args below meth c H locs F hR hS ls hl)
theorem BT.imul {x y : Int32} (hd : decode b pc = .ok (.imul, 1)) (kk : BT G R own nm b n rt rm K kc ks (pc + 1) L (.int (x * y) :: S) M) : BT G R own nm b n rt rm K kc ks pc L (.int y :: .int x :: S) M :=
  fun p e s m args below meth c H locs F hR hS ls hl => lv_imul F.1 F.2.1 hd (kk p e s m args below meth c H locs F hR hS ls hl)
theorem BT.iand {x y : Int32} (hd : decode b pc = .ok (.iand, 1)) (kk : BT G R own nm b n rt rm K kc ks (pc + 1) L (.int (x &&& y) :: S) M) : BT G R own nm b n rt rm K kc ks pc L (.int y :: .int x :: S) M :=
  fun p e s m args below meth c H locs F hR hS ls hl => lv_iand F.1 F.2.1 hd (kk p e s m args below meth c H locs F hR hS ls hl)
theorem BT.ior {x y : Int32} (hd : decode b pc = .ok (.ior, 1)) (kk : BT G R own nm b n rt rm K kc ks (pc + 1) L (.int (x ||| y) :: S) M) : BT G R own nm b n rt rm K kc ks pc L (.int y :: .int x :: S) M :=
  fun p e s m args below meth c H locs F hR hS ls hl => lv_ior F.1 F.2.1 hd (kk p e s m args below meth c H locs F hR hS ls hl)
theorem BT.ixor {x y : Int32} (hd : decode b pc = .ok (.ixor, 1)) (kk : BT G R own nm b n rt rm K kc ks (pc + 1) L (.int (x ^^^ y) :: S) M) : BT G R own nm b n rt rm K kc ks pc L (.int y :: .int x :: S) M :=
  fun p e s m args below meth c H locs F hR hS ls hl => lv_ixor F.1 F.2.1 hd (kk p e s m args below meth c H locs F hR hS ls hl)
theorem BT.ishl {x y : Int32} (hd : decode b pc = .ok (.ishl, 1)) (kk : BT G R own nm b n rt rm K kc ks (pc + 1) L (.int (x <<< (y &&& 31)) :: S) M) : BT G R own nm b n rt rm K kc ks pc L (.int y :: .int x :: S) M :=
  fun p e s m args below meth c H locs F hR hS ls hl => lv_ishl F.1 F.2.1 hd (kk p e s m args below meth c H locs F hR hS ls hl)
theorem BT.ishr {x y : Int32} (hd : decode b pc = .ok (.ishr, 1)) (kk : BT G R own nm b n rt rm K kc ks (pc + 1) L (.int (x >>> (y &&& 31)) :: S) M) : BT G R own nm b n rt rm K kc ks pc L (.int y :: .int x :: S) M :=
  fun p e s m args below meth c H locs F hR hS ls hl => lv_ishr F.1 F.2.1 hd (kk p e s m args below meth c H locs F hR hS ls hl)
theorem BT.idiv {x y : Int32} (hd : decode b pc = .ok (.idiv, 1)) (hne : ¬ y = 0) (kk : BT G R own nm b n rt rm K kc ks (pc + 1) L (.int (x / y) :: S) M) : BT G R own nm b n rt rm K kc ks pc L (.int y :: .int x :: S) M :=
  fun p e s m args below meth c H locs F hR hS ls hl => lv_idiv F.1 F.2.1 hd hne (kk p e s m args below meth c H locs F hR hS ls hl)
theorem BT.irem {x y : Int32} (hd : decode b pc = .ok (.irem, 1)) (hne : ¬ y = 0) (kk : BT G R own nm b n rt rm K kc ks (pc + 1) L (.int (x - x / y * y) :: S) M) : BT G R own nm b n rt rm K kc ks pc L (.int y :: .int x :: S) M :=
  fun p e s m args below meth c H locs F hR hS ls hl => lv_irem F.1 F.2.1 hd hne (kk p e s m args below meth c H locs F hR hS ls hl)
theorem BT.ladd {x y : Int64} (hd : decode b pc = .ok (.ladd, 1)) (kk : BT G R own nm b n rt rm K kc ks (pc + 1) L (.long (x + y) :: S) M) : BT G R own nm b n rt rm K kc ks pc L (.long y :: .long x :: S) M :=
  fun p e s m args below meth c H locs F hR hS ls hl => lv_ladd F.1 F.2.1 hd (kk p e s m args below meth c H locs F hR hS ls hl)
theorem BT.lsub {x y : Int64} (hd : decode b pc = .ok (.lsub, 1)) (kk : BT G R own nm b n rt rm K kc ks (pc + 1) L (.long (x - y) :: S) M) : BT G R own nm b n rt rm K kc ks pc L (.long y :: .long x :: S) M :=
  fun p e s m args below meth c H locs F hR hS ls hl => lv_lsub F.1 F.2.1 hd (kk p e s m args below meth c H locs F hR hS ls hl)
theorem BT.land {x y : Int64} (hd : decode b pc = .ok (.land, 1)) (kk : BT G R own nm b n rt rm K kc ks (pc + 1) L (.long (x &&& y) :: S) M) : BT G R own nm b n rt rm K kc ks pc L (.long y :: .long x :: S) M :=
  fun p e s m args below meth c H locs F hR hS ls hl => lv_land F.1 F.2.1 hd (kk p e s m args below meth c H locs F hR hS ls hl)
theorem BT.lor {x y : Int64} (hd : decode b pc = .ok (.lor, 1)) (kk : BT G R own nm b n rt rm K kc ks (pc + 1) L (.long (x ||| y) :: S) M) : BT G R own nm b n rt rm K kc ks pc L (.long y :: .long x :: S) M :=
  fun p e s m args below meth c H locs F hR hS ls hl => lv_lor F.1 F.2.1 hd (kk p e s m args below meth c H locs F hR hS ls hl)
theorem BT.iushr {x y : Int32} (hd : decode b pc = .ok (.iushr, 1)) (kk : BT G R own nm b n rt rm K kc ks (pc + 1) L (.int ((x.toUInt32 >>> (y.toUInt32 &&& Int32.toUInt32 31)).toInt32) :: S) M) : BT G R own nm b n rt rm K kc ks pc L (.int y :: .int x :: S) M :=
  fun p e s m args below meth c H locs F hR hS ls hl => lv_iushr F.1 F.2.1 hd rfl (kk p e s m args below meth c H locs F hR hS ls hl)
theorem BT.lushr {x : Int64} {y : Int32} (hd : decode b pc = .ok (.lushr, 1)) (kk : BT G R own nm b n rt rm K kc ks (pc + 1) L (.long ((x.toUInt64 >>> (y.toInt64.toUInt64 &&& Int64.toUInt64 63)).toInt64) :: S) M) : BT G R own nm b n rt rm K kc ks pc L (.int y :: .long x :: S) M :=
  fun p e s m args below meth c H locs F hR hS ls hl => lv_lushr F.1 F.2.1 hd rfl (kk p e s m args below meth c H locs F hR hS ls hl)
theorem BT.lshl {x : Int64} {y : Int32} (hd : decode b pc = .ok (.lshl, 1)) (kk : BT G R own nm b n rt rm K kc ks (pc + 1) L (.long (x <<< (y.toInt64 &&& 63)) :: S) M) : BT G R own nm b n rt rm K kc ks pc L (.int y :: .long x :: S) M :=
  fun p e s m args below meth c H locs F hR hS ls hl => lv_lshl F.1 F.2.1 hd rfl (kk p e s m args below meth c H locs F hR hS ls hl)
theorem BT.i2l {x : Int32} (hd : decode b pc = .ok (.i2l, 1)) (kk : BT G R own nm b n rt rm K kc ks (pc + 1) L (.long x.toInt64 :: S) M) : BT G R own nm b n rt rm K kc ks pc L (.int x :: S) M :=
  fun p e s m args below meth c H locs F hR hS ls hl => lv_i2l F.1 F.2.1 hd rfl (kk p e s m args below meth c H locs F hR hS ls hl)
theorem BT.l2i {x : Int64} (hd : decode b pc = .ok (.l2i, 1)) (kk : BT G R own nm b n rt rm K kc ks (pc + 1) L (.int x.toInt32 :: S) M) : BT G R own nm b n rt rm K kc ks pc L (.long x :: S) M :=
  fun p e s m args below meth c H locs F hR hS ls hl => lv_l2i F.1 F.2.1 hd rfl (kk p e s m args below meth c H locs F hR hS ls hl)
theorem BT.dup {v : Value} (hd : decode b pc = .ok (.dup, 1)) (hv : v.category = 1) (kk : BT G R own nm b n rt rm K kc ks (pc + 1) L (v :: v :: S) M) : BT G R own nm b n rt rm K kc ks pc L (v :: S) M :=
  fun p e s m args below meth c H locs F hR hS ls hl => lv_dup F.1 F.2.1 hd ((aw_v_cat G v).trans hv) (kk p e s m args below meth c H locs F hR hS ls hl)
theorem BT.pop {v : Value} (hd : decode b pc = .ok (.pop, 1)) (hv : v.category = 1) (kk : BT G R own nm b n rt rm K kc ks (pc + 1) L S M) : BT G R own nm b n rt rm K kc ks pc L (v :: S) M :=
  fun p e s m args below meth c H locs F hR hS ls hl => lv_pop F.1 F.2.1 hd ((aw_v_cat G v).trans hv) (kk p e s m args below meth c H locs F hR hS ls hl)
theorem BT.dup2 {v w : Value} (hd : decode b pc = .ok (.dup2, 1)) (hv : v.category = 1) (hw : w.category = 1) (kk : BT G R own nm b n rt rm K kc ks (pc + 1) L (v :: w :: v :: w :: S) M) : BT G R own nm b n rt rm K kc ks pc L (v :: w :: S) M :=
  fun p e s m args below meth c H locs F hR hS ls hl => lv_dup2_11 F.1 F.2.1 hd ((aw_v_cat G v).trans hv) ((aw_v_cat G w).trans hw) (kk p e s m args below meth c H locs F hR hS ls hl)
theorem BT.if_eq {x : Int32} {off : Int} {tgt : Nat} (hd : decode b pc = .ok (.ifCond .eq off, 3)) (ht : (pc : Int) + off = (tgt : Int)) (kt : x = 0 → BT G R own nm b n rt rm K kc ks tgt L S M) (kf : ¬ x = 0 → BT G R own nm b n rt rm K kc ks (pc + 3) L S M) : BT G R own nm b n rt rm K kc ks pc L (.int x :: S) M :=
  fun p e s m args below meth c H locs F hR hS ls hl => lv_if_eq F.1 F.2.1 hd ht (fun h => kt h p e s m args below meth c H locs F hR hS ls hl) (fun h => kf h p e s m args below meth c H locs F hR hS ls hl)
theorem BT.icmp_eq {x y : Int32} {off : Int} {tgt : Nat} (hd : decode b pc = .ok (.if_icmp .eq off, 3)) (ht : (pc : Int) + off = (tgt : Int)) (kt : x = y → BT G R own nm b n rt rm K kc ks tgt L S M) (kf : ¬ x = y → BT G R own nm b n rt rm K kc ks (pc + 3) L S M) : BT G R own nm b n rt rm K kc ks pc L (.int y :: .int x :: S) M :=
  fun p e s m args below meth c H locs F hR hS ls hl => lv_icmp_eq F.1 F.2.1 hd ht (fun h => kt h p e s m args below meth c H locs F hR hS ls hl) (fun h => kf h p e s m args below meth c H locs F hR hS ls hl)
theorem BT.if_ne {x : Int32} {off : Int} {tgt : Nat} (hd : decode b pc = .ok (.ifCond .ne off, 3)) (ht : (pc : Int) + off = (tgt : Int)) (kt : ¬ x = 0 → BT G R own nm b n rt rm K kc ks tgt L S M) (kf : x = 0 → BT G R own nm b n rt rm K kc ks (pc + 3) L S M) : BT G R own nm b n rt rm K kc ks pc L (.int x :: S) M :=
  fun p e s m args below meth c H locs F hR hS ls hl => lv_if_ne F.1 F.2.1 hd ht (fun h => kt h p e s m args below meth c H locs F hR hS ls hl) (fun h => kf h p e s m args below meth c H locs F hR hS ls hl)
theorem BT.icmp_ne {x y : Int32} {off : Int} {tgt : Nat} (hd : decode b pc = .ok (.if_icmp .ne off, 3)) (ht : (pc : Int) + off = (tgt : Int)) (kt : ¬ x = y → BT G R own nm b n rt rm K kc ks tgt L S M) (kf : x = y → BT G R own nm b n rt rm K kc ks (pc + 3) L S M) : BT G R own nm b n rt rm K kc ks pc L (.int y :: .int x :: S) M :=
  fun p e s m args below meth c H locs F hR hS ls hl => lv_icmp_ne F.1 F.2.1 hd ht (fun h => kt h p e s m args below meth c H locs F hR hS ls hl) (fun h => kf h p e s m args below meth c H locs F hR hS ls hl)
theorem BT.if_lt {x : Int32} {off : Int} {tgt : Nat} (hd : decode b pc = .ok (.ifCond .lt off, 3)) (ht : (pc : Int) + off = (tgt : Int)) (kt : x < 0 → BT G R own nm b n rt rm K kc ks tgt L S M) (kf : ¬ x < 0 → BT G R own nm b n rt rm K kc ks (pc + 3) L S M) : BT G R own nm b n rt rm K kc ks pc L (.int x :: S) M :=
  fun p e s m args below meth c H locs F hR hS ls hl => lv_if_lt F.1 F.2.1 hd ht (fun h => kt h p e s m args below meth c H locs F hR hS ls hl) (fun h => kf h p e s m args below meth c H locs F hR hS ls hl)
theorem BT.icmp_lt {x y : Int32} {off : Int} {tgt : Nat} (hd : decode b pc = .ok (.if_icmp .lt off, 3)) (ht : (pc : Int) + off = (tgt : Int)) (kt : x < y → BT G R own nm b n rt rm K kc ks tgt L S M) (kf : ¬ x < y → BT G R own nm b n rt rm K kc ks (pc + 3) L S M) : BT G R own nm b n rt rm K kc ks pc L (.int y :: .int x :: S) M :=
  fun p e s m args below meth c H locs F hR hS ls hl => lv_icmp_lt F.1 F.2.1 hd ht (fun h => kt h p e s m args below meth c H locs F hR hS ls hl) (fun h => kf h p e s m args below meth c H locs F hR hS ls hl)
theorem BT.if_ge {x : Int32} {off : Int} {tgt : Nat} (hd : decode b pc = .ok (.ifCond .ge off, 3)) (ht : (pc : Int) + off = (tgt : Int)) (kt : 0 ≤ x → BT G R own nm b n rt rm K kc ks tgt L S M) (kf : ¬ 0 ≤ x → BT G R own nm b n rt rm K kc ks (pc + 3) L S M) : BT G R own nm b n rt rm K kc ks pc L (.int x :: S) M :=
  fun p e s m args below meth c H locs F hR hS ls hl => lv_if_ge F.1 F.2.1 hd ht (fun h => kt h p e s m args below meth c H locs F hR hS ls hl) (fun h => kf h p e s m args below meth c H locs F hR hS ls hl)
theorem BT.icmp_ge {x y : Int32} {off : Int} {tgt : Nat} (hd : decode b pc = .ok (.if_icmp .ge off, 3)) (ht : (pc : Int) + off = (tgt : Int)) (kt : y ≤ x → BT G R own nm b n rt rm K kc ks tgt L S M) (kf : ¬ y ≤ x → BT G R own nm b n rt rm K kc ks (pc + 3) L S M) : BT G R own nm b n rt rm K kc ks pc L (.int y :: .int x :: S) M :=
  fun p e s m args below meth c H locs F hR hS ls hl => lv_icmp_ge F.1 F.2.1 hd ht (fun h => kt h p e s m args below meth c H locs F hR hS ls hl) (fun h => kf h p e s m args below meth c H locs F hR hS ls hl)
theorem BT.if_gt {x : Int32} {off : Int} {tgt : Nat} (hd : decode b pc = .ok (.ifCond .gt off, 3)) (ht : (pc : Int) + off = (tgt : Int)) (kt : 0 < x → BT G R own nm b n rt rm K kc ks tgt L S M) (kf : ¬ 0 < x → BT G R own nm b n rt rm K kc ks (pc + 3) L S M) : BT G R own nm b n rt rm K kc ks pc L (.int x :: S) M :=
  fun p e s m args below meth c H locs F hR hS ls hl => lv_if_gt F.1 F.2.1 hd ht (fun h => kt h p e s m args below meth c H locs F hR hS ls hl) (fun h => kf h p e s m args below meth c H locs F hR hS ls hl)
theorem BT.icmp_gt {x y : Int32} {off : Int} {tgt : Nat} (hd : decode b pc = .ok (.if_icmp .gt off, 3)) (ht : (pc : Int) + off = (tgt : Int)) (kt : y < x → BT G R own nm b n rt rm K kc ks tgt L S M) (kf : ¬ y < x → BT G R own nm b n rt rm K kc ks (pc + 3) L S M) : BT G R own nm b n rt rm K kc ks pc L (.int y :: .int x :: S) M :=
  fun p e s m args below meth c H locs F hR hS ls hl => lv_icmp_gt F.1 F.2.1 hd ht (fun h => kt h p e s m args below meth c H locs F hR hS ls hl) (fun h => kf h p e s m args below meth c H locs F hR hS ls hl)
theorem BT.if_le {x : Int32} {off : Int} {tgt : Nat} (hd : decode b pc = .ok (.ifCond .le off, 3)) (ht : (pc : Int) + off = (tgt : Int)) (kt : x ≤ 0 → BT G R own nm b n rt rm K kc ks tgt L S M) (kf : ¬ x ≤ 0 → BT G R own nm b n rt rm K kc ks (pc + 3) L S M) : BT G R own nm b n rt rm K kc ks pc L (.int x :: S) M :=
  fun p e s m args below meth c H locs F hR hS ls hl => lv_if_le F.1 F.2.1 hd ht (fun h => kt h p e s m args below meth c H locs F hR hS ls hl) (fun h => kf h p e s m args below meth c H locs F hR hS ls hl)
theorem BT.icmp_le {x y : Int32} {off : Int} {tgt : Nat} (hd : decode b pc = .ok (.if_icmp .le off, 3)) (ht : (pc : Int) + off = (tgt : Int)) (kt : x ≤ y → BT G R own nm b n rt rm K kc ks tgt L S M) (kf : ¬ x ≤ y → BT G R own nm b n rt rm K kc ks (pc + 3) L S M) : BT G R own nm b n rt rm K kc ks pc L (.int y :: .int x :: S) M :=
  fun p e s m args below meth c H locs F hR hS ls hl => lv_icmp_le F.1 F.2.1 hd ht (fun h => kt h p e s m args below meth c H locs F hR hS ls hl) (fun h => kf h p e s m args below meth c H locs F hR hS ls hl)
theorem BT.goto {off : Int} {tgt : Nat} (hd : decode b pc = .ok (.goto off, 3)) (ht : (pc : Int) + off = (tgt : Int)) (kk : BT G R own nm b n rt rm K kc ks tgt L S M) : BT G R own nm b n rt rm K kc ks pc L S M :=
  fun p e s m args below meth c H locs F hR hS ls hl => lv_goto F.1 F.2.1 hd ht (kk p e s m args below meth c H locs F hR hS ls hl)
theorem BT.tsw {dflt lo hi : Int} {offs : Array Int} {len : Nat} {x : Int32} {td : Nat} (hd : decode b pc = .ok (.tableswitch dflt lo hi offs, len)) (ht : (pc : Int) + dflt = (td : Int)) (kd : (x.toInt < lo ∨ hi < x.toInt) → BT G R own nm b n rt rm K kc ks td L S M) (ki : ∀ j : Nat, x.toInt = lo + (j : Int) → lo + (j : Int) ≤ hi → ∃ (tgt : Nat) (off : Int), offs[j]? = some off ∧ (pc : Int) + off = (tgt : Int) ∧ BT G R own nm b n rt rm K kc ks tgt L S M) : BT G R own nm b n rt rm K kc ks pc L (.int x :: S) M := by
  intro p e s m args below meth c H locs F hR hS ls hl
  by_cases h : x.toInt < lo ∨ hi < x.toInt
  · exact lv_tableOut F.1 F.2.1 hd h ht (kd h p e s m args below meth c H locs F hR hS ls hl)
  · have h1 : ¬ x.toInt < lo := fun q => h (Or.inl q)
    have h2 : ¬ hi < x.toInt := fun q => h (Or.inr q)
    obtain ⟨tgt, off, e1, e2, k⟩ := ki (x.toInt - lo).toNat (by omega) (by omega)
    exact lv_tableIn F.1 F.2.1 hd h1 h2 e1 e2 (k p e s m args below meth c H locs F hR hS ls hl)
theorem BT.ldc2 {index : Nat} {v : Int64} (hd : decode b pc = .ok (.ldc2_w index, 3)) (hw : Cond.constantLong own index v ∈ aw_ws) (kk : BT G R own nm b n rt rm K kc ks (pc + 3) L (.long v :: S) M) : BT G R own nm b n rt rm K kc ks pc L S M :=
  fun p e s m args below meth c H locs F hR hS ls hl => lv_ldc2 F.1 F.2.1 F.2.2.2.2.1 (F.2.2.2.2.2.1 _ hw) hd (kk p e s m args below meth c H locs F hR hS ls hl)
theorem BT.ldcw {index : Nat} {v : Int32} (hd : decode b pc = .ok (.ldc_w index, 3)) (hw : Cond.constant own index v ∈ aw_ws) (kk : BT G R own nm b n rt rm K kc ks (pc + 3) L (.int v :: S) M) : BT G R own nm b n rt rm K kc ks pc L S M :=
  fun p e s m args below meth c H locs F hR hS ls hl => lv_ldcw F.1 F.2.1 F.2.2.2.2.1 (F.2.2.2.2.2.1 _ hw) hd (kk p e s m args below meth c H locs F hR hS ls hl)
theorem BT.lcmp {x y : Int64} (hd : decode b pc = .ok (.lcmp, 1)) (kk : BT G R own nm b n rt rm K kc ks (pc + 1) L (.int (lg_cmp x y) :: S) M) : BT G R own nm b n rt rm K kc ks pc L (.long y :: .long x :: S) M :=
  fun p e s m args below meth c H locs F hR hS ls hl => W.lcmp F.1 F.2.1 hd (kk p e s m args below meth c H locs F hR hS ls hl)
theorem BT.iret {v : Int32} (hd : decode b pc = .ok (.ireturn, 1)) (hrt : rt = some .int) (hc : kc ≤ rm.cells) (hs : ks ≤ rm.slots) (hK : K v M) : BT G R own nm b n rt rm K kc ks pc L [.int v] M := by
  subst hrt
  intro p e s m args below meth c H locs F hR hS ls hl
  exact W.widen hc hs (W.iret (v := v) F.1 F.2.1 F.2.2.1 (fun t ht hW => ⟨⟨v, M, rfl, hK, by show R M t.heap; rw [ht]; exact hR⟩, hS.F ht⟩) hS.2.2 hd F.2.2.2.2.2.2.2.2.1)
theorem BT.zret {v : Int32} (hd : decode b pc = .ok (.ireturn, 1)) (hrt : rt = some .boolean) (hc : kc ≤ rm.cells) (hs : ks ≤ rm.slots) (hn : narrow .boolean (.int v) = .int v) (hK : K v M) : BT G R own nm b n rt rm K kc ks pc L [.int v] M := by
  subst hrt
  intro p e s m args below meth c H locs F hR hS ls hl
  exact W.widen hc hs (W.zret (v := v) F.1 F.2.1 F.2.2.1 hn (fun t ht hW => ⟨⟨v, M, rfl, hK, by show R M t.heap; rw [ht]; exact hR⟩, hS.F ht⟩) hS.2.2 hd F.2.2.2.2.2.2.2.2.1)
theorem BT.vret (hd : decode b pc = .ok (.return_, 1)) (hrt : rt = none) (hc : kc ≤ rm.cells) (hs : ks ≤ rm.slots) (hK : K 0 M) : BT G R own nm b n rt rm K kc ks pc L [] M := by
  subst hrt
  intro p e s m args below meth c H locs F hR hS ls hl
  exact W.widen hc hs (W.vret F.1 F.2.1 F.2.2.1 (fun t ht hW => ⟨⟨M, rfl, hK, by show R M t.heap; rw [ht]; exact hR⟩, hS.F ht⟩) hS.2.2 hd F.2.2.2.2.2.2.2.2.1)
theorem aw_blind {as : List Value} : FrameBlind (va_Pc as (aw_W G R M)) := by
  intro a U g mk q
  obtain ⟨q0, q1, q2, q3, q4⟩ := q
  exact ⟨q0, q1, aw_K.same (s := U) (U := U.calling g mk a) rfl q2, aw_T.moved (u := U) (U := U.calling g mk a) (Vm.Alike.refl U.vm) q3, q4⟩
theorem aw_pre {p : Program} {s : State} {m : MethodId} {args : Array Value} {meth : Method} {c : Code} {H : Heap} {locs : List Loc} (F : aw_F G own nm b n rt p s m args meth c) (hR : R M H) (hS : va_S (aw_A G) s.heap H locs) {U : State} (hU : U.heap = H) (hW : s.WarmedH U.vm) : aw_W G R M U := by
  refine ⟨by rw [hU]; exact hR, aw_K.warm hW F.2.2.2.2.2.2.1, ?_, by rw [hU]; exact Nat.le_trans F.2.2.2.2.2.2.2.2.2.2 hS.1⟩
  rw [hU]
  exact (aw_T.moved hW.alike F.2.2.2.2.2.2.2.1).kept (fun a h1 h2 => hS.2.1 a h1 h2)
def MWb (y : MethodName) (yb : ByteArray) (yn : Nat) (yrt : Option FieldType) (k : Nat) : Prop :=
  Cond.code y yb yn yrt ∈ aw_ws ∧ Cond.initialized y.cls ∈ aw_ws ∧ (y.cls ≠ "java/lang/invoke/MethodHandle" ∧ y.cls ≠ "java/lang/invoke/VarHandle" ∧ (parseMethodDescriptor y.desc).map (fun d => d.parameters.length) = some k)
def MWv (y : MethodName) : Prop := Cond.instanceMethod y ∈ aw_ws ∧ Cond.selects y.cls y y ∈ aw_ws
def MWs (y : MethodName) : Prop := Cond.static y ∈ aw_ws
abbrev aw_Recv (G : GT) (R : μ → Heap → Prop) (M : μ) (c : Nat) (C : String) : Prop := ∀ (s : State) (H : Heap), R M H → aw_K G s → ∃ cell : Cell, H[g_b G + c]? = some cell ∧ cell.vm.isStatics = false ∧ s.vm.findClass C = some cell.cls
theorem aw_sum (G : GT) (S : List Value) (h : (S.map fun v => v.category).sum ≤ 8) {m : MethodId} {pc : Nat} {ls : Array Slot} {st : List Value} : 2 * (F0 m pc ls st).monitorRoom + ((S.map (aw_v G)).map fun v => v.category).sum ≤ 8 := by
  refine lv_room ?_
  rw [List.map_map]
  have e : ((fun v : Value => v.category) ∘ aw_v G) = (fun v : Value => v.category) := by
    funext v
    exact aw_v_cat G v
  rw [e]
  exact h
section CALLS
variable {y : MethodName} {yb : ByteArray} {yn : Nat} {ty : FieldType} {yrm : Room} {k idx c0 : Nat} {As : List Value} {K' : Int32 → μ → Prop}
theorem BT.callV (As : List Value) (hM : MT G R y yb yn (some ty) yrm (.ref c0 :: As) M K') (hb1 : MWb y yb yn (some ty) k) (hv : MWv y) (hlk : Cond.methodLink own idx y ∈ aw_ws) (hroom : yrm.frames + 1 ≤ rm.frames ∧ 8 + (yn + 11) + yrm.locals ≤ rm.locals) (hcl : kc + yrm.cells ≤ rm.cells ∧ ks + yrm.slots ≤ rm.slots) (hk : As.length = k) (hrc : aw_Recv G R M c0 y.cls) (h8 : (S.map fun v => v.category).sum ≤ 8) (hd : decode b pc = .ok (.invokevirtual idx, 3))
    (kk : ∀ (r : Int32) (M' : μ), K' r M' → BT G R own nm b n rt rm K (kc + yrm.cells) (ks + yrm.slots) (pc + 3) L (.int r :: S) M') : BT G R own nm b n rt rm K kc ks pc L (As.reverse ++ .ref c0 :: S) M := by
  intro p e s m args below meth c H locs F hR hS ls hl
  have hts := F.2.2.2.2.2.1
  have hst : (As.reverse ++ .ref c0 :: S).map (aw_v G) = (As.map (aw_v G)).reverse ++ .ref (g_b G + c0) :: S.map (aw_v G) := by
    rw [List.map_append, List.map_reverse, List.map_cons]; rfl
  rw [hst]
  refine va_calli (va_runV (As := As.map (aw_v G)) (rest := S.map (aw_v G)) ⟨F.1, F.2.1, F.2.2.2.1, F.2.2.2.2.1, hts⟩ hM ⟨callB_of k hts (aw_goodIn hb1.1) rfl rfl rfl (hts _ hb1.2.1) (hts _ hlk) hb1.2.2 hroom, hts _ hv.1, hts _ hv.2⟩
    ⟨aw_blind, hrc s H hR F.2.2.2.2.2.2.1, fun U hU hW => ⟨rfl, aw_pre F hR hS hU hW⟩⟩ rfl (by rw [List.length_map]; exact hk) hl.1 rfl (aw_sum G S h8) hd hcl) hS (fun q _ h => h) (fun q h => h) (fun r M' t H1 locs1 ht hvm hp hB hz hk1 hS1 => ?_)
  exact kk r M' hp p e s m args below meth c H1 locs1 F (by rw [← ht]; exact hB) hS1 ls hl
theorem BT.callVv (As : List Value) (hM : MT G R y yb yn none yrm (.ref c0 :: As) M K') (hb1 : MWb y yb yn none k) (hv : MWv y) (hlk : Cond.methodLink own idx y ∈ aw_ws) (hroom : yrm.frames + 1 ≤ rm.frames ∧ 8 + (yn + 11) + yrm.locals ≤ rm.locals) (hcl : kc + yrm.cells ≤ rm.cells ∧ ks + yrm.slots ≤ rm.slots) (hk : As.length = k) (hrc : aw_Recv G R M c0 y.cls) (h8 : (S.map fun v => v.category).sum ≤ 8) (hd : decode b pc = .ok (.invokevirtual idx, 3))
    (kk : ∀ (M' : μ), K' 0 M' → BT G R own nm b n rt rm K (kc + yrm.cells) (ks + yrm.slots) (pc + 3) L S M') : BT G R own nm b n rt rm K kc ks pc L (As.reverse ++ .ref c0 :: S) M := by
  intro p e s m args below meth c H locs F hR hS ls hl
  have hts := F.2.2.2.2.2.1
  have hst : (As.reverse ++ .ref c0 :: S).map (aw_v G) = (As.map (aw_v G)).reverse ++ .ref (g_b G + c0) :: S.map (aw_v G) := by
    rw [List.map_append, List.map_reverse, List.map_cons]; rfl
  rw [hst]
  refine va_callv (va_runV (As := As.map (aw_v G)) (rest := S.map (aw_v G)) ⟨F.1, F.2.1, F.2.2.2.1, F.2.2.2.2.1, hts⟩ hM ⟨callB_of k hts (aw_goodIn hb1.1) rfl rfl rfl (hts _ hb1.2.1) (hts _ hlk) hb1.2.2 hroom, hts _ hv.1, hts _ hv.2⟩
    ⟨aw_blind, hrc s H hR F.2.2.2.2.2.2.1, fun U hU hW => ⟨rfl, aw_pre F hR hS hU hW⟩⟩ rfl (by rw [List.length_map]; exact hk) hl.1 rfl (aw_sum G S h8) hd hcl) hS (fun q _ h => h) (fun q h => h) (fun M' t H1 locs1 ht hvm hp hB hz hk1 hS1 => ?_)
  exact kk M' hp p e s m args below meth c H1 locs1 F (by rw [← ht]; exact hB) hS1 ls hl
theorem BT.callS (As : List Value) (hM : MT G R y yb yn (some ty) yrm As M K') (hb1 : MWb y yb yn (some ty) k) (hv : MWs y) (hlk : Cond.methodLink own idx y ∈ aw_ws) (hroom : yrm.frames + 1 ≤ rm.frames ∧ 8 + (yn + 11) + yrm.locals ≤ rm.locals) (hcl : kc + yrm.cells ≤ rm.cells ∧ ks + yrm.slots ≤ rm.slots) (hk : As.length = k) (h8 : (S.map fun v => v.category).sum ≤ 8) (hd : decode b pc = .ok (.invokestatic idx, 3))
    (kk : ∀ (r : Int32) (M' : μ), K' r M' → BT G R own nm b n rt rm K (kc + yrm.cells) (ks + yrm.slots) (pc + 3) L (.int r :: S) M') : BT G R own nm b n rt rm K kc ks pc L (As.reverse ++ S) M := by
  intro p e s m args below meth c H locs F hR hS ls hl
  have hts := F.2.2.2.2.2.1
  have hst : (As.reverse ++ S).map (aw_v G) = (As.map (aw_v G)).reverse ++ S.map (aw_v G) := by
    rw [List.map_append, List.map_reverse]
  rw [hst]
  refine va_calli (va_runS (As := As.map (aw_v G)) (rest := S.map (aw_v G)) ⟨F.1, F.2.1, F.2.2.2.1, F.2.2.2.2.1, hts⟩ hM ⟨callB_of k hts (aw_goodIn hb1.1) rfl rfl rfl (hts _ hb1.2.1) (hts _ hlk) hb1.2.2 hroom, hts _ hv⟩
    ⟨aw_blind, fun U hU hW => ⟨rfl, aw_pre F hR hS hU hW⟩⟩ rfl (by rw [List.length_map]; exact hk) hl.1 rfl (aw_sum G S h8) hd hcl) hS (fun q _ h => h) (fun q h => h) (fun r M' t H1 locs1 ht hvm hp hB hz hk1 hS1 => ?_)
  exact kk r M' hp p e s m args below meth c H1 locs1 F (by rw [← ht]; exact hB) hS1 ls hl
theorem BT.callSN {host : String} (As : List Value) (hM : MT G R y yb yn (some ty) yrm As M K') (hb1 : MWb y yb yn (some ty) k) (hv : MWs y) (hlk : Cond.methodLinkNest own idx y host ∈ lw_tbl) (hroom : yrm.frames + 1 ≤ rm.frames ∧ 8 + (yn + 11) + yrm.locals ≤ rm.locals) (hcl : kc + yrm.cells ≤ rm.cells ∧ ks + yrm.slots ≤ rm.slots) (hk : As.length = k) (h8 : (S.map fun v => v.category).sum ≤ 8) (hd : decode b pc = .ok (.invokestatic idx, 3))
    (kk : ∀ (r : Int32) (M' : μ), K' r M' → BT G R own nm b n rt rm K (kc + yrm.cells) (ks + yrm.slots) (pc + 3) L (.int r :: S) M') : BT G R own nm b n rt rm K kc ks pc L (As.reverse ++ S) M := by
  intro p e s m args below meth c H locs F hR hS ls hl
  have hts := F.2.2.2.2.2.1
  have hst : (As.reverse ++ S).map (aw_v G) = (As.map (aw_v G)).reverse ++ S.map (aw_v G) := by
    rw [List.map_append, List.map_reverse]
  rw [hst]
  refine va_calli (va_runSN (As := As.map (aw_v G)) (rest := S.map (aw_v G)) ⟨F.1, F.2.1, F.2.2.2.1, F.2.2.2.2.1, hts⟩ hM ⟨va_cnB (host := host) k hts (aw_goodIn hb1.1) rfl rfl rfl (F.2.2.2.2.2.2.1.2 _ hlk rfl) (hts _ hb1.2.1) hb1.2.2 hroom, hts _ hv, trivial⟩
    ⟨aw_blind, fun U hU hW => ⟨rfl, aw_pre F hR hS hU hW⟩⟩ rfl (by rw [List.length_map]; exact hk) hl.1 rfl (aw_sum G S h8) hd hcl) hS (fun q _ h => h) (fun q h => h) (fun r M' t H1 locs1 ht hvm hp hB hz hk1 hS1 => ?_)
  exact kk r M' hp p e s m args below meth c H1 locs1 F (by rw [← ht]; exact hB) hS1 ls hl
theorem BT.callI (As : List Value) (hM : MT G R y yb yn none yrm (.ref c0 :: As) M K') (hb1 : MWb y yb yn none k) (hy1 : y.name = "<init>") (hv : Cond.instanceMethod y ∈ aw_ws) (hlk : Cond.methodLink own idx y ∈ aw_ws) (hroom : yrm.frames + 1 ≤ rm.frames ∧ 8 + (yn + 11) + yrm.locals ≤ rm.locals) (hcl : kc + yrm.cells ≤ rm.cells ∧ ks + yrm.slots ≤ rm.slots) (hk : As.length = k) (h8 : (S.map fun v => v.category).sum ≤ 8) (hd : decode b pc = .ok (.invokespecial idx, 3))
    (kk : ∀ (M' : μ), K' 0 M' → BT G R own nm b n rt rm K (kc + yrm.cells) (ks + yrm.slots) (pc + 3) L S M') : BT G R own nm b n rt rm K kc ks pc L (As.reverse ++ .ref c0 :: S) M := by
  intro p e s m args below meth c H locs F hR hS ls hl
  have hts := F.2.2.2.2.2.1
  have hst : (As.reverse ++ .ref c0 :: S).map (aw_v G) = (As.map (aw_v G)).reverse ++ .ref (g_b G + c0) :: S.map (aw_v G) := by
    rw [List.map_append, List.map_reverse, List.map_cons]; rfl
  rw [hst]
  refine va_callv (va_runI (As := As.map (aw_v G)) (rest := S.map (aw_v G)) ⟨F.1, F.2.1, F.2.2.2.1, F.2.2.2.2.1, hts⟩ hM (cwI k hts (aw_goodIn hb1.1) rfl rfl rfl (hts _ hb1.2.1) (hts _ hlk) (hts _ hv) hy1 hb1.2.2 hroom)
    ⟨aw_blind, fun U hU hW => ⟨rfl, aw_pre F hR hS hU hW⟩⟩ rfl (by rw [List.length_map]; exact hk) hl.1 rfl (aw_sum G S h8) hd hcl) hS (fun q _ h => h) (fun q h => h) (fun M' t H1 locs1 ht hvm hp hB hz hk1 hS1 => ?_)
  exact kk M' hp p e s m args below meth c H1 locs1 F (by rw [← ht]; exact hB) hS1 ls hl
theorem BT.callIN {host : String} (As : List Value) (hM : MT G R y yb yn none yrm (.ref c0 :: As) M K') (hb1 : MWb y yb yn none k) (hy1 : y.name = "<init>") (hv : Cond.instanceMethod y ∈ aw_ws) (hlk : Cond.methodLinkNest own idx y host ∈ lw_tbl) (hroom : yrm.frames + 1 ≤ rm.frames ∧ 8 + (yn + 11) + yrm.locals ≤ rm.locals) (hcl : kc + yrm.cells ≤ rm.cells ∧ ks + yrm.slots ≤ rm.slots) (hk : As.length = k) (h8 : (S.map fun v => v.category).sum ≤ 8) (hd : decode b pc = .ok (.invokespecial idx, 3))
    (kk : ∀ (M' : μ), K' 0 M' → BT G R own nm b n rt rm K (kc + yrm.cells) (ks + yrm.slots) (pc + 3) L S M') : BT G R own nm b n rt rm K kc ks pc L (As.reverse ++ .ref c0 :: S) M := by
  intro p e s m args below meth c H locs F hR hS ls hl
  have hts := F.2.2.2.2.2.1
  have hst : (As.reverse ++ .ref c0 :: S).map (aw_v G) = (As.map (aw_v G)).reverse ++ .ref (g_b G + c0) :: S.map (aw_v G) := by
    rw [List.map_append, List.map_reverse, List.map_cons]; rfl
  rw [hst]
  refine va_callv (va_runIN (As := As.map (aw_v G)) (rest := S.map (aw_v G)) ⟨F.1, F.2.1, F.2.2.2.1, F.2.2.2.2.1, hts⟩ hM ⟨va_cnB (host := host) k hts (aw_goodIn hb1.1) rfl rfl rfl (F.2.2.2.2.2.2.1.2 _ hlk rfl) (hts _ hb1.2.1) hb1.2.2 hroom, hy1, hts _ hv⟩
    ⟨aw_blind, fun U hU hW => ⟨rfl, aw_pre F hR hS hU hW⟩⟩ rfl (by rw [List.length_map]; exact hk) hl.1 rfl (aw_sum G S h8) hd hcl) hS (fun q _ h => h) (fun q h => h) (fun M' t H1 locs1 ht hvm hp hB hz hk1 hS1 => ?_)
  exact kk M' hp p e s m args below meth c H1 locs1 F (by rw [← ht]; exact hB) hS1 ls hl
end CALLS
theorem BT.objInit {idx c0 : Nat} (hlk : Cond.methodLink own idx objectInit ∈ aw_ws) (hin : Cond.instanceMethod objectInit ∈ aw_ws) (hco : Cond.code objectInit ⟨#[0xb1]⟩ 1 none ∈ aw_ws) (h8 : (S.map fun v => v.category).sum ≤ 8) (hd : decode b pc = .ok (.invokespecial idx, 3)) (hfr : 1 ≤ rm.frames) (hlo : 8 + 12 ≤ rm.locals) (kk : BT G R own nm b n rt rm K kc ks (pc + 3) L S M) : BT G R own nm b n rt rm K kc ks pc L (.ref c0 :: S) M := by
  intro p e s m args below meth c H locs F hR hS ls hl
  have hts := F.2.2.2.2.2.1
  refine W.objInit F.1 F.2.1 F.2.2.2.2.1 (hts _ hlk) (hts _ hin) (hts _ hco) rfl (hl.1.trans F.2.2.2.1.symm) rfl hd hfr ?_ (kk p e s m args below meth c H locs F hR hS ls hl)
  have h := aw_sum G S h8 (m := m) (pc := pc) (ls := ls) (st := (Value.ref c0 :: S).map (aw_v G))
  have hlo2 : 20 ≤ rm.locals := hlo
  show _ + _ + 12 ≤ rm.locals
  exact Nat.le_trans (Nat.add_le_add_right h 12) hlo2
theorem BT.mmin {idx : Nat} {x z : Int32} (hlk : Cond.methodLink own idx Lib.Math.min.name ∈ aw_ws) (hst : Cond.static Lib.Math.min.name ∈ aw_ws) (hin : Cond.initialized "java/lang/Math" ∈ aw_ws) (hco : Cond.code Lib.Math.min.name Lib.Math.min.code 2 (some .int) ∈ aw_ws) (h8 : (S.map fun v => v.category).sum ≤ 8) (hd : decode b pc = .ok (.invokestatic idx, 3)) (hfr : 1 ≤ rm.frames) (hlo : 8 + 13 ≤ rm.locals) (hc : kc ≤ rm.cells) (hs : ks ≤ rm.slots) (kk : BT G R own nm b n rt rm K kc ks (pc + 3) L (.int (if z < x then z else x) :: S) M) : BT G R own nm b n rt rm K kc ks pc L (.int z :: .int x :: S) M := by
  intro p e s m args below meth c H locs F hR hS ls hl
  have hts := F.2.2.2.2.2.1
  refine va_mmin F.1 F.2.1 (F.2.2.2.1.trans hl.1.symm) F.2.2.2.2.1 (hts _ hlk) (hts _ hst) (hts _ hin) (hts _ hco) hfr ?_ hc hs hd (kk p e s m args below meth c H locs F hR hS ls hl)
  have h := aw_sum G S h8 (m := m) (pc := pc) (ls := ls) (st := [])
  have e2 : 2 * (F0 m pc ls []).monitorRoom = 0 := rfl
  have hlo2 : 21 ≤ rm.locals := hlo
  show _ ≤ rm.locals
  omega
end BTS
