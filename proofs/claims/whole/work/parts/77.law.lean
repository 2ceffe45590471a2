/-! THE CLAIM OUT OF ONE WALK OF THE LAW'S BODY. Your part is whole_start (and what it stands on); all else here is the same for every law, but numbers. -/
def R_law : String := "BetweenLawsLaw"
def lw_P (b : Addr) (xs : List Int32) (args : Array Value) (s : State) : Prop := args = #[.ref b] ∧ s.IntsAt b xs ∧ xs.length ≤ 2048 ∧ (Jvm.Cond.and given_1 narrow_1).before args s = true
def lw_Q (_ : Array Value) (s : State) (o : Outcome) (t : State) : Prop := o = .returned (some (.int 1)) ∧ Framed s o t [] 600000 7302250
def lw_Z (below : List Frame) (a : Array Value) (s : State) : State → Prop := fun t => ∃ o, t.status = .running ∧ Ended t below o ∧ lw_Q a s o t
/-- the law's own end, with 1 on the stack, nothing written that was there before, its room as the claim has it -/
theorem lw_ret {p : Program} {l : Launch} {e : Env} {s : State} {m : MethodId} {below : List Frame} {meth : Method} {c : Code} {b : Nat} (hx : p.tables.exec = Jvm.exec) (hb : c.code = code) (hr : meth.sig.returnType = ret) (hlocks : meth.locks = false) {pc : Nat} {H : Heap} {ls : Array Slot} (hdg : decode code pc = .ok (.ireturn, 1)) : W p l e room_1 s m #[Value.ref b] below meth c H [] 600000 7302250 (lw_Z below #[Value.ref b] s) (F0 m pc ls [.int 1]) := by
  intro T hT X
  obtain ⟨fs, hret, hrun, hended, hW, hframe⟩ := X.leave (v := some (.int 1)) (hlocks := hlocks) (fun h => by rw [hr] at h; cases h)
  have hmeth' : T.vm.method? m = some meth := X.method'
  refine ⟨T.setFrames fs, ?_, .returned (some (.int 1)), hrun, hended, rfl, ⟨_, rfl⟩, hW, hframe⟩
  jvm_step X.here [X.here.top, hx, hb, hdg, hmeth', hr, ret, narrow_b1]
  (try refine ⟨rfl, ?_⟩); (try refine ⟨rfl, ?_⟩)
  first | (intro acts; rw [hret _ acts rfl rfl rfl]) | rw [hret _ _ rfl rfl rfl]
  exact Steps.refl _
/-- what holds at the law's entry: the machine, the code, the tables' words (any of lw_tbl by 'hts w (by decide +kernel)'), the script of L ints xs at the cell b, what the Statement gives of the start (any of its parts by flat_of_before) -/
def lw_At (p : Program) (s : State) (m : MethodId) (meth : Method) (c : Code) (b L : Nat) (xs : Nat → Int32) : Prop :=
  p.tables.exec = Jvm.exec ∧ c.code = code ∧ meth.sig.returnType = ret ∧ c.maxLocals = 4 ∧ s.vm.findClass R_law = some m.cls ∧ (∀ w ∈ lw_tbl, w.before #[Value.ref b] s = true) ∧ va_X b L xs s s.heap ∧ b < s.heap.size ∧ meth.locks = false ∧ (Jvm.Cond.and given_1 narrow_1).before #[Value.ref b] s = true
/-! ===== the law's own walk: rows ===== -/
abbrev gL (G : GT) (bb : Nat) : GT := (g_l G, g_b G, g_D G, g_c G, bb, bb)
/-- what holds of the law's frame -/
def LCx (G : GT) (p : Program) (s : State) (m : MethodId) (meth : Method) (c : Code) (bb Ls : Nat) (xs : Nat → Int32) : Prop :=
  aw_F G RL meth.name cL_law 4 ret p s m #[Value.ref bb] meth c ∧ va_X bb Ls xs s s.heap ∧ bb < s.heap.size ∧ g_b G = s.heap.size ∧ Ls ≤ 2048
def LwT {μ : Type} (G : GT) (R : μ → Heap → Prop) (p : Program) (e : Env) (s : State) (m : MethodId) (below : List Frame) (meth : Method) (c : Code) (bb : Nat) (kc ks pc : Nat) (L : List (Nat × Value)) (S : List Value) (M : μ) : Prop :=
  ∀ (H : Heap) (locs : List Loc), R M H → va_S (aw_A G) s.heap H locs → ∀ ls : Array Slot, lv_has ls 4 (L.map (aw_lv (gL G bb))) → W p (g_l G) e room_1 s m #[Value.ref bb] below meth c H locs kc ks (lw_Z below #[Value.ref bb] s) (F0 m pc ls (S.map (aw_v (gL G bb))))
section LAWROWS
variable {μ : Type} {G : GT} {R : μ → Heap → Prop} {p : Program} {e : Env} {s : State} {m : MethodId} {below : List Frame} {meth : Method} {c : Code} {bb Ls : Nat} {xs : Nat → Int32} {kc ks pc : Nat} {L : List (Nat × Value)} {S : List Value} {M : μ}
theorem LwT.iconst {k : Int} {v : Int32} (F : LCx G p s m meth c bb Ls xs) (hd : decode cL_law pc = .ok (.iconst k, 1)) (hv : Int32.ofInt k = v) (kk : LwT G R p e s m below meth c bb kc ks (pc + 1) L (.int v :: S) M) : LwT G R p e s m below meth c bb kc ks pc L S M :=
  fun H locs hR hS ls hl => lv_iconst F.1.1 F.1.2.1 hd hv (kk H locs hR hS ls hl)
theorem LwT.bipush {k : Int} {v : Int32} (F : LCx G p s m meth c bb Ls xs) (hd : decode cL_law pc = .ok (.bipush k, 2)) (hv : (Int8.ofInt k).toInt32 = v) (kk : LwT G R p e s m below meth c bb kc ks (pc + 2) L (.int v :: S) M) : LwT G R p e s m below meth c bb kc ks pc L S M :=
  fun H locs hR hS ls hl => lv_bipush F.1.1 F.1.2.1 hd hv (kk H locs hR hS ls hl)
theorem LwT.iload_n {k : Fin 4} {i : Nat} {x : Int32} (F : LCx G p s m meth c bb Ls xs) (hd : decode cL_law pc = .ok (.iload_n k, 1)) (hi : (k : Nat) = i) (j : Nat) (hj : L[j]? = some (i, .int x)) (kk : LwT G R p e s m below meth c bb kc ks (pc + 1) L (.int x :: S) M) : LwT G R p e s m below meth c bb kc ks pc L S M :=
  fun H locs hR hS ls hl => lv_iload_n F.1.1 F.1.2.1 hd hi (aw_at hl j hj) (kk H locs hR hS ls hl)
theorem LwT.aload_n {k : Fin 4} {i : Nat} {x : Nat} (F : LCx G p s m meth c bb Ls xs) (hd : decode cL_law pc = .ok (.aload_n k, 1)) (hi : (k : Nat) = i) (j : Nat) (hj : L[j]? = some (i, .ref x)) (kk : LwT G R p e s m below meth c bb kc ks (pc + 1) L (.ref x :: S) M) : LwT G R p e s m below meth c bb kc ks pc L S M :=
  fun H locs hR hS ls hl => lv_aload_n F.1.1 F.1.2.1 hd hi (aw_at hl j hj) (kk H locs hR hS ls hl)
theorem LwT.aloads {k : Fin 4} {i : Nat} (F : LCx G p s m meth c bb Ls xs) (hd : decode cL_law pc = .ok (.aload_n k, 1)) (hi : (k : Nat) = i) (j : Nat) (hj : L[j]? = some (i, .float 1)) (kk : LwT G R p e s m below meth c bb kc ks (pc + 1) L (.float 1 :: S) M) : LwT G R p e s m below meth c bb kc ks pc L S M :=
  fun H locs hR hS ls hl => lv_aload_n F.1.1 F.1.2.1 hd hi (aw_at hl j hj) (kk H locs hR hS ls hl)
theorem LwT.istore_n {k : Fin 4} {i : Nat} {x : Int32} {L' : List (Nat × Value)} (F : LCx G p s m meth c bb Ls xs) (hd : decode cL_law pc = .ok (.istore_n k, 1)) (hi : (k : Nat) = i) (hn : i < 4) (h : (i, Value.int x) :: L.filter (fun q => !(q.1 == i) && !(q.1 + 1 == i && q.2.category == 2)) = L') (kk : LwT G R p e s m below meth c bb kc ks (pc + 1) L' S M) : LwT G R p e s m below meth c bb kc ks pc L (.int x :: S) M :=
  fun H locs hR hS ls hl => lv_istore_n F.1.1 F.1.2.1 hd hi hl hn ((aw_filter1 (gL G bb) i (.int x) L).trans (congrArg _ h)) (fun ls hl => kk H locs hR hS ls hl)
theorem LwT.astore_n {k : Fin 4} {i : Nat} {x : Nat} {L' : List (Nat × Value)} (F : LCx G p s m meth c bb Ls xs) (hd : decode cL_law pc = .ok (.astore_n k, 1)) (hi : (k : Nat) = i) (hn : i < 4) (h : (i, Value.ref x) :: L.filter (fun q => !(q.1 == i) && !(q.1 + 1 == i && q.2.category == 2)) = L') (kk : LwT G R p e s m below meth c bb kc ks (pc + 1) L' S M) : LwT G R p e s m below meth c bb kc ks pc L (.ref x :: S) M :=
  fun H locs hR hS ls hl => lv_astore_n F.1.1 F.1.2.1 hd hi hl hn ((aw_filter1 (gL G bb) i (.ref x) L).trans (congrArg _ h)) (fun ls hl => kk H locs hR hS ls hl)
theorem LwT.iinc {i j : Nat} {k : Int} {x v : Int32} {L' : List (Nat × Value)} (F : LCx G p s m meth c bb Ls xs) (hd : decode cL_law pc = .ok (.iinc i k, 3)) (hj : L[j]? = some (i, .int x)) (hv : x + Int32.ofInt k = v) (hn : i < 4) (h : (i, Value.int v) :: L.filter (fun q => !(q.1 == i) && !(q.1 + 1 == i && q.2.category == 2)) = L') (kk : LwT G R p e s m below meth c bb kc ks (pc + 3) L' S M) : LwT G R p e s m below meth c bb kc ks pc L S M :=
  fun H locs hR hS ls hl => lv_iinc F.1.1 F.1.2.1 hd hl (k := j) (by rw [List.getElem?_map, hj]; rfl) hv hn ((aw_filter1 (gL G bb) i (.int v) L).trans (congrArg _ h)) (fun ls hl => kk H locs hR hS ls hl)
theorem LwT.sub {L' : List (Nat × Value)} (is : List Nat) (h : lv_pick L is = L') (k : LwT G R p e s m below meth c bb kc ks pc L' S M) : LwT G R p e s m below meth c bb kc ks pc L S M := by
  intro H locs hR hS ls hl
  refine k H locs hR hS ls (lv_sub hl is ?_)
  rw [← h]
  unfold lv_pick
  rw [List.map_filterMap]
  congr 1
  funext k
  rw [List.getElem?_map]
theorem LwT.dup {v : Value} (F : LCx G p s m meth c bb Ls xs) (hd : decode cL_law pc = .ok (.dup, 1)) (hv : v.category = 1) (kk : LwT G R p e s m below meth c bb kc ks (pc + 1) L (v :: v :: S) M) : LwT G R p e s m below meth c bb kc ks pc L (v :: S) M :=
  fun H locs hR hS ls hl => lv_dup F.1.1 F.1.2.1 hd ((aw_v_cat (gL G bb) v).trans hv) (kk H locs hR hS ls hl)
theorem LwT.iadd {x y : Int32} (F : LCx G p s m meth c bb Ls xs) (hd : decode cL_law pc = .ok (.iadd, 1)) (kk : LwT G R p e s m below meth c bb kc ks (pc + 1) L (.int (x + y) :: S) M) : LwT G R p e s m below meth c bb kc ks pc L (.int y :: .int x :: S) M :=
  fun H locs hR hS ls hl => lv_iadd F.1.1 F.1.2.1 hd (kk H locs hR hS ls hl)
theorem LwT.isub {x y : Int32} (F : LCx G p s m meth c bb Ls xs) (hd : decode cL_law pc = .ok (.isub, 1)) (kk : LwT G R p e s m below meth c bb kc ks (pc + 1) L (.int (x - y) :: S) M) : LwT G R p e s m below meth c bb kc ks pc L (.int y :: .int x :: S) M :=
  fun H locs hR hS ls hl => lv_isub F.1.1 F.1.2.1 hd (kk H locs hR hS ls hl)
theorem LwT.iand {x y : Int32} (F : LCx G p s m meth c bb Ls xs) (hd : decode cL_law pc = .ok (.iand, 1)) (kk : LwT G R p e s m below meth c bb kc ks (pc + 1) L (.int (x &&& y) :: S) M) : LwT G R p e s m below meth c bb kc ks pc L (.int y :: .int x :: S) M :=
  fun H locs hR hS ls hl => lv_iand F.1.1 F.1.2.1 hd (kk H locs hR hS ls hl)
theorem LwT.icmp_gt {x y : Int32} {off : Int} {tgt : Nat} (F : LCx G p s m meth c bb Ls xs) (hd : decode cL_law pc = .ok (.if_icmp .gt off, 3)) (ht : (pc : Int) + off = (tgt : Int)) (kt : y < x → LwT G R p e s m below meth c bb kc ks tgt L S M) (kf : ¬ y < x → LwT G R p e s m below meth c bb kc ks (pc + 3) L S M) : LwT G R p e s m below meth c bb kc ks pc L (.int y :: .int x :: S) M :=
  fun H locs hR hS ls hl => lv_icmp_gt F.1.1 F.1.2.1 hd ht (fun h => kt h H locs hR hS ls hl) (fun h => kf h H locs hR hS ls hl)
theorem LwT.icmp_eq {x y : Int32} {off : Int} {tgt : Nat} (F : LCx G p s m meth c bb Ls xs) (hd : decode cL_law pc = .ok (.if_icmp .eq off, 3)) (ht : (pc : Int) + off = (tgt : Int)) (hxy : y = x) (kt : LwT G R p e s m below meth c bb kc ks tgt L S M) : LwT G R p e s m below meth c bb kc ks pc L (.int y :: .int x :: S) M :=
  fun H locs hR hS ls hl => lv_icmp_eq F.1.1 F.1.2.1 hd ht (fun _ => kt H locs hR hS ls hl) (fun h => absurd hxy.symm h)
theorem LwT.goto {off : Int} {tgt : Nat} (F : LCx G p s m meth c bb Ls xs) (hd : decode cL_law pc = .ok (.goto off, 3)) (ht : (pc : Int) + off = (tgt : Int)) (kk : LwT G R p e s m below meth c bb kc ks tgt L S M) : LwT G R p e s m below meth c bb kc ks pc L S M :=
  fun H locs hR hS ls hl => lv_goto F.1.1 F.1.2.1 hd ht (kk H locs hR hS ls hl)
theorem LwT.tsw {dflt lo hi : Int} {offs : Array Int} {len : Nat} {x : Int32} {td : Nat} (F : LCx G p s m meth c bb Ls xs) (hd : decode cL_law pc = .ok (.tableswitch dflt lo hi offs, len)) (ht : (pc : Int) + dflt = (td : Int)) (kd : LwT G R p e s m below meth c bb kc ks td L S M) (ki : ∀ j : Nat, lo + (j : Int) ≤ hi → ∃ (tgt : Nat) (off : Int), offs[j]? = some off ∧ (pc : Int) + off = (tgt : Int) ∧ LwT G R p e s m below meth c bb kc ks tgt L S M) : LwT G R p e s m below meth c bb kc ks pc L (.int x :: S) M := by
  intro H locs hR hS ls hl
  by_cases h : x.toInt < lo ∨ hi < x.toInt
  · exact lv_tableOut F.1.1 F.1.2.1 hd h ht (kd H locs hR hS ls hl)
  · have h1 : ¬ x.toInt < lo := fun q => h (Or.inl q)
    have h2 : ¬ hi < x.toInt := fun q => h (Or.inr q)
    obtain ⟨tgt, off, e1, e2, k⟩ := ki (x.toInt - lo).toNat (by omega)
    exact lv_tableIn F.1.1 F.1.2.1 hd h1 h2 e1 e2 (k H locs hR hS ls hl)
theorem LCx.nA (F : LCx G p s m meth c bb Ls xs) : ¬ aw_A G bb := by
  have h1 := F.2.2.1
  have h2 := F.2.2.2.1
  show ¬ g_b G ≤ bb
  omega
theorem LwT.slen (F : LCx G p s m meth c bb Ls xs) (hd : decode cL_law pc = .ok (.arraylength, 1)) (kk : LwT G R p e s m below meth c bb kc ks (pc + 1) L (.int (nI Ls) :: S) M) : LwT G R p e s m below meth c bb kc ks pc L (.float 1 :: S) M :=
  fun H locs hR hS ls hl => va_slen F.1.1 F.1.2.1 F.2.1 F.2.2.1 F.nA hS hd (kk H locs hR hS ls hl)
theorem LwT.sald {i : Int32} (F : LCx G p s m meth c bb Ls xs) (hi : vp_in i Ls) (hd : decode cL_law pc = .ok (.iaload, 1)) (kk : LwT G R p e s m below meth c bb kc ks (pc + 1) L (.int (xs i.toNatClampNeg) :: S) M) : LwT G R p e s m below meth c bb kc ks pc L (.int i :: .float 1 :: S) M :=
  fun H locs hR hS ls hl => va_sld F.1.1 F.1.2.1 F.2.1 F.2.2.1 F.nA hS hi hd (kk H locs hR hS ls hl)
theorem LwT.callV {y : MethodName} {yb : ByteArray} {yn : Nat} {ty : FieldType} {yrm : Room} {k idx c0 : Nat} {K' : Int32 → μ → Prop} (F : LCx G p s m meth c bb Ls xs) (As : List Value) (hAs : As.map (aw_v (gL G bb)) = As.map (aw_v G)) (hM : MT G R y yb yn (some ty) yrm (.ref c0 :: As) M K') (hb1 : MWb y yb yn (some ty) k) (hv : MWv y) (hlk : Cond.methodLink RL idx y ∈ aw_ws) (hz : (yrm.cells, yrm.slots) = (0, 0)) (hroom : yrm.frames + 1 ≤ 11 ∧ 8 + (yn + 11) + yrm.locals ≤ 462) (hkc : kc ≤ 600000) (hks : ks ≤ 7302250) (hk : As.length = k) (hrc : aw_Recv G R M c0 y.cls) (h8 : (S.map fun v => v.category).sum ≤ 8) (hd : decode cL_law pc = .ok (.invokevirtual idx, 3))
    (kk : ∀ (r : Int32) (M' : μ), K' r M' → LwT G R p e s m below meth c bb kc ks (pc + 3) L (.int r :: S) M') : LwT G R p e s m below meth c bb kc ks pc L (As.reverse ++ .ref c0 :: S) M := by
  intro H locs hR hS ls hl
  have z1 : yrm.cells = 0 := congrArg Prod.fst hz
  have z2 : yrm.slots = 0 := congrArg Prod.snd hz
  have hts := F.1.2.2.2.2.2.1
  have hst : (As.reverse ++ .ref c0 :: S).map (aw_v (gL G bb)) = (As.map (aw_v G)).reverse ++ .ref (g_b G + c0) :: S.map (aw_v (gL G bb)) := by
    rw [List.map_append, List.map_reverse, List.map_cons, hAs]; rfl
  rw [hst]
  refine va_calli (va_runV (As := As.map (aw_v G)) (rest := S.map (aw_v (gL G bb))) ⟨F.1.1, F.1.2.1, F.1.2.2.2.1, F.1.2.2.2.2.1, hts⟩ hM ⟨callB_of k hts (aw_goodIn hb1.1) rfl rfl rfl (hts _ hb1.2.1) (hts _ hlk) hb1.2.2 hroom, hts _ hv.1, hts _ hv.2⟩
    ⟨aw_blind, hrc s H hR F.1.2.2.2.2.2.2.1, fun U hU hW => ⟨rfl, aw_pre F.1 hR hS hU hW⟩⟩ rfl (by rw [List.length_map]; exact hk) hl.1 rfl (aw_sum (gL G bb) S h8) hd ⟨by rw [z1]; exact hkc, by rw [z2]; exact hks⟩) hS (fun q _ h => h) (fun q h => h) (fun r M' t H1 locs1 ht hvm hp hB hz' hk1 hS1 => ?_)
  have h1 := kk r M' hp H1 locs1 (by rw [← ht]; exact hB) hS1 ls hl
  rw [z1, z2]
  exact h1
theorem LwT.callI {y : MethodName} {yb : ByteArray} {yn : Nat} {yrm : Room} {k idx c0 kc1 ks1 : Nat} {K' : Int32 → μ → Prop} (F : LCx G p s m meth c bb Ls xs) (As : List Value) (hAs : As.map (aw_v (gL G bb)) = As.map (aw_v G)) (hM : MT G R y yb yn none yrm (.ref c0 :: As) M K') (hb1 : MWb y yb yn none k) (hy1 : y.name = "<init>") (hv : Cond.instanceMethod y ∈ aw_ws) (hlk : Cond.methodLink RL idx y ∈ aw_ws) (hroom : yrm.frames + 1 ≤ 11 ∧ 8 + (yn + 11) + yrm.locals ≤ 462) (hkc : kc + yrm.cells = kc1) (hks : ks + yrm.slots = ks1) (hcl : kc1 ≤ 600000 ∧ ks1 ≤ 7302250) (hk : As.length = k) (h8 : (S.map fun v => v.category).sum ≤ 8) (hd : decode cL_law pc = .ok (.invokespecial idx, 3))
    (kk : ∀ (M' : μ), K' 0 M' → LwT G R p e s m below meth c bb kc1 ks1 (pc + 3) L S M') : LwT G R p e s m below meth c bb kc ks pc L (As.reverse ++ .ref c0 :: S) M := by
  subst hkc
  subst hks
  intro H locs hR hS ls hl
  have hts := F.1.2.2.2.2.2.1
  have hst : (As.reverse ++ .ref c0 :: S).map (aw_v (gL G bb)) = (As.map (aw_v G)).reverse ++ .ref (g_b G + c0) :: S.map (aw_v (gL G bb)) := by
    rw [List.map_append, List.map_reverse, List.map_cons, hAs]; rfl
  rw [hst]
  refine va_callv (va_runI (As := As.map (aw_v G)) (rest := S.map (aw_v (gL G bb))) ⟨F.1.1, F.1.2.1, F.1.2.2.2.1, F.1.2.2.2.2.1, hts⟩ hM (cwI k hts (aw_goodIn hb1.1) rfl rfl rfl (hts _ hb1.2.1) (hts _ hlk) (hts _ hv) hy1 hb1.2.2 hroom)
    ⟨aw_blind, fun U hU hW => ⟨rfl, aw_pre F.1 hR hS hU hW⟩⟩ rfl (by rw [List.length_map]; exact hk) hl.1 rfl (aw_sum (gL G bb) S h8) hd hcl) hS (fun q _ h => h) (fun q h => h) (fun M' t H1 locs1 ht hvm hp hB hz hk1 hS1 => ?_)
  exact kk M' hp H1 locs1 (by rw [← ht]; exact hB) hS1 ls hl
theorem LwT.end_ (F : LCx G p s m meth c bb Ls xs) (hkc : kc ≤ 600000) (hks : ks ≤ 7302250) (hd : decode cL_law pc = .ok (.ireturn, 1)) : LwT G R p e s m below meth c bb kc ks pc L [.int 1] M := by
  intro H locs hR hS ls hl
  refine va_forget (fun q hq => ?_) ?_
  · have h1 := hS.2.2 q hq
    have h2 := F.2.2.2.1
    have h1 : g_b G ≤ q.base := h1
    omega
  · refine W.widen hkc hks ?_
    exact lw_ret F.1.1 F.1.2.1 F.1.2.2.1 F.1.2.2.2.2.2.2.2.2.1 hd
end LAWROWS
section LAWNEW
variable {G : GT} {p : Program} {e : Env} {s : State} {m : MethodId} {below : List Frame} {meth : Method} {c : Code} {bb Ls : Nat} {xs : Nat → Int32} {kc ks pc : Nat} {L : List (Nat × Value)} {S : List Value} {N : Nat} {f : Nat → va_E}
theorem LwT.new {C : String} {T : u_T} {nn ci idx kc1 ks1 N1 : Nat} {ty : Nat → FieldType} {fs : List Value} (F : LCx G p s m meth c bb Ls xs) (hN1 : N + 1 = N1) (hkc : kc + 1 = kc1) (hks : ks + nn = ks1) (hcl : Cond.classLink RL idx C ∈ aw_ws) (hinst : Cond.instantiable C nn ∈ aw_ws) (hini : Cond.initialized C ∈ aw_ws) (hin : ∀ w ∈ u_ws C T nn, w ∈ aw_ws) (hty : ∀ k, k < nn → parseFieldDescriptor (T k).2.2.1 = some (ty k)) (hc : vwCl[ci]? = some (C, T, nn)) (hfs : ∀ j, j < nn → defaultValue (ty j) = vp_V fs j) (hcells : kc1 ≤ 600000) (hslots : ks1 ≤ 7302250) (hd : decode cL_law pc = .ok (.new idx, 3))
    (kk : ∀ f1, f1 N = .inr (ci, fs) → (∀ d, d < N → f1 d = f d) → LwT G (R0 G) p e s m below meth c bb kc1 ks1 (pc + 3) L (.ref N :: S) (N1, f1)) : LwT G (R0 G) p e s m below meth c bb kc ks pc L S (N, f) := by
  subst hN1
  subst hkc
  subst hks
  intro H locs hR hS ls hl
  obtain ⟨hP, hz⟩ := hR
  have hts := F.1.2.2.2.2.2.1
  have hKn := F.1.2.2.2.2.2.2.1.1.1 ci _ hc
  refine W.newcK F.1.1 F.1.2.1 F.1.2.2.2.2.1 (hts _ hcl) (hts _ hinst) (hts _ hini) rfl hd hcells hslots hKn.2.1 hz fun H1 kC hkC e1 z1 o1 => ?_
  have hS1 : va_S (aw_A G) s.heap H1 locs := ⟨Nat.le_trans hS.1 (by omega), fun x h1 h2 => (o1 x (by have := hS.1; omega)).trans (hS.2.1 x h1 h2), hS.2.2⟩
  exact kk (upf f N (.inr (ci, fs))) upf_at (fun d hd => upf_ne (by omega)) H1 locs ⟨PL_push hP o1 ⟨_, hc, (u_born ty hts hin hKn hkC e1 hty).to hfs⟩, z1⟩ hS1 ls hl
/-- all cells are there -/
theorem LwT.rep {M : Mem} (h : ∀ d, d < 199 → f d = cellOf G M d) (kk : LwT G (Rep G) p e s m below meth c bb kc ks pc L S M) : LwT G (R0 G) p e s m below meth c bb kc ks pc L S (199, f) := by
  intro H locs hR hS ls hl
  refine kk H locs ?_ hS ls hl
  have h1 : PL (g_b G) 199 f = PL (g_b G) 199 (cellOf G M) := by
    unfold PL
    apply List.map_congr_left
    intro k hk
    rw [h k (List.mem_range.mp hk)]
  have h2 := hR.1
  unfold Rep
  rw [← h1]
  exact h2
end LAWNEW
