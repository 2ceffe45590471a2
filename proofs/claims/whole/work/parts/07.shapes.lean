/-! ===== shapes of the cells; calls in the main phase ===== -/
abbrev lawSp (c : Nat) : List Nat := [0, 0, 0, (c + 1) + 2, (c + 2) + 2, (c + 3) + 2, (c + 4) + 2, 0, 0, 0, 0, 0, 0, 0, 0]
abbrev worldSp (w : Nat) : List Nat := [(w + 1) + 2, 0, (w + 42) + 2, (w + 43) + 2, 0, 0, 0, 0]
def LawC (c : Nat) : Prop := IsO c 3 (lawSp c) ∧ IsA (c + 1) 0 6 0 0 ∧ IsA (c + 2) 0 6 0 0 ∧ IsA (c + 3) 0 32 0 0 ∧ IsA (c + 4) 0 32 0 0
def PieceC (c : Nat) : Prop := IsO c 6 [0, 0, 0, 0, 0]
def WorldC (w : Nat) : Prop := IsO w 9 (worldSp w) ∧ IsA (w + 1) 2 8 (w + 2) 5 ∧ (∀ {i : Int32}, vp_in i 8 → LawC ((w + 2) + 5 * Int32.toNatClampNeg i)) ∧ IsA (w + 42) 0 8 0 0 ∧ IsA (w + 43) 3 8 (w + 44) 1 ∧ (∀ {i : Int32}, vp_in i 8 → PieceC ((w + 44) + Int32.toNatClampNeg i))
theorem vp_lt {i : Int32} {n : Nat} (h : vp_in i n) : Int32.toNatClampNeg i < n := Nat.not_le.mp fun q => h (Or.inr q)
theorem ho_0 : IsO 0 10 [3, 5, 10, 62, 167, 169, 171, 172, 173, 175] := ⟨by decide, rfl⟩
theorem ho_1 : IsO 1 5 [4, 0, 0] := ⟨by decide, rfl⟩
theorem ha_2 : IsA 2 0 60 0 0 := ⟨by decide, rfl⟩
theorem ho_3 : IsO 3 3 [0, 0, 0, 6, 7, 8, 9, 0, 0, 0, 0, 0, 0, 0, 0] := ⟨by decide, rfl⟩
theorem ha_4 : IsA 4 0 6 0 0 := ⟨by decide, rfl⟩
theorem ha_5 : IsA 5 0 6 0 0 := ⟨by decide, rfl⟩
theorem ha_6 : IsA 6 0 32 0 0 := ⟨by decide, rfl⟩
theorem ha_7 : IsA 7 0 32 0 0 := ⟨by decide, rfl⟩
theorem ho_8 : IsO 8 9 [11, 0, 52, 53, 0, 0, 0, 0] := ⟨by decide, rfl⟩
theorem ha_9 : IsA 9 2 8 10 5 := ⟨by decide, rfl⟩
theorem ha_50 : IsA 50 0 8 0 0 := ⟨by decide, rfl⟩
theorem ha_51 : IsA 51 3 8 52 1 := ⟨by decide, rfl⟩
theorem ha_60 : IsA 60 4 2 61 52 := ⟨by decide, rfl⟩
theorem ho_61 : IsO 61 9 [64, 0, 105, 106, 0, 0, 0, 0] := ⟨by decide, rfl⟩
theorem ho_113 : IsO 113 9 [116, 0, 157, 158, 0, 0, 0, 0] := ⟨by decide, rfl⟩
theorem ha_165 : IsA 165 1 2 0 0 := ⟨by decide, rfl⟩
theorem ho_166 : IsO 166 0 [1, 1] := ⟨by decide, rfl⟩
theorem ho_167 : IsO 167 2 [10, 0, 170, 0] := ⟨by decide, rfl⟩
theorem ha_168 : IsA 168 0 8 0 0 := ⟨by decide, rfl⟩
theorem ho_169 : IsO 169 1 [10, 169, 0, 0, 0, 0, 0] := ⟨by decide, rfl⟩
theorem ho_170 : IsO 170 7 [10, 169, 168, 0, 0] := ⟨by decide, rfl⟩
theorem ho_171 : IsO 171 4 [10, 169, 174, 0, 0, 0, 0] := ⟨by decide, rfl⟩
theorem ha_172 : IsA 172 0 8 0 0 := ⟨by decide, rfl⟩
theorem ho_173 : IsO 173 8 [10, 169, 168, 176] := ⟨by decide, rfl⟩
theorem ho_174 : IsO 174 6 [0, 0, 0, 0, 0] := ⟨by decide, rfl⟩
theorem ho_175 : IsO 175 11 [178, 0, 0, 0, 0, 0, 179, 180, 181, 182, 183, 184, 185, 186, 187, 188, 189, 190, 0, 0, 0, 191, 192, 193, 194, 195, 0, 0, 0, 0, 0, 196, 0, 0, 0, 0, 197, 198, 199, 200, 0, 0] := ⟨by decide, rfl⟩
theorem ha_176 : IsA 176 0 60 0 0 := ⟨by decide, rfl⟩
theorem ha_177 : IsA 177 0 8 0 0 := ⟨by decide, rfl⟩
theorem ha_178 : IsA 178 0 8 0 0 := ⟨by decide, rfl⟩
theorem ha_179 : IsA 179 0 8 0 0 := ⟨by decide, rfl⟩
theorem ha_180 : IsA 180 0 48 0 0 := ⟨by decide, rfl⟩
theorem ha_181 : IsA 181 0 48 0 0 := ⟨by decide, rfl⟩
theorem ha_182 : IsA 182 0 8 0 0 := ⟨by decide, rfl⟩
theorem ha_183 : IsA 183 0 8 0 0 := ⟨by decide, rfl⟩
theorem ha_184 : IsA 184 0 8 0 0 := ⟨by decide, rfl⟩
theorem ha_185 : IsA 185 0 8 0 0 := ⟨by decide, rfl⟩
theorem ha_186 : IsA 186 0 8 0 0 := ⟨by decide, rfl⟩
theorem ha_187 : IsA 187 0 8 0 0 := ⟨by decide, rfl⟩
theorem ha_188 : IsA 188 0 8 0 0 := ⟨by decide, rfl⟩
theorem ha_189 : IsA 189 0 9 0 0 := ⟨by decide, rfl⟩
theorem ha_190 : IsA 190 0 9 0 0 := ⟨by decide, rfl⟩
theorem ha_191 : IsA 191 0 9 0 0 := ⟨by decide, rfl⟩
theorem ha_192 : IsA 192 0 9 0 0 := ⟨by decide, rfl⟩
theorem ha_193 : IsA 193 0 9 0 0 := ⟨by decide, rfl⟩
theorem ha_194 : IsA 194 0 8 0 0 := ⟨by decide, rfl⟩
theorem ha_195 : IsA 195 1 102 0 0 := ⟨by decide, rfl⟩
theorem ha_196 : IsA 196 0 8 0 0 := ⟨by decide, rfl⟩
theorem ha_197 : IsA 197 0 800 0 0 := ⟨by decide, rfl⟩
theorem ha_198 : IsA 198 1 2 0 0 := ⟨by decide, rfl⟩
theorem lawC_3 : LawC 3 := ⟨⟨by decide, rfl⟩, ⟨by decide, rfl⟩, ⟨by decide, rfl⟩, ⟨by decide, rfl⟩, ⟨by decide, rfl⟩⟩
theorem pieceC_174 : PieceC 174 := ⟨by decide, rfl⟩
theorem law_at_8 : ∀ l : Nat, l < 8 → LawC (10 + 5 * l)
  | 0, _ => ⟨⟨by decide, rfl⟩, ⟨by decide, rfl⟩, ⟨by decide, rfl⟩, ⟨by decide, rfl⟩, ⟨by decide, rfl⟩⟩
  | 1, _ => ⟨⟨by decide, rfl⟩, ⟨by decide, rfl⟩, ⟨by decide, rfl⟩, ⟨by decide, rfl⟩, ⟨by decide, rfl⟩⟩
  | 2, _ => ⟨⟨by decide, rfl⟩, ⟨by decide, rfl⟩, ⟨by decide, rfl⟩, ⟨by decide, rfl⟩, ⟨by decide, rfl⟩⟩
  | 3, _ => ⟨⟨by decide, rfl⟩, ⟨by decide, rfl⟩, ⟨by decide, rfl⟩, ⟨by decide, rfl⟩, ⟨by decide, rfl⟩⟩
  | 4, _ => ⟨⟨by decide, rfl⟩, ⟨by decide, rfl⟩, ⟨by decide, rfl⟩, ⟨by decide, rfl⟩, ⟨by decide, rfl⟩⟩
  | 5, _ => ⟨⟨by decide, rfl⟩, ⟨by decide, rfl⟩, ⟨by decide, rfl⟩, ⟨by decide, rfl⟩, ⟨by decide, rfl⟩⟩
  | 6, _ => ⟨⟨by decide, rfl⟩, ⟨by decide, rfl⟩, ⟨by decide, rfl⟩, ⟨by decide, rfl⟩, ⟨by decide, rfl⟩⟩
  | 7, _ => ⟨⟨by decide, rfl⟩, ⟨by decide, rfl⟩, ⟨by decide, rfl⟩, ⟨by decide, rfl⟩, ⟨by decide, rfl⟩⟩
  | l + 8, h => absurd h (by omega)
theorem piece_at_8 : ∀ l : Nat, l < 8 → PieceC (52 + l)
  | 0, _ => ⟨by decide, rfl⟩
  | 1, _ => ⟨by decide, rfl⟩
  | 2, _ => ⟨by decide, rfl⟩
  | 3, _ => ⟨by decide, rfl⟩
  | 4, _ => ⟨by decide, rfl⟩
  | 5, _ => ⟨by decide, rfl⟩
  | 6, _ => ⟨by decide, rfl⟩
  | 7, _ => ⟨by decide, rfl⟩
  | l + 8, h => absurd h (by omega)
theorem worldC_8 : WorldC 8 := ⟨⟨by decide, rfl⟩, ⟨by decide, rfl⟩, fun h => law_at_8 _ (vp_lt h), ⟨by decide, rfl⟩, ⟨by decide, rfl⟩, fun h => piece_at_8 _ (vp_lt h)⟩
theorem law_at_61 : ∀ l : Nat, l < 8 → LawC (63 + 5 * l)
  | 0, _ => ⟨⟨by decide, rfl⟩, ⟨by decide, rfl⟩, ⟨by decide, rfl⟩, ⟨by decide, rfl⟩, ⟨by decide, rfl⟩⟩
  | 1, _ => ⟨⟨by decide, rfl⟩, ⟨by decide, rfl⟩, ⟨by decide, rfl⟩, ⟨by decide, rfl⟩, ⟨by decide, rfl⟩⟩
  | 2, _ => ⟨⟨by decide, rfl⟩, ⟨by decide, rfl⟩, ⟨by decide, rfl⟩, ⟨by decide, rfl⟩, ⟨by decide, rfl⟩⟩
  | 3, _ => ⟨⟨by decide, rfl⟩, ⟨by decide, rfl⟩, ⟨by decide, rfl⟩, ⟨by decide, rfl⟩, ⟨by decide, rfl⟩⟩
  | 4, _ => ⟨⟨by decide, rfl⟩, ⟨by decide, rfl⟩, ⟨by decide, rfl⟩, ⟨by decide, rfl⟩, ⟨by decide, rfl⟩⟩
  | 5, _ => ⟨⟨by decide, rfl⟩, ⟨by decide, rfl⟩, ⟨by decide, rfl⟩, ⟨by decide, rfl⟩, ⟨by decide, rfl⟩⟩
  | 6, _ => ⟨⟨by decide, rfl⟩, ⟨by decide, rfl⟩, ⟨by decide, rfl⟩, ⟨by decide, rfl⟩, ⟨by decide, rfl⟩⟩
  | 7, _ => ⟨⟨by decide, rfl⟩, ⟨by decide, rfl⟩, ⟨by decide, rfl⟩, ⟨by decide, rfl⟩, ⟨by decide, rfl⟩⟩
  | l + 8, h => absurd h (by omega)
theorem piece_at_61 : ∀ l : Nat, l < 8 → PieceC (105 + l)
  | 0, _ => ⟨by decide, rfl⟩
  | 1, _ => ⟨by decide, rfl⟩
  | 2, _ => ⟨by decide, rfl⟩
  | 3, _ => ⟨by decide, rfl⟩
  | 4, _ => ⟨by decide, rfl⟩
  | 5, _ => ⟨by decide, rfl⟩
  | 6, _ => ⟨by decide, rfl⟩
  | 7, _ => ⟨by decide, rfl⟩
  | l + 8, h => absurd h (by omega)
theorem worldC_61 : WorldC 61 := ⟨⟨by decide, rfl⟩, ⟨by decide, rfl⟩, fun h => law_at_61 _ (vp_lt h), ⟨by decide, rfl⟩, ⟨by decide, rfl⟩, fun h => piece_at_61 _ (vp_lt h)⟩
theorem law_at_113 : ∀ l : Nat, l < 8 → LawC (115 + 5 * l)
  | 0, _ => ⟨⟨by decide, rfl⟩, ⟨by decide, rfl⟩, ⟨by decide, rfl⟩, ⟨by decide, rfl⟩, ⟨by decide, rfl⟩⟩
  | 1, _ => ⟨⟨by decide, rfl⟩, ⟨by decide, rfl⟩, ⟨by decide, rfl⟩, ⟨by decide, rfl⟩, ⟨by decide, rfl⟩⟩
  | 2, _ => ⟨⟨by decide, rfl⟩, ⟨by decide, rfl⟩, ⟨by decide, rfl⟩, ⟨by decide, rfl⟩, ⟨by decide, rfl⟩⟩
  | 3, _ => ⟨⟨by decide, rfl⟩, ⟨by decide, rfl⟩, ⟨by decide, rfl⟩, ⟨by decide, rfl⟩, ⟨by decide, rfl⟩⟩
  | 4, _ => ⟨⟨by decide, rfl⟩, ⟨by decide, rfl⟩, ⟨by decide, rfl⟩, ⟨by decide, rfl⟩, ⟨by decide, rfl⟩⟩
  | 5, _ => ⟨⟨by decide, rfl⟩, ⟨by decide, rfl⟩, ⟨by decide, rfl⟩, ⟨by decide, rfl⟩, ⟨by decide, rfl⟩⟩
  | 6, _ => ⟨⟨by decide, rfl⟩, ⟨by decide, rfl⟩, ⟨by decide, rfl⟩, ⟨by decide, rfl⟩, ⟨by decide, rfl⟩⟩
  | 7, _ => ⟨⟨by decide, rfl⟩, ⟨by decide, rfl⟩, ⟨by decide, rfl⟩, ⟨by decide, rfl⟩, ⟨by decide, rfl⟩⟩
  | l + 8, h => absurd h (by omega)
theorem piece_at_113 : ∀ l : Nat, l < 8 → PieceC (157 + l)
  | 0, _ => ⟨by decide, rfl⟩
  | 1, _ => ⟨by decide, rfl⟩
  | 2, _ => ⟨by decide, rfl⟩
  | 3, _ => ⟨by decide, rfl⟩
  | 4, _ => ⟨by decide, rfl⟩
  | 5, _ => ⟨by decide, rfl⟩
  | 6, _ => ⟨by decide, rfl⟩
  | 7, _ => ⟨by decide, rfl⟩
  | l + 8, h => absurd h (by omega)
theorem worldC_113 : WorldC 113 := ⟨⟨by decide, rfl⟩, ⟨by decide, rfl⟩, fun h => law_at_113 _ (vp_lt h), ⟨by decide, rfl⟩, ⟨by decide, rfl⟩, fun h => piece_at_113 _ (vp_lt h)⟩
theorem lawC8 {i : Int32} (h : vp_in i 8) : LawC (10 + 5 * Int32.toNatClampNeg i) := law_at_8 _ (vp_lt h)
theorem pieceC8 {i : Int32} (h : vp_in i 8) : PieceC (52 + Int32.toNatClampNeg i) := piece_at_8 _ (vp_lt h)
theorem world_at : ∀ l : Nat, l < 2 → WorldC (61 + 52 * l)
  | 0, _ => worldC_61
  | 1, _ => worldC_113
  | l + 2, h => absurd h (by omega)
theorem worldC2 {i : Int32} (h : vp_in i 2) : WorldC (61 + 52 * Int32.toNatClampNeg i) := world_at _ (vp_lt h)
/-- a truth as an int -/
noncomputable def bi (p : Prop) : Int32 := @ite _ p (Classical.propDecidable p) 1 0
theorem bi_t {p : Prop} (h : p) : bi p = 1 := if_pos h
theorem bi_f {p : Prop} (h : ¬ p) : bi p = 0 := if_neg h
theorem bi_eq0 {p : Prop} : bi p = 0 ↔ ¬ p := by
  by_cases h : p
  · rw [bi_t h]; exact ⟨fun q => absurd q (by decide), fun q => absurd h q⟩
  · rw [bi_f h]; exact ⟨fun _ => h, fun _ => rfl⟩
theorem bi_ne0 {p : Prop} : ¬ bi p = 0 ↔ p := by
  rw [bi_eq0]
  exact ⟨fun h => Classical.byContradiction h, fun h q => q h⟩
theorem bi_01 {p : Prop} : bi p = 0 ∨ bi p = 1 := by
  by_cases h : p
  · rw [bi_t h]; exact Or.inr rfl
  · rw [bi_f h]; exact Or.inl rfl
theorem bi_congr {p q : Prop} (h : p ↔ q) : bi p = bi q := by rw [propext h]
/-- a truth's two ends -/
theorem bi_K {p : Prop} {K : Int32 → Mem → Prop} {M : Mem} (h : K (bi p) M) : (p → K 1 M) ∧ (¬ p → K 0 M) := ⟨fun q => by rwa [bi_t q] at h, fun q => by rwa [bi_f q] at h⟩
theorem nar01 {v : Int32} (h : v = 0 ∨ v = 1) : narrow .boolean (.int v) = .int v := by rcases h with rfl | rfl <;> rfl
section MAINC
variable {G : GT} {own nm : String} {b : ByteArray} {n : Nat} {rt : Option FieldType} {rm : Room} {K : Int32 → Mem → Prop} {pc : Nat} {L : List (Nat × Value)} {S : List Value} {M : Mem}
variable {y : MethodName} {yb : ByteArray} {yn : Nat} {ty : FieldType} {yrm : Room} {k idx c0 : Nat}
theorem BT.topi {kc ks : Nat} {x : Int32} (kk : ∀ y : Int32, y = x → BT G (Rep G) own nm b n rt rm K kc ks pc L (.int y :: S) M) : BT G (Rep G) own nm b n rt rm K kc ks pc L (.int x :: S) M := kk x rfl
theorem BT.topl {kc ks : Nat} {x : Int64} (kk : ∀ y : Int64, y = x → BT G (Rep G) own nm b n rt rm K kc ks pc L (.long y :: S) M) : BT G (Rep G) own nm b n rt rm K kc ks pc L (.long x :: S) M := kk x rfl
theorem BT.topm {kc ks : Nat} (kk : ∀ N : Mem, N = M → BT G (Rep G) own nm b n rt rm K kc ks pc L S N) : BT G (Rep G) own nm b n rt rm K kc ks pc L S M := kk M rfl
theorem BT.aald1 {kc ks c t nn s0 : Nat} {i : Int32} (hsh : IsA c t nn s0 1) (ht : 2 ≤ t ∧ t < 5) (hi : vp_in i nn) (hd : decode b pc = .ok (.aaload, 1)) (kk : BT G (Rep G) own nm b n rt rm K kc ks (pc + 1) L (.ref (s0 + i.toNatClampNeg) :: S) M) : BT G (Rep G) own nm b n rt rm K kc ks pc L (.int i :: .ref c :: S) M :=
  BT.aald hsh ht hi hd (by rw [Nat.one_mul]; exact kk)
theorem BT.mcV (As : List Value) (hM : MT G (Rep G) y yb yn (some ty) yrm (.ref c0 :: As) M (fun r M' => BT G (Rep G) own nm b n rt rm K 0 0 (pc + 3) L (.int r :: S) M')) (hb1 : MWb y yb yn (some ty) k) (hv : MWv y) (hlk : Cond.methodLink own idx y ∈ aw_ws) (hz : (yrm.cells, yrm.slots) = (0, 0)) (hroom : yrm.frames + 1 ≤ rm.frames ∧ 8 + (yn + 11) + yrm.locals ≤ rm.locals) (hk : As.length = k) (hrc : aw_Recv G (Rep G) M c0 y.cls) (h8 : (S.map fun v => v.category).sum ≤ 8) (hd : decode b pc = .ok (.invokevirtual idx, 3)) : BT G (Rep G) own nm b n rt rm K 0 0 pc L (As.reverse ++ .ref c0 :: S) M := by
  have z1 : yrm.cells = 0 := congrArg Prod.fst hz
  have z2 : yrm.slots = 0 := congrArg Prod.snd hz
  refine BT.callV As hM hb1 hv hlk hroom ⟨by omega, by omega⟩ hk hrc h8 hd (fun r M' h => ?_)
  rw [z1, z2]
  exact h
theorem BT.mcVv (As : List Value) (hM : MT G (Rep G) y yb yn none yrm (.ref c0 :: As) M (fun _ M' => BT G (Rep G) own nm b n rt rm K 0 0 (pc + 3) L S M')) (hb1 : MWb y yb yn none k) (hv : MWv y) (hlk : Cond.methodLink own idx y ∈ aw_ws) (hz : (yrm.cells, yrm.slots) = (0, 0)) (hroom : yrm.frames + 1 ≤ rm.frames ∧ 8 + (yn + 11) + yrm.locals ≤ rm.locals) (hk : As.length = k) (hrc : aw_Recv G (Rep G) M c0 y.cls) (h8 : (S.map fun v => v.category).sum ≤ 8) (hd : decode b pc = .ok (.invokevirtual idx, 3)) : BT G (Rep G) own nm b n rt rm K 0 0 pc L (As.reverse ++ .ref c0 :: S) M := by
  have z1 : yrm.cells = 0 := congrArg Prod.fst hz
  have z2 : yrm.slots = 0 := congrArg Prod.snd hz
  refine BT.callVv As hM hb1 hv hlk hroom ⟨by omega, by omega⟩ hk hrc h8 hd (fun M' h => ?_)
  rw [z1, z2]
  exact h
theorem BT.mcS (As : List Value) (hM : MT G (Rep G) y yb yn (some ty) yrm As M (fun r M' => BT G (Rep G) own nm b n rt rm K 0 0 (pc + 3) L (.int r :: S) M')) (hb1 : MWb y yb yn (some ty) k) (hv : MWs y) (hlk : Cond.methodLink own idx y ∈ aw_ws) (hz : (yrm.cells, yrm.slots) = (0, 0)) (hroom : yrm.frames + 1 ≤ rm.frames ∧ 8 + (yn + 11) + yrm.locals ≤ rm.locals) (hk : As.length = k) (h8 : (S.map fun v => v.category).sum ≤ 8) (hd : decode b pc = .ok (.invokestatic idx, 3)) : BT G (Rep G) own nm b n rt rm K 0 0 pc L (As.reverse ++ S) M := by
  have z1 : yrm.cells = 0 := congrArg Prod.fst hz
  have z2 : yrm.slots = 0 := congrArg Prod.snd hz
  refine BT.callS As hM hb1 hv hlk hroom ⟨by omega, by omega⟩ hk h8 hd (fun r M' h => ?_)
  rw [z1, z2]
  exact h
theorem BT.mcSN {host : String} (As : List Value) (hM : MT G (Rep G) y yb yn (some ty) yrm As M (fun r M' => BT G (Rep G) own nm b n rt rm K 0 0 (pc + 3) L (.int r :: S) M')) (hb1 : MWb y yb yn (some ty) k) (hv : MWs y) (hlk : Cond.methodLinkNest own idx y host ∈ lw_tbl) (hz : (yrm.cells, yrm.slots) = (0, 0)) (hroom : yrm.frames + 1 ≤ rm.frames ∧ 8 + (yn + 11) + yrm.locals ≤ rm.locals) (hk : As.length = k) (h8 : (S.map fun v => v.category).sum ≤ 8) (hd : decode b pc = .ok (.invokestatic idx, 3)) : BT G (Rep G) own nm b n rt rm K 0 0 pc L (As.reverse ++ S) M := by
  have z1 : yrm.cells = 0 := congrArg Prod.fst hz
  have z2 : yrm.slots = 0 := congrArg Prod.snd hz
  refine BT.callSN As hM hb1 hv hlk hroom ⟨by omega, by omega⟩ hk h8 hd (fun r M' h => ?_)
  rw [z1, z2]
  exact h
theorem BT.mcVn {R0 : Int32} {N0 : Mem} (As : List Value) (hM : MT G (Rep G) y yb yn (some ty) yrm (.ref c0 :: As) M (fun r M' => r = R0 ∧ M' = N0)) (hb1 : MWb y yb yn (some ty) k) (hv : MWv y) (hlk : Cond.methodLink own idx y ∈ aw_ws) (hz : (yrm.cells, yrm.slots) = (0, 0)) (hroom : yrm.frames + 1 ≤ rm.frames ∧ 8 + (yn + 11) + yrm.locals ≤ rm.locals) (hk : As.length = k) (hrc : aw_Recv G (Rep G) M c0 y.cls) (h8 : (S.map fun v => v.category).sum ≤ 8) (hd : decode b pc = .ok (.invokevirtual idx, 3)) (kk : ∀ r : Int32, r = R0 → ∀ N : Mem, N = N0 → BT G (Rep G) own nm b n rt rm K 0 0 (pc + 3) L (.int r :: S) N) : BT G (Rep G) own nm b n rt rm K 0 0 pc L (As.reverse ++ .ref c0 :: S) M := by
  have z1 : yrm.cells = 0 := congrArg Prod.fst hz
  have z2 : yrm.slots = 0 := congrArg Prod.snd hz
  refine BT.callV As hM hb1 hv hlk hroom ⟨by omega, by omega⟩ hk hrc h8 hd (fun r M' h => ?_)
  rw [z1, z2]
  exact kk r h.1 M' h.2
theorem BT.mcVr {R0 : Int32} {N0 : Mem} (As : List Value) (hM : MT G (Rep G) y yb yn (some ty) yrm (.ref c0 :: As) M (fun r M' => r = R0 ∧ M' = N0)) (hb1 : MWb y yb yn (some ty) k) (hv : MWv y) (hlk : Cond.methodLink own idx y ∈ aw_ws) (hz : (yrm.cells, yrm.slots) = (0, 0)) (hroom : yrm.frames + 1 ≤ rm.frames ∧ 8 + (yn + 11) + yrm.locals ≤ rm.locals) (hk : As.length = k) (hrc : aw_Recv G (Rep G) M c0 y.cls) (h8 : (S.map fun v => v.category).sum ≤ 8) (hd : decode b pc = .ok (.invokevirtual idx, 3)) (kk : ∀ r : Int32, r = R0 → BT G (Rep G) own nm b n rt rm K 0 0 (pc + 3) L (.int r :: S) N0) : BT G (Rep G) own nm b n rt rm K 0 0 pc L (As.reverse ++ .ref c0 :: S) M := by
  have z1 : yrm.cells = 0 := congrArg Prod.fst hz
  have z2 : yrm.slots = 0 := congrArg Prod.snd hz
  refine BT.callV As hM hb1 hv hlk hroom ⟨by omega, by omega⟩ hk hrc h8 hd (fun r M' h => ?_)
  rw [z1, z2]
  obtain ⟨h1, rfl⟩ := h
  exact kk r h1
theorem BT.mcSn {R0 : Int32} {N0 : Mem} (As : List Value) (hM : MT G (Rep G) y yb yn (some ty) yrm As M (fun r M' => r = R0 ∧ M' = N0)) (hb1 : MWb y yb yn (some ty) k) (hv : MWs y) (hlk : Cond.methodLink own idx y ∈ aw_ws) (hz : (yrm.cells, yrm.slots) = (0, 0)) (hroom : yrm.frames + 1 ≤ rm.frames ∧ 8 + (yn + 11) + yrm.locals ≤ rm.locals) (hk : As.length = k) (h8 : (S.map fun v => v.category).sum ≤ 8) (hd : decode b pc = .ok (.invokestatic idx, 3)) (kk : ∀ r : Int32, r = R0 → ∀ N : Mem, N = N0 → BT G (Rep G) own nm b n rt rm K 0 0 (pc + 3) L (.int r :: S) N) : BT G (Rep G) own nm b n rt rm K 0 0 pc L (As.reverse ++ S) M := by
  have z1 : yrm.cells = 0 := congrArg Prod.fst hz
  have z2 : yrm.slots = 0 := congrArg Prod.snd hz
  refine BT.callS As hM hb1 hv hlk hroom ⟨by omega, by omega⟩ hk h8 hd (fun r M' h => ?_)
  rw [z1, z2]
  exact kk r h.1 M' h.2
theorem BT.mcSr {R0 : Int32} {N0 : Mem} (As : List Value) (hM : MT G (Rep G) y yb yn (some ty) yrm As M (fun r M' => r = R0 ∧ M' = N0)) (hb1 : MWb y yb yn (some ty) k) (hv : MWs y) (hlk : Cond.methodLink own idx y ∈ aw_ws) (hz : (yrm.cells, yrm.slots) = (0, 0)) (hroom : yrm.frames + 1 ≤ rm.frames ∧ 8 + (yn + 11) + yrm.locals ≤ rm.locals) (hk : As.length = k) (h8 : (S.map fun v => v.category).sum ≤ 8) (hd : decode b pc = .ok (.invokestatic idx, 3)) (kk : ∀ r : Int32, r = R0 → BT G (Rep G) own nm b n rt rm K 0 0 (pc + 3) L (.int r :: S) N0) : BT G (Rep G) own nm b n rt rm K 0 0 pc L (As.reverse ++ S) M := by
  have z1 : yrm.cells = 0 := congrArg Prod.fst hz
  have z2 : yrm.slots = 0 := congrArg Prod.snd hz
  refine BT.callS As hM hb1 hv hlk hroom ⟨by omega, by omega⟩ hk h8 hd (fun r M' h => ?_)
  rw [z1, z2]
  obtain ⟨h1, rfl⟩ := h
  exact kk r h1
theorem BT.mcSNn {R0 : Int32} {N0 : Mem} {host : String} (As : List Value) (hM : MT G (Rep G) y yb yn (some ty) yrm As M (fun r M' => r = R0 ∧ M' = N0)) (hb1 : MWb y yb yn (some ty) k) (hv : MWs y) (hlk : Cond.methodLinkNest own idx y host ∈ lw_tbl) (hz : (yrm.cells, yrm.slots) = (0, 0)) (hroom : yrm.frames + 1 ≤ rm.frames ∧ 8 + (yn + 11) + yrm.locals ≤ rm.locals) (hk : As.length = k) (h8 : (S.map fun v => v.category).sum ≤ 8) (hd : decode b pc = .ok (.invokestatic idx, 3)) (kk : ∀ r : Int32, r = R0 → ∀ N : Mem, N = N0 → BT G (Rep G) own nm b n rt rm K 0 0 (pc + 3) L (.int r :: S) N) : BT G (Rep G) own nm b n rt rm K 0 0 pc L (As.reverse ++ S) M := by
  have z1 : yrm.cells = 0 := congrArg Prod.fst hz
  have z2 : yrm.slots = 0 := congrArg Prod.snd hz
  refine BT.callSN As hM hb1 hv hlk hroom ⟨by omega, by omega⟩ hk h8 hd (fun r M' h => ?_)
  rw [z1, z2]
  exact kk r h.1 M' h.2
theorem BT.mcSNr {R0 : Int32} {N0 : Mem} {host : String} (As : List Value) (hM : MT G (Rep G) y yb yn (some ty) yrm As M (fun r M' => r = R0 ∧ M' = N0)) (hb1 : MWb y yb yn (some ty) k) (hv : MWs y) (hlk : Cond.methodLinkNest own idx y host ∈ lw_tbl) (hz : (yrm.cells, yrm.slots) = (0, 0)) (hroom : yrm.frames + 1 ≤ rm.frames ∧ 8 + (yn + 11) + yrm.locals ≤ rm.locals) (hk : As.length = k) (h8 : (S.map fun v => v.category).sum ≤ 8) (hd : decode b pc = .ok (.invokestatic idx, 3)) (kk : ∀ r : Int32, r = R0 → BT G (Rep G) own nm b n rt rm K 0 0 (pc + 3) L (.int r :: S) N0) : BT G (Rep G) own nm b n rt rm K 0 0 pc L (As.reverse ++ S) M := by
  have z1 : yrm.cells = 0 := congrArg Prod.fst hz
  have z2 : yrm.slots = 0 := congrArg Prod.snd hz
  refine BT.callSN As hM hb1 hv hlk hroom ⟨by omega, by omega⟩ hk h8 hd (fun r M' h => ?_)
  rw [z1, z2]
  obtain ⟨h1, rfl⟩ := h
  exact kk r h1
theorem BT.mcVvm {N0 : Mem} (As : List Value) (hM : MT G (Rep G) y yb yn none yrm (.ref c0 :: As) M (fun r M' => r = 0 ∧ M' = N0)) (hb1 : MWb y yb yn none k) (hv : MWv y) (hlk : Cond.methodLink own idx y ∈ aw_ws) (hz : (yrm.cells, yrm.slots) = (0, 0)) (hroom : yrm.frames + 1 ≤ rm.frames ∧ 8 + (yn + 11) + yrm.locals ≤ rm.locals) (hk : As.length = k) (hrc : aw_Recv G (Rep G) M c0 y.cls) (h8 : (S.map fun v => v.category).sum ≤ 8) (hd : decode b pc = .ok (.invokevirtual idx, 3)) (kk : ∀ N : Mem, N = N0 → BT G (Rep G) own nm b n rt rm K 0 0 (pc + 3) L S N) : BT G (Rep G) own nm b n rt rm K 0 0 pc L (As.reverse ++ .ref c0 :: S) M := by
  have z1 : yrm.cells = 0 := congrArg Prod.fst hz
  have z2 : yrm.slots = 0 := congrArg Prod.snd hz
  refine BT.callVv As hM hb1 hv hlk hroom ⟨by omega, by omega⟩ hk hrc h8 hd (fun M' h => ?_)
  rw [z1, z2]
  exact kk M' h.2
theorem BT.mcVp {R0 : Int32} {P : Mem → Prop} (As : List Value) (hM : MT G (Rep G) y yb yn (some ty) yrm (.ref c0 :: As) M (fun r M' => r = R0 ∧ P M')) (hb1 : MWb y yb yn (some ty) k) (hv : MWv y) (hlk : Cond.methodLink own idx y ∈ aw_ws) (hz : (yrm.cells, yrm.slots) = (0, 0)) (hroom : yrm.frames + 1 ≤ rm.frames ∧ 8 + (yn + 11) + yrm.locals ≤ rm.locals) (hk : As.length = k) (hrc : aw_Recv G (Rep G) M c0 y.cls) (h8 : (S.map fun v => v.category).sum ≤ 8) (hd : decode b pc = .ok (.invokevirtual idx, 3)) (kk : ∀ r : Int32, r = R0 → ∀ N : Mem, P N → BT G (Rep G) own nm b n rt rm K 0 0 (pc + 3) L (.int r :: S) N) : BT G (Rep G) own nm b n rt rm K 0 0 pc L (As.reverse ++ .ref c0 :: S) M := by
  have z1 : yrm.cells = 0 := congrArg Prod.fst hz
  have z2 : yrm.slots = 0 := congrArg Prod.snd hz
  refine BT.callV As hM hb1 hv hlk hroom ⟨by omega, by omega⟩ hk hrc h8 hd (fun r M' h => ?_)
  rw [z1, z2]
  exact kk r h.1 M' h.2
theorem BT.mcVq {R0 : Int32} {P : Mem → Prop} (As : List Value) (hM : MT G (Rep G) y yb yn (some ty) yrm (.ref c0 :: As) M (fun r M' => r = R0 ∧ P M')) (hb1 : MWb y yb yn (some ty) k) (hv : MWv y) (hlk : Cond.methodLink own idx y ∈ aw_ws) (hz : (yrm.cells, yrm.slots) = (0, 0)) (hroom : yrm.frames + 1 ≤ rm.frames ∧ 8 + (yn + 11) + yrm.locals ≤ rm.locals) (hk : As.length = k) (hrc : aw_Recv G (Rep G) M c0 y.cls) (h8 : (S.map fun v => v.category).sum ≤ 8) (hd : decode b pc = .ok (.invokevirtual idx, 3)) (kk : ∀ N : Mem, P N → BT G (Rep G) own nm b n rt rm K 0 0 (pc + 3) L (.int R0 :: S) N) : BT G (Rep G) own nm b n rt rm K 0 0 pc L (As.reverse ++ .ref c0 :: S) M := by
  have z1 : yrm.cells = 0 := congrArg Prod.fst hz
  have z2 : yrm.slots = 0 := congrArg Prod.snd hz
  refine BT.callV As hM hb1 hv hlk hroom ⟨by omega, by omega⟩ hk hrc h8 hd (fun r M' h => ?_)
  rw [z1, z2]
  rw [h.1]
  exact kk M' h.2
theorem BT.mcSp {R0 : Int32} {P : Mem → Prop} (As : List Value) (hM : MT G (Rep G) y yb yn (some ty) yrm As M (fun r M' => r = R0 ∧ P M')) (hb1 : MWb y yb yn (some ty) k) (hv : MWs y) (hlk : Cond.methodLink own idx y ∈ aw_ws) (hz : (yrm.cells, yrm.slots) = (0, 0)) (hroom : yrm.frames + 1 ≤ rm.frames ∧ 8 + (yn + 11) + yrm.locals ≤ rm.locals) (hk : As.length = k) (h8 : (S.map fun v => v.category).sum ≤ 8) (hd : decode b pc = .ok (.invokestatic idx, 3)) (kk : ∀ r : Int32, r = R0 → ∀ N : Mem, P N → BT G (Rep G) own nm b n rt rm K 0 0 (pc + 3) L (.int r :: S) N) : BT G (Rep G) own nm b n rt rm K 0 0 pc L (As.reverse ++ S) M := by
  have z1 : yrm.cells = 0 := congrArg Prod.fst hz
  have z2 : yrm.slots = 0 := congrArg Prod.snd hz
  refine BT.callS As hM hb1 hv hlk hroom ⟨by omega, by omega⟩ hk h8 hd (fun r M' h => ?_)
  rw [z1, z2]
  exact kk r h.1 M' h.2
theorem BT.mcSq {R0 : Int32} {P : Mem → Prop} (As : List Value) (hM : MT G (Rep G) y yb yn (some ty) yrm As M (fun r M' => r = R0 ∧ P M')) (hb1 : MWb y yb yn (some ty) k) (hv : MWs y) (hlk : Cond.methodLink own idx y ∈ aw_ws) (hz : (yrm.cells, yrm.slots) = (0, 0)) (hroom : yrm.frames + 1 ≤ rm.frames ∧ 8 + (yn + 11) + yrm.locals ≤ rm.locals) (hk : As.length = k) (h8 : (S.map fun v => v.category).sum ≤ 8) (hd : decode b pc = .ok (.invokestatic idx, 3)) (kk : ∀ N : Mem, P N → BT G (Rep G) own nm b n rt rm K 0 0 (pc + 3) L (.int R0 :: S) N) : BT G (Rep G) own nm b n rt rm K 0 0 pc L (As.reverse ++ S) M := by
  have z1 : yrm.cells = 0 := congrArg Prod.fst hz
  have z2 : yrm.slots = 0 := congrArg Prod.snd hz
  refine BT.callS As hM hb1 hv hlk hroom ⟨by omega, by omega⟩ hk h8 hd (fun r M' h => ?_)
  rw [z1, z2]
  rw [h.1]
  exact kk M' h.2
theorem BT.mcSNp {R0 : Int32} {P : Mem → Prop} {host : String} (As : List Value) (hM : MT G (Rep G) y yb yn (some ty) yrm As M (fun r M' => r = R0 ∧ P M')) (hb1 : MWb y yb yn (some ty) k) (hv : MWs y) (hlk : Cond.methodLinkNest own idx y host ∈ lw_tbl) (hz : (yrm.cells, yrm.slots) = (0, 0)) (hroom : yrm.frames + 1 ≤ rm.frames ∧ 8 + (yn + 11) + yrm.locals ≤ rm.locals) (hk : As.length = k) (h8 : (S.map fun v => v.category).sum ≤ 8) (hd : decode b pc = .ok (.invokestatic idx, 3)) (kk : ∀ r : Int32, r = R0 → ∀ N : Mem, P N → BT G (Rep G) own nm b n rt rm K 0 0 (pc + 3) L (.int r :: S) N) : BT G (Rep G) own nm b n rt rm K 0 0 pc L (As.reverse ++ S) M := by
  have z1 : yrm.cells = 0 := congrArg Prod.fst hz
  have z2 : yrm.slots = 0 := congrArg Prod.snd hz
  refine BT.callSN As hM hb1 hv hlk hroom ⟨by omega, by omega⟩ hk h8 hd (fun r M' h => ?_)
  rw [z1, z2]
  exact kk r h.1 M' h.2
theorem BT.mcSNq {R0 : Int32} {P : Mem → Prop} {host : String} (As : List Value) (hM : MT G (Rep G) y yb yn (some ty) yrm As M (fun r M' => r = R0 ∧ P M')) (hb1 : MWb y yb yn (some ty) k) (hv : MWs y) (hlk : Cond.methodLinkNest own idx y host ∈ lw_tbl) (hz : (yrm.cells, yrm.slots) = (0, 0)) (hroom : yrm.frames + 1 ≤ rm.frames ∧ 8 + (yn + 11) + yrm.locals ≤ rm.locals) (hk : As.length = k) (h8 : (S.map fun v => v.category).sum ≤ 8) (hd : decode b pc = .ok (.invokestatic idx, 3)) (kk : ∀ N : Mem, P N → BT G (Rep G) own nm b n rt rm K 0 0 (pc + 3) L (.int R0 :: S) N) : BT G (Rep G) own nm b n rt rm K 0 0 pc L (As.reverse ++ S) M := by
  have z1 : yrm.cells = 0 := congrArg Prod.fst hz
  have z2 : yrm.slots = 0 := congrArg Prod.snd hz
  refine BT.callSN As hM hb1 hv hlk hroom ⟨by omega, by omega⟩ hk h8 hd (fun r M' h => ?_)
  rw [z1, z2]
  rw [h.1]
  exact kk M' h.2
theorem BT.mcVvp {P : Mem → Prop} (As : List Value) (hM : MT G (Rep G) y yb yn none yrm (.ref c0 :: As) M (fun r M' => r = 0 ∧ P M')) (hb1 : MWb y yb yn none k) (hv : MWv y) (hlk : Cond.methodLink own idx y ∈ aw_ws) (hz : (yrm.cells, yrm.slots) = (0, 0)) (hroom : yrm.frames + 1 ≤ rm.frames ∧ 8 + (yn + 11) + yrm.locals ≤ rm.locals) (hk : As.length = k) (hrc : aw_Recv G (Rep G) M c0 y.cls) (h8 : (S.map fun v => v.category).sum ≤ 8) (hd : decode b pc = .ok (.invokevirtual idx, 3)) (kk : ∀ N : Mem, P N → BT G (Rep G) own nm b n rt rm K 0 0 (pc + 3) L S N) : BT G (Rep G) own nm b n rt rm K 0 0 pc L (As.reverse ++ .ref c0 :: S) M := by
  have z1 : yrm.cells = 0 := congrArg Prod.fst hz
  have z2 : yrm.slots = 0 := congrArg Prod.snd hz
  refine BT.callVv As hM hb1 hv hlk hroom ⟨by omega, by omega⟩ hk hrc h8 hd (fun M' h => ?_)
  rw [z1, z2]
  exact kk M' h.2
end MAINC
