/-! ===== 30.model ===== -/
/-! ===== the model's words, told by a world of the class ===== -/
theorem i64_le {a b : Int32} : Int32.toInt64 a ≤ Int32.toInt64 b ↔ a ≤ b := by
  rw [Int64.le_iff_toInt_le, Int32.le_iff_toInt_le, Int32.toInt_toInt64, Int32.toInt_toInt64]
def z_ones (v : Int32) : Nat → Int32
  | 0 => 0
  | k + 1 => z_ones v k + ((v >>> (nI k &&& 31)) &&& 1)
def w_fits (W : WT) (c i : Nat) (m : Int32) : Prop := (W (c + 1) i &&& (m ^^^ (-1))) = 0
/-- the first case from i on, of f ones, that fits -/
noncomputable def w_ff (W : WT) (c : Nat) (m : Int32) : Nat → Nat → Int32
  | _, 0 => -6
  | i, f + 1 => sel (w_fits W c i m) (nI i) (w_ff W c m (i + 1) f)
noncomputable def w_fit (W : WT) (c : Nat) (m : Int32) : Int32 := w_ff W c m 0 (Int32.toNatClampNeg (W c 2))
theorem w_ff_in (W : WT) (c : Nat) (m : Int32) : ∀ f i, w_ff W c m i f = -6 ∨ ∃ j, j < i + f ∧ w_ff W c m i f = nI j
  | 0, _ => Or.inl rfl
  | f + 1, i => by
    unfold w_ff
    by_cases h : w_fits W c i m
    · rw [sel_t h]; exact Or.inr ⟨i, by omega, rfl⟩
    · rw [sel_f h]
      rcases w_ff_in W c m f (i + 1) with q | ⟨j, hj, q⟩
      · exact Or.inl q
      · exact Or.inr ⟨j, by omega, q⟩
/-- the gifts and weights of a law are those of its cases -/
def FitW (W : WT) (c : Nat) : Prop := ∀ m, m < 32 → W (c + 3) m = sel (w_fit W c (nI m) = -6) (-6) (W (c + 2) (Int32.toNatClampNeg (w_fit W c (nI m)))) ∧ W (c + 4) m = sel (w_fit W c (nI m) = -6) 0 (z_ones (W (c + 1) (Int32.toNatClampNeg (w_fit W c (nI m)))) 8)
def CasesW (W : WT) (c : Nat) : Prop := ∃ k, (1 ≤ k ∧ k ≤ 6) ∧ W c 2 = nI k ∧ ∀ i, i < k → (∃ m, m < 32 ∧ W (c + 1) i = nI m) ∧ ∃ g, g < 108 ∧ W (c + 2) i = nI g
def LawG (W : WT) (c : Nat) : Prop := (∃ a, a < 100 ∧ W c 0 = nI a) ∧ (∃ b, (1 ≤ b ∧ b ≤ 100) ∧ W c 1 = nI b) ∧ CasesW W c ∧ FitW W c
/-- the world is well, as far as governing goes -/
def GW (W : WT) : Prop := (W 8 1 = nI (w_n W) ∧ w_n W ≤ 8) ∧ LfTo W (W 50) (w_n W) ∧ (W 8 7 = 0 ∨ W 8 7 = 1) ∧ ∀ l, l < w_n W → LawG W (10 + 5 * l)
noncomputable def z_num (Z : WT) : Nat → Nat
  | 0 => 0
  | l + 1 => z_num Z l + (sel (Z 183 l < 0) 0 1 + sel (Z 187 l < 0) 0 1)
noncomputable def z_numw (Z : WT) (l : Nat) (w : Int32) : Nat := z_num Z l + sel (w = 1) (sel (Z 183 l < 0) 0 1) 0
def z_sec (Z : WT) (l : Nat) (w : Int32) : Prop := z_numw Z l w < 8 ∧ ((Z 175 19 >>> (nI (z_numw Z l w) &&& 31)) &&& 1) = 1
noncomputable def z_tm (Z : WT) (l : Nat) : Int32 := sel (¬ Z 183 l < 0 ∧ z_sec Z l 0) (Z 183 l) (Z 182 l)
noncomputable def z_wy (Z : WT) (l : Nat) : Int32 := sel (¬ Z 175 20 < 0) (Z 175 20) (sel (¬ Z 187 l < 0 ∧ z_sec Z l 1) (Z 187 l) (Z 186 l))
def LawR (W Z : WT) (l : Nat) : Prop := Z 177 l = W (10 + 5 * l) 0 ∧ Z 178 l = W (10 + 5 * l) 1 ∧ Z 179 l = W (10 + 5 * l) 2 ∧ Z 184 l = W (10 + 5 * l) 10 ∧ Z 188 l = W (10 + 5 * l) 14 ∧ z_tm Z l = W (10 + 5 * l) 9 ∧ ∀ k, k < Int32.toNatClampNeg (W (10 + 5 * l) 2) → Z 180 (6 * l + k) = W (10 + 5 * l + 1) k ∧ Z 181 (6 * l + k) = W (10 + 5 * l + 2) k
/-- the model's cells tell the world W, as far as governing goes -/
def RG (W : WT) (M : Mem) : Prop := GW W ∧ M.1 175 18 = W 8 1 ∧ M.1 175 27 = W 8 5 ∧ M.1 175 28 = W 8 6 ∧ M.1 175 29 = W 8 7 ∧ ∀ l, l < w_n W → LawR W M.1 l
abbrev zc (j : Nat) : Nat := if j = 8 then 174 else 52 + j
abbrev zp (x : Int32) : Nat := zc (Int32.toNatClampNeg x)
def DayO (x : Int32) : Prop := x = -6 ∨ ∃ d, d < 100 ∧ x = nI d
def PW (W : WT) (c : Nat) : Prop := BOk W c ∧ DayO (W c 1) ∧ (W c 2 = -6 ∨ (W c 0 ≤ W c 2 ∧ ∃ d, d < 100 ∧ W c 2 = nI d)) ∧ ∃ m, m < 32 ∧ W c 3 = nI m
def PR (W : WT) (M : Mem) (x : Int32) : Prop := ∃ j, j < 9 ∧ x = nI j ∧ PW W (zc j) ∧ M.1 189 j = W (zc j) 0 ∧ M.1 190 j = W (zc j) 1 ∧ M.1 191 j = W (zc j) 2 ∧ M.1 192 j = W (zc j) 3
def RP (W : WT) (M : Mem) : Prop := (W 8 4 = nI (w_p W) ∧ w_p W ≤ 8) ∧ M.1 175 26 = W 8 4 ∧ ∀ p, p < w_p W → PR W M (nI p) ∧ M.1 193 p = W (52 + p) 4
noncomputable def z_fit (W : WT) (l p : Int32) : Int32 := w_fit W (plw l) (W (zp p) 3)
theorem GW.ix {W : WT} (h : GW W) {v : Int32} (hv : (0 : Int32) ≤ v ∧ v < W 8 1) : Int32.toNatClampNeg v < w_n W ∧ Int32.toNatClampNeg v < 8 ∧ v = nI (Int32.toNatClampNeg v) := by
  obtain ⟨⟨hq, h9⟩, -⟩ := h
  obtain ⟨j, hj, rfl⟩ := i_nat (show w_n W < 2 ^ 31 by omega) hv.1 (by rw [← hq]; exact hv.2)
  rw [ix_nI (by omega)]
  exact ⟨hj, by omega, rfl⟩
theorem nI_m1 {n : Nat} {v : Int32} (hn : n < 2 ^ 31) : ((0 : Int32) ≤ v ∧ v ≤ nI n - 1) ↔ ((0 : Int32) ≤ v ∧ v < nI n) := by
  constructor
  · rintro ⟨h0, h⟩
    obtain ⟨j, hj, rfl⟩ := i_le1 h0 h hn
    exact ⟨h0, nI_lt hj hn⟩
  · rintro ⟨h0, h⟩
    obtain ⟨j, hj, rfl⟩ := i_nat hn h0 h
    refine ⟨h0, ?_⟩
    cases n with
    | zero => omega
    | succ m => rw [← nI_1, Int32.add_sub_cancel]; exact (nI_leI (by omega) (by omega)).mpr (by omega)

/-! BetweenLawsModel.in(JJJ)Z -/
abbrev rm_X11_in : Room := { frames := 0, cells := 0, slots := 0, locals := 0 }
abbrev B_X11_in (G : GT) (K : Int32 → Mem → Prop) := BT G (Rep G) RX11 "in" cX11_in 6 (some .boolean) rm_X11_in K 0 0
abbrev T_X11_in (G : GT) (as : List Value) (M : Mem) (K : Int32 → Mem → Prop) : Prop := MT G (Rep G) yX11_in cX11_in 6 (some .boolean) rm_X11_in as M K
theorem e_X11_in {G : GT} {K : Int32 → Mem → Prop} {M : Mem} {w0 : Int64} {w2 : Int64} {w4 : Int64} (h : B_X11_in G K 0 [(0, .long w0), (2, .long w2), (4, .long w4)] [] M) : T_X11_in G [.long w0, .long w2, .long w4] M K := MT.of (by decide +kernel) rfl rfl (Nat.le_of_ble_eq_true rfl) rfl h
set_option maxRecDepth 4000 in
theorem k_X11_in_0 {G : GT} {K : Int32 → Mem → Prop} {M : Mem} {w0 : Int64} {w2 : Int64} {w4 : Int64} (h : ((lg_cmp w0 w2) < 0 → K 0 M) ∧ (¬ (lg_cmp w0 w2) < 0 → (0 < (lg_cmp w0 w4) → K 0 M) ∧ (¬ 0 < (lg_cmp w0 w4) → K 1 M))) : B_X11_in G K 0 [(0, .long w0), (2, .long w2), (4, .long w4)] [] M := by
  refine BT.lload_n dX11_in_0 rfl 0 rfl ?_
  refine BT.lload_n dX11_in_1 rfl 1 rfl ?_
  refine BT.lcmp dX11_in_2 ?_
  refine BT.if_lt (tgt := 17) dX11_in_3 (by decide) (fun c => ?_) (fun c => ?_)
  · have c1 := c
    refine BT.iconst (v := 0) dX11_in_17 (by decide) ?_
    exact BT.zret dX11_in_18 rfl (by decide) (by decide) (nar01 ((Or.inl rfl))) (h.1 c1)
  · have c2 := c
    refine BT.lload_n dX11_in_6 rfl 0 rfl ?_
    refine BT.lload dX11_in_7 2 rfl ?_
    refine BT.lcmp dX11_in_9 ?_
    refine BT.if_gt (tgt := 17) dX11_in_10 (by decide) (fun c => ?_) (fun c => ?_)
    · have c3 := c
      refine BT.iconst (v := 0) dX11_in_17 (by decide) ?_
      exact BT.zret dX11_in_18 rfl (by decide) (by decide) (nar01 ((Or.inl rfl))) ((h.2 c2).1 c3)
    · have c4 := c
      refine BT.iconst (v := 1) dX11_in_13 (by decide) ?_
      refine BT.goto (tgt := 18) dX11_in_14 (by decide) ?_
      exact BT.zret dX11_in_18 rfl (by decide) (by decide) (nar01 ((Or.inr rfl))) ((h.2 c2).2 c4)

theorem t_X11_in {G : GT} {K : Int32 → Mem → Prop} {M : Mem} {a b c : Int64} {x y z : Int32} (ha : a = Int32.toInt64 x) (hb : b = Int32.toInt64 y) (hc : c = Int32.toInt64 z) (h : K (bi (y ≤ x ∧ x ≤ z)) M) : T_X11_in G [.long a, .long b, .long c] M K := by
  subst ha hb hc
  refine e_X11_in (k_X11_in_0 ⟨fun c => ?_, fun c => ⟨fun c2 => ?_, fun c2 => ?_⟩⟩)
  · rw [lg_cmp_lt] at c
    rwa [bi_f (fun q => absurd (i64_le.mpr q.1) (Int64.not_le.mpr c))] at h
  · rw [lg_cmp_gt] at c2
    rwa [bi_f (fun q => absurd (i64_le.mpr q.2) (Int64.not_le.mpr c2))] at h
  · rw [lg_cmp_lt] at c
    rw [lg_cmp_gt] at c2
    rwa [bi_t ⟨i64_le.mp (Int64.not_lt.mp c), i64_le.mp (Int64.not_lt.mp c2)⟩] at h

/-! BetweenLawsModel.isDay(I)Z -/
abbrev rm_X11_isDay : Room := { frames := 1, cells := 0, slots := 0, locals := 25 }
abbrev B_X11_isDay (G : GT) (K : Int32 → Mem → Prop) := BT G (Rep G) RX11 "isDay" cX11_isDay 1 (some .boolean) rm_X11_isDay K 0 0
abbrev T_X11_isDay (G : GT) (as : List Value) (M : Mem) (K : Int32 → Mem → Prop) : Prop := MT G (Rep G) yX11_isDay cX11_isDay 1 (some .boolean) rm_X11_isDay as M K
theorem e_X11_isDay {G : GT} {K : Int32 → Mem → Prop} {M : Mem} {v0 : Int32} (h : B_X11_isDay G K 0 [(0, .int v0)] [] M) : T_X11_isDay G [.int v0] M K := MT.of (by decide +kernel) rfl rfl (Nat.le_of_ble_eq_true rfl) rfl h
set_option maxRecDepth 4000 in
theorem k_X11_isDay_0 {G : GT} {K : Int32 → Mem → Prop} {M : Mem} {v0 : Int32} (h : K (bi ((0 : Int32) ≤ v0 ∧ v0 ≤ (99 : Int32))) M) : B_X11_isDay G K 0 [(0, .int v0)] [] M := by
  refine BT.iload_n dX11_isDay_0 rfl 0 rfl ?_
  refine BT.i2l dX11_isDay_1 ?_
  refine BT.lconst (v := 0) dX11_isDay_2 (by decide) ?_
  refine BT.ldc2 dX11_isDay_3 kc_X11_84 ?_
  refine BT.mcS [.long (Int32.toInt64 v0), .long 0, .long 99] (t_X11_in (x := v0) (y := (0 : Int32)) (z := (99 : Int32)) rfl (by decide) (by decide) ?_) mb_X11_in ms_X11_in lk_X11_86 rfl (by decide) rfl (Nat.le_of_ble_eq_true rfl) dX11_isDay_6
  show B_X11_isDay G K 9 [(0, .int v0)] [.int (bi ((0 : Int32) ≤ v0 ∧ v0 ≤ (99 : Int32)))] M
  exact BT.zret dX11_isDay_9 rfl (by decide) (by decide) (nar01 (bi_01)) h

theorem t_X11_isDay {G : GT} {K : Int32 → Mem → Prop} {M : Mem} {v0 : Int32} (h : K (bi ((0 : Int32) ≤ v0 ∧ v0 ≤ 99)) M) : T_X11_isDay G [.int v0] M K := e_X11_isDay (k_X11_isDay_0 h)

/-! BetweenLawsModel.isDigit(I)Z -/
abbrev rm_X11_isDigit : Room := { frames := 1, cells := 0, slots := 0, locals := 25 }
abbrev B_X11_isDigit (G : GT) (K : Int32 → Mem → Prop) := BT G (Rep G) RX11 "isDigit" cX11_isDigit 1 (some .boolean) rm_X11_isDigit K 0 0
abbrev T_X11_isDigit (G : GT) (as : List Value) (M : Mem) (K : Int32 → Mem → Prop) : Prop := MT G (Rep G) yX11_isDigit cX11_isDigit 1 (some .boolean) rm_X11_isDigit as M K
theorem e_X11_isDigit {G : GT} {K : Int32 → Mem → Prop} {M : Mem} {v0 : Int32} (h : B_X11_isDigit G K 0 [(0, .int v0)] [] M) : T_X11_isDigit G [.int v0] M K := MT.of (by decide +kernel) rfl rfl (Nat.le_of_ble_eq_true rfl) rfl h
set_option maxRecDepth 4000 in
theorem k_X11_isDigit_0 {G : GT} {K : Int32 → Mem → Prop} {M : Mem} {v0 : Int32} (h : K (bi ((48 : Int32) ≤ v0 ∧ v0 ≤ (57 : Int32))) M) : B_X11_isDigit G K 0 [(0, .int v0)] [] M := by
  refine BT.iload_n dX11_isDigit_0 rfl 0 rfl ?_
  refine BT.i2l dX11_isDigit_1 ?_
  refine BT.ldc2 dX11_isDigit_2 kc_X11_97 ?_
  refine BT.ldc2 dX11_isDigit_5 kc_X11_99 ?_
  refine BT.mcS [.long (Int32.toInt64 v0), .long 48, .long 57] (t_X11_in (x := v0) (y := (48 : Int32)) (z := (57 : Int32)) rfl (by decide) (by decide) ?_) mb_X11_in ms_X11_in lk_X11_86 rfl (by decide) rfl (Nat.le_of_ble_eq_true rfl) dX11_isDigit_8
  show B_X11_isDigit G K 11 [(0, .int v0)] [.int (bi ((48 : Int32) ≤ v0 ∧ v0 ≤ (57 : Int32)))] M
  exact BT.zret dX11_isDigit_11 rfl (by decide) (by decide) (nar01 (bi_01)) h

theorem t_X11_isDigit {G : GT} {K : Int32 → Mem → Prop} {M : Mem} {v0 : Int32} (h : K (bi ((48 : Int32) ≤ v0 ∧ v0 ≤ 57)) M) : T_X11_isDigit G [.int v0] M K := e_X11_isDigit (k_X11_isDigit_0 h)

/-! BetweenLawsModel.isTime(I)Z -/
abbrev rm_X11_isTime : Room := { frames := 0, cells := 0, slots := 0, locals := 0 }
abbrev B_X11_isTime (G : GT) (K : Int32 → Mem → Prop) := BT G (Rep G) RX11 "isTime" cX11_isTime 1 (some .boolean) rm_X11_isTime K 0 0
abbrev T_X11_isTime (G : GT) (as : List Value) (M : Mem) (K : Int32 → Mem → Prop) : Prop := MT G (Rep G) yX11_isTime cX11_isTime 1 (some .boolean) rm_X11_isTime as M K
theorem e_X11_isTime {G : GT} {K : Int32 → Mem → Prop} {M : Mem} {v0 : Int32} (h : B_X11_isTime G K 0 [(0, .int v0)] [] M) : T_X11_isTime G [.int v0] M K := MT.of (by decide +kernel) rfl rfl (Nat.le_of_ble_eq_true rfl) rfl h
set_option maxRecDepth 4000 in
theorem k_X11_isTime_0 {G : GT} {K : Int32 → Mem → Prop} {M : Mem} {v0 : Int32} (h : (v0 = 110 → K 1 M) ∧ (¬ v0 = 110 → (v0 = 104 → K 1 M) ∧ (¬ v0 = 104 → (¬ v0 = 97 → K 0 M) ∧ (v0 = 97 → K 1 M)))) : B_X11_isTime G K 0 [(0, .int v0)] [] M := by
  refine BT.iload_n dX11_isTime_0 rfl 0 rfl ?_
  refine BT.bipush (v := 110) dX11_isTime_1 (by decide) ?_
  refine BT.icmp_eq (tgt := 18) dX11_isTime_3 (by decide) (fun c => ?_) (fun c => ?_)
  · have c1 := c
    refine BT.iconst (v := 1) dX11_isTime_18 (by decide) ?_
    refine BT.goto (tgt := 23) dX11_isTime_19 (by decide) ?_
    exact BT.zret dX11_isTime_23 rfl (by decide) (by decide) (nar01 ((Or.inr rfl))) (h.1 c1)
  · have c2 := c
    refine BT.iload_n dX11_isTime_6 rfl 0 rfl ?_
    refine BT.bipush (v := 104) dX11_isTime_7 (by decide) ?_
    refine BT.icmp_eq (tgt := 18) dX11_isTime_9 (by decide) (fun c => ?_) (fun c => ?_)
    · have c3 := c
      refine BT.iconst (v := 1) dX11_isTime_18 (by decide) ?_
      refine BT.goto (tgt := 23) dX11_isTime_19 (by decide) ?_
      exact BT.zret dX11_isTime_23 rfl (by decide) (by decide) (nar01 ((Or.inr rfl))) ((h.2 c2).1 c3)
    · have c4 := c
      refine BT.iload_n dX11_isTime_12 rfl 0 rfl ?_
      refine BT.bipush (v := 97) dX11_isTime_13 (by decide) ?_
      refine BT.icmp_ne (tgt := 22) dX11_isTime_15 (by decide) (fun c => ?_) (fun c => ?_)
      · have c5 := c
        refine BT.iconst (v := 0) dX11_isTime_22 (by decide) ?_
        exact BT.zret dX11_isTime_23 rfl (by decide) (by decide) (nar01 ((Or.inl rfl))) (((h.2 c2).2 c4).1 c5)
      · have c6 := c
        refine BT.iconst (v := 1) dX11_isTime_18 (by decide) ?_
        refine BT.goto (tgt := 23) dX11_isTime_19 (by decide) ?_
        exact BT.zret dX11_isTime_23 rfl (by decide) (by decide) (nar01 ((Or.inr rfl))) (((h.2 c2).2 c4).2 c6)

theorem t_X11_isTime {G : GT} {K : Int32 → Mem → Prop} {M : Mem} {v0 : Int32} (h : K (bi (v0 = 110 ∨ v0 = 104 ∨ v0 = 97)) M) : T_X11_isTime G [.int v0] M K := by
  refine e_X11_isTime (k_X11_isTime_0 ?_)
  by_cases c1 : v0 = 110
  · rw [bi_t (Or.inl c1)] at h
    simp [c1, h]
  · by_cases c2 : v0 = 104
    · rw [bi_t (Or.inr (Or.inl c2))] at h
      simp [c2, h]
    · by_cases c3 : v0 = 97
      · rw [bi_t (Or.inr (Or.inr c3))] at h
        simp [c3, h]
      · rw [bi_f (by rintro (q | q | q) <;> first | exact c1 q | exact c2 q | exact c3 q)] at h
        simp [c1, c2, c3, h]

/-! BetweenLawsModel.isWay(I)Z -/
abbrev rm_X11_isWay : Room := { frames := 0, cells := 0, slots := 0, locals := 0 }
abbrev B_X11_isWay (G : GT) (K : Int32 → Mem → Prop) := BT G (Rep G) RX11 "isWay" cX11_isWay 1 (some .boolean) rm_X11_isWay K 0 0
abbrev T_X11_isWay (G : GT) (as : List Value) (M : Mem) (K : Int32 → Mem → Prop) : Prop := MT G (Rep G) yX11_isWay cX11_isWay 1 (some .boolean) rm_X11_isWay as M K
theorem e_X11_isWay {G : GT} {K : Int32 → Mem → Prop} {M : Mem} {v0 : Int32} (h : B_X11_isWay G K 0 [(0, .int v0)] [] M) : T_X11_isWay G [.int v0] M K := MT.of (by decide +kernel) rfl rfl (Nat.le_of_ble_eq_true rfl) rfl h
set_option maxRecDepth 4000 in
theorem k_X11_isWay_0 {G : GT} {K : Int32 → Mem → Prop} {M : Mem} {v0 : Int32} (h : (v0 = 99 → K 1 M) ∧ (¬ v0 = 99 → (v0 = 98 → K 1 M) ∧ (¬ v0 = 98 → (¬ v0 = 108 → K 0 M) ∧ (v0 = 108 → K 1 M)))) : B_X11_isWay G K 0 [(0, .int v0)] [] M := by
  refine BT.iload_n dX11_isWay_0 rfl 0 rfl ?_
  refine BT.bipush (v := 99) dX11_isWay_1 (by decide) ?_
  refine BT.icmp_eq (tgt := 18) dX11_isWay_3 (by decide) (fun c => ?_) (fun c => ?_)
  · have c1 := c
    refine BT.iconst (v := 1) dX11_isWay_18 (by decide) ?_
    refine BT.goto (tgt := 23) dX11_isWay_19 (by decide) ?_
    exact BT.zret dX11_isWay_23 rfl (by decide) (by decide) (nar01 ((Or.inr rfl))) (h.1 c1)
  · have c2 := c
    refine BT.iload_n dX11_isWay_6 rfl 0 rfl ?_
    refine BT.bipush (v := 98) dX11_isWay_7 (by decide) ?_
    refine BT.icmp_eq (tgt := 18) dX11_isWay_9 (by decide) (fun c => ?_) (fun c => ?_)
    · have c3 := c
      refine BT.iconst (v := 1) dX11_isWay_18 (by decide) ?_
      refine BT.goto (tgt := 23) dX11_isWay_19 (by decide) ?_
      exact BT.zret dX11_isWay_23 rfl (by decide) (by decide) (nar01 ((Or.inr rfl))) ((h.2 c2).1 c3)
    · have c4 := c
      refine BT.iload_n dX11_isWay_12 rfl 0 rfl ?_
      refine BT.bipush (v := 108) dX11_isWay_13 (by decide) ?_
      refine BT.icmp_ne (tgt := 22) dX11_isWay_15 (by decide) (fun c => ?_) (fun c => ?_)
      · have c5 := c
        refine BT.iconst (v := 0) dX11_isWay_22 (by decide) ?_
        exact BT.zret dX11_isWay_23 rfl (by decide) (by decide) (nar01 ((Or.inl rfl))) (((h.2 c2).2 c4).1 c5)
      · have c6 := c
        refine BT.iconst (v := 1) dX11_isWay_18 (by decide) ?_
        refine BT.goto (tgt := 23) dX11_isWay_19 (by decide) ?_
        exact BT.zret dX11_isWay_23 rfl (by decide) (by decide) (nar01 ((Or.inr rfl))) (((h.2 c2).2 c4).2 c6)

theorem t_X11_isWay {G : GT} {K : Int32 → Mem → Prop} {M : Mem} {v0 : Int32} (h : K (bi (v0 = 99 ∨ v0 = 98 ∨ v0 = 108)) M) : T_X11_isWay G [.int v0] M K := by
  refine e_X11_isWay (k_X11_isWay_0 ?_)
  by_cases c1 : v0 = 99
  · rw [bi_t (Or.inl c1)] at h
    simp [c1, h]
  · by_cases c2 : v0 = 98
    · rw [bi_t (Or.inr (Or.inl c2))] at h
      simp [c2, h]
    · by_cases c3 : v0 = 108
      · rw [bi_t (Or.inr (Or.inr c3))] at h
        simp [c3, h]
      · rw [bi_f (by rintro (q | q | q) <;> first | exact c1 q | exact c2 q | exact c3 q)] at h
        simp [c1, c2, c3, h]

/-! BetweenLawsModel.ones(I)I -/
abbrev rm_X11_ones : Room := { frames := 0, cells := 0, slots := 0, locals := 0 }
abbrev B_X11_ones (G : GT) (K : Int32 → Mem → Prop) := BT G (Rep G) RX11 "ones" cX11_ones 3 (some .int) rm_X11_ones K 0 0
abbrev T_X11_ones (G : GT) (as : List Value) (M : Mem) (K : Int32 → Mem → Prop) : Prop := MT G (Rep G) yX11_ones cX11_ones 3 (some .int) rm_X11_ones as M K
theorem e_X11_ones {G : GT} {K : Int32 → Mem → Prop} {M : Mem} {v0 : Int32} (h : B_X11_ones G K 0 [(0, .int v0)] [] M) : T_X11_ones G [.int v0] M K := MT.of (by decide +kernel) rfl rfl (Nat.le_of_ble_eq_true rfl) rfl h
set_option maxRecDepth 4000 in
theorem k_X11_ones_0 {G : GT} {K : Int32 → Mem → Prop} {M : Mem} {v0 : Int32} (h : B_X11_ones G K 4 [(0, .int v0), (1, .int 0), (2, .int 0)] [] M) : B_X11_ones G K 0 [(0, .int v0)] [] M := by
  refine BT.iconst (v := 0) dX11_ones_0 (by decide) ?_
  refine BT.istore_n (L' := [(1, .int 0), (0, .int v0)]) dX11_ones_1 rfl (by decide) rfl ?_
  refine BT.iconst (v := 0) dX11_ones_2 (by decide) ?_
  refine BT.istore_n (L' := [(2, .int 0), (1, .int 0), (0, .int v0)]) dX11_ones_3 rfl (by decide) rfl ?_
  refine BT.sub [2, 1, 0] rfl ?_
  exact h
set_option maxRecDepth 4000 in
theorem k_X11_ones_4 {G : GT} {K : Int32 → Mem → Prop} {M : Mem} {v0 : Int32} {v1 : Int32} {v2 : Int32} (h : (8 ≤ v2 → K v1 M) ∧ (¬ 8 ≤ v2 → B_X11_ones G K 4 [(0, .int v0), (1, .int (v1 + ((v0 >>> (v2 &&& 31)) &&& 1))), (2, .int (v2 + 1))] [] M)) : B_X11_ones G K 4 [(0, .int v0), (1, .int v1), (2, .int v2)] [] M := by
  refine BT.iload_n dX11_ones_4 rfl 2 rfl ?_
  refine BT.bipush (v := 8) dX11_ones_5 (by decide) ?_
  refine BT.icmp_ge (tgt := 24) dX11_ones_7 (by decide) (fun c => ?_) (fun c => ?_)
  · have c1 := c
    refine BT.iload_n dX11_ones_24 rfl 1 rfl ?_
    exact BT.iret dX11_ones_25 rfl (by decide) (by decide) (h.1 c1)
  · have c2 := c
    refine BT.iload_n dX11_ones_10 rfl 1 rfl ?_
    refine BT.iload_n dX11_ones_11 rfl 0 rfl ?_
    refine BT.iload_n dX11_ones_12 rfl 2 rfl ?_
    refine BT.ishr dX11_ones_13 ?_
    refine BT.iconst (v := 1) dX11_ones_14 (by decide) ?_
    refine BT.iand dX11_ones_15 ?_
    refine BT.iadd dX11_ones_16 ?_
    refine BT.istore_n (L' := [(1, .int (v1 + ((v0 >>> (v2 &&& 31)) &&& 1))), (0, .int v0), (2, .int v2)]) dX11_ones_17 rfl (by decide) rfl ?_
    refine BT.iinc (j := 2) (v := (v2 + 1)) (L' := [(2, .int (v2 + 1)), (1, .int (v1 + ((v0 >>> (v2 &&& 31)) &&& 1))), (0, .int v0)]) dX11_ones_18 rfl rfl (by decide) rfl ?_
    refine BT.goto (tgt := 4) dX11_ones_21 (by decide) ?_
    refine BT.sub [2, 1, 0] rfl ?_
    exact (h.2 c2)

theorem t_X11_ones {G : GT} {K : Int32 → Mem → Prop} {M : Mem} {v0 : Int32} (h : K (z_ones v0 8) M) : T_X11_ones G [.int v0] M K := by
  refine e_X11_ones (k_X11_ones_0 ?_)
  refine up_loop (P := fun j => B_X11_ones G K 4 [(0, .int v0), (1, .int (z_ones v0 j)), (2, .int (nI j))] [] M) 8 ?_ (fun j hj ih => ?_) 0 (Nat.zero_le _)
  · exact k_X11_ones_4 ⟨fun _ => h, fun c => absurd (Int32.le_refl _) c⟩
  · refine k_X11_ones_4 ⟨fun c => ?_, fun _ => ?_⟩
    · exact absurd c (Int32.not_le.mpr (nI_lt hj (by decide)))
    · rw [nI_1]; exact ih

/-! BetweenLawsModel.isLaw(I)Z -/
abbrev rm_X11_isLaw : Room := { frames := 1, cells := 0, slots := 0, locals := 25 }
abbrev B_X11_isLaw (G : GT) (K : Int32 → Mem → Prop) := BT G (Rep G) RX11 "isLaw" cX11_isLaw 2 (some .boolean) rm_X11_isLaw K 0 0
abbrev T_X11_isLaw (G : GT) (as : List Value) (M : Mem) (K : Int32 → Mem → Prop) : Prop := MT G (Rep G) yX11_isLaw cX11_isLaw 2 (some .boolean) rm_X11_isLaw as M K
theorem e_X11_isLaw {G : GT} {K : Int32 → Mem → Prop} {M : Mem} {v1 : Int32} (h : B_X11_isLaw G K 0 [(0, .ref 175), (1, .int v1)] [] M) : T_X11_isLaw G [.ref 175, .int v1] M K := MT.of (by decide +kernel) rfl rfl (Nat.le_of_ble_eq_true rfl) rfl h
set_option maxRecDepth 4000 in
theorem k_X11_isLaw_0 {G : GT} {K : Int32 → Mem → Prop} {M : Mem} {v1 : Int32} (h : K (bi ((0 : Int32) ≤ v1 ∧ v1 ≤ ((M.1 175 18) - 1))) M) : B_X11_isLaw G K 0 [(0, .ref 175), (1, .int v1)] [] M := by
  refine BT.iload_n dX11_isLaw_0 rfl 1 rfl ?_
  refine BT.i2l dX11_isLaw_1 ?_
  refine BT.lconst (v := 0) dX11_isLaw_2 (by decide) ?_
  refine BT.aload_n dX11_isLaw_3 rfl 0 rfl ?_
  refine BT.getI fl_X11_149 ho_175 rfl dX11_isLaw_4 ?_
  refine BT.iconst (v := 1) dX11_isLaw_7 (by decide) ?_
  refine BT.isub dX11_isLaw_8 ?_
  refine BT.i2l dX11_isLaw_9 ?_
  refine BT.mcS [.long (Int32.toInt64 v1), .long 0, .long (Int32.toInt64 ((M.1 175 18) - 1))] (t_X11_in (x := v1) (y := (0 : Int32)) (z := ((M.1 175 18) - 1)) rfl (by decide) rfl ?_) mb_X11_in ms_X11_in lk_X11_86 rfl (by decide) rfl (Nat.le_of_ble_eq_true rfl) dX11_isLaw_10
  show B_X11_isLaw G K 13 [(0, .ref 175), (1, .int v1)] [.int (bi ((0 : Int32) ≤ v1 ∧ v1 ≤ ((M.1 175 18) - 1)))] M
  exact BT.zret dX11_isLaw_13 rfl (by decide) (by decide) (nar01 (bi_01)) h

theorem t_X11_isLaw {G : GT} {K : Int32 → Mem → Prop} {M : Mem} {W : WT} {v1 : Int32} (hR : RG W M) (h : K (bi ((0 : Int32) ≤ v1 ∧ v1 < W 8 1)) M) : T_X11_isLaw G [.ref 175, .int v1] M K := by
  refine e_X11_isLaw (k_X11_isLaw_0 ?_)
  obtain ⟨⟨⟨h1, h2⟩, -⟩, h3, -⟩ := hR
  rw [h3, h1, bi_congr (nI_m1 (by omega))]
  rwa [h1] at h

/-! BetweenLawsModel.isPiece(I)Z -/
abbrev rm_X11_isPiece : Room := { frames := 1, cells := 0, slots := 0, locals := 25 }
abbrev B_X11_isPiece (G : GT) (K : Int32 → Mem → Prop) := BT G (Rep G) RX11 "isPiece" cX11_isPiece 2 (some .boolean) rm_X11_isPiece K 0 0
abbrev T_X11_isPiece (G : GT) (as : List Value) (M : Mem) (K : Int32 → Mem → Prop) : Prop := MT G (Rep G) yX11_isPiece cX11_isPiece 2 (some .boolean) rm_X11_isPiece as M K
theorem e_X11_isPiece {G : GT} {K : Int32 → Mem → Prop} {M : Mem} {v1 : Int32} (h : B_X11_isPiece G K 0 [(0, .ref 175), (1, .int v1)] [] M) : T_X11_isPiece G [.ref 175, .int v1] M K := MT.of (by decide +kernel) rfl rfl (Nat.le_of_ble_eq_true rfl) rfl h
set_option maxRecDepth 4000 in
theorem k_X11_isPiece_0 {G : GT} {K : Int32 → Mem → Prop} {M : Mem} {v1 : Int32} (h : K (bi ((0 : Int32) ≤ v1 ∧ v1 ≤ ((M.1 175 26) - 1))) M) : B_X11_isPiece G K 0 [(0, .ref 175), (1, .int v1)] [] M := by
  refine BT.iload_n dX11_isPiece_0 rfl 1 rfl ?_
  refine BT.i2l dX11_isPiece_1 ?_
  refine BT.lconst (v := 0) dX11_isPiece_2 (by decide) ?_
  refine BT.aload_n dX11_isPiece_3 rfl 0 rfl ?_
  refine BT.getI fl_X11_190 ho_175 rfl dX11_isPiece_4 ?_
  refine BT.iconst (v := 1) dX11_isPiece_7 (by decide) ?_
  refine BT.isub dX11_isPiece_8 ?_
  refine BT.i2l dX11_isPiece_9 ?_
  refine BT.mcS [.long (Int32.toInt64 v1), .long 0, .long (Int32.toInt64 ((M.1 175 26) - 1))] (t_X11_in (x := v1) (y := (0 : Int32)) (z := ((M.1 175 26) - 1)) rfl (by decide) rfl ?_) mb_X11_in ms_X11_in lk_X11_86 rfl (by decide) rfl (Nat.le_of_ble_eq_true rfl) dX11_isPiece_10
  show B_X11_isPiece G K 13 [(0, .ref 175), (1, .int v1)] [.int (bi ((0 : Int32) ≤ v1 ∧ v1 ≤ ((M.1 175 26) - 1)))] M
  exact BT.zret dX11_isPiece_13 rfl (by decide) (by decide) (nar01 (bi_01)) h

theorem t_X11_isPiece {G : GT} {K : Int32 → Mem → Prop} {M : Mem} {W : WT} {v1 : Int32} (hR : RP W M) (h : K (bi ((0 : Int32) ≤ v1 ∧ v1 < W 8 4)) M) : T_X11_isPiece G [.ref 175, .int v1] M K := by
  refine e_X11_isPiece (k_X11_isPiece_0 ?_)
  obtain ⟨⟨h1, h2⟩, h3, -⟩ := hR
  rw [h3, h1, bi_congr (nI_m1 (by omega))]
  rwa [h1] at h

/-! BetweenLawsModel.isInForce(II)Z -/
abbrev rm_X11_isInForce : Room := { frames := 1, cells := 0, slots := 0, locals := 25 }
abbrev B_X11_isInForce (G : GT) (K : Int32 → Mem → Prop) := BT G (Rep G) RX11 "isInForce" cX11_isInForce 3 (some .boolean) rm_X11_isInForce K 0 0
abbrev T_X11_isInForce (G : GT) (as : List Value) (M : Mem) (K : Int32 → Mem → Prop) : Prop := MT G (Rep G) yX11_isInForce cX11_isInForce 3 (some .boolean) rm_X11_isInForce as M K
theorem e_X11_isInForce {G : GT} {K : Int32 → Mem → Prop} {M : Mem} {v1 : Int32} {v2 : Int32} (h : B_X11_isInForce G K 0 [(0, .ref 175), (1, .int v1), (2, .int v2)] [] M) : T_X11_isInForce G [.ref 175, .int v1, .int v2] M K := MT.of (by decide +kernel) rfl rfl (Nat.le_of_ble_eq_true rfl) rfl h
set_option maxRecDepth 4000 in
theorem k_X11_isInForce_0 {G : GT} {K : Int32 → Mem → Prop} {M : Mem} {v1 : Int32} {v2 : Int32} (h : (vp_in v1 8) ∧ (vp_in v1 8) ∧ K (bi ((M.1 177 (Int32.toNatClampNeg v1)) ≤ v2 ∧ v2 ≤ ((M.1 178 (Int32.toNatClampNeg v1)) - 1))) M) : B_X11_isInForce G K 0 [(0, .ref 175), (1, .int v1), (2, .int v2)] [] M := by
  refine BT.iload_n dX11_isInForce_0 rfl 2 rfl ?_
  refine BT.i2l dX11_isInForce_1 ?_
  refine BT.aload_n dX11_isInForce_2 rfl 0 rfl ?_
  refine BT.getR (r := 177) fl_X11_13 ho_175 rfl dX11_isInForce_3 ?_
  refine BT.iload_n dX11_isInForce_6 rfl 1 rfl ?_
  refine BT.iald ha_177 h.1 dX11_isInForce_7 ?_
  refine BT.i2l dX11_isInForce_8 ?_
  refine BT.aload_n dX11_isInForce_9 rfl 0 rfl ?_
  refine BT.getR (r := 178) fl_X11_16 ho_175 rfl dX11_isInForce_10 ?_
  refine BT.iload_n dX11_isInForce_13 rfl 1 rfl ?_
  refine BT.iald ha_178 h.2.1 dX11_isInForce_14 ?_
  refine BT.iconst (v := 1) dX11_isInForce_15 (by decide) ?_
  refine BT.isub dX11_isInForce_16 ?_
  refine BT.i2l dX11_isInForce_17 ?_
  refine BT.mcS [.long (Int32.toInt64 v2), .long (Int32.toInt64 (M.1 177 (Int32.toNatClampNeg v1))), .long (Int32.toInt64 ((M.1 178 (Int32.toNatClampNeg v1)) - 1))] (t_X11_in (x := v2) (y := (M.1 177 (Int32.toNatClampNeg v1))) (z := ((M.1 178 (Int32.toNatClampNeg v1)) - 1)) rfl rfl rfl ?_) mb_X11_in ms_X11_in lk_X11_86 rfl (by decide) rfl (Nat.le_of_ble_eq_true rfl) dX11_isInForce_18
  show B_X11_isInForce G K 21 [(0, .ref 175), (1, .int v1), (2, .int v2)] [.int (bi ((M.1 177 (Int32.toNatClampNeg v1)) ≤ v2 ∧ v2 ≤ ((M.1 178 (Int32.toNatClampNeg v1)) - 1)))] M
  exact BT.zret dX11_isInForce_21 rfl (by decide) (by decide) (nar01 (bi_01)) h.2.2

theorem t_X11_isInForce {G : GT} {K : Int32 → Mem → Prop} {M : Mem} {W : WT} {v1 v2 : Int32} (hR : RG W M) (hl : (0 : Int32) ≤ v1 ∧ v1 < W 8 1) (h : K (bi (inF W (Int32.toNatClampNeg v1) v2)) M) : T_X11_isInForce G [.ref 175, .int v1, .int v2] M K := by
  refine e_X11_isInForce (k_X11_isInForce_0 ?_)
  obtain ⟨i1, i2, i3⟩ := hR.1.ix hl
  obtain ⟨r1, r2, -⟩ := hR.2.2.2.2.2 _ i1
  obtain ⟨⟨a, ha, ea⟩, ⟨b, hb, eb⟩, -⟩ := hR.1.2.2.2 _ i1
  refine ⟨vp8 i2 i3, vp8 i2 i3, ?_⟩
  rw [r1, r2]
  unfold inF at h
  rw [ea, eb] at h ⊢
  have e : (nI a ≤ v2 ∧ v2 ≤ nI b - 1) ↔ (nI a ≤ v2 ∧ v2 < nI b) := by
    constructor
    · rintro ⟨z1, z2⟩
      exact ⟨z1, ((nI_m1 (by omega)).mp ⟨Int32.le_trans (nI_pos' (by omega)) z1, z2⟩).2⟩
    · rintro ⟨z1, z2⟩
      exact ⟨z1, ((nI_m1 (by omega)).mpr ⟨Int32.le_trans (nI_pos' (by omega)) z1, z2⟩).2⟩
  rwa [bi_congr e]

/-! BetweenLawsModel.sameDay(II)I -/
abbrev rm_X11_sameDay : Room := { frames := 0, cells := 0, slots := 0, locals := 0 }
abbrev B_X11_sameDay (G : GT) (K : Int32 → Mem → Prop) := BT G (Rep G) RX11 "sameDay" cX11_sameDay 3 (some .int) rm_X11_sameDay K 0 0
abbrev T_X11_sameDay (G : GT) (as : List Value) (M : Mem) (K : Int32 → Mem → Prop) : Prop := MT G (Rep G) yX11_sameDay cX11_sameDay 3 (some .int) rm_X11_sameDay as M K
theorem e_X11_sameDay {G : GT} {K : Int32 → Mem → Prop} {M : Mem} {v1 : Int32} {v2 : Int32} (h : B_X11_sameDay G K 0 [(0, .ref 175), (1, .int v1), (2, .int v2)] [] M) : T_X11_sameDay G [.ref 175, .int v1, .int v2] M K := MT.of (by decide +kernel) rfl rfl (Nat.le_of_ble_eq_true rfl) rfl h
set_option maxRecDepth 4000 in
theorem k_X11_sameDay_0 {G : GT} {K : Int32 → Mem → Prop} {M : Mem} {v1 : Int32} {v2 : Int32} (h : (vp_in v1 9) ∧ ((M.1 191 (Int32.toNatClampNeg v1)) < 0 → K v2 M) ∧ (¬ (M.1 191 (Int32.toNatClampNeg v1)) < 0 → (vp_in v1 9) ∧ (v2 ≤ (M.1 191 (Int32.toNatClampNeg v1)) → K v2 M) ∧ (¬ v2 ≤ (M.1 191 (Int32.toNatClampNeg v1)) → (vp_in v1 9) ∧ K (M.1 191 (Int32.toNatClampNeg v1)) M))) : B_X11_sameDay G K 0 [(0, .ref 175), (1, .int v1), (2, .int v2)] [] M := by
  refine BT.aload_n dX11_sameDay_0 rfl 0 rfl ?_
  refine BT.getR (r := 191) fl_X11_59 ho_175 rfl dX11_sameDay_1 ?_
  refine BT.iload_n dX11_sameDay_4 rfl 1 rfl ?_
  refine BT.iald ha_191 h.1 dX11_sameDay_5 ?_
  refine BT.if_lt (tgt := 28) dX11_sameDay_6 (by decide) (fun c => ?_) (fun c => ?_)
  · have c1 := c
    refine BT.iload_n dX11_sameDay_28 rfl 2 rfl ?_
    exact BT.iret dX11_sameDay_29 rfl (by decide) (by decide) (h.2.1 c1)
  · have c2 := c
    refine BT.aload_n dX11_sameDay_9 rfl 0 rfl ?_
    refine BT.getR (r := 191) fl_X11_59 ho_175 rfl dX11_sameDay_10 ?_
    refine BT.iload_n dX11_sameDay_13 rfl 1 rfl ?_
    refine BT.iald ha_191 (h.2.2 c2).1 dX11_sameDay_14 ?_
    refine BT.iload_n dX11_sameDay_15 rfl 2 rfl ?_
    refine BT.icmp_ge (tgt := 28) dX11_sameDay_16 (by decide) (fun c => ?_) (fun c => ?_)
    · have c3 := c
      refine BT.iload_n dX11_sameDay_28 rfl 2 rfl ?_
      exact BT.iret dX11_sameDay_29 rfl (by decide) (by decide) ((h.2.2 c2).2.1 c3)
    · have c4 := c
      refine BT.aload_n dX11_sameDay_19 rfl 0 rfl ?_
      refine BT.getR (r := 191) fl_X11_59 ho_175 rfl dX11_sameDay_20 ?_
      refine BT.iload_n dX11_sameDay_23 rfl 1 rfl ?_
      refine BT.iald ha_191 ((h.2.2 c2).2.2 c4).1 dX11_sameDay_24 ?_
      refine BT.goto (tgt := 29) dX11_sameDay_25 (by decide) ?_
      exact BT.iret dX11_sameDay_29 rfl (by decide) (by decide) ((h.2.2 c2).2.2 c4).2

theorem nI_n6 {d : Nat} (h : d < 2 ^ 31) : ¬ nI d = -6 := fun q => absurd (nI_pos' h) (by rw [q]; decide)
theorem nI_ge0 {d : Nat} (h : d < 2 ^ 31) : ¬ nI d < 0 := Int32.not_lt.mpr (nI_pos' h)
theorem t_X11_sameDay {G : GT} {K : Int32 → Mem → Prop} {M : Mem} {W : WT} {v1 v2 : Int32} (hP : PR W M v1) (h : K (c_dayOn W (zp v1) v2) M) : T_X11_sameDay G [.ref 175, .int v1, .int v2] M K := by
  obtain ⟨j, hj, rfl, ⟨p1, p2, p3, p4⟩, e0, e1, e2, e3⟩ := hP
  refine e_X11_sameDay (k_X11_sameDay_0 ?_)
  unfold c_dayOn zp at h
  simp only [ix_nI (show j < 2 ^ 31 by omega), e2] at h ⊢
  have vp : vp_in (nI j) 9 := vp_nI hj (by decide)
  refine ⟨vp, fun c => ?_, fun c => ⟨vp, fun c2 => ?_, fun c2 => ⟨vp, ?_⟩⟩⟩
  · rcases p3 with q | ⟨-, d, hd, q⟩
    · rwa [if_pos q] at h
    · rw [q] at c; exact absurd c (nI_ge0 (by omega))
  · rcases p3 with q | ⟨-, d, hd, q⟩
    · rwa [if_pos q] at h
    · rwa [if_neg (by rw [q]; exact nI_n6 (by omega)), if_neg (Int32.not_lt.mpr c2)] at h
  · rcases p3 with q | ⟨-, d, hd, q⟩
    · rw [q] at c; exact absurd (by decide) c
    · rwa [if_neg (by rw [q]; exact nI_n6 (by omega)), if_pos (Int32.not_le.mp c2)] at h

/-! BetweenLawsModel.fitting(II)I -/
abbrev rm_X11_fitting : Room := { frames := 0, cells := 0, slots := 0, locals := 0 }
abbrev B_X11_fitting (G : GT) (K : Int32 → Mem → Prop) := BT G (Rep G) RX11 "fitting" cX11_fitting 5 (some .int) rm_X11_fitting K 0 0
abbrev T_X11_fitting (G : GT) (as : List Value) (M : Mem) (K : Int32 → Mem → Prop) : Prop := MT G (Rep G) yX11_fitting cX11_fitting 5 (some .int) rm_X11_fitting as M K
theorem e_X11_fitting {G : GT} {K : Int32 → Mem → Prop} {M : Mem} {v1 : Int32} {v2 : Int32} (h : B_X11_fitting G K 0 [(0, .ref 175), (1, .int v1), (2, .int v2)] [] M) : T_X11_fitting G [.ref 175, .int v1, .int v2] M K := MT.of (by decide +kernel) rfl rfl (Nat.le_of_ble_eq_true rfl) rfl h
set_option maxRecDepth 4000 in
theorem k_X11_fitting_0 {G : GT} {K : Int32 → Mem → Prop} {M : Mem} {v1 : Int32} {v2 : Int32} (h : (vp_in v1 8) ∧ B_X11_fitting G K 13 [(0, .ref 175), (1, .int v1), (2, .int v2), (3, .int (-6)), (4, .int ((M.1 179 (Int32.toNatClampNeg v1)) - 1))] [] M) : B_X11_fitting G K 0 [(0, .ref 175), (1, .int v1), (2, .int v2)] [] M := by
  refine BT.bipush (v := (-6)) dX11_fitting_0 (by decide) ?_
  refine BT.istore_n (L' := [(3, .int (-6)), (0, .ref 175), (1, .int v1), (2, .int v2)]) dX11_fitting_2 rfl (by decide) rfl ?_
  refine BT.aload_n dX11_fitting_3 rfl 1 rfl ?_
  refine BT.getR (r := 179) fl_X11_19 ho_175 rfl dX11_fitting_4 ?_
  refine BT.iload_n dX11_fitting_7 rfl 2 rfl ?_
  refine BT.iald ha_179 h.1 dX11_fitting_8 ?_
  refine BT.iconst (v := 1) dX11_fitting_9 (by decide) ?_
  refine BT.isub dX11_fitting_10 ?_
  refine BT.istore (L' := [(4, .int ((M.1 179 (Int32.toNatClampNeg v1)) - 1)), (3, .int (-6)), (0, .ref 175), (1, .int v1), (2, .int v2)]) dX11_fitting_11 (by decide) rfl ?_
  refine BT.sub [2, 3, 4, 1, 0] rfl ?_
  exact h.2
set_option maxRecDepth 4000 in
theorem k_X11_fitting_13 {G : GT} {K : Int32 → Mem → Prop} {M : Mem} {v1 : Int32} {v2 : Int32} {v3 : Int32} {v4 : Int32} (h : (v4 < 0 → K v3 M) ∧ (¬ v4 < 0 → (vp_in (((6 : Int32) * v1) + v4) 48) ∧ (vp_in v2 9) ∧ (¬ ((M.1 180 (Int32.toNatClampNeg (((6 : Int32) * v1) + v4))) &&& ((M.1 192 (Int32.toNatClampNeg v2)) ^^^ (-1))) = 0 → B_X11_fitting G K 13 [(0, .ref 175), (1, .int v1), (2, .int v2), (3, .int v3), (4, .int (v4 + (-1)))] [] M) ∧ (((M.1 180 (Int32.toNatClampNeg (((6 : Int32) * v1) + v4))) &&& ((M.1 192 (Int32.toNatClampNeg v2)) ^^^ (-1))) = 0 → B_X11_fitting G K 13 [(0, .ref 175), (1, .int v1), (2, .int v2), (3, .int v4), (4, .int (v4 + (-1)))] [] M))) : B_X11_fitting G K 13 [(0, .ref 175), (1, .int v1), (2, .int v2), (3, .int v3), (4, .int v4)] [] M := by
  refine BT.iload dX11_fitting_13 4 rfl ?_
  refine BT.if_lt (tgt := 55) dX11_fitting_15 (by decide) (fun c => ?_) (fun c => ?_)
  · have c1 := c
    refine BT.iload_n dX11_fitting_55 rfl 3 rfl ?_
    exact BT.iret dX11_fitting_56 rfl (by decide) (by decide) (h.1 c1)
  · have c2 := c
    refine BT.aload_n dX11_fitting_18 rfl 0 rfl ?_
    refine BT.getR (r := 180) fl_X11_22 ho_175 rfl dX11_fitting_19 ?_
    refine BT.bipush (v := 6) dX11_fitting_22 (by decide) ?_
    refine BT.iload_n dX11_fitting_24 rfl 1 rfl ?_
    refine BT.imul dX11_fitting_25 ?_
    refine BT.iload dX11_fitting_26 4 rfl ?_
    refine BT.iadd dX11_fitting_28 ?_
    refine BT.iald ha_180 (h.2 c2).1 dX11_fitting_29 ?_
    refine BT.aload_n dX11_fitting_30 rfl 0 rfl ?_
    refine BT.getR (r := 192) fl_X11_62 ho_175 rfl dX11_fitting_31 ?_
    refine BT.iload_n dX11_fitting_34 rfl 2 rfl ?_
    refine BT.iald ha_192 (h.2 c2).2.1 dX11_fitting_35 ?_
    refine BT.iconst (v := (-1)) dX11_fitting_36 (by decide) ?_
    refine BT.ixor dX11_fitting_37 ?_
    refine BT.iand dX11_fitting_38 ?_
    refine BT.if_ne (tgt := 47) dX11_fitting_39 (by decide) (fun c => ?_) (fun c => ?_)
    · have c3 := c
      refine BT.iload_n dX11_fitting_47 rfl 3 rfl ?_
      refine BT.istore_n (L' := [(3, .int v3), (0, .ref 175), (1, .int v1), (2, .int v2), (4, .int v4)]) dX11_fitting_48 rfl (by decide) rfl ?_
      refine BT.iinc (j := 4) (v := (v4 + (-1))) (L' := [(4, .int (v4 + (-1))), (3, .int v3), (0, .ref 175), (1, .int v1), (2, .int v2)]) dX11_fitting_49 rfl rfl (by decide) rfl ?_
      refine BT.goto (tgt := 13) dX11_fitting_52 (by decide) ?_
      refine BT.sub [2, 3, 4, 1, 0] rfl ?_
      exact ((h.2 c2).2.2.1 c3)
    · have c4 := c
      refine BT.iload dX11_fitting_42 4 rfl ?_
      refine BT.goto (tgt := 48) dX11_fitting_44 (by decide) ?_
      refine BT.istore_n (L' := [(3, .int v4), (0, .ref 175), (1, .int v1), (2, .int v2), (4, .int v4)]) dX11_fitting_48 rfl (by decide) rfl ?_
      refine BT.iinc (j := 4) (v := (v4 + (-1))) (L' := [(4, .int (v4 + (-1))), (3, .int v4), (0, .ref 175), (1, .int v1), (2, .int v2)]) dX11_fitting_49 rfl rfl (by decide) rfl ?_
      refine BT.goto (tgt := 13) dX11_fitting_52 (by decide) ?_
      refine BT.sub [2, 3, 4, 1, 0] rfl ?_
      exact ((h.2 c2).2.2.2 c4)

theorem nI_mul {a b : Nat} : nI a * nI b = nI (a * b) := (Int32.ofNat_mul a b).symm
theorem nI_s1 {n : Nat} : nI (n + 1) + (-1) = nI n := by rw [← nI_1, Int32.add_assoc]; exact Int32.add_zero _
theorem t_X11_fitting {G : GT} {K : Int32 → Mem → Prop} {M : Mem} {W : WT} {v1 v2 : Int32} (hR : RG W M) (hl : (0 : Int32) ≤ v1 ∧ v1 < W 8 1) (hP : PR W M v2) (h : K (z_fit W v1 v2) M) : T_X11_fitting G [.ref 175, .int v1, .int v2] M K := by
  obtain ⟨j, hj, rfl, ⟨p1, p2, p3, p4⟩, e0, e1, e2, e3⟩ := hP
  obtain ⟨i1, i2, i3⟩ := hR.1.ix hl
  obtain ⟨r1, r2, r3, r4, r5, r6, r7⟩ := hR.2.2.2.2.2 _ i1
  obtain ⟨-, -, ⟨k, ⟨hk1, hk6⟩, ek, hk⟩, -⟩ := hR.1.2.2.2 _ i1
  rw [ek, ix_nI (by omega)] at r7
  refine e_X11_fitting (k_X11_fitting_0 ⟨vp8 i2 i3, ?_⟩)
  rw [r3, ek]
  have key : ∀ i, i ≤ k → B_X11_fitting G K 13 [(0, .ref 175), (1, .int v1), (2, .int (nI j)), (3, .int (w_ff W (plw v1) (W (zc j) 3) i (k - i))), (4, .int (nI i + (-1)))] [] M := by
    intro i
    induction i with
    | zero =>
      intro _
      refine k_X11_fitting_13 ⟨fun _ => ?_, fun c => absurd (by decide) c⟩
      unfold z_fit w_fit zp at h
      rw [ix_nI (show j < 2 ^ 31 by omega), ek, ix_nI (by omega)] at h
      exact h
    | succ i ih =>
      intro hi
      have ih := ih (by omega)
      rw [nI_s1]
      have ea : (6 : Int32) * v1 + nI i = nI (6 * Int32.toNatClampNeg v1 + i) := by
        rw [← nI_add, ← nI_mul, ← i3]; rfl
      refine k_X11_fitting_13 ⟨fun c => absurd c (nI_ge0 (by omega)), fun _ => ?_⟩
      rw [ea]
      simp only [ix_nI (show 6 * Int32.toNatClampNeg v1 + i < 2 ^ 31 by omega), ix_nI (show j < 2 ^ 31 by omega), e3, (r7 i (by omega)).1]
      rw [show k - i = (k - (i + 1)) + 1 by omega, w_ff] at ih
      refine ⟨vp_nI (by omega) (by decide), vp_nI hj (by decide), fun c => ?_, fun c => ?_⟩
      · rwa [sel_f (show ¬ w_fits W (plw v1) i (W (zc j) 3) from c)] at ih
      · rwa [sel_t (show w_fits W (plw v1) i (W (zc j) 3) from c)] at ih
  have := key k (Nat.le_refl _)
  rw [Nat.sub_self, w_ff] at this
  rw [Int32.sub_eq_add_neg]
  exact this

