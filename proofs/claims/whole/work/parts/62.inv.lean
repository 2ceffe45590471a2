/-! ===== 62.inv ===== -/
/-! ===== what holds between the calls ===== -/
def LwEq (V : WT) (c : Nat) (W : WT) (o : Nat) : Prop := TxEq V c W o ∧ V c 0 = W o 0 ∧ V c 1 = W o 1
theorem w_ff_eq {V W : WT} {c o : Nat} {m : Int32} (h : ∀ i, i < 6 → V (c + 1) i = W (o + 1) i) : ∀ f i, i + f ≤ 6 → w_ff V c m i f = w_ff W o m i f
  | 0, _, _ => rfl
  | f + 1, i, hi => by
    unfold w_ff w_fits
    rw [w_ff_eq h f (i + 1) (by omega), h i (by omega)]
theorem w_fit_eq {V W : WT} {c o k : Nat} {m : Int32} (h2 : V c 2 = W o 2) (hk : W o 2 = nI k) (hk6 : k ≤ 6) (h : ∀ i, i < 6 → V (c + 1) i = W (o + 1) i) : w_fit V c m = w_fit W o m := by
  unfold w_fit
  rw [h2, hk, ix_nI (by omega)]
  exact w_ff_eq h k 0 (by omega)
theorem CasesW_eq {V W : WT} {c o : Nat} (h : CasesW W o) (e : TxEq V c W o) : CasesW V c := by
  obtain ⟨k, hk, e2, hc⟩ := h
  refine ⟨k, hk, e.1.1.trans e2, fun i hi => ?_⟩
  rw [(e.2.1 i (by omega)).1, (e.2.1 i (by omega)).2]
  exact hc i hi
theorem FitW_eq {V W : WT} {c o : Nat} (hC : CasesW W o) (h : FitW W o) (e : TxEq V c W o) : FitW V c := by
  obtain ⟨k, hk, e2, hc⟩ := hC
  intro m hm
  have ef : w_fit V c (nI m) = w_fit W o (nI m) := w_fit_eq e.1.1 e2 hk.2 (fun i hi => (e.2.1 i hi).1)
  obtain ⟨h1, h2⟩ := h m hm
  rw [ef, (e.2.2 m hm).1, (e.2.2 m hm).2, h1, h2]
  by_cases q : w_fit W o (nI m) = -6
  · rw [sel_t q, sel_t q, sel_t q, sel_t q]; exact ⟨rfl, rfl⟩
  · rw [sel_f q, sel_f q, sel_f q, sel_f q]
    have hin := w_ff_in W o (nI m) (Int32.toNatClampNeg (W o 2)) 0
    rcases hin with z | ⟨j, hj, ej⟩
    · exact absurd z q
    · rw [e2, ix_nI (by omega)] at hj
      have ej : w_fit W o (nI m) = nI j := ej
      rw [ej, ix_nI (by omega), (e.2.1 j (by omega)).1, (e.2.1 j (by omega)).2]
      exact ⟨rfl, rfl⟩
theorem LawT_eq {V W : WT} {c o : Nat} (h : LawT W o) (e : TxEq V c W o) : LawT V c := by
  obtain ⟨⟨e2, e7, e8, e9, e10, e11, e12, e13, e14⟩, -, -⟩ := e
  unfold LawT
  rw [e7, e8, e10, e11, e12, e13]; exact h
theorem LawG_eq {V W : WT} {c o : Nat} (h : LawG W o) (e : LwEq V c W o) : LawG V c := by
  obtain ⟨h0, h1, h2, h3⟩ := h
  refine ⟨by rw [e.2.1]; exact h0, by rw [e.2.2]; exact h1, CasesW_eq h2 e.1, FitW_eq h2 h3 e.1⟩
/-- the law l of the world W, and the model's cells Z that tell it -/
def LW (W Z : WT) (l : Nat) : Prop := LawG W (10 + 5 * l) ∧ LawT W (10 + 5 * l) ∧ W (10 + 5 * l) 9 = W (10 + 5 * l) 7 ∧ (Z 177 l = W (10 + 5 * l) 0 ∧ Z 178 l = W (10 + 5 * l) 1 ∧ Z 179 l = W (10 + 5 * l) 2 ∧ Z 182 l = W (10 + 5 * l) 7 ∧ Z 183 l = W (10 + 5 * l) 8 ∧ Z 184 l = W (10 + 5 * l) 10 ∧ Z 185 l = W (10 + 5 * l) 11 ∧ Z 186 l = W (10 + 5 * l) 12 ∧ Z 187 l = W (10 + 5 * l) 13 ∧ Z 188 l = W (10 + 5 * l) 14) ∧ ∀ k, k < Int32.toNatClampNeg (W (10 + 5 * l) 2) → Z 180 (6 * l + k) = W (10 + 5 * l + 1) k ∧ Z 181 (6 * l + k) = W (10 + 5 * l + 2) k
def PCw (W Z : WT) (p : Nat) : Prop := PW W (52 + p) ∧ (Z 189 p = W (52 + p) 0 ∧ Z 190 p = W (52 + p) 1 ∧ Z 191 p = W (52 + p) 2 ∧ Z 192 p = W (52 + p) 3 ∧ Z 193 p = W (52 + p) 4) ∧ DayO (W (52 + p) 4)
def Tells (W Z : WT) : Prop := ((W 8 1 = nI (w_n W) ∧ w_n W ≤ 8) ∧ (W 8 4 = nI (w_p W) ∧ w_p W ≤ 8) ∧ (W 8 7 = 0 ∨ W 8 7 = 1) ∧ LfTo W (W 50) (w_n W)) ∧ (∀ l, l < w_n W → LW W Z l) ∧ (∀ p, p < w_p W → PCw W Z p) ∧ Z 175 18 = W 8 1 ∧ Z 175 26 = W 8 4 ∧ Z 175 27 = W 8 5 ∧ Z 175 28 = W 8 6 ∧ Z 175 29 = W 8 7
/-- the cells that an image of the model keeps -/
def PkR (c k : Nat) : Prop := (c = 175 ∧ (k = 18 ∨ (26 ≤ k ∧ k ≤ 29))) ∨ (((177 ≤ c ∧ c ≤ 179) ∨ (182 ≤ c ∧ c ≤ 188) ∨ (189 ≤ c ∧ c ≤ 193)) ∧ k < 8) ∨ ((c = 180 ∨ c = 181) ∧ k < 48)
theorem LW_eq {V W Z Y : WT} {l : Nat} (h : LW W Z l) (hl : l < 8) (e : LwEq V (10 + 5 * l) W (10 + 5 * l)) (ez : ∀ c k, PkR c k → Y c k = Z c k) : LW V Y l := by
  obtain ⟨h1, h2, h3, ⟨a0, a1, a2, a3, a4, a5, a6, a7, a8, a9⟩, h5⟩ := h
  refine ⟨LawG_eq h1 e, LawT_eq h2 e.1, ?_, ?_, fun k hk => ?_⟩
  · obtain ⟨⟨⟨e2, e7, e8, e9, -⟩, -, -⟩, -⟩ := e
    rw [e7, e9]; exact h3
  · obtain ⟨⟨⟨e2, e7, e8, e9, e10, e11, e12, e13, e14⟩, -, -⟩, e0, e1⟩ := e
    rw [e0, e1, e2, e7, e8, e10, e11, e12, e13, e14]
    have z : ∀ c, (177 ≤ c ∧ c ≤ 179) ∨ (182 ≤ c ∧ c ≤ 188) → Y c l = Z c l := fun c hc => ez c l (Or.inr (Or.inl ⟨by omega, hl⟩))
    rw [z 177 (by omega), z 178 (by omega), z 179 (by omega), z 182 (by omega), z 183 (by omega), z 184 (by omega), z 185 (by omega), z 186 (by omega), z 187 (by omega), z 188 (by omega)]
    exact ⟨a0, a1, a2, a3, a4, a5, a6, a7, a8, a9⟩
  · obtain ⟨-, -, ⟨n, hn, en, -⟩, -⟩ := h1
    rw [e.1.1.1, en, ix_nI (by omega)] at hk
    rw [en, ix_nI (by omega)] at h5
    rw [ez 180 _ (Or.inr (Or.inr ⟨by omega, by omega⟩)), ez 181 _ (Or.inr (Or.inr ⟨by omega, by omega⟩)), (e.1.2.1 k (by omega)).1, (e.1.2.1 k (by omega)).2]
    exact h5 k hk
theorem PCw_eq {V W Z Y : WT} {p : Nat} (h : PCw W Z p) (hp : p < 8) (e : ∀ k, k < 5 → V (52 + p) k = W (52 + p) k) (ez : ∀ c k, PkR c k → Y c k = Z c k) : PCw V Y p := by
  have z : ∀ c, (189 ≤ c ∧ c ≤ 193) → Y c p = Z c p := fun c hc => ez c p (Or.inr (Or.inl ⟨by omega, hp⟩))
  unfold PCw PW BOk at *
  rw [e 0 (by decide), e 1 (by decide), e 2 (by decide), e 3 (by decide), e 4 (by decide), z 189 (by omega), z 190 (by omega), z 191 (by omega), z 192 (by omega), z 193 (by omega)]
  exact h
theorem Tells_eq {V W Z Y : WT} (h : Tells W Z) (e8 : ∀ k, k = 1 ∨ (4 ≤ k ∧ k ≤ 7) → V 8 k = W 8 k) (e50 : ∀ i, i < 8 → V 50 i = W 50 i) (el : ∀ l, l < w_n W → LwEq V (10 + 5 * l) W (10 + 5 * l)) (ep : ∀ p, p < w_p W → ∀ k, k < 5 → V (52 + p) k = W (52 + p) k) (ez : ∀ c k, PkR c k → Y c k = Z c k) : Tells V Y := by
  obtain ⟨⟨⟨n1, n2⟩, ⟨p1, p2⟩, h7, hL⟩, hl, hp, z1, z2, z3, z4, z5⟩ := h
  have en : w_n V = w_n W := by unfold w_n; rw [e8 1 (by omega)]
  have ep' : w_p V = w_p W := by unfold w_p; rw [e8 4 (by omega)]
  have zz : ∀ k, (k = 18 ∨ (26 ≤ k ∧ k ≤ 29)) → Y 175 k = Z 175 k := fun k hk => ez 175 k (Or.inl ⟨rfl, hk⟩)
  unfold Tells
  rw [en, ep', e8 1 (by omega), e8 4 (by omega), e8 5 (by omega), e8 6 (by omega), e8 7 (by omega), zz 18 (by omega), zz 26 (by omega), zz 27 (by omega), zz 28 (by omega), zz 29 (by omega)]
  refine ⟨⟨⟨n1, n2⟩, ⟨p1, p2⟩, h7, ?_⟩, fun l hl' => LW_eq (hl l hl') (by omega) (el l hl') ez, fun p hp' => PCw_eq (hp p hp') (by omega) (ep p hp') ez, z1, z2, z3, z4, z5⟩
  have h1 := LfTo_congr (V := V) n2 (fun l hl' => (el l hl').2.1.symm) hL
  refine ⟨fun i hi => ?_, fun i j hij hj => ?_⟩
  · rw [e50 i (by omega)]; exact h1.1 i hi
  · rw [e50 i (by omega), e50 j (by omega)]; exact h1.2 i j hij hj
theorem LwEq.rf {W : WT} {c : Nat} : LwEq W c W c := ⟨⟨⟨rfl, rfl, rfl, rfl, rfl, rfl, rfl, rfl, rfl⟩, fun _ _ => ⟨rfl, rfl⟩, fun _ _ => ⟨rfl, rfl⟩⟩, rfl, rfl⟩
theorem LwEq.same {V W : WT} {c : Nat} (h : ∀ d, c ≤ d → d ≤ c + 4 → V d = W d) : LwEq V c W c := by
  unfold LwEq TxEq
  rw [h c (by omega) (by omega), h (c + 1) (by omega) (by omega), h (c + 2) (by omega) (by omega), h (c + 3) (by omega) (by omega), h (c + 4) (by omega) (by omega)]
  exact LwEq.rf
/-- where the model keeps a cell in an image -/
def pos (c k : Nat) : Nat := if c = 175 then (if k = 18 then 0 else k - 25) else if c < 180 then 5 + 10 * k + (c - 177) else if c = 180 then 85 + 2 * k else if c = 181 then 86 + 2 * k else if c < 189 then 5 + 10 * k + (c - 179) else 181 + 5 * k + (c - 189)
def unpZ (κ : Nat → Int32) (b : Nat) : WT := fun c k => κ (b + pos c k)
/-- the world that an image of the class holds -/
def iw (N : Mem) (w : Nat) : WT := fun c k => if c < 60 then N.1 (53 + 52 * w + c) k else 0
theorem iw_at {N : Mem} {w c k : Nat} (h : c < 60) : iw N w c k = N.1 (53 + 52 * w + c) k := if_pos h
def INV (N : Mem) : Prop := Tells (wv N) N.1 ∧ (N.1 175 19 = 0 ∧ N.1 175 20 = -6) ∧ (∃ n, n ≤ 60 ∧ N.1 1 1 = nI n ∧ N.1 175 1 = nI n ∧ N.1 2 = N.1 176) ∧ ∀ w, w < 2 → (N.1 165 w = 0 ∨ N.1 165 w = 1) ∧ N.1 198 w = N.1 165 w ∧ (¬ N.1 165 w = 0 → Tells (iw N w) (unpZ (N.1 197) (400 * w)))
theorem Tells.wok {W Z : WT} (h : Tells W Z) : WOk W := ⟨h.1.1, h.1.2.1, h.1.2.2.2.1, fun p hp => (h.2.2.1 p hp).1.1⟩
theorem Tells.gw {W Z : WT} (h : Tells W Z) : GW W := ⟨h.1.1, h.1.2.2.2, h.1.2.2.1, fun l hl => (h.2.1 l hl).1⟩
theorem Tells.rdok {W Z : WT} (h : Tells W Z) : RdOk W := fun l hl => (h.2.1 l hl).2.2.1
theorem Tells.rg {W : WT} {M : Mem} (h : Tells W M.1) (h19 : M.1 175 19 = 0) : RG W M := by
  refine ⟨h.gw, h.2.2.2.1, h.2.2.2.2.2.1, h.2.2.2.2.2.2.1, h.2.2.2.2.2.2.2, fun l hl => ?_⟩
  obtain ⟨h1, h2, h3, ⟨a0, a1, a2, a3, a4, a5, a6, a7, a8, a9⟩, h5⟩ := h.2.1 l hl
  exact ⟨a0, a1, a2, a5, a9, by rw [z_tm0 h19, a3, h3], h5⟩
theorem Tells.rt {W : WT} {M : Mem} (h : Tells W M.1) (h19 : M.1 175 19 = 0) (h20 : M.1 175 20 = -6) : RT W M := by
  refine ⟨h19, Or.inl h20, fun l hl => ?_⟩
  obtain ⟨h1, h2, h3, ⟨a0, a1, a2, a3, a4, a5, a6, a7, a8, a9⟩, h5⟩ := h.2.1 l hl
  exact ⟨h2, a3, a4, a6, a7, a8⟩
theorem Tells.rp {W : WT} {M : Mem} (h : Tells W M.1) : RP W M := by
  refine ⟨h.1.2.1, h.2.2.2.2.1, fun p hp => ?_⟩
  obtain ⟨h1, ⟨a0, a1, a2, a3, a4⟩, h3⟩ := h.2.2.1 p hp
  have h8 := h.1.2.1.2
  have e : zc p = 52 + p := if_neg (by omega)
  refine ⟨⟨p, by omega, rfl, ?_⟩, a4⟩
  rw [e]
  exact ⟨h1, a0, a1, a2, a3⟩
theorem Tells.dayo {W Z : WT} (h : Tells W Z) : ∀ p, p < w_p W → DayO (W (52 + p) 4) := fun p hp => (h.2.2.1 p hp).2.2
theorem Tells.q01 {W Z : WT} (h : Tells W Z) : ∀ l, l < w_n W → W (10 + 5 * l) 10 = 0 ∨ W (10 + 5 * l) 10 = 1 := fun l hl => (h.2.1 l hl).2.1.2.2.2.2
theorem Tells.cs {W Z : WT} (h : Tells W Z) : ∀ l, l < w_n W → ∃ n, n ≤ 6 ∧ W (10 + 5 * l) 2 = nI n := fun l hl => by
  obtain ⟨-, -, ⟨n, hn, en, -⟩, -⟩ := (h.2.1 l hl).1
  exact ⟨n, hn.2, en⟩
/-- the same cells told by a later memory -/
theorem Tells.mem {W : WT} {M N : Mem} (h : Tells W M.1) (e : ∀ c, 175 ≤ c → N.1 c = M.1 c) : Tells W N.1 := by
  refine Tells_eq h (fun _ _ => rfl) (fun _ _ => rfl) (fun _ _ => LwEq.rf) (fun _ _ _ _ => rfl) (fun c k hc => ?_)
  rw [e c]
  unfold PkR at hc
  omega
theorem Zcr.x {M N : Mem} (h : Zcr M N) : Zx M N := ⟨fun c hc => h.1 c (by omega), fun c j h1 h2 hj => by rw [h.1 c (by omega)], h.2.1, h.2.2⟩
theorem Zx.rf {M : Mem} : Zx M M := ⟨fun _ _ => rfl, fun _ _ _ _ _ => rfl, fun _ _ => rfl, rfl⟩
/-- a call that asks changes nothing that holds -/
theorem INV.ask {M N P : Mem} (h : INV M) (s : Sc10 M N) (z : Zx N P) : INV P := by
  obtain ⟨hT, ⟨h19, h20⟩, ⟨n, hn, e1, e2, e3⟩, hI⟩ := h
  have lo : ∀ c, c < 166 → P.1 c = M.1 c := fun c hc => (z.1 c (by omega)).trans (s.1 c (by omega))
  have hi : ∀ c k, PkR c k → P.1 c k = M.1 c k := fun c k hc => by
    unfold PkR at hc
    by_cases a : c = 175
    · subst a
      rw [z.2.2.1 k (by omega), s.1 175 (by omega)]
    · by_cases b : 189 ≤ c
      · rw [z.2.1 c k b (by omega) (by omega), s.1 c (by omega)]
      · rw [z.1 c (by omega), s.1 c (by omega)]
  have h197 : P.1 197 = M.1 197 := (z.1 197 (by decide)).trans (s.1 197 (by decide))
  refine ⟨Tells_eq hT (fun k _ => ?_) (fun i _ => ?_) (fun l _ => LwEq.same (fun d h1 h2 => ?_)) (fun p _ k _ => ?_) hi, ⟨?_, ?_⟩, ⟨n, hn, ?_, ?_, ?_⟩, fun w hw => ?_⟩
  · rw [wv_at (by omega), wv_at (by omega), lo 8 (by omega)]
  · rw [wv_at (by omega), wv_at (by omega), lo 50 (by omega)]
  · have h8 := hT.1.1.2
    funext k
    rw [wv_at (by omega), wv_at (by omega), lo d (by omega)]
  · have h8 := hT.1.2.1.2
    rw [wv_at (by omega), wv_at (by omega), lo _ (by omega)]
  · rw [z.2.2.1 19 (by decide), s.1 175 (by decide), h19]
  · rw [z.2.2.1 20 (by decide), s.1 175 (by decide), h20]
  · rw [lo 1 (by omega), e1]
  · rw [z.2.2.1 1 (by decide), s.1 175 (by decide), e2]
  · rw [lo 2 (by omega), z.1 176 (by decide), s.1 176 (by decide), e3]
  · obtain ⟨i1, i2, i3⟩ := hI w hw
    rw [lo 165 (by omega), z.1 198 (by decide), s.1 198 (by decide), h197]
    refine ⟨i1, i2, fun q => ?_⟩
    have e : iw P w = iw M w := by
      funext c k
      unfold iw
      by_cases hc : c < 60
      · rw [if_pos hc, if_pos hc, lo _ (by omega)]
      · rw [if_neg hc, if_neg hc]
    rw [e]
    exact i3 q
theorem Sc10.hi {M N : Mem} (s : Sc10 M N) : ∀ c, 175 ≤ c → N.1 c = M.1 c := fun c hc => s.1 c (by omega)
theorem INV.rg {M N : Mem} (h : INV M) (s : Sc10 M N) : RG (wv M) N := (h.1.mem s.hi).rg (by rw [s.1 175 (by decide)]; exact h.2.1.1)
theorem INV.rt {M N : Mem} (h : INV M) (s : Sc10 M N) : RT (wv M) N := (h.1.mem s.hi).rt (by rw [s.1 175 (by decide)]; exact h.2.1.1) (by rw [s.1 175 (by decide)]; exact h.2.1.2)
theorem INV.rp {M N : Mem} (h : INV M) (s : Sc10 M N) : RP (wv M) N := (h.1.mem s.hi).rp
theorem INV.w6 {M N : Mem} (h : INV M) (s : Sc10 M N) : N.1 175 20 = -6 := by rw [s.1 175 (by decide)]; exact h.2.1.2

