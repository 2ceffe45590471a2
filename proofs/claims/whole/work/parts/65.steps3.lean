/-! ===== 65.steps3 ===== -/
/-- a piece is told anew -/
theorem piece_keep {M P : Mem} {q0 : Nat} (hI : INV M) (hq0 : q0 < w_p (wv M)) (f : ∀ c, ¬ (c = 52 + q0 ∨ (189 ≤ c ∧ c ≤ 193)) → P.1 c = M.1 c) (f2 : ∀ c j, ¬ c = 52 + q0 → ¬ j = q0 → P.1 c j = M.1 c j) (hn : PCw (wv P) P.1 q0) : INV P := by
  obtain ⟨⟨⟨n1, hn8⟩, ⟨p1, hp8⟩, h7, hL⟩, hl, hp, z1, z2, z3, z4, z5⟩ := hI.1
  have e : ∀ c k, c < 60 → ¬ c = 52 + q0 → wv P c k = wv M c k := fun c k hc hq => by
    rw [wv_at (by omega), wv_at (by omega), f c (by omega)]
  refine hI.keep (Tells_gen (n := w_n (wv M)) (p := w_p (wv M)) ?_ hn8 ?_ hp8 ?_ ?_ (fun l hl' => LW_same (hl l hl') (fun d h1 h2 => ?_) (fun c hc => by rw [f c (by omega)]) (fun k _ => by rw [f 180 (by omega), f 181 (by omega)]; exact ⟨rfl, rfl⟩)) (fun q hq => ?_) ?_ ?_ ?_ ?_ ?_) (by rw [f 175 (by omega)]) (by rw [f 175 (by omega)]) (hI.pd (by rw [f 1 (by omega)]) (f 2 (by omega)) (by rw [f 175 (by omega)]) (f 176 (by omega))) (fun c hc => f c (by omega))
  · rw [e 8 1 (by omega) (by omega), n1]
  · rw [e 8 4 (by omega) (by omega), p1]
  · rw [e 8 7 (by omega) (by omega)]; exact h7
  · have e50 : wv P 50 = wv M 50 := by funext k; exact e 50 k (by omega) (by omega)
    rw [e50]
    exact LfTo_congr hn8 (fun l hl' => (e _ 0 (by omega) (by omega)).symm) hL
  · funext k; exact e d k (by omega) (by omega)
  · by_cases z : q = q0
    · rw [z]; exact hn
    · refine PCw_same (hp q hq) ?_ (fun c hc => f2 c q (by omega) z)
      funext k; exact e _ k (by omega) (by omega)
  · rw [f 175 (by omega), e 8 1 (by omega) (by omega)]; exact z1
  · rw [f 175 (by omega), e 8 4 (by omega) (by omega)]; exact z2
  · rw [f 175 (by omega), e 8 5 (by omega) (by omega)]; exact z3
  · rw [f 175 (by omega), e 8 6 (by omega) (by omega)]; exact z4
  · rw [f 175 (by omega), e 8 7 (by omega) (by omega)]; exact z5
theorem INV.at_p {M : Mem} (hI : INV M) {q : Nat} (hq : q < w_p (wv M)) : PW (wv M) (52 + q) ∧ (M.1 189 q = M.1 (52 + q) 0 ∧ M.1 190 q = M.1 (52 + q) 1 ∧ M.1 191 q = M.1 (52 + q) 2 ∧ M.1 192 q = M.1 (52 + q) 3 ∧ M.1 193 q = M.1 (52 + q) 4) ∧ DayO (M.1 (52 + q) 4) := by
  have h := hI.1.2.2.1 q hq
  have h8 := hI.1.1.2.1.2
  unfold PCw at h
  rw [wv_at (k := 0) (show 52 + q < 60 ∨ _ by omega), wv_at (k := 1) (show 52 + q < 60 ∨ _ by omega), wv_at (k := 2) (show 52 + q < 60 ∨ _ by omega), wv_at (k := 3) (show 52 + q < 60 ∨ _ by omega), wv_at (k := 4) (show 52 + q < 60 ∨ _ by omega)] at h
  exact h
theorem day_is {v : Int32} (h0 : 0 ≤ v) (h1 : v ≤ 99) : ∃ d, d < 100 ∧ v = nI d := i_nat (N := 100) (by decide) h0 (Int32.lt_of_le_of_lt h1 (by decide))
theorem wish_is {v : Int32} (h : -1 ≤ v ∧ v ≤ 99) : DayO (wishOf v) := by
  unfold wishOf
  by_cases c : v = -1
  · rw [if_pos c]; exact Or.inl rfl
  · rw [if_neg c]
    refine Or.inr (day_is ?_ h.2)
    have h1 := h.1
    rw [Int32.le_iff_toInt_le] at h1 ⊢
    have e1 : (-1 : Int32).toInt = -1 := rfl
    have e0 : (0 : Int32).toInt = 0 := rfl
    have : ¬ v.toInt = (-1 : Int32).toInt := fun z => c (Int32.toInt_inj.mp z)
    omega
theorem s_wish {G : GT} {M : Mem} {v1 v2 : Int32} (hI : INV M) : T_X10_wish G [.ref 0, .int v1, .int v2] M (fun r N => T_X11_wish G [.ref 175, .int v1, .int v2] N (fun r' P => r' = r ∧ INV P)) := by
  have hw := hI.1.wok
  have rp : RP (wv M) M := hI.1.rp
  refine t_X10_wish hw (fun c => t_X11_wish rp (fun _ => ⟨rfl, hI⟩) (fun z => absurd z c) (fun z => absurd z c)) (fun c c2 => t_X11_wish rp (fun z => absurd c z) (fun _ _ => ⟨rfl, hI⟩) (fun _ z => absurd z c2)) (fun c c2 => ?_)
  obtain ⟨i1, i2, i3⟩ := pc_ix hw c
  refine t_X11_wish (W := wv M) (hI.rp2 (fun d hd => mi_off (show ¬ d = 52 + Int32.toNatClampNeg v1 by omega))) (fun z => absurd c z) (fun _ z => absurd c2 z) (fun _ _ => ⟨rfl, ?_⟩)
  show INV (m_i (m_i M (52 + Int32.toNatClampNeg v1) 4 (wishOf v2)) 193 (Int32.toNatClampNeg v1) (wishOf v2))
  generalize Int32.toNatClampNeg v1 = q at *
  obtain ⟨a1, ⟨b0, b1, b2, b3, b4⟩, a3⟩ := hI.at_p i1
  have g : ∀ c k, ¬ ((c = 52 + q ∧ k = 4) ∨ (c = 193 ∧ k = q)) → (m_i (m_i M (52 + q) 4 (wishOf v2)) 193 q (wishOf v2)).1 c k = M.1 c k := fun c k hc => by
    rw [m_i_ne (by omega), m_i_ne (by omega)]
  refine piece_keep hI i1 (fun c hc => ?_) (fun c j hc hj => g c j (by omega)) ?_
  · funext k; exact g c k (by omega)
  · have e4 : (m_i (m_i M (52 + q) 4 (wishOf v2)) 193 q (wishOf v2)).1 (52 + q) 4 = wishOf v2 := by rw [m_i_ne (by omega), m_i_at]
    have w : ∀ k, wv (m_i (m_i M (52 + q) 4 (wishOf v2)) 193 q (wishOf v2)) (52 + q) k = (m_i (m_i M (52 + q) 4 (wishOf v2)) 193 q (wishOf v2)).1 (52 + q) k := fun k => wv_at (by omega)
    have wM : ∀ k, wv M (52 + q) k = M.1 (52 + q) k := fun k => wv_at (by omega)
    unfold PCw PW BOk at *
    rw [w, w, w, w, w, e4, g (52 + q) 0 (by omega), g (52 + q) 1 (by omega), g (52 + q) 2 (by omega), g (52 + q) 3 (by omega), g 189 q (by omega), g 190 q (by omega), g 191 q (by omega), g 192 q (by omega), m_i_at]
    rw [wM, wM, wM, wM] at a1
    exact ⟨a1, ⟨b0, b1, b2, b3, rfl⟩, wish_is c2⟩
theorem s_change {G : GT} {M : Mem} {v1 v2 v3 : Int32} (hI : INV M) : T_X10_change G [.ref 0, .int v1, .int v2, .int v3] M (fun r N => T_X11_change G [.ref 175, .int v1, .int v2, .int v3] N (fun r' P => r' = r ∧ INV P)) := by
  have hw := hI.1.wok
  have rp : RP (wv M) M := hI.1.rp
  refine t_X10_change hw (fun c => t_X11_change rp (fun _ => ⟨rfl, hI⟩) (fun z => absurd z c) (fun z => absurd z c)) (fun c c2 => t_X11_change rp (fun z => absurd c z) (fun _ _ => ⟨rfl, hI⟩) (fun _ z => absurd z c2)) (fun c c2 => ?_)
  obtain ⟨i1, i2, i3⟩ := pc_ix hw c
  refine t_X11_change (W := wv M) (hI.rp2 (fun d hd => mi_off (show ¬ d = 52 + Int32.toNatClampNeg v1 by omega))) (fun z => absurd c z) (fun _ z => absurd c2 z) (fun _ _ => ⟨rfl, ?_⟩)
  have wM : ∀ k, wv M (52 + Int32.toNatClampNeg v1) k = M.1 (52 + Int32.toNatClampNeg v1) k := fun k => wv_at (by omega)
  obtain ⟨a1, ⟨b0, b1, b2, b3, b4⟩, a3⟩ := hI.at_p i1
  have c2 : chOk (wv M (52 + Int32.toNatClampNeg v1) 0) v2 v3 := c2
  show INV (m_i (m_i M (52 + Int32.toNatClampNeg v1) (Int32.toNatClampNeg v2) (chVal v2 v3)) (189 + Int32.toNatClampNeg v2) (Int32.toNatClampNeg v1) (chVal v2 v3))
  generalize Int32.toNatClampNeg v1 = q at *
  rw [wM] at c2
  unfold PW BOk at a1
  rw [wM, wM, wM, wM] at a1
  obtain ⟨⟨b, hb, eb⟩, a12, a13, a14⟩ := a1
  have hk : v2 = 1 ∨ v2 = 2 ∨ v2 = 3 := by
    rcases c2 with z | z
    · exact Or.inr (Or.inr z.1)
    · rcases z.1 with z | z
      · exact Or.inl z
      · exact Or.inr (Or.inl z)
  have day : (v3 = -1 ∨ (M.1 (52 + q) 0 ≤ v3 ∧ v3 ≤ 99)) → wishOf v3 = -6 ∨ (M.1 (52 + q) 0 ≤ wishOf v3 ∧ ∃ d, d < 100 ∧ wishOf v3 = nI d) := by
    rintro (z | z)
    · left; unfold wishOf; rw [if_pos z]
    · right
      rw [eb] at z ⊢
      have h0 : 0 ≤ v3 := Int32.le_trans (nI_pos' (by omega)) z.1
      have e : wishOf v3 = v3 := by
        unfold wishOf
        rw [if_neg (fun y => by rw [y] at h0; exact absurd h0 (by decide))]
      rw [e]
      exact ⟨z.1, day_is h0 z.2⟩
  have key : ∀ k x, (k = 1 ∨ k = 2 ∨ k = 3) → (k = 1 → DayO x) → (k = 2 → x = -6 ∨ (M.1 (52 + q) 0 ≤ x ∧ ∃ d, d < 100 ∧ x = nI d)) → (k = 3 → ∃ m, m < 32 ∧ x = nI m) → INV (m_i (m_i M (52 + q) k x) (189 + k) q x) := by
    intro k x hk h1 h2 h3
    have g : ∀ c j, ¬ ((c = 52 + q ∧ j = k) ∨ (c = 189 + k ∧ j = q)) → (m_i (m_i M (52 + q) k x) (189 + k) q x).1 c j = M.1 c j := fun c j hc => by
      rw [m_i_ne (by omega), m_i_ne (by omega)]
    refine piece_keep hI i1 (fun c hc => ?_) (fun c j hc hj => g c j (by omega)) ?_
    · funext j; exact g c j (by omega)
    · have w : ∀ j, wv (m_i (m_i M (52 + q) k x) (189 + k) q x) (52 + q) j = (m_i (m_i M (52 + q) k x) (189 + k) q x).1 (52 + q) j := fun j => wv_at (by omega)
      have ex : (m_i (m_i M (52 + q) k x) (189 + k) q x).1 (52 + q) k = x := by rw [m_i_ne (by omega), m_i_at]
      have ey : (m_i (m_i M (52 + q) k x) (189 + k) q x).1 (189 + k) q = x := m_i_at
      unfold PCw PW BOk
      rw [w, w, w, w, w, g (52 + q) 0 (by omega), g (52 + q) 4 (by omega), g 189 q (by omega), g 193 q (by omega)]
      rcases hk with rfl | rfl | rfl
      · rw [ex, g (52 + q) 2 (by omega), g (52 + q) 3 (by omega), show (190 : Nat) = 189 + 1 from rfl, ey, g 191 q (by omega), g 192 q (by omega)]
        exact ⟨⟨⟨b, hb, eb⟩, h1 rfl, a13, a14⟩, ⟨b0, rfl, b2, b3, b4⟩, a3⟩
      · rw [ex, g (52 + q) 1 (by omega), g (52 + q) 3 (by omega), show (191 : Nat) = 189 + 2 from rfl, ey, g 190 q (by omega), g 192 q (by omega)]
        exact ⟨⟨⟨b, hb, eb⟩, a12, h2 rfl, a14⟩, ⟨b0, b1, rfl, b3, b4⟩, a3⟩
      · rw [ex, g (52 + q) 1 (by omega), g (52 + q) 2 (by omega), show (192 : Nat) = 189 + 3 from rfl, ey, g 190 q (by omega), g 191 q (by omega)]
        exact ⟨⟨⟨b, hb, eb⟩, a12, a13, h3 rfl⟩, ⟨b0, b1, b2, rfl, b4⟩, a3⟩
  rcases hk with rfl | rfl | rfl
  · have c3 := (c2.resolve_left (fun z => absurd z.1 (by decide))).2
    refine key 1 (chVal 1 v3) (by omega) (fun _ => ?_) (fun z => absurd z (by decide)) (fun z => absurd z (by decide))
    show DayO (wishOf v3)
    rcases day c3 with z | z
    · exact Or.inl z
    · exact Or.inr z.2
  · have c3 := (c2.resolve_left (fun z => absurd z.1 (by decide))).2
    exact key 2 (chVal 2 v3) (by omega) (fun z => absurd z (by decide)) (fun _ => day c3) (fun z => absurd z (by decide))
  · have c3 : (0 : Int32) ≤ v3 ∧ v3 ≤ 31 := (c2.resolve_right (fun z => absurd z.1 (by decide))).2
    exact key 3 (chVal 3 v3) (by omega) (fun z => absurd z (by decide)) (fun z => absurd z (by decide)) (fun _ => i_nat (N := 32) (by decide) c3.1 (Int32.lt_of_le_of_lt c3.2 (by decide)))

