/-! ===== 66.steps4 ===== -/
theorem INV.n18 {M : Mem} (h : INV M) : M.1 175 18 = nI (w_n (wv M)) ∧ M.1 8 1 = nI (w_n (wv M)) ∧ M.1 175 26 = nI (w_p (wv M)) ∧ M.1 8 4 = nI (w_p (wv M)) := by
  obtain ⟨⟨⟨n1, hn8⟩, ⟨p1, hp8⟩, h7, hL⟩, hl, hp, z1, z2, z3, z4, z5⟩ := h.1
  have e1 : wv M 8 1 = M.1 8 1 := wv_at (by decide)
  have e4 : wv M 8 4 = M.1 8 4 := wv_at (by decide)
  exact ⟨z1.trans n1, e1.symm.trans n1, z2.trans p1, e4.symm.trans p1⟩
theorem s_piece {G : GT} {M : Mem} {v1 v2 : Int32} (hI : INV M) : T_X10_piece G [.ref 0, .int v1, .int v2] M (fun r N => T_X11_piece G [.ref 175, .int v1, .int v2] N (fun r' P => r' = r ∧ INV P)) := by
  have hw := hI.1.wok
  obtain ⟨-, -, e26, e84⟩ := hI.n18
  have hp8 : w_p (wv M) ≤ 8 := hI.1.1.2.1.2
  refine t_X10_piece hw (fun c => t_X11_piece ⟨e26, hp8⟩ (fun _ => ⟨rfl, hI⟩) (fun z => absurd z c) (fun z => absurd z c)) (fun c c2 => t_X11_piece ⟨e26, hp8⟩ (fun z => absurd c z) (fun _ _ => ⟨rfl, hI⟩) (fun _ z => absurd z (by omega))) (fun c c2 => t_X11_piece (n := w_p (wv M)) ⟨?_, hp8⟩ (fun z => absurd c z) (fun _ z => absurd z (by omega)) (fun _ _ => ⟨rfl, ?_⟩))
  · unfold c_begin
    rw [mi_off (by omega), mi_off (by omega), mi_off (by omega), mi_off (by omega), mi_off (by omega), mi_off (by omega)]
    exact e26
  · obtain ⟨⟨⟨n1, hn8⟩, ⟨p1, -⟩, h7, hL⟩, hl, hp, z1, z2, z3, z4, z5⟩ := hI.1
    generalize w_p (wv M) = p at *
    unfold c_begin z_lay
    generalize hP : (m_i (m_i (m_i (m_i (m_i (m_i (m_i (m_i (m_i (m_i (m_i (m_i M (52 + p) 0 v1) (52 + p) 1 (-6)) (52 + p) 2 (-6)) (52 + p) 3 v2) (52 + p) 4 (-6)) 8 4 (nI (p + 1))) 189 p v1) 190 p (-6)) 191 p (-6)) 192 p v2) 193 p (-6)) 175 26 (nI (p + 1))) = P
    have g : ∀ c k, ¬ ((c = 52 + p ∧ k < 5) ∨ (c = 8 ∧ k = 4) ∨ (189 ≤ c ∧ c ≤ 193 ∧ k = p) ∨ (c = 175 ∧ k = 26)) → P.1 c k = M.1 c k := fun c k hc => by
      rw [← hP, m_i_ne (by omega), m_i_ne (by omega), m_i_ne (by omega), m_i_ne (by omega), m_i_ne (by omega), m_i_ne (by omega), m_i_ne (by omega), m_i_ne (by omega), m_i_ne (by omega), m_i_ne (by omega), m_i_ne (by omega), m_i_ne (by omega)]
    have b0 : P.1 (52 + p) 0 = v1 := by
      rw [← hP, m_i_ne (by omega), m_i_ne (by omega), m_i_ne (by omega), m_i_ne (by omega), m_i_ne (by omega), m_i_ne (by omega), m_i_ne (by omega), m_i_ne (by omega), m_i_ne (by omega), m_i_ne (by omega), m_i_ne (by omega), m_i_at]
    have b1 : P.1 (52 + p) 1 = -6 := by
      rw [← hP, m_i_ne (by omega), m_i_ne (by omega), m_i_ne (by omega), m_i_ne (by omega), m_i_ne (by omega), m_i_ne (by omega), m_i_ne (by omega), m_i_ne (by omega), m_i_ne (by omega), m_i_ne (by omega), m_i_at]
    have b2 : P.1 (52 + p) 2 = -6 := by
      rw [← hP, m_i_ne (by omega), m_i_ne (by omega), m_i_ne (by omega), m_i_ne (by omega), m_i_ne (by omega), m_i_ne (by omega), m_i_ne (by omega), m_i_ne (by omega), m_i_ne (by omega), m_i_at]
    have b3 : P.1 (52 + p) 3 = v2 := by
      rw [← hP, m_i_ne (by omega), m_i_ne (by omega), m_i_ne (by omega), m_i_ne (by omega), m_i_ne (by omega), m_i_ne (by omega), m_i_ne (by omega), m_i_ne (by omega), m_i_at]
    have b4 : P.1 (52 + p) 4 = -6 := by
      rw [← hP, m_i_ne (by omega), m_i_ne (by omega), m_i_ne (by omega), m_i_ne (by omega), m_i_ne (by omega), m_i_ne (by omega), m_i_ne (by omega), m_i_at]
    have b8 : P.1 8 4 = nI (p + 1) := by
      rw [← hP, m_i_ne (by omega), m_i_ne (by omega), m_i_ne (by omega), m_i_ne (by omega), m_i_ne (by omega), m_i_ne (by omega), m_i_at]
    have y0 : P.1 189 p = v1 := by
      rw [← hP, m_i_ne (by omega), m_i_ne (by omega), m_i_ne (by omega), m_i_ne (by omega), m_i_ne (by omega), m_i_at]
    have y1 : P.1 190 p = -6 := by
      rw [← hP, m_i_ne (by omega), m_i_ne (by omega), m_i_ne (by omega), m_i_ne (by omega), m_i_at]
    have y2 : P.1 191 p = -6 := by
      rw [← hP, m_i_ne (by omega), m_i_ne (by omega), m_i_ne (by omega), m_i_at]
    have y3 : P.1 192 p = v2 := by
      rw [← hP, m_i_ne (by omega), m_i_ne (by omega), m_i_at]
    have y4 : P.1 193 p = -6 := by
      rw [← hP, m_i_ne (by omega), m_i_at]
    have yp : P.1 175 26 = nI (p + 1) := by
      rw [← hP, m_i_at]
    clear hP
    have gf : ∀ c, ¬ (c = 52 + p ∨ c = 8 ∨ (189 ≤ c ∧ c ≤ 193) ∨ c = 175) → P.1 c = M.1 c := fun c hc => by funext k; exact g c k (by omega)
    have e : ∀ c k, c < 60 → ¬ c = 52 + p → ¬ (c = 8 ∧ k = 4) → wv P c k = wv M c k := fun c k hc hq h8 => by
      rw [wv_at (by omega), wv_at (by omega), g c k (by omega)]
    refine hI.keep (Tells_gen (n := w_n (wv M)) (p := p + 1) ?_ hn8 ?_ (by omega) ?_ ?_ (fun l hl' => LW_same (hl l hl') (fun d h1 h2 => ?_) (fun c hc => by rw [gf c (by omega)]) (fun k _ => by rw [gf 180 (by omega), gf 181 (by omega)]; exact ⟨rfl, rfl⟩)) (fun q hq => ?_) ?_ ?_ ?_ ?_ ?_) (g 175 19 (by omega)) (g 175 20 (by omega)) (hI.pd (by rw [gf 1 (by omega)]) (gf 2 (by omega)) (g 175 1 (by omega)) (gf 176 (by omega))) (fun c hc => gf c (by omega))
    · rw [e 8 1 (by omega) (by omega) (by omega), n1]
    · rw [wv_at (by omega), b8]
    · rw [e 8 7 (by omega) (by omega) (by omega)]; exact h7
    · have e50 : wv P 50 = wv M 50 := by funext k; exact e 50 k (by omega) (by omega) (by omega)
      rw [e50]
      exact LfTo_congr hn8 (fun l hl' => (e _ 0 (by omega) (by omega) (by omega)).symm) hL
    · funext k; exact e d k (by omega) (by omega) (by omega)
    · by_cases z : q = p
      · subst z
        have w : ∀ k, wv P (52 + q) k = P.1 (52 + q) k := fun k => wv_at (by omega)
        unfold PCw PW BOk
        rw [w, w, w, w, w, b0, b1, b2, b3, b4, y0, y1, y2, y3, y4]
        exact ⟨⟨day_is c.1.1 c.1.2, Or.inl rfl, Or.inl rfl, i_nat (N := 32) (by decide) c.2.1 (Int32.lt_of_le_of_lt c.2.2 (by decide))⟩, ⟨rfl, rfl, rfl, rfl, rfl⟩, Or.inl rfl⟩
      · refine PCw_same (hp q (by omega)) ?_ (fun c hc => g c q (by omega))
        funext k; exact e _ k (by omega) (by omega) (by omega)
    · rw [g 175 18 (by omega), e 8 1 (by omega) (by omega) (by omega)]; exact z1
    · rw [yp, wv_at (by omega), b8]
    · rw [g 175 27 (by omega), e 8 5 (by omega) (by omega) (by omega)]; exact z3
    · rw [g 175 28 (by omega), e 8 6 (by omega) (by omega) (by omega)]; exact z4
    · rw [g 175 29 (by omega), e 8 7 (by omega) (by omega) (by omega)]; exact z5
theorem s_move {G : GT} {M : Mem} {v1 v2 v3 : Int32} (hI : INV M) : T_X10_move G [.ref 0, .int v1, .int v2, .int v3] M (fun r N => T_X11_move G [.ref 175, .int v1, .int v2, .int v3] N (fun r' P => r' = r ∧ INV P)) := by
  have hw := hI.1.wok
  have rg : RG (wv M) M := hI.1.rg hI.2.1.1
  refine t_X10_move hw (fun c => t_X11_move rg (fun _ => ⟨rfl, hI⟩) (fun z => absurd z c) (fun z => absurd z c)) (fun c c2 => t_X11_move rg (fun z => absurd c z) (fun _ _ => ⟨rfl, hI⟩) (fun _ z => absurd z c2)) (fun c c2 N hN => ?_)
  obtain ⟨i1, i2, i3⟩ := lw_ix hw c
  obtain ⟨m1, m2, m3⟩ := hN
  have m1 : ∀ d, ¬ d = 50 → N.1 d = (m_i M (10 + 5 * Int32.toNatClampNeg v1) (Int32.toNatClampNeg v2) v3).1 d := m1
  refine t_X11_move (W := wv M) (hI.rg2 (fun d hd => by rw [m1 d (by omega), mi_off (by omega)])) (fun z => absurd c z) (fun _ z => absurd c2 z) (fun _ _ => ⟨rfl, ?_⟩)
  have c2 : mvOk (wv M) (10 + 5 * Int32.toNatClampNeg v1) v2 v3 := c2
  obtain ⟨⟨⟨n1, hn8⟩, ⟨p1, hp8⟩, h7, hL⟩, hl, hp, z1, z2, z3, z4, z5⟩ := hI.1
  generalize Int32.toNatClampNeg v1 = l0 at *
  have hk : Int32.toNatClampNeg v2 < 2 := by
    rcases c2 with z | z
    · rw [z.1]; decide
    · rw [z.1]; decide
  have g : ∀ c k, ¬ ((c = 10 + 5 * l0 ∧ k = Int32.toNatClampNeg v2) ∨ c = 50 ∨ (c = 177 + Int32.toNatClampNeg v2 ∧ k = l0)) → (m_i N (177 + Int32.toNatClampNeg v2) l0 v3).1 c k = M.1 c k := fun c k hc => by
    rw [m_i_ne (by omega), m1 c (by omega), m_i_ne (by omega)]
  have a0 : (m_i N (177 + Int32.toNatClampNeg v2) l0 v3).1 (10 + 5 * l0) (Int32.toNatClampNeg v2) = v3 := by
    rw [m_i_ne (by omega), m1 _ (by omega), m_i_at]
  have a1 : (m_i N (177 + Int32.toNatClampNeg v2) l0 v3).1 (177 + Int32.toNatClampNeg v2) l0 = v3 := m_i_at
  have aN : ∀ c, c < 60 → (m_i N (177 + Int32.toNatClampNeg v2) l0 v3).1 c = N.1 c := fun c hc => mi_off (by omega)
  generalize hP : m_i N (177 + Int32.toNatClampNeg v2) l0 v3 = P at *
  have gf : ∀ c, ¬ (c = 10 + 5 * l0 ∨ c = 50 ∨ c = 177 ∨ c = 178) → P.1 c = M.1 c := fun c hc => by funext k; exact g c k (by omega)
  have e : ∀ c k, c < 60 → ¬ (c = 10 + 5 * l0 ∧ k = Int32.toNatClampNeg v2) → ¬ c = 50 → wv P c k = wv M c k := fun c k hc hq h8 => by
    rw [wv_at (by omega), wv_at (by omega), g c k (by omega)]
  refine hI.keep (Tells_gen (n := w_n (wv M)) (p := w_p (wv M)) ?_ hn8 ?_ hp8 ?_ ?_ (fun l hl' => ?_) (fun q hq => PCw_same (hp q hq) ?_ (fun c hc => by rw [gf c (by omega)])) ?_ ?_ ?_ ?_ ?_) (by rw [gf 175 (by omega)]) (by rw [gf 175 (by omega)]) (hI.pd (by rw [gf 1 (by omega)]) (gf 2 (by omega)) (by rw [gf 175 (by omega)]) (gf 176 (by omega))) (fun c hc => gf c (by omega))
  · rw [e 8 1 (by omega) (by omega) (by omega), n1]
  · rw [e 8 4 (by omega) (by omega) (by omega), p1]
  · rw [e 8 7 (by omega) (by omega) (by omega)]; exact h7
  · have e50 : wv P 50 = N.1 50 := by
      funext k
      rw [wv_at (by omega), aN 50 (by omega)]
    rw [e50]
    exact LfTo_congr hn8 (fun l hl' => by rw [wv_at (by omega), aN _ (by omega)]) m3
  · by_cases z : l = l0
    · subst z
      have hW := hl l hl'
      obtain ⟨⟨f0, f1, -⟩, -, -, ⟨y0, y1, -⟩, -⟩ := id hW
      have ek : ∀ k, ¬ k = Int32.toNatClampNeg v2 → wv P (10 + 5 * l) k = wv M (10 + 5 * l) k := fun k hk => e _ k (by omega) (by omega) (by omega)
      have ea : wv P (10 + 5 * l) (Int32.toNatClampNeg v2) = v3 := by rw [wv_at (by omega), a0]
      have eo : ∀ d, 10 + 5 * l < d → d ≤ 10 + 5 * l + 4 → wv P d = wv M d := fun d h1 h2 => by funext k; exact e d k (by omega) (by omega) (by omega)
      have hTx : TxEq (wv P) (10 + 5 * l) (wv M) (10 + 5 * l) := by
        unfold TxEq
        rw [ek 2 (by omega), ek 7 (by omega), ek 8 (by omega), ek 9 (by omega), ek 10 (by omega), ek 11 (by omega), ek 12 (by omega), ek 13 (by omega), ek 14 (by omega), eo (10 + 5 * l + 1) (by omega) (by omega), eo (10 + 5 * l + 2) (by omega) (by omega), eo (10 + 5 * l + 3) (by omega) (by omega), eo (10 + 5 * l + 4) (by omega) (by omega)]
        exact LwEq.rf.1
      have ez : ∀ c, c = 179 ∨ (182 ≤ c ∧ c ≤ 188) → P.1 c l = M.1 c l := fun c hc => by rw [gf c (by omega)]
      have ez2 : ∀ k, k < 6 → P.1 180 (6 * l + k) = M.1 180 (6 * l + k) ∧ P.1 181 (6 * l + k) = M.1 181 (6 * l + k) := fun k _ => by
        rw [gf 180 (by omega), gf 181 (by omega)]; exact ⟨rfl, rfl⟩
      obtain ⟨b, hb, eb⟩ := f1
      obtain ⟨a, ha, eaa⟩ := f0
      rcases c2 with ⟨rfl, c3, c4⟩ | ⟨rfl, c3, c4⟩
      · have z0 : Int32.toNatClampNeg (0 : Int32) = 0 := by decide
        rw [z0] at ea a1 ek
        have e1 := ek 1 (by omega)
        have x1 : P.1 178 l = M.1 178 l := g 178 l (by rw [z0]; omega)
        refine LW_tx hW hTx ?_ ?_ ?_ ?_ ez ez2
        · rw [ea]
          rw [eb] at c4
          obtain ⟨j, hj, ej⟩ := i_le1 c3 c4 (by omega)
          exact ⟨j, by omega, ej⟩
        · rw [e1]; exact ⟨b, hb, eb⟩
        · rw [ea]; exact a1
        · rw [e1, x1]; exact y1
      · have z0 : Int32.toNatClampNeg (1 : Int32) = 1 := by decide
        rw [z0] at ea a1 ek
        have e0 := ek 0 (by omega)
        have x0 : P.1 177 l = M.1 177 l := g 177 l (by rw [z0]; omega)
        refine LW_tx hW hTx ?_ ?_ ?_ ?_ ez ez2
        · rw [e0]; exact ⟨a, ha, eaa⟩
        · rw [ea]
          rw [eaa, nI_1] at c3
          obtain ⟨j, hj, ej⟩ := i_nat (x := v3) (N := 101) (by decide) (Int32.le_trans (nI_pos' (by omega)) c3) (Int32.lt_of_le_of_lt c4 (by decide))
          rw [ej, nI_leI (by omega) (by omega)] at c3
          exact ⟨j, by omega, ej⟩
        · rw [e0, x0]; exact y0
        · rw [ea]; exact a1
    · refine LW_same (hl l hl') (fun d h1 h2 => ?_) (fun c hc => g c l (by omega)) (fun k _ => by rw [gf 180 (by omega), gf 181 (by omega)]; exact ⟨rfl, rfl⟩)
      funext k; exact e d k (by omega) (by omega) (by omega)
  · funext k; exact e _ k (by omega) (by omega) (by omega)
  · rw [gf 175 (by omega), e 8 1 (by omega) (by omega) (by omega)]; exact z1
  · rw [gf 175 (by omega), e 8 4 (by omega) (by omega) (by omega)]; exact z2
  · rw [gf 175 (by omega), e 8 5 (by omega) (by omega) (by omega)]; exact z3
  · rw [gf 175 (by omega), e 8 6 (by omega) (by omega) (by omega)]; exact z4
  · rw [gf 175 (by omega), e 8 7 (by omega) (by omega) (by omega)]; exact z5

