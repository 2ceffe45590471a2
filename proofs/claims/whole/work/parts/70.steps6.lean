/-! ===== 70.steps6 ===== -/
/-- a reading of the pad changes nothing that holds -/
theorem INV.txt {M N P : Mem} (hI : INV M) (f : ∀ c, ¬ (c = 1 ∨ (3 ≤ c ∧ c ≤ 7)) → N.1 c = M.1 c) (e1 : N.1 1 1 = M.1 1 1) (z : ZFr N P) : INV P := by
  have hT := hI.1
  have hn8 := hT.1.1.2
  have hp8 := hT.1.2.1.2
  have g : ∀ c, ¬ (c = 1 ∨ (3 ≤ c ∧ c ≤ 7) ∨ c = 175) → P.1 c = M.1 c := fun c hc => by rw [z.1 c (by omega), f c (by omega)]
  have g5 : ∀ k, ¬ (k = 2 ∨ k = 3 ∨ k = 4 ∨ k = 5) → P.1 175 k = M.1 175 k := fun k hk => by rw [z.2.1 k hk, f 175 (by omega)]
  refine hI.keep (Tells_eq hT (fun k _ => ?_) (fun i _ => ?_) (fun l _ => LwEq.same (fun d h1 h2 => ?_)) (fun p _ k _ => ?_) (fun c k hc => ?_)) (g5 19 (by decide)) (g5 20 (by decide)) (hI.pd ?_ ?_ ?_ ?_) (fun c hc => g c (by omega))
  · rw [wv_at (by omega), wv_at (by omega), g 8 (by omega)]
  · rw [wv_at (by omega), wv_at (by omega), g 50 (by omega)]
  · rw [wv_fun (by omega), wv_fun (by omega), g d (by omega)]
  · rw [wv_at (by omega), wv_at (by omega), g _ (by omega)]
  · unfold PkR at hc
    by_cases a : c = 175
    · subst a; exact g5 k (by omega)
    · rw [g c (by omega)]
  · rw [z.1 1 (by omega), e1]
  · rw [g 2 (by omega)]
  · rw [g5 1 (by decide)]
  · rw [g 176 (by omega)]
theorem s_fault {G : GT} {M : Mem} (hI : INV M) : T_X10_fault G [.ref 0] M (fun r N => T_X11_fault G [.ref 175] N (fun r' P => r' = r ∧ INV P)) := by
  obtain ⟨-, -, ⟨n, hn, e1, e2, e3⟩, -⟩ := id hI
  refine t_X10_fault (E := (M, n, M.1 175 4, fun _ => 0, fun _ => 0)) ⟨rfl, e1, hn⟩ (fun r N g => ?_)
  have hf : ∀ c, ¬ (c = 1 ∨ (3 ≤ c ∧ c ≤ 7)) → N.1 c = M.1 c := g.1.2.1
  have h1 : N.1 1 1 = M.1 1 1 := g.1.1.trans e1.symm
  have hc : FltR (M.1 2) (M.1 175 4) n r := g.flt
  have k1 : N.1 175 1 = nI n := by rw [hf 175 (by omega), e2]
  refine t_X11_fault ⟨n, hn, k1⟩ (fun r' P z => ⟨?_, hI.txt hf h1 z.1⟩)
  have h2 := z.2
  rw [k1, ix_nI (by omega), hf 176 (by omega), hf 175 (by omega), ← e3] at h2
  exact h2.one hn hc
/-- the law that a text becomes -/
theorem LW_txt {E : ET} {D : Mem} {V Z : WT} {l : Nat} (hG : Good E D) (hTx : TxEq V (10 + 5 * l) D.1 3) (a0 : ∃ a, a < 100 ∧ V (10 + 5 * l) 0 = nI a) (b0 : ∃ b, (1 ≤ b ∧ b ≤ 100) ∧ V (10 + 5 * l) 1 = nI b) (z0 : Z 177 l = V (10 + 5 * l) 0) (z1 : Z 178 l = V (10 + 5 * l) 1) (z9 : Z 179 l = nI ((t_a E E.2.1).1.1 + (if (q_a E E.2.1).2.2.2.2 = 0 then 1 else 0))) (z80 : ∀ j, j < 6 → Z 180 (6 * l + j) = (t_a E E.2.1).1.2.1 j ∧ Z 181 (6 * l + j) = (t_a E E.2.1).1.2.2.1 j) (zw : WZ Z l (t_a E E.2.1).2) : LW V Z l ∧ D.1 3 2 = Z 179 l := by
  obtain ⟨-, -, k, hk, ek, hC, hW, hL, hFit⟩ := hG
  rw [← ek] at z9
  have hCs : CasesW D.1 3 := ⟨k, hk, hC.1, fun i hi => ⟨(hC.2 i hi).1, (hC.2 i hi).2.1⟩⟩
  obtain ⟨w1, w2, w3, w4, w5, w6, w7, w8⟩ := hW
  have hLT : LawT D.1 3 := by
    unfold LawT
    rw [w1, w2, w4, w5, w6, w7]
    exact hL
  obtain ⟨⟨e2, e7, e8, e9, e10, e11, e12, e13, e14⟩, ec, -⟩ := id hTx
  obtain ⟨y1, y2, y3, y4, y5, y6, y7⟩ := zw
  refine ⟨⟨⟨a0, b0, CasesW_eq hCs hTx, FitW_eq hCs hFit hTx⟩, LawT_eq hLT hTx, ?_, ?_, fun j hj => ?_⟩, ?_⟩
  · rw [e9, e7, w3, w1]
  · rw [e2, e7, e8, e10, e11, e12, e13, e14, hC.1, w1, w2, w4, w5, w6, w7, w8]
    exact ⟨z0, z1, z9, y1, y2, y3, y4, y5, y6, y7⟩
  · rw [e2, hC.1, ix_nI (by omega)] at hj
    obtain ⟨-, -, c3, c4⟩ := hC.2 j hj
    rw [(z80 j (by omega)).1, (z80 j (by omega)).2, (ec j (by omega)).1, (ec j (by omega)).2, c3, c4]
    exact ⟨rfl, rfl⟩
  · rw [hC.1, z9]
theorem s_law {G : GT} {M : Mem} {v1 v2 : Int32} (hI : INV M) : T_X10_law G [.ref 0, .int v1, .int v2] M (fun r N => T_X11_law G [.ref 175, .int v1, .int v2] N (fun r' P => r' = r ∧ INV P)) := by
  obtain ⟨-, -, ⟨t, ht, e1, e2, e3⟩, -⟩ := id hI
  obtain ⟨e18, e81, e26, e84⟩ := hI.n18
  have hn8 : w_n (wv M) ≤ 8 := hI.1.1.1.2
  generalize hnn : w_n (wv M) = n at *
  have hEn : InPre (M, t, M.1 175 4, (fun j => M.1 180 (6 * n + j)), (fun j => M.1 181 (6 * n + j))) M := ⟨rfl, e1, ht⟩
  have m0 : ∀ {N : Mem} {r : Int32}, InOut (M, t, M.1 175 4, (fun j => M.1 180 (6 * n + j)), (fun j => M.1 181 (6 * n + j))) N r → (∀ c, ¬ (c = 1 ∨ (3 ≤ c ∧ c ≤ 7)) → N.1 c = M.1 c) ∧ N.1 1 1 = M.1 1 1 ∧ FltR (M.1 176) (M.1 175 4) t r := by
    intro N r g
    have h2 : FltR (M.1 2) (M.1 175 4) t r := g.flt
    rw [e3] at h2
    exact ⟨g.1.2.1, g.1.1.trans e1.symm, h2⟩
  refine t_X10_law (n := n) hEn ⟨e81, hn8⟩ (fun c => t_X11_law (n := n) ⟨ht, e2⟩ ⟨e18, hn8⟩ (fun _ => ⟨rfl, hI⟩) (fun z => absurd z c) (fun z => absurd z c) (fun z => absurd z c)) (fun c r N g hr => ?_) (fun c N g h8 => ?_) (fun c N g h8 P hP => ?_)
  · obtain ⟨f, f1, fl⟩ := m0 g
    have h175 := f 175 (by omega)
    have h176 := f 176 (by omega)
    have k1 : N.1 175 1 = nI t := by rw [h175, e2]
    have k18 : N.1 175 18 = nI n := by rw [h175, e18]
    refine t_X11_law (n := n) ⟨ht, k1⟩ ⟨k18, hn8⟩ (fun z => absurd c z) (fun _ r' P zF _ _ => ⟨rfl, hI.txt f f1 zF⟩) (fun _ P _ zR => ?_) (fun _ P _ zR => ?_)
    · rw [h176, h175] at zR
      exact absurd (fl.one ht zR) hr
    · rw [h176, h175] at zR
      exact absurd (fl.one ht zR) hr
  · obtain ⟨f, f1, fl⟩ := m0 g
    have h175 := f 175 (by omega)
    have h176 := f 176 (by omega)
    have k1 : N.1 175 1 = nI t := by rw [h175, e2]
    have k18 : N.1 175 18 = nI n := by rw [h175, e18]
    refine t_X11_law (n := n) ⟨ht, k1⟩ ⟨k18, hn8⟩ (fun z => absurd c z) (fun _ r' P _ zR hr => ?_) (fun _ P zF _ _ => ⟨rfl, hI.txt f f1 zF⟩) (fun _ P _ _ z => absurd z (by omega))
    rw [h176, h175] at zR
    exact absurd (zR.one ht fl) hr
  · obtain ⟨f, f1, fl⟩ := m0 g
    obtain ⟨a1, a2, a3, a4, a5, a6, a7, a8⟩ := hP
    have fP : ∀ c, ¬ (c = 1 ∨ (3 ≤ c ∧ c ≤ 8) ∨ c = 50 ∨ (10 + 5 * n ≤ c ∧ c ≤ 14 + 5 * n)) → P.1 c = M.1 c := fun c hc => by
      rw [a1 c (by omega), mi_off (by omega), f c (by omega)]
    have h175 := fP 175 (by omega)
    have h176 := fP 176 (by omega)
    have k1 : P.1 175 1 = nI t := by rw [h175, e2]
    have k18 : P.1 175 18 = nI n := by rw [h175, e18]
    refine t_X11_law (n := n) ⟨ht, k1⟩ ⟨k18, hn8⟩ (fun z => absurd c z) (fun _ r' P' _ zR hr => ?_) (fun _ P' _ _ z => absurd z (by omega)) (fun _ N' zF zR _ Q hQ => ⟨rfl, ?_⟩)
    · rw [h176, h175] at zR
      exact absurd (zR.one ht fl) hr
    · obtain ⟨⟨b1, b2, b3, b4, b5⟩, b6, b7, b8, b9⟩ := hQ
      obtain ⟨⟨⟨n1, -⟩, ⟨p1, hp8⟩, h7, hLf⟩, hl, hp, z1, z2, z3, z4, z5⟩ := hI.1
      rw [hnn] at n1 hl hLf
      -- ahead of the laying
      have y : ∀ c, ¬ (c = 175 ∨ c = 177 ∨ c = 178) → (m_i (m_i N' 177 n v1) 178 n v2).1 c = P.1 c := fun c hc => by
        rw [mi_off (by omega), mi_off (by omega), zF.1 c (by omega)]
      have y175 : ∀ k, ¬ (k = 2 ∨ k = 3 ∨ k = 4 ∨ k = 5) → (m_i (m_i N' 177 n v1) 178 n v2).1 175 k = M.1 175 k := fun k hk => by
        rw [mi_off (by omega), mi_off (by omega), zF.2.1 k hk, h175]
      have y177 : ∀ k, ¬ k = n → (m_i (m_i N' 177 n v1) 178 n v2).1 177 k = M.1 177 k := fun k hk => by
        rw [mi_off (by omega), m_i_ne (by omega), zF.1 177 (by omega), fP 177 (by omega)]
      have y178 : ∀ k, ¬ k = n → (m_i (m_i N' 177 n v1) 178 n v2).1 178 k = M.1 178 k := fun k hk => by
        rw [m_i_ne (by omega), mi_off (by omega), zF.1 178 (by omega), fP 178 (by omega)]
      have y177n : (m_i (m_i N' 177 n v1) 178 n v2).1 177 n = v1 := by rw [mi_off (by omega), m_i_at]
      have y178n : (m_i (m_i N' 177 n v1) 178 n v2).1 178 n = v2 := m_i_at
      have tE : tL (m_i (m_i N' 177 n v1) 178 n v2) n t = t_a (M, t, M.1 175 4, (fun j => M.1 180 (6 * n + j)), (fun j => M.1 181 (6 * n + j))) t := by
        show t_at _ _ _ _ t = t_at (M.1 2) (M.1 175 4) (fun j => M.1 180 (6 * n + j)) (fun j => M.1 181 (6 * n + j)) t
        rw [y 176 (by omega), y 180 (by omega), y 181 (by omega), fP 176 (by omega), fP 180 (by omega), fP 181 (by omega), e3]
        exact t_sim _ _ _ _ _ _
      have qE : (qL (m_i (m_i N' 177 n v1) 178 n v2) t).2.2.2.2 = (q_a (M, t, M.1 175 4, (fun j => M.1 180 (6 * n + j)), (fun j => M.1 181 (6 * n + j))) t).2.2.2.2 := by
        show (q_at _ _ t).2.2.2.2 = (q_at (M.1 2) (M.1 175 4) t).2.2.2.2
        rw [y 176 (by omega), fP 176 (by omega), e3]
        exact (qs_at _ _ _ t).2.2.2.1
      rw [tE] at b7 b8 b9
      rw [qE] at b7
      generalize hU : m_i (m_i N' 177 n v1) 178 n v2 = U at *
      generalize hF : m_i Q 175 18 (nI (n + 1)) = F
      have F1 : ∀ c, ¬ c = 175 → F.1 c = Q.1 c := fun c hc => by rw [← hF, mi_off hc]
      have F5 : ∀ k, ¬ k = 18 → F.1 175 k = Q.1 175 k := fun k hk => by rw [← hF, m_i_ne (by omega)]
      have F18 : F.1 175 18 = nI (n + 1) := by rw [← hF, m_i_at]
      have lo : ∀ c, c < 175 → F.1 c = P.1 c := fun c hc => by rw [F1 c (by omega), b1 c (by omega), y c (by omega)]
      have oth : ∀ c, ¬ (c = 1 ∨ (3 ≤ c ∧ c ≤ 8) ∨ c = 50 ∨ (10 + 5 * n ≤ c ∧ c ≤ 14 + 5 * n) ∨ c = 175 ∨ (177 ≤ c ∧ c ≤ 188)) → F.1 c = M.1 c := fun c hc => by
        rw [F1 c (by omega), b1 c (by omega), y c (by omega), fP c (by omega)]
      have k175 : ∀ k, ¬ (1 ≤ k ∧ k ≤ 5) → ¬ k = 18 → F.1 175 k = M.1 175 k := fun k h1 h2 => by
        rw [F5 k h2, b4 k h1, y175 k (by omega)]
      have lc : ∀ c j, (177 ≤ c ∧ c ≤ 188) → ¬ (c = 180 ∨ c = 181) → ¬ j = n → F.1 c j = M.1 c j := fun c j h1 h2 h3 => by
        rw [F1 c (by omega)]
        by_cases q : c = 177
        · rw [q, b1 177 (by omega), y177 j h3]
        · by_cases q2 : c = 178
          · rw [q2, b1 178 (by omega), y178 j h3]
          · rw [b2 c j (by omega) h3, y c (by omega), fP c (by omega)]
      have lc2 : ∀ c j, (c = 180 ∨ c = 181) → ¬ (6 * n ≤ j ∧ j < 6 * n + 6) → F.1 c j = M.1 c j := fun c j h1 h2 => by
        rw [F1 c (by omega), b3 c j h1 h2, y c (by omega), fP c (by omega)]
      have w8 : ∀ k, ¬ k = 1 → wv F 8 k = wv M 8 k := fun k hk => by
        rw [wv_at (by omega), wv_at (by omega), lo 8 (by omega), a3 k hk, mi_off (by omega), f 8 (by omega)]
      have w81 : wv F 8 1 = nI (n + 1) := by rw [wv_at (by omega), lo 8 (by omega), a2]
      have hG : Good (M, t, M.1 175 4, (fun j => M.1 180 (6 * n + j)), (fun j => M.1 181 (6 * n + j))) N := g.good ht
      refine hI.keep (Tells_gen (n := n + 1) (p := w_p (wv M)) w81 (by omega) ?_ hp8 ?_ ?_ (fun l hl' => ?_) (fun q hq => PCw_same (hp q hq) ?_ (fun c hc => by rw [oth c (by omega)])) ?_ ?_ ?_ ?_ ?_) (k175 19 (by omega) (by omega)) (k175 20 (by omega) (by omega)) ⟨0, by omega, ?_, ?_, ?_⟩ (fun c hc => oth c (by omega))
      · rw [w8 4 (by omega), p1]
      · rw [w8 7 (by omega)]; exact h7
      · rw [wv_fun (by omega), lo 50 (by omega)]
        exact LfTo_congr (by omega) (fun l hl' => by rw [wv_at (by omega), lo _ (by omega)]) a8
      · by_cases q : l = n
        · subst q
          have hTx : TxEq (wv F) (10 + 5 * l) N.1 3 := by
            have h1 := TxEq_congr2 (W2 := N.1) a5 (fun d h1 h2 => (mi_off (by omega)).symm)
            exact TxEq_congr h1 (fun d h1 h2 => by rw [wv_fun (by omega), lo d (by omega)])
          have v0 : wv F (10 + 5 * l) 0 = v1 := by rw [wv_at (by omega), lo _ (by omega), a6]
          have v1' : wv F (10 + 5 * l) 1 = v2 := by rw [wv_at (by omega), lo _ (by omega), a7]
          refine (LW_txt hG hTx ?_ ?_ ?_ ?_ ?_ (fun j hj => ?_) ?_).1
          · rw [v0]; exact day_is c.1.1 c.1.2
          · rw [v1']
            obtain ⟨a, ha, ea⟩ := day_is c.1.1 c.1.2
            have c3 := c.2.1
            rw [ea, nI_1] at c3
            obtain ⟨j, hj, ej⟩ := i_nat (x := v2) (N := 101) (by decide) (Int32.le_trans (nI_pos' (by omega)) c3) (Int32.lt_of_le_of_lt c.2.2 (by decide))
            rw [ej, nI_leI (by omega) (by omega)] at c3
            exact ⟨j, by omega, ej⟩
          · rw [v0, F1 177 (by omega), b1 177 (by omega), y177n]
          · rw [v1', F1 178 (by omega), b1 178 (by omega), y178n]
          · rw [F1 179 (by omega)]; exact b7
          · rw [F1 180 (by omega), F1 181 (by omega)]; exact b8 j hj
          · unfold WZ at b9 ⊢
            rw [F1 182 (by omega), F1 183 (by omega), F1 184 (by omega), F1 185 (by omega), F1 186 (by omega), F1 187 (by omega), F1 188 (by omega)]
            exact b9
        · refine LW_same (hl l (by omega)) (fun d h1 h2 => ?_) (fun c hc => lc c l (by omega) (by omega) q) (fun k _ => ⟨lc2 180 _ (by omega) (by omega), lc2 181 _ (by omega) (by omega)⟩)
          rw [wv_fun (by omega), wv_fun (by omega), oth d (by omega)]
      · rw [wv_fun (by omega), wv_fun (by omega), oth _ (by omega)]
      · rw [F18, w81]
      · rw [k175 26 (by omega) (by omega), w8 4 (by omega)]; exact z2
      · rw [k175 27 (by omega) (by omega), w8 5 (by omega)]; exact z3
      · rw [k175 28 (by omega) (by omega), w8 6 (by omega)]; exact z4
      · rw [k175 29 (by omega) (by omega), w8 7 (by omega)]; exact z5
      · rw [lo 1 (by omega), a1 1 (by omega), m_i_at]; rfl
      · rw [F5 1 (by omega), b6]; rfl
      · rw [oth 2 (by omega), oth 176 (by omega), e3]
theorem s_anew {G : GT} {M : Mem} {v1 : Int32} (hI : INV M) : T_X10_anew G [.ref 0, .int v1] M (fun r N => T_X11_anew G [.ref 175, .int v1] N (fun r' P => r' = r ∧ INV P)) := by
  obtain ⟨-, -, ⟨t, ht, e1, e2, e3⟩, -⟩ := id hI
  have hw := hI.1.wok
  have rg : RG (wv M) M := hI.1.rg hI.2.1.1
  obtain ⟨n, hnn⟩ : ∃ n, n = Int32.toNatClampNeg v1 := ⟨_, rfl⟩
  have hEn : InPre (M, t, M.1 175 4, (fun j => M.1 180 (6 * n + j)), (fun j => M.1 181 (6 * n + j))) M := ⟨rfl, e1, ht⟩
  have m0 : ∀ {N : Mem} {r : Int32}, InOut (M, t, M.1 175 4, (fun j => M.1 180 (6 * n + j)), (fun j => M.1 181 (6 * n + j))) N r → (∀ c, ¬ (c = 1 ∨ (3 ≤ c ∧ c ≤ 7)) → N.1 c = M.1 c) ∧ N.1 1 1 = M.1 1 1 ∧ FltR (M.1 176) (M.1 175 4) t r := by
    intro N r g
    have h2 : FltR (M.1 2) (M.1 175 4) t r := g.flt
    rw [e3] at h2
    exact ⟨g.1.2.1, g.1.1.trans e1.symm, h2⟩
  refine t_X10_anew hw hEn (fun c => t_X11_anew (W := wv M) rg ⟨ht, e2⟩ (fun _ => ⟨rfl, hI⟩) (fun z => absurd z c) (fun z => absurd z c)) (fun c r N g hr => ?_) (fun c N g P hP => ?_)
  · obtain ⟨f, f1, fl⟩ := m0 g
    have h175 := f 175 (by omega)
    have h176 := f 176 (by omega)
    have k1 : N.1 175 1 = nI t := by rw [h175, e2]
    refine t_X11_anew (W := wv M) (hI.rg2 (fun d hd => f d (by omega))) ⟨ht, k1⟩ (fun z => absurd c z) (fun _ r' P zF _ _ => ⟨rfl, hI.txt f f1 zF⟩) (fun _ P _ zR => ?_)
    rw [h176, h175] at zR
    exact absurd (fl.one ht zR) hr
  · obtain ⟨i1, i2, i3⟩ := lw_ix hw c
    rw [← hnn] at i1 i2 hP
    obtain ⟨f, f1, fl⟩ := m0 g
    obtain ⟨a1, a2, ⟨a3, a4⟩, a5⟩ := hP
    have fP : ∀ c, ¬ (c = 1 ∨ (3 ≤ c ∧ c ≤ 7) ∨ (10 + 5 * n ≤ c ∧ c ≤ 14 + 5 * n)) → P.1 c = M.1 c := fun c hc => by
      rw [a1 c (by omega), mi_off (by omega), f c (by omega)]
    have h175 := fP 175 (by omega)
    have h176 := fP 176 (by omega)
    have k1 : P.1 175 1 = nI t := by rw [h175, e2]
    refine t_X11_anew (W := wv M) (hI.rg2 (fun d hd => fP d (by omega))) ⟨ht, k1⟩ (fun z => absurd c z) (fun _ r' P' _ zR hr => ?_) (fun _ U zF zR Q hQ => ?_)
    · rw [h176, h175] at zR
      exact absurd (zR.one ht fl) hr
    · rw [← hnn] at hQ ⊢
      obtain ⟨⟨b1, b2, b3, b4, b5⟩, b6, b7, b8, b9⟩ := hQ
      obtain ⟨⟨⟨n1, hn8⟩, ⟨p1, hp8⟩, h7, hLf⟩, hl, hp, z1, z2, z3, z4, z5⟩ := hI.1
      have y : ∀ c, ¬ c = 175 → U.1 c = P.1 c := fun c hc => zF.1 c hc
      have y175 : ∀ k, ¬ (k = 2 ∨ k = 3 ∨ k = 4 ∨ k = 5) → U.1 175 k = M.1 175 k := fun k hk => by rw [zF.2.1 k hk, h175]
      have tE : tL U n t = t_a (M, t, M.1 175 4, (fun j => M.1 180 (6 * n + j)), (fun j => M.1 181 (6 * n + j))) t := by
        show t_at _ _ _ _ t = t_at (M.1 2) (M.1 175 4) (fun j => M.1 180 (6 * n + j)) (fun j => M.1 181 (6 * n + j)) t
        rw [y 176 (by omega), y 180 (by omega), y 181 (by omega), fP 176 (by omega), fP 180 (by omega), fP 181 (by omega), e3]
        exact t_sim _ _ _ _ _ _
      have qE : (qL U t).2.2.2.2 = (q_a (M, t, M.1 175 4, (fun j => M.1 180 (6 * n + j)), (fun j => M.1 181 (6 * n + j))) t).2.2.2.2 := by
        show (q_at _ _ t).2.2.2.2 = (q_at (M.1 2) (M.1 175 4) t).2.2.2.2
        rw [y 176 (by omega), fP 176 (by omega), e3]
        exact (qs_at _ _ _ t).2.2.2.1
      rw [tE] at b7 b8 b9
      rw [qE] at b7
      have lo : ∀ c, c < 175 → Q.1 c = P.1 c := fun c hc => by rw [b1 c (by omega), y c (by omega)]
      have oth : ∀ c, ¬ (c = 1 ∨ (3 ≤ c ∧ c ≤ 7) ∨ (10 + 5 * n ≤ c ∧ c ≤ 14 + 5 * n) ∨ c = 175 ∨ (179 ≤ c ∧ c ≤ 188)) → Q.1 c = M.1 c := fun c hc => by
        rw [b1 c (by omega), y c (by omega), fP c (by omega)]
      have k175 : ∀ k, ¬ (1 ≤ k ∧ k ≤ 5) → Q.1 175 k = M.1 175 k := fun k h1 => by
        rw [b4 k h1, y175 k (by omega)]
      have lc : ∀ c j, (177 ≤ c ∧ c ≤ 188) → ¬ (c = 180 ∨ c = 181) → ¬ j = n → Q.1 c j = M.1 c j := fun c j h1 h2 h3 => by
        rw [b2 c j (by omega) h3, y c (by omega), fP c (by omega)]
      have lc2 : ∀ c j, (c = 180 ∨ c = 181) → ¬ (6 * n ≤ j ∧ j < 6 * n + 6) → Q.1 c j = M.1 c j := fun c j h1 h2 => by
        rw [b3 c j h1 h2, y c (by omega), fP c (by omega)]
      have w8 : ∀ k, wv Q 8 k = wv M 8 k := fun k => by
        rw [wv_at (by omega), wv_at (by omega), oth 8 (by omega)]
      have hG : Good (M, t, M.1 175 4, (fun j => M.1 180 (6 * n + j)), (fun j => M.1 181 (6 * n + j))) N := g.good ht
      have hTx : TxEq (wv Q) (10 + 5 * n) N.1 3 := by
        have h1 := TxEq_congr2 (W2 := N.1) a2 (fun d h1 h2 => (mi_off (by omega)).symm)
        exact TxEq_congr h1 (fun d h1 h2 => by rw [wv_fun (by omega), lo d (by omega)])
      obtain ⟨⟨o0, o1, -⟩, -, -, ⟨oz0, oz1, -⟩, -⟩ := hl n i1
      have v0 : wv Q (10 + 5 * n) 0 = wv M (10 + 5 * n) 0 := by
        rw [wv_at (by omega), wv_at (by omega), lo _ (by omega), a3, mi_off (by omega), f _ (by omega)]
      have v1' : wv Q (10 + 5 * n) 1 = wv M (10 + 5 * n) 1 := by
        rw [wv_at (by omega), wv_at (by omega), lo _ (by omega), a4, mi_off (by omega), f _ (by omega)]
      have hnew := LW_txt (Z := Q.1) hG hTx (by rw [v0]; exact o0) (by rw [v1']; exact o1) (by rw [v0, oth 177 (by omega)]; exact oz0) (by rw [v1', oth 178 (by omega)]; exact oz1) b7 b8 b9
      refine ⟨?_, hI.keep (Tells_gen (n := w_n (wv M)) (p := w_p (wv M)) ?_ hn8 ?_ hp8 ?_ ?_ (fun l hl' => ?_) (fun q hq => PCw_same (hp q hq) ?_ (fun c hc => by rw [oth c (by omega)])) ?_ ?_ ?_ ?_ ?_) (k175 19 (by omega)) (k175 20 (by omega)) ⟨0, by omega, ?_, ?_, ?_⟩ (fun c hc => oth c (by omega))⟩
      · rw [← hnew.2, a1 3 (by omega), mi_off (by omega)]
      · rw [w8, n1]
      · rw [w8, p1]
      · rw [w8]; exact h7
      · have e50 : wv Q 50 = wv M 50 := by rw [wv_fun (by omega), wv_fun (by omega), oth 50 (by omega)]
        rw [e50]
        refine LfTo_congr hn8 (fun l hl' => ?_) hLf
        by_cases q : l = n
        · rw [q, v0]
        · rw [wv_at (by omega), wv_at (by omega), oth _ (by omega)]
      · by_cases q : l = n
        · rw [q]; exact hnew.1
        · refine LW_same (hl l hl') (fun d h1 h2 => ?_) (fun c hc => lc c l (by omega) (by omega) q) (fun k _ => ⟨lc2 180 _ (by omega) (by omega), lc2 181 _ (by omega) (by omega)⟩)
          rw [wv_fun (by omega), wv_fun (by omega), oth d (by omega)]
      · rw [wv_fun (by omega), wv_fun (by omega), oth _ (by omega)]
      · rw [k175 18 (by omega), w8]; exact z1
      · rw [k175 26 (by omega), w8]; exact z2
      · rw [k175 27 (by omega), w8]; exact z3
      · rw [k175 28 (by omega), w8]; exact z4
      · rw [k175 29 (by omega), w8]; exact z5
      · rw [lo 1 (by omega), a1 1 (by omega), m_i_at]; rfl
      · rw [b6]; rfl
      · rw [oth 2 (by omega), oth 176 (by omega), e3]

