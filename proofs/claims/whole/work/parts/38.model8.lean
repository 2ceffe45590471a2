/-! ===== 38.model8 ===== -/
/-! ===== the model's terms ===== -/
def TimeL (x : Int32) : Prop := x = 110 ∨ x = 104 ∨ x = 97
def WayL (x : Int32) : Prop := x = 99 ∨ x = 98 ∨ x = 108
def LawT (W : WT) (c : Nat) : Prop := TimeL (W c 7) ∧ (W c 8 = -6 ∨ TimeL (W c 8)) ∧ (W c 11 = -6 ∨ ((∃ t, t < 100 ∧ W c 11 = nI t) ∧ WayL (W c 12))) ∧ (W c 13 = -6 ∨ WayL (W c 13)) ∧ (W c 10 = 0 ∨ W c 10 = 1)
/-- the model's cells tell the words of the laws; no reading is tried -/
def RT (W : WT) (M : Mem) : Prop := M.1 175 19 = 0 ∧ (M.1 175 20 = -6 ∨ WayL (M.1 175 20)) ∧ ∀ l, l < w_n W → LawT W (10 + 5 * l) ∧ M.1 182 l = W (10 + 5 * l) 7 ∧ M.1 183 l = W (10 + 5 * l) 8 ∧ M.1 185 l = W (10 + 5 * l) 11 ∧ M.1 186 l = W (10 + 5 * l) 12 ∧ M.1 187 l = W (10 + 5 * l) 13
theorem RT.z {W : WT} {M N : Mem} (h : RT W M) (s : Zcr M N) : RT W N := by
  unfold RT
  rw [s.2.1 19 (by decide), s.2.1 20 (by decide), s.1 182 (by decide), s.1 183 (by decide), s.1 185 (by decide), s.1 186 (by decide), s.1 187 (by decide)]
  exact h
theorem WayL.nn {x : Int32} (h : WayL x) : ¬ x < 0 ∧ ¬ x = -6 := by
  rcases h with rfl | rfl | rfl <;> decide
theorem RT.wy {W : WT} {M : Mem} (h : RT W M) {l : Nat} (hl : l < w_n W) : z_wy M.1 l = if M.1 175 20 = -6 then W (10 + 5 * l) 12 else M.1 175 20 := by
  obtain ⟨h1, h2, h3⟩ := h
  unfold z_wy
  rcases h2 with q | q
  · have ns : ¬ z_sec M.1 l 1 := by
      rintro ⟨a, b⟩
      rw [h1, bit_is1 (by omega)] at b
      exact bP_0 b
    rw [q, sel_f (by decide), sel_f (fun z => ns z.2), if_pos rfl]
    exact (h3 l hl).2.2.2.2.1
  · rw [sel_t q.nn.1, if_neg q.nn.2]
def z_tr (M : Mem) : Int32 × Int32 × Int32 := (M.1 175 33, M.1 175 34, M.1 175 35)
noncomputable def z_crt (W : WT) (way : Int32) (p : Nat) (day : Int32) (t : Int32 × Int32 × Int32) : Int32 × Int32 × Int32 :=
  sel (¬ w_gov W p day = t.2.2 ∨ day = W p 0) ((r_pass W way (0, 0, 0, t.1, t.2.1) day (w_gov W p day)).2.2.2.1, (r_pass W way (0, 0, 0, t.1, t.2.1) day (w_gov W p day)).2.2.2.2, w_gov W p day) (t.1, t.2.1, w_gov W p day)
theorem r_pass_45 {W : WT} {way : Int32} {s : CrT} {day g : Int32} : (r_pass W way s day g).2.2.2 = (r_pass W way (0, 0, 0, s.2.2.2.1, s.2.2.2.2) day g).2.2.2 := by
  unfold r_pass r_carry
  dsimp only
  by_cases c1 : ¬ ((0 : Int32) ≤ g ∧ g < W 8 1) ∨ W (10 + 5 * Int32.toNatClampNeg g) 11 = -6
  · rw [sel_t c1, sel_t c1]
  · rw [sel_f c1, sel_f c1]
    by_cases c2 : s.2.2.2.2 = -6 ∨ (if way = -6 then W (10 + 5 * Int32.toNatClampNeg g) 12 else way) = 99
    · rw [sel_t c2, sel_t c2]
    · rw [sel_f c2, sel_f c2]
      by_cases c3 : (if way = -6 then W (10 + 5 * Int32.toNatClampNeg g) 12 else way) = 98
      · rw [sel_t c3, sel_t c3]
      · rw [sel_f c3, sel_f c3]
def SE (s : CrT) : Prop := (∃ a, a < 100 ∧ s.2.2.2.1 = nI a) ∧ (s.2.2.2.2 = -6 ∨ ∃ e, e < 200 ∧ s.2.2.2.2 = nI e)
theorem r_pass_SE {W : WT} {way : Int32} {s : CrT} {d : Nat} {g : Int32} (hL : ∀ l, l < w_n W → LawT W (10 + 5 * l)) (hn : W 8 1 = nI (w_n W) ∧ w_n W ≤ 8) (hd : d < 100) (h : SE s) : SE (r_pass W way s (nI d) g) := by
  obtain ⟨⟨a, ha, ea⟩, he⟩ := h
  unfold r_pass
  by_cases c : ¬ ((0 : Int32) ≤ g ∧ g < W 8 1) ∨ W (10 + 5 * Int32.toNatClampNeg g) 11 = -6
  · rw [sel_t c]
    exact ⟨⟨a, ha, ea⟩, Or.inl rfl⟩
  · rw [sel_f c]
    have c1 : (0 : Int32) ≤ g ∧ g < W 8 1 := Classical.not_not.mp fun q => c (Or.inl q)
    obtain ⟨j, hj, rfl⟩ := i_nat (show w_n W < 2 ^ 31 by omega) c1.1 (by rw [← hn.1]; exact c1.2)
    rw [ix_nI (by omega)] at c ⊢
    obtain ⟨-, -, q, -⟩ := hL j hj
    obtain ⟨⟨t, ht, et⟩, -⟩ := q.resolve_left (fun q => c (Or.inr q))
    rw [et]
    generalize (if way = -6 then W (10 + 5 * j) 12 else way) = w
    unfold r_carry
    by_cases c2 : s.2.2.2.2 = -6 ∨ w = 99
    · rw [sel_t c2]
      refine ⟨⟨a, ha, ea⟩, Or.inr ⟨a + t, by omega, ?_⟩⟩
      show s.2.2.2.1 + nI t = _
      rw [ea, nI_add]
    · rw [sel_f c2]
      by_cases c3 : w = 98
      · rw [sel_t c3]
        exact ⟨⟨d, hd, rfl⟩, Or.inr ⟨d + t, by omega, nI_add d t⟩⟩
      · rw [sel_f c3]
        refine ⟨⟨a, ha, ea⟩, ?_⟩
        show (if nI d + nI t < s.2.2.2.2 then nI d + nI t else s.2.2.2.2) = -6 ∨ _
        by_cases c4 : nI d + nI t < s.2.2.2.2
        · refine Or.inr ⟨d + t, by omega, ?_⟩
          show (if nI d + nI t < s.2.2.2.2 then nI d + nI t else s.2.2.2.2) = _
          rw [if_pos c4, nI_add]
        · rcases he with he | ⟨e, he, ee⟩
          · exact absurd (Or.inl he) c2
          · refine Or.inr ⟨e, he, ?_⟩
            show (if nI d + nI t < s.2.2.2.2 then nI d + nI t else s.2.2.2.2) = _
            rw [if_neg c4, ee]
/-- one day: the class's numbers and the model's go the same way -/
theorem r_go_step {W : WT} {p b d : Nat} {way : Int32} {s : CrT} {t : Int32 × Int32 × Int32} (hG : GW W) (hL : ∀ l, l < w_n W → LawT W (10 + 5 * l)) (hb : W p 0 = nI b) (hbd : b ≤ d) (hd : d < 100) (hs : b < d → s.2.2.1 = w_gov W p (nI (d - 1))) (hse : SE s) (ht : t = (s.2.2.2.1, s.2.2.2.2, s.2.2.1)) :
    SE (r_go W p way s (nI d)) ∧ (r_go W p way s (nI d)).2.2.1 = w_gov W p (nI d) ∧ z_crt W way p (nI d) t = ((r_go W p way s (nI d)).2.2.2.1, (r_go W p way s (nI d)).2.2.2.2, (r_go W p way s (nI d)).2.2.1) := by
  have hgo := r_go_pass (W := W) (p := p) (b := b) (d := d) (way := way) (s := s) hG hb hbd hd hs
  have hdb : nI d = nI b ↔ d = b := nI_eq (by omega) (by omega)
  subst ht
  unfold z_crt
  rw [hb]
  by_cases c : d = b ∨ ¬ w_gov W p (nI d) = s.2.2.1
  · rw [hgo.1 c, sel_t (c.elim (fun q => Or.inr (hdb.mpr q)) Or.inl)]
    refine ⟨r_pass_SE hL hG.1 hd hse, r_pass_3.2.2, ?_⟩
    have e := r_pass_45 (W := W) (way := way) (s := s) (day := nI d) (g := w_gov W p (nI d))
    rw [e, r_pass_3.2.2]
  · rw [hgo.2 c, sel_f (fun q => c (q.elim Or.inr (fun z => Or.inl (hdb.mp z))))]
    have e : w_gov W p (nI d) = s.2.2.1 := Classical.not_not.mp fun q => c (Or.inr q)
    refine ⟨hse, e.symm, ?_⟩
    rw [e]

/-! BetweenLawsModel.beginTerm(I)V -/
abbrev rm_X11_beginTerm : Room := { frames := 0, cells := 0, slots := 0, locals := 0 }
abbrev B_X11_beginTerm (G : GT) (K : Int32 → Mem → Prop) := BT G (Rep G) RX11 "beginTerm" cX11_beginTerm 2 none rm_X11_beginTerm K 0 0
abbrev T_X11_beginTerm (G : GT) (as : List Value) (M : Mem) (K : Int32 → Mem → Prop) : Prop := MT G (Rep G) yX11_beginTerm cX11_beginTerm 2 none rm_X11_beginTerm as M K
theorem e_X11_beginTerm {G : GT} {K : Int32 → Mem → Prop} {M : Mem} {v1 : Int32} (h : B_X11_beginTerm G K 0 [(0, .ref 175), (1, .int v1)] [] M) : T_X11_beginTerm G [.ref 175, .int v1] M K := MT.of (by decide +kernel) rfl rfl (Nat.le_of_ble_eq_true rfl) rfl h
set_option maxRecDepth 4000 in
theorem k_X11_beginTerm_0 {G : GT} {K : Int32 → Mem → Prop} {M : Mem} {v1 : Int32} (h : (vp_in v1 9) ∧ K 0 (m_i (m_i (m_i M 175 33 (M.1 189 (Int32.toNatClampNeg v1))) 175 34 (-6)) 175 35 (-6))) : B_X11_beginTerm G K 0 [(0, .ref 175), (1, .int v1)] [] M := by
  refine BT.aload_n dX11_beginTerm_0 rfl 0 rfl ?_
  refine BT.aload_n dX11_beginTerm_1 rfl 0 rfl ?_
  refine BT.getR (r := 189) fl_X11_53 ho_175 rfl dX11_beginTerm_2 ?_
  refine BT.iload_n dX11_beginTerm_5 rfl 1 rfl ?_
  refine BT.iald ha_189 h.1 dX11_beginTerm_6 ?_
  refine BT.putI fl_X11_263 ft_11_33 ho_175 rfl dX11_beginTerm_7 ?_
  refine BT.aload_n dX11_beginTerm_10 rfl 0 rfl ?_
  refine BT.bipush (v := (-6)) dX11_beginTerm_11 (by decide) ?_
  refine BT.putI fl_X11_260 ft_11_34 ho_175 rfl dX11_beginTerm_13 ?_
  refine BT.aload_n dX11_beginTerm_16 rfl 0 rfl ?_
  refine BT.bipush (v := (-6)) dX11_beginTerm_17 (by decide) ?_
  refine BT.putI fl_X11_257 ft_11_35 ho_175 rfl dX11_beginTerm_19 ?_
  exact BT.vret dX11_beginTerm_22 rfl (by decide) (by decide) h.2

theorem t_X11_beginTerm {G : GT} {K : Int32 → Mem → Prop} {M : Mem} {W : WT} {v1 : Int32} (hP : PR W M v1) (h : K 0 (m_i (m_i (m_i M 175 33 (W (zp v1) 0)) 175 34 (-6)) 175 35 (-6))) : T_X11_beginTerm G [.ref 175, .int v1] M K := by
  obtain ⟨p0, p1, -, e0, -⟩ := hP.at
  refine e_X11_beginTerm (k_X11_beginTerm_0 ⟨by rw [p1]; exact vp_nI p0 (by decide), ?_⟩)
  rw [e0]; exact h

/-! BetweenLawsModel.carry(II)V -/
abbrev rm_X11_carry : Room := { frames := 5, cells := 0, slots := 0, locals := 122 }
abbrev B_X11_carry (G : GT) (K : Int32 → Mem → Prop) := BT G (Rep G) RX11 "carry" cX11_carry 7 none rm_X11_carry K 0 0
abbrev T_X11_carry (G : GT) (as : List Value) (M : Mem) (K : Int32 → Mem → Prop) : Prop := MT G (Rep G) yX11_carry cX11_carry 7 none rm_X11_carry as M K
theorem e_X11_carry {G : GT} {K : Int32 → Mem → Prop} {M : Mem} {v1 : Int32} {v2 : Int32} (h : B_X11_carry G K 0 [(0, .ref 175), (1, .int v1), (2, .int v2)] [] M) : T_X11_carry G [.ref 175, .int v1, .int v2] M K := MT.of (by decide +kernel) rfl rfl (Nat.le_of_ble_eq_true rfl) rfl h
set_option maxRecDepth 4000 in
theorem k_X11_carry_0 {G : GT} {K : Int32 → Mem → Prop} {M : Mem} {W : WT} {v1 : Int32} {v2 : Int32} (h : (RG W M) ∧ (PR W M v1) ∧ (∀ r1 : Int32, r1 = (w_gov W (zp v1) v2) → ∀ N1 : Mem, N1 = (m_i M 175 30 (w_gov2 W (zp v1) v2).2) → (¬ r1 = (N1.1 175 35) → (0 ≤ r1 → (vp_in r1 8) ∧ (0 ≤ ((m_i N1 175 35 r1).1 185 (Int32.toNatClampNeg r1)) → (0 ≤ ((m_i N1 175 35 r1).1 175 34) → (∃ l, l < 8 ∧ r1 = nI l) ∧ (∀ r10 : Int32, r10 = (z_wy (m_i N1 175 35 r1).1 (Int32.toNatClampNeg r1)) → (¬ r10 = 98 → (¬ r10 = 108 → K 0 (m_i (m_i (m_i N1 175 35 r1) 175 33 ((m_i N1 175 35 r1).1 175 33)) 175 34 (((m_i (m_i N1 175 35 r1) 175 33 ((m_i N1 175 35 r1).1 175 33)).1 175 33) + ((m_i N1 175 35 r1).1 185 (Int32.toNatClampNeg r1))))) ∧ (r10 = 108 → ((v2 + ((m_i N1 175 35 r1).1 185 (Int32.toNatClampNeg r1))) ≤ ((m_i (m_i N1 175 35 r1) 175 33 ((m_i N1 175 35 r1).1 175 33)).1 175 34) → K 0 (m_i (m_i (m_i N1 175 35 r1) 175 33 ((m_i N1 175 35 r1).1 175 33)) 175 34 (v2 + ((m_i N1 175 35 r1).1 185 (Int32.toNatClampNeg r1))))) ∧ (¬ (v2 + ((m_i N1 175 35 r1).1 185 (Int32.toNatClampNeg r1))) ≤ ((m_i (m_i N1 175 35 r1) 175 33 ((m_i N1 175 35 r1).1 175 33)).1 175 34) → K 0 (m_i (m_i (m_i N1 175 35 r1) 175 33 ((m_i N1 175 35 r1).1 175 33)) 175 34 ((m_i (m_i N1 175 35 r1) 175 33 ((m_i N1 175 35 r1).1 175 33)).1 175 34))))) ∧ (r10 = 98 → (¬ r10 = 108 → K 0 (m_i (m_i (m_i N1 175 35 r1) 175 33 v2) 175 34 (((m_i (m_i N1 175 35 r1) 175 33 v2).1 175 33) + ((m_i N1 175 35 r1).1 185 (Int32.toNatClampNeg r1))))) ∧ (r10 = 108 → ((v2 + ((m_i N1 175 35 r1).1 185 (Int32.toNatClampNeg r1))) ≤ ((m_i (m_i N1 175 35 r1) 175 33 v2).1 175 34) → K 0 (m_i (m_i (m_i N1 175 35 r1) 175 33 v2) 175 34 (v2 + ((m_i N1 175 35 r1).1 185 (Int32.toNatClampNeg r1))))) ∧ (¬ (v2 + ((m_i N1 175 35 r1).1 185 (Int32.toNatClampNeg r1))) ≤ ((m_i (m_i N1 175 35 r1) 175 33 v2).1 175 34) → K 0 (m_i (m_i (m_i N1 175 35 r1) 175 33 v2) 175 34 ((m_i (m_i N1 175 35 r1) 175 33 v2).1 175 34))))))) ∧ (¬ 0 ≤ ((m_i N1 175 35 r1).1 175 34) → K 0 (m_i (m_i N1 175 35 r1) 175 34 (((m_i N1 175 35 r1).1 175 33) + ((m_i N1 175 35 r1).1 185 (Int32.toNatClampNeg r1)))))) ∧ (¬ 0 ≤ ((m_i N1 175 35 r1).1 185 (Int32.toNatClampNeg r1)) → K 0 (m_i (m_i N1 175 35 r1) 175 34 (-6)))) ∧ (¬ 0 ≤ r1 → K 0 (m_i (m_i N1 175 35 r1) 175 34 (-6)))) ∧ (r1 = (N1.1 175 35) → (vp_in v1 9) ∧ (¬ v2 = (N1.1 189 (Int32.toNatClampNeg v1)) → K 0 (m_i N1 175 35 r1)) ∧ (v2 = (N1.1 189 (Int32.toNatClampNeg v1)) → (0 ≤ r1 → (vp_in r1 8) ∧ (0 ≤ ((m_i N1 175 35 r1).1 185 (Int32.toNatClampNeg r1)) → (0 ≤ ((m_i N1 175 35 r1).1 175 34) → (∃ l, l < 8 ∧ r1 = nI l) ∧ (∀ r29 : Int32, r29 = (z_wy (m_i N1 175 35 r1).1 (Int32.toNatClampNeg r1)) → (¬ r29 = 98 → (¬ r29 = 108 → K 0 (m_i (m_i (m_i N1 175 35 r1) 175 33 ((m_i N1 175 35 r1).1 175 33)) 175 34 (((m_i (m_i N1 175 35 r1) 175 33 ((m_i N1 175 35 r1).1 175 33)).1 175 33) + ((m_i N1 175 35 r1).1 185 (Int32.toNatClampNeg r1))))) ∧ (r29 = 108 → ((v2 + ((m_i N1 175 35 r1).1 185 (Int32.toNatClampNeg r1))) ≤ ((m_i (m_i N1 175 35 r1) 175 33 ((m_i N1 175 35 r1).1 175 33)).1 175 34) → K 0 (m_i (m_i (m_i N1 175 35 r1) 175 33 ((m_i N1 175 35 r1).1 175 33)) 175 34 (v2 + ((m_i N1 175 35 r1).1 185 (Int32.toNatClampNeg r1))))) ∧ (¬ (v2 + ((m_i N1 175 35 r1).1 185 (Int32.toNatClampNeg r1))) ≤ ((m_i (m_i N1 175 35 r1) 175 33 ((m_i N1 175 35 r1).1 175 33)).1 175 34) → K 0 (m_i (m_i (m_i N1 175 35 r1) 175 33 ((m_i N1 175 35 r1).1 175 33)) 175 34 ((m_i (m_i N1 175 35 r1) 175 33 ((m_i N1 175 35 r1).1 175 33)).1 175 34))))) ∧ (r29 = 98 → (¬ r29 = 108 → K 0 (m_i (m_i (m_i N1 175 35 r1) 175 33 v2) 175 34 (((m_i (m_i N1 175 35 r1) 175 33 v2).1 175 33) + ((m_i N1 175 35 r1).1 185 (Int32.toNatClampNeg r1))))) ∧ (r29 = 108 → ((v2 + ((m_i N1 175 35 r1).1 185 (Int32.toNatClampNeg r1))) ≤ ((m_i (m_i N1 175 35 r1) 175 33 v2).1 175 34) → K 0 (m_i (m_i (m_i N1 175 35 r1) 175 33 v2) 175 34 (v2 + ((m_i N1 175 35 r1).1 185 (Int32.toNatClampNeg r1))))) ∧ (¬ (v2 + ((m_i N1 175 35 r1).1 185 (Int32.toNatClampNeg r1))) ≤ ((m_i (m_i N1 175 35 r1) 175 33 v2).1 175 34) → K 0 (m_i (m_i (m_i N1 175 35 r1) 175 33 v2) 175 34 ((m_i (m_i N1 175 35 r1) 175 33 v2).1 175 34))))))) ∧ (¬ 0 ≤ ((m_i N1 175 35 r1).1 175 34) → K 0 (m_i (m_i N1 175 35 r1) 175 34 (((m_i N1 175 35 r1).1 175 33) + ((m_i N1 175 35 r1).1 185 (Int32.toNatClampNeg r1)))))) ∧ (¬ 0 ≤ ((m_i N1 175 35 r1).1 185 (Int32.toNatClampNeg r1)) → K 0 (m_i (m_i N1 175 35 r1) 175 34 (-6)))) ∧ (¬ 0 ≤ r1 → K 0 (m_i (m_i N1 175 35 r1) 175 34 (-6))))))) : B_X11_carry G K 0 [(0, .ref 175), (1, .int v1), (2, .int v2)] [] M := by
  refine BT.aload_n dX11_carry_0 rfl 0 rfl ?_
  refine BT.iload_n dX11_carry_1 rfl 1 rfl ?_
  refine BT.iload_n dX11_carry_2 rfl 2 rfl ?_
  refine BT.mcVn [.int v1, .int v2] (t_X11_governing h.1 h.2.1 ⟨rfl, rfl⟩) mb_X11_governing mv_X11_governing lk_X11_240 rfl (by decide) rfl (recvRep ho_175 rfl) (Nat.le_of_ble_eq_true rfl) dX11_carry_3 (fun r1 e1 N1 g1 => ?_)
  show B_X11_carry G K 6 [(0, .ref 175), (1, .int v1), (2, .int v2)] [.int r1] N1
  refine BT.istore_n (L' := [(3, .int r1), (0, .ref 175), (1, .int v1), (2, .int v2)]) dX11_carry_6 rfl (by decide) rfl ?_
  refine BT.iload_n dX11_carry_7 rfl 0 rfl ?_
  refine BT.aload_n dX11_carry_8 rfl 1 rfl ?_
  refine BT.getI fl_X11_257 ho_175 rfl dX11_carry_9 ?_
  refine BT.icmp_ne (tgt := 25) dX11_carry_12 (by decide) (fun c => ?_) (fun c => ?_)
  · have c2 := c
    refine BT.iconst (v := 1) dX11_carry_25 (by decide) ?_
    refine BT.goto (tgt := 30) dX11_carry_26 (by decide) ?_
    refine BT.istore (L' := [(4, .int 1), (3, .int r1), (0, .ref 175), (1, .int v1), (2, .int v2)]) dX11_carry_30 (by decide) rfl ?_
    refine BT.aload_n dX11_carry_32 rfl 2 rfl ?_
    refine BT.iload_n dX11_carry_33 rfl 1 rfl ?_
    refine BT.putI fl_X11_257 ft_11_35 ho_175 rfl dX11_carry_34 ?_
    refine BT.iload dX11_carry_37 0 rfl ?_
    refine BT.if_ne (tgt := 43) dX11_carry_39 (by decide) (fun _ => ?_) (fun c => absurd c (by decide))
    refine BT.iload_n dX11_carry_43 rfl 1 rfl ?_
    refine BT.if_ge (tgt := 52) dX11_carry_44 (by decide) (fun c => ?_) (fun c => ?_)
    · have c4 := c
      refine BT.aload_n dX11_carry_52 rfl 2 rfl ?_
      refine BT.getR (r := 185) fl_X11_37 ho_175 rfl dX11_carry_53 ?_
      refine BT.iload_n dX11_carry_56 rfl 1 rfl ?_
      refine BT.iald ha_185 (((h.2.2 r1 e1 N1 g1).1 c2).1 c4).1 dX11_carry_57 ?_
      refine BT.istore (L' := [(5, .int ((m_i N1 175 35 r1).1 185 (Int32.toNatClampNeg r1))), (4, .int 1), (3, .int r1), (0, .ref 175), (1, .int v1), (2, .int v2)]) dX11_carry_58 (by decide) rfl ?_
      refine BT.iload dX11_carry_60 0 rfl ?_
      refine BT.if_ge (tgt := 74) dX11_carry_62 (by decide) (fun c => ?_) (fun c => ?_)
      · have c6 := c
        refine BT.aload_n dX11_carry_74 rfl 3 rfl ?_
        refine BT.getI fl_X11_260 ho_175 rfl dX11_carry_75 ?_
        refine BT.if_ge (tgt := 95) dX11_carry_78 (by decide) (fun c => ?_) (fun c => ?_)
        · have c8 := c
          refine BT.aload_n dX11_carry_95 rfl 3 rfl ?_
          refine BT.iload_n dX11_carry_96 rfl 2 rfl ?_
          refine BT.mcVr [.int r1] (t_X11_wayOf (((((h.2.2 r1 e1 N1 g1).1 c2).1 c4).2.1 c6).1 c8).1 ⟨rfl, rfl⟩) mb_X11_wayOf mv_X11_wayOf lk_X11_266 rfl (by decide) rfl (recvRep ho_175 rfl) (Nat.le_of_ble_eq_true rfl) dX11_carry_97 (fun r10 e10 => ?_)
          show B_X11_carry G K 100 [(5, .int ((m_i N1 175 35 r1).1 185 (Int32.toNatClampNeg r1))), (4, .int 1), (3, .int r1), (0, .ref 175), (1, .int v1), (2, .int v2)] [.int r10] (m_i N1 175 35 r1)
          refine BT.istore (L' := [(6, .int r10), (5, .int ((m_i N1 175 35 r1).1 185 (Int32.toNatClampNeg r1))), (4, .int 1), (3, .int r1), (0, .ref 175), (1, .int v1), (2, .int v2)]) dX11_carry_100 (by decide) rfl ?_
          refine BT.aload_n dX11_carry_102 rfl 4 rfl ?_
          refine BT.iload dX11_carry_103 0 rfl ?_
          refine BT.bipush (v := 98) dX11_carry_105 (by decide) ?_
          refine BT.icmp_ne (tgt := 114) dX11_carry_107 (by decide) (fun c => ?_) (fun c => ?_)
          · have c11 := c
            refine BT.aload_n dX11_carry_114 rfl 4 rfl ?_
            refine BT.getI fl_X11_263 ho_175 rfl dX11_carry_115 ?_
            refine BT.putI fl_X11_263 ft_11_33 ho_175 rfl dX11_carry_118 ?_
            refine BT.aload_n dX11_carry_121 rfl 4 rfl ?_
            refine BT.iload dX11_carry_122 0 rfl ?_
            refine BT.bipush (v := 108) dX11_carry_124 (by decide) ?_
            refine BT.icmp_ne (tgt := 154) dX11_carry_126 (by decide) (fun c => ?_) (fun c => ?_)
            · have c13 := c
              refine BT.aload_n dX11_carry_154 rfl 4 rfl ?_
              refine BT.getI fl_X11_263 ho_175 rfl dX11_carry_155 ?_
              refine BT.iload dX11_carry_158 1 rfl ?_
              refine BT.iadd dX11_carry_160 ?_
              refine BT.putI fl_X11_260 ft_11_34 ho_175 rfl dX11_carry_161 ?_
              exact BT.vret dX11_carry_164 rfl (by decide) (by decide) ((((((((h.2.2 r1 e1 N1 g1).1 c2).1 c4).2.1 c6).1 c8).2 r10 e10).1 c11).1 c13)
            · have c14 := c
              refine BT.aload_n dX11_carry_129 rfl 4 rfl ?_
              refine BT.getI fl_X11_260 ho_175 rfl dX11_carry_130 ?_
              refine BT.iload_n dX11_carry_133 rfl 6 rfl ?_
              refine BT.iload dX11_carry_134 1 rfl ?_
              refine BT.iadd dX11_carry_136 ?_
              refine BT.icmp_ge (tgt := 147) dX11_carry_137 (by decide) (fun c => ?_) (fun c => ?_)
              · have c15 := c
                refine BT.iload_n dX11_carry_147 rfl 6 rfl ?_
                refine BT.iload dX11_carry_148 1 rfl ?_
                refine BT.iadd dX11_carry_150 ?_
                refine BT.goto (tgt := 161) dX11_carry_151 (by decide) ?_
                refine BT.putI fl_X11_260 ft_11_34 ho_175 rfl dX11_carry_161 ?_
                exact BT.vret dX11_carry_164 rfl (by decide) (by decide) (((((((((h.2.2 r1 e1 N1 g1).1 c2).1 c4).2.1 c6).1 c8).2 r10 e10).1 c11).2 c14).1 c15)
              · have c16 := c
                refine BT.aload_n dX11_carry_140 rfl 4 rfl ?_
                refine BT.getI fl_X11_260 ho_175 rfl dX11_carry_141 ?_
                refine BT.goto (tgt := 161) dX11_carry_144 (by decide) ?_
                refine BT.putI fl_X11_260 ft_11_34 ho_175 rfl dX11_carry_161 ?_
                exact BT.vret dX11_carry_164 rfl (by decide) (by decide) (((((((((h.2.2 r1 e1 N1 g1).1 c2).1 c4).2.1 c6).1 c8).2 r10 e10).1 c11).2 c14).2 c16)
          · have c12 := c
            refine BT.iload_n dX11_carry_110 rfl 6 rfl ?_
            refine BT.goto (tgt := 118) dX11_carry_111 (by decide) ?_
            refine BT.putI fl_X11_263 ft_11_33 ho_175 rfl dX11_carry_118 ?_
            refine BT.aload_n dX11_carry_121 rfl 4 rfl ?_
            refine BT.iload dX11_carry_122 0 rfl ?_
            refine BT.bipush (v := 108) dX11_carry_124 (by decide) ?_
            refine BT.icmp_ne (tgt := 154) dX11_carry_126 (by decide) (fun c => ?_) (fun c => ?_)
            · have c17 := c
              refine BT.aload_n dX11_carry_154 rfl 4 rfl ?_
              refine BT.getI fl_X11_263 ho_175 rfl dX11_carry_155 ?_
              refine BT.iload dX11_carry_158 1 rfl ?_
              refine BT.iadd dX11_carry_160 ?_
              refine BT.putI fl_X11_260 ft_11_34 ho_175 rfl dX11_carry_161 ?_
              exact BT.vret dX11_carry_164 rfl (by decide) (by decide) ((((((((h.2.2 r1 e1 N1 g1).1 c2).1 c4).2.1 c6).1 c8).2 r10 e10).2 c12).1 c17)
            · have c18 := c
              refine BT.aload_n dX11_carry_129 rfl 4 rfl ?_
              refine BT.getI fl_X11_260 ho_175 rfl dX11_carry_130 ?_
              refine BT.iload_n dX11_carry_133 rfl 6 rfl ?_
              refine BT.iload dX11_carry_134 1 rfl ?_
              refine BT.iadd dX11_carry_136 ?_
              refine BT.icmp_ge (tgt := 147) dX11_carry_137 (by decide) (fun c => ?_) (fun c => ?_)
              · have c19 := c
                refine BT.iload_n dX11_carry_147 rfl 6 rfl ?_
                refine BT.iload dX11_carry_148 1 rfl ?_
                refine BT.iadd dX11_carry_150 ?_
                refine BT.goto (tgt := 161) dX11_carry_151 (by decide) ?_
                refine BT.putI fl_X11_260 ft_11_34 ho_175 rfl dX11_carry_161 ?_
                exact BT.vret dX11_carry_164 rfl (by decide) (by decide) (((((((((h.2.2 r1 e1 N1 g1).1 c2).1 c4).2.1 c6).1 c8).2 r10 e10).2 c12).2 c18).1 c19)
              · have c20 := c
                refine BT.aload_n dX11_carry_140 rfl 4 rfl ?_
                refine BT.getI fl_X11_260 ho_175 rfl dX11_carry_141 ?_
                refine BT.goto (tgt := 161) dX11_carry_144 (by decide) ?_
                refine BT.putI fl_X11_260 ft_11_34 ho_175 rfl dX11_carry_161 ?_
                exact BT.vret dX11_carry_164 rfl (by decide) (by decide) (((((((((h.2.2 r1 e1 N1 g1).1 c2).1 c4).2.1 c6).1 c8).2 r10 e10).2 c12).2 c18).2 c20)
        · have c9 := c
          refine BT.aload_n dX11_carry_81 rfl 3 rfl ?_
          refine BT.aload_n dX11_carry_82 rfl 3 rfl ?_
          refine BT.getI fl_X11_263 ho_175 rfl dX11_carry_83 ?_
          refine BT.iload dX11_carry_86 0 rfl ?_
          refine BT.iadd dX11_carry_88 ?_
          refine BT.putI fl_X11_260 ft_11_34 ho_175 rfl dX11_carry_89 ?_
          refine BT.goto (tgt := 164) dX11_carry_92 (by decide) ?_
          exact BT.vret dX11_carry_164 rfl (by decide) (by decide) (((((h.2.2 r1 e1 N1 g1).1 c2).1 c4).2.1 c6).2 c9)
      · have c7 := c
        refine BT.aload_n dX11_carry_65 rfl 3 rfl ?_
        refine BT.bipush (v := (-6)) dX11_carry_66 (by decide) ?_
        refine BT.putI fl_X11_260 ft_11_34 ho_175 rfl dX11_carry_68 ?_
        refine BT.goto (tgt := 164) dX11_carry_71 (by decide) ?_
        exact BT.vret dX11_carry_164 rfl (by decide) (by decide) ((((h.2.2 r1 e1 N1 g1).1 c2).1 c4).2.2 c7)
    · have c5 := c
      refine BT.bipush (v := (-6)) dX11_carry_47 (by decide) ?_
      refine BT.goto (tgt := 58) dX11_carry_49 (by decide) ?_
      refine BT.istore (L' := [(5, .int (-6)), (4, .int 1), (3, .int r1), (0, .ref 175), (1, .int v1), (2, .int v2)]) dX11_carry_58 (by decide) rfl ?_
      refine BT.iload dX11_carry_60 0 rfl ?_
      refine BT.if_ge (tgt := 74) dX11_carry_62 (by decide) (fun c => absurd c (by decide)) (fun _ => ?_)
      refine BT.aload_n dX11_carry_65 rfl 3 rfl ?_
      refine BT.bipush (v := (-6)) dX11_carry_66 (by decide) ?_
      refine BT.putI fl_X11_260 ft_11_34 ho_175 rfl dX11_carry_68 ?_
      refine BT.goto (tgt := 164) dX11_carry_71 (by decide) ?_
      exact BT.vret dX11_carry_164 rfl (by decide) (by decide) (((h.2.2 r1 e1 N1 g1).1 c2).2 c5)
  · have c3 := c
    refine BT.iload_n dX11_carry_15 rfl 3 rfl ?_
    refine BT.aload_n dX11_carry_16 rfl 1 rfl ?_
    refine BT.getR (r := 189) fl_X11_53 ho_175 rfl dX11_carry_17 ?_
    refine BT.iload_n dX11_carry_20 rfl 2 rfl ?_
    refine BT.iald ha_189 ((h.2.2 r1 e1 N1 g1).2 c3).1 dX11_carry_21 ?_
    refine BT.icmp_ne (tgt := 29) dX11_carry_22 (by decide) (fun c => ?_) (fun c => ?_)
    · have c21 := c
      refine BT.iconst (v := 0) dX11_carry_29 (by decide) ?_
      refine BT.istore (L' := [(4, .int 0), (3, .int r1), (0, .ref 175), (1, .int v1), (2, .int v2)]) dX11_carry_30 (by decide) rfl ?_
      refine BT.aload_n dX11_carry_32 rfl 2 rfl ?_
      refine BT.iload_n dX11_carry_33 rfl 1 rfl ?_
      refine BT.putI fl_X11_257 ft_11_35 ho_175 rfl dX11_carry_34 ?_
      refine BT.iload dX11_carry_37 0 rfl ?_
      refine BT.if_ne (tgt := 43) dX11_carry_39 (by decide) (fun c => absurd c (by decide)) (fun _ => ?_)
      exact BT.vret dX11_carry_42 rfl (by decide) (by decide) (((h.2.2 r1 e1 N1 g1).2 c3).2.1 c21)
    · have c22 := c
      refine BT.iconst (v := 1) dX11_carry_25 (by decide) ?_
      refine BT.goto (tgt := 30) dX11_carry_26 (by decide) ?_
      refine BT.istore (L' := [(4, .int 1), (3, .int r1), (0, .ref 175), (1, .int v1), (2, .int v2)]) dX11_carry_30 (by decide) rfl ?_
      refine BT.aload_n dX11_carry_32 rfl 2 rfl ?_
      refine BT.iload_n dX11_carry_33 rfl 1 rfl ?_
      refine BT.putI fl_X11_257 ft_11_35 ho_175 rfl dX11_carry_34 ?_
      refine BT.iload dX11_carry_37 0 rfl ?_
      refine BT.if_ne (tgt := 43) dX11_carry_39 (by decide) (fun _ => ?_) (fun c => absurd c (by decide))
      refine BT.iload_n dX11_carry_43 rfl 1 rfl ?_
      refine BT.if_ge (tgt := 52) dX11_carry_44 (by decide) (fun c => ?_) (fun c => ?_)
      · have c23 := c
        refine BT.aload_n dX11_carry_52 rfl 2 rfl ?_
        refine BT.getR (r := 185) fl_X11_37 ho_175 rfl dX11_carry_53 ?_
        refine BT.iload_n dX11_carry_56 rfl 1 rfl ?_
        refine BT.iald ha_185 ((((h.2.2 r1 e1 N1 g1).2 c3).2.2 c22).1 c23).1 dX11_carry_57 ?_
        refine BT.istore (L' := [(5, .int ((m_i N1 175 35 r1).1 185 (Int32.toNatClampNeg r1))), (4, .int 1), (3, .int r1), (0, .ref 175), (1, .int v1), (2, .int v2)]) dX11_carry_58 (by decide) rfl ?_
        refine BT.iload dX11_carry_60 0 rfl ?_
        refine BT.if_ge (tgt := 74) dX11_carry_62 (by decide) (fun c => ?_) (fun c => ?_)
        · have c25 := c
          refine BT.aload_n dX11_carry_74 rfl 3 rfl ?_
          refine BT.getI fl_X11_260 ho_175 rfl dX11_carry_75 ?_
          refine BT.if_ge (tgt := 95) dX11_carry_78 (by decide) (fun c => ?_) (fun c => ?_)
          · have c27 := c
            refine BT.aload_n dX11_carry_95 rfl 3 rfl ?_
            refine BT.iload_n dX11_carry_96 rfl 2 rfl ?_
            refine BT.mcVr [.int r1] (t_X11_wayOf ((((((h.2.2 r1 e1 N1 g1).2 c3).2.2 c22).1 c23).2.1 c25).1 c27).1 ⟨rfl, rfl⟩) mb_X11_wayOf mv_X11_wayOf lk_X11_266 rfl (by decide) rfl (recvRep ho_175 rfl) (Nat.le_of_ble_eq_true rfl) dX11_carry_97 (fun r29 e29 => ?_)
            show B_X11_carry G K 100 [(5, .int ((m_i N1 175 35 r1).1 185 (Int32.toNatClampNeg r1))), (4, .int 1), (3, .int r1), (0, .ref 175), (1, .int v1), (2, .int v2)] [.int r29] (m_i N1 175 35 r1)
            refine BT.istore (L' := [(6, .int r29), (5, .int ((m_i N1 175 35 r1).1 185 (Int32.toNatClampNeg r1))), (4, .int 1), (3, .int r1), (0, .ref 175), (1, .int v1), (2, .int v2)]) dX11_carry_100 (by decide) rfl ?_
            refine BT.aload_n dX11_carry_102 rfl 4 rfl ?_
            refine BT.iload dX11_carry_103 0 rfl ?_
            refine BT.bipush (v := 98) dX11_carry_105 (by decide) ?_
            refine BT.icmp_ne (tgt := 114) dX11_carry_107 (by decide) (fun c => ?_) (fun c => ?_)
            · have c30 := c
              refine BT.aload_n dX11_carry_114 rfl 4 rfl ?_
              refine BT.getI fl_X11_263 ho_175 rfl dX11_carry_115 ?_
              refine BT.putI fl_X11_263 ft_11_33 ho_175 rfl dX11_carry_118 ?_
              refine BT.aload_n dX11_carry_121 rfl 4 rfl ?_
              refine BT.iload dX11_carry_122 0 rfl ?_
              refine BT.bipush (v := 108) dX11_carry_124 (by decide) ?_
              refine BT.icmp_ne (tgt := 154) dX11_carry_126 (by decide) (fun c => ?_) (fun c => ?_)
              · have c32 := c
                refine BT.aload_n dX11_carry_154 rfl 4 rfl ?_
                refine BT.getI fl_X11_263 ho_175 rfl dX11_carry_155 ?_
                refine BT.iload dX11_carry_158 1 rfl ?_
                refine BT.iadd dX11_carry_160 ?_
                refine BT.putI fl_X11_260 ft_11_34 ho_175 rfl dX11_carry_161 ?_
                exact BT.vret dX11_carry_164 rfl (by decide) (by decide) (((((((((h.2.2 r1 e1 N1 g1).2 c3).2.2 c22).1 c23).2.1 c25).1 c27).2 r29 e29).1 c30).1 c32)
              · have c33 := c
                refine BT.aload_n dX11_carry_129 rfl 4 rfl ?_
                refine BT.getI fl_X11_260 ho_175 rfl dX11_carry_130 ?_
                refine BT.iload_n dX11_carry_133 rfl 6 rfl ?_
                refine BT.iload dX11_carry_134 1 rfl ?_
                refine BT.iadd dX11_carry_136 ?_
                refine BT.icmp_ge (tgt := 147) dX11_carry_137 (by decide) (fun c => ?_) (fun c => ?_)
                · have c34 := c
                  refine BT.iload_n dX11_carry_147 rfl 6 rfl ?_
                  refine BT.iload dX11_carry_148 1 rfl ?_
                  refine BT.iadd dX11_carry_150 ?_
                  refine BT.goto (tgt := 161) dX11_carry_151 (by decide) ?_
                  refine BT.putI fl_X11_260 ft_11_34 ho_175 rfl dX11_carry_161 ?_
                  exact BT.vret dX11_carry_164 rfl (by decide) (by decide) ((((((((((h.2.2 r1 e1 N1 g1).2 c3).2.2 c22).1 c23).2.1 c25).1 c27).2 r29 e29).1 c30).2 c33).1 c34)
                · have c35 := c
                  refine BT.aload_n dX11_carry_140 rfl 4 rfl ?_
                  refine BT.getI fl_X11_260 ho_175 rfl dX11_carry_141 ?_
                  refine BT.goto (tgt := 161) dX11_carry_144 (by decide) ?_
                  refine BT.putI fl_X11_260 ft_11_34 ho_175 rfl dX11_carry_161 ?_
                  exact BT.vret dX11_carry_164 rfl (by decide) (by decide) ((((((((((h.2.2 r1 e1 N1 g1).2 c3).2.2 c22).1 c23).2.1 c25).1 c27).2 r29 e29).1 c30).2 c33).2 c35)
            · have c31 := c
              refine BT.iload_n dX11_carry_110 rfl 6 rfl ?_
              refine BT.goto (tgt := 118) dX11_carry_111 (by decide) ?_
              refine BT.putI fl_X11_263 ft_11_33 ho_175 rfl dX11_carry_118 ?_
              refine BT.aload_n dX11_carry_121 rfl 4 rfl ?_
              refine BT.iload dX11_carry_122 0 rfl ?_
              refine BT.bipush (v := 108) dX11_carry_124 (by decide) ?_
              refine BT.icmp_ne (tgt := 154) dX11_carry_126 (by decide) (fun c => ?_) (fun c => ?_)
              · have c36 := c
                refine BT.aload_n dX11_carry_154 rfl 4 rfl ?_
                refine BT.getI fl_X11_263 ho_175 rfl dX11_carry_155 ?_
                refine BT.iload dX11_carry_158 1 rfl ?_
                refine BT.iadd dX11_carry_160 ?_
                refine BT.putI fl_X11_260 ft_11_34 ho_175 rfl dX11_carry_161 ?_
                exact BT.vret dX11_carry_164 rfl (by decide) (by decide) (((((((((h.2.2 r1 e1 N1 g1).2 c3).2.2 c22).1 c23).2.1 c25).1 c27).2 r29 e29).2 c31).1 c36)
              · have c37 := c
                refine BT.aload_n dX11_carry_129 rfl 4 rfl ?_
                refine BT.getI fl_X11_260 ho_175 rfl dX11_carry_130 ?_
                refine BT.iload_n dX11_carry_133 rfl 6 rfl ?_
                refine BT.iload dX11_carry_134 1 rfl ?_
                refine BT.iadd dX11_carry_136 ?_
                refine BT.icmp_ge (tgt := 147) dX11_carry_137 (by decide) (fun c => ?_) (fun c => ?_)
                · have c38 := c
                  refine BT.iload_n dX11_carry_147 rfl 6 rfl ?_
                  refine BT.iload dX11_carry_148 1 rfl ?_
                  refine BT.iadd dX11_carry_150 ?_
                  refine BT.goto (tgt := 161) dX11_carry_151 (by decide) ?_
                  refine BT.putI fl_X11_260 ft_11_34 ho_175 rfl dX11_carry_161 ?_
                  exact BT.vret dX11_carry_164 rfl (by decide) (by decide) ((((((((((h.2.2 r1 e1 N1 g1).2 c3).2.2 c22).1 c23).2.1 c25).1 c27).2 r29 e29).2 c31).2 c37).1 c38)
                · have c39 := c
                  refine BT.aload_n dX11_carry_140 rfl 4 rfl ?_
                  refine BT.getI fl_X11_260 ho_175 rfl dX11_carry_141 ?_
                  refine BT.goto (tgt := 161) dX11_carry_144 (by decide) ?_
                  refine BT.putI fl_X11_260 ft_11_34 ho_175 rfl dX11_carry_161 ?_
                  exact BT.vret dX11_carry_164 rfl (by decide) (by decide) ((((((((((h.2.2 r1 e1 N1 g1).2 c3).2.2 c22).1 c23).2.1 c25).1 c27).2 r29 e29).2 c31).2 c37).2 c39)
          · have c28 := c
            refine BT.aload_n dX11_carry_81 rfl 3 rfl ?_
            refine BT.aload_n dX11_carry_82 rfl 3 rfl ?_
            refine BT.getI fl_X11_263 ho_175 rfl dX11_carry_83 ?_
            refine BT.iload dX11_carry_86 0 rfl ?_
            refine BT.iadd dX11_carry_88 ?_
            refine BT.putI fl_X11_260 ft_11_34 ho_175 rfl dX11_carry_89 ?_
            refine BT.goto (tgt := 164) dX11_carry_92 (by decide) ?_
            exact BT.vret dX11_carry_164 rfl (by decide) (by decide) ((((((h.2.2 r1 e1 N1 g1).2 c3).2.2 c22).1 c23).2.1 c25).2 c28)
        · have c26 := c
          refine BT.aload_n dX11_carry_65 rfl 3 rfl ?_
          refine BT.bipush (v := (-6)) dX11_carry_66 (by decide) ?_
          refine BT.putI fl_X11_260 ft_11_34 ho_175 rfl dX11_carry_68 ?_
          refine BT.goto (tgt := 164) dX11_carry_71 (by decide) ?_
          exact BT.vret dX11_carry_164 rfl (by decide) (by decide) (((((h.2.2 r1 e1 N1 g1).2 c3).2.2 c22).1 c23).2.2 c26)
      · have c24 := c
        refine BT.bipush (v := (-6)) dX11_carry_47 (by decide) ?_
        refine BT.goto (tgt := 58) dX11_carry_49 (by decide) ?_
        refine BT.istore (L' := [(5, .int (-6)), (4, .int 1), (3, .int r1), (0, .ref 175), (1, .int v1), (2, .int v2)]) dX11_carry_58 (by decide) rfl ?_
        refine BT.iload dX11_carry_60 0 rfl ?_
        refine BT.if_ge (tgt := 74) dX11_carry_62 (by decide) (fun c => absurd c (by decide)) (fun _ => ?_)
        refine BT.aload_n dX11_carry_65 rfl 3 rfl ?_
        refine BT.bipush (v := (-6)) dX11_carry_66 (by decide) ?_
        refine BT.putI fl_X11_260 ft_11_34 ho_175 rfl dX11_carry_68 ?_
        refine BT.goto (tgt := 164) dX11_carry_71 (by decide) ?_
        exact BT.vret dX11_carry_164 rfl (by decide) (by decide) ((((h.2.2 r1 e1 N1 g1).2 c3).2.2 c22).2 c24)

theorem t_X11_carry {G : GT} {K : Int32 → Mem → Prop} {M : Mem} {W : WT} {v1 v2 : Int32} (hR : RG W M) (hT : RT W M) (hP : PR W M v1) (hE : M.1 175 34 = -6 ∨ 0 ≤ M.1 175 34) (h : ∀ N, Zcr M N ∧ z_tr N = z_crt W (M.1 175 20) (zp v1) v2 (z_tr M) → K 0 N) : T_X11_carry G [.ref 175, .int v1, .int v2] M K := by
  obtain ⟨p0, p1, -, e0, -⟩ := hP.at
  have vp : vp_in v1 9 := by rw [p1]; exact vp_nI p0 (by decide)
  have hgi := w_gov_in W (zp v1) v2
  refine e_X11_carry (k_X11_carry_0 (W := W) ⟨hR, hP, fun r1 e1 N1 g1 => ?_⟩)
  rw [← e1] at hgi
  have b35 : N1.1 175 35 = M.1 175 35 := by rw [g1, m_i_ne (by omega)]
  have b189 : N1.1 189 (Int32.toNatClampNeg v1) = W (zp v1) 0 := by rw [g1, m_i_ne (by omega), e0]
  rw [b35, b189]
  refine ⟨fun c1 => (by
    have hz : ∀ N', Zcr M N' → z_tr N' = ((r_pass W (M.1 175 20) (0, 0, 0, M.1 175 33, M.1 175 34) v2 r1).2.2.2.1, (r_pass W (M.1 175 20) (0, 0, 0, M.1 175 33, M.1 175 34) v2 r1).2.2.2.2, r1) → K 0 N' := fun N' hN' e => h N' ⟨hN', by rw [e]; unfold z_crt; rw [← e1, sel_t (show ¬ r1 = (z_tr M).2.2 ∨ v2 = W (zp v1) 0 from Or.inl c1)]; rfl⟩
    subst g1
    refine ⟨fun c3 => ?_, fun c3 => ?_⟩
    · rcases hgi with q | ⟨j, hj, ej⟩
      · rw [q] at c3; exact absurd c3 (by decide)
      · have h8 := hR.n.2.2
        have hlaw : (0 : Int32) ≤ r1 ∧ r1 < W 8 1 := by rw [ej]; exact hR.li hj
        obtain ⟨hLT, -, -, r185, r186, -⟩ := hT.2.2 j hj
        have hw := hT.wy hj
        have ix : Int32.toNatClampNeg r1 = j := by rw [ej, ix_nI (by omega)]
        simp only [ix]
        have a33 : (m_i (m_i M 175 30 (w_gov2 W (zp v1) v2).2) 175 35 r1).1 175 33 = M.1 175 33 := by rw [m_i_ne (by omega), m_i_ne (by omega)]
        have a34 : (m_i (m_i M 175 30 (w_gov2 W (zp v1) v2).2) 175 35 r1).1 175 34 = M.1 175 34 := by rw [m_i_ne (by omega), m_i_ne (by omega)]
        have a35 : ∀ X, (m_i (m_i (m_i M 175 30 (w_gov2 W (zp v1) v2).2) 175 35 r1) 175 33 X).1 175 34 = M.1 175 34 := by intro X; rw [m_i_ne (by omega), a34]
        have a185 : (m_i (m_i M 175 30 (w_gov2 W (zp v1) v2).2) 175 35 r1).1 185 j = W (10 + 5 * j) 11 := by rw [m_i_ne (by omega), m_i_ne (by omega), r185]
        have awy : z_wy (m_i (m_i M 175 30 (w_gov2 W (zp v1) v2).2) 175 35 r1).1 j = if M.1 175 20 = -6 then W (10 + 5 * j) 12 else M.1 175 20 := by
          have hs : Zcr M (m_i (m_i M 175 30 (w_gov2 W (zp v1) v2).2) 175 35 r1) := (Zcr.rf.mi (by decide)).mi (by decide)
          rw [(hT.z hs).wy hj, hs.2.1 20 (by decide)]
        simp only [a33, a34, a35, a185, awy, m_i_at]
        refine ⟨by rw [ej]; exact vp_nI (by omega) (by decide), ?_⟩
        unfold r_pass at hz
        rw [ix] at hz
        have ztr : ∀ X Y, z_tr (m_i (m_i (m_i (m_i M 175 30 (w_gov2 W (zp v1) v2).2) 175 35 r1) 175 33 X) 175 34 Y) = (X, Y, r1) := by
          intro X Y; simp [z_tr, m_i]
        have zcr : ∀ X Y, Zcr M (m_i (m_i (m_i (m_i M 175 30 (w_gov2 W (zp v1) v2).2) 175 35 r1) 175 33 X) 175 34 Y) := fun X Y => (((Zcr.rf.mi (by decide)).mi (by decide)).mi (by decide)).mi (by decide)
        have ztr2 : ∀ Y, z_tr (m_i (m_i (m_i M 175 30 (w_gov2 W (zp v1) v2).2) 175 35 r1) 175 34 Y) = (M.1 175 33, Y, r1) := by
          intro Y; simp [z_tr, m_i]
        have zcr2 : ∀ Y, Zcr M (m_i (m_i (m_i M 175 30 (w_gov2 W (zp v1) v2).2) 175 35 r1) 175 34 Y) := fun Y => ((Zcr.rf.mi (by decide)).mi (by decide)).mi (by decide)
        refine ⟨fun c4 => ?_, fun c4 => ?_⟩
        · have n6 : ¬ (¬ ((0 : Int32) ≤ r1 ∧ r1 < W 8 1) ∨ W (10 + 5 * j) 11 = -6) := fun q => q.elim (fun q => q hlaw) (fun q => by rw [q] at c4; exact absurd c4 (by decide))
          have hWay : WayL (W (10 + 5 * j) 12) := (hLT.2.2.1.resolve_left (fun q => n6 (Or.inr q))).2
          rw [sel_f n6] at hz
          refine ⟨fun c5 => ⟨⟨j, by omega, ej⟩, fun r10 e10 => ?_⟩, fun c5 => ?_⟩
          · have hr10 : WayL r10 := by
              rw [e10]
              rcases hT.2.1 with q | q
              · rw [if_pos q]; exact hWay
              · rw [if_neg q.nn.2]; exact q
            have e0 : ¬ M.1 175 34 = -6 := fun q => by rw [q] at c5; exact absurd c5 (by decide)
            rw [← e10] at hz
            unfold r_carry at hz
            refine ⟨fun c6 => ⟨fun c7 => ?_, fun c7 => ⟨fun c8 => ?_, fun c8 => ?_⟩⟩, fun c6 => ⟨fun c7 => ?_, fun c7 => ?_⟩⟩
            · rw [sel_t (Or.inr (by rcases hr10 with q | q | q <;> first | exact q | exact absurd q c6 | exact absurd q c7))] at hz
              exact hz _ (zcr _ _) (ztr _ _)
            · rw [sel_f (fun q => q.elim e0 (fun q => by rw [c7] at q; exact absurd q (by decide))), sel_f c6] at hz
              refine hz _ (zcr _ _) ((ztr _ _).trans ?_)
              show _ = (M.1 175 33, (if v2 + W (10 + 5 * j) 11 < M.1 175 34 then v2 + W (10 + 5 * j) 11 else M.1 175 34), r1)
              by_cases c9 : v2 + W (10 + 5 * j) 11 < M.1 175 34
              · rw [if_pos c9]
              · rw [if_neg c9, Int32.le_antisymm c8 (Int32.not_lt.mp c9)]
            · rw [sel_f (fun q => q.elim e0 (fun q => by rw [c7] at q; exact absurd q (by decide))), sel_f c6] at hz
              refine hz _ (zcr _ _) ((ztr _ _).trans ?_)
              show _ = (M.1 175 33, (if v2 + W (10 + 5 * j) 11 < M.1 175 34 then v2 + W (10 + 5 * j) 11 else M.1 175 34), r1)
              rw [if_neg (fun q => c8 (Int32.le_of_lt q))]
            · rw [sel_f (fun q => q.elim e0 (fun q => by rw [c6] at q; exact absurd q (by decide))), sel_t c6] at hz
              exact hz _ (zcr _ _) (ztr _ _)
            · rw [c6] at c7; exact absurd c7 (by decide)
          · have e0 : M.1 175 34 = -6 := hE.resolve_right c5
            unfold r_carry at hz
            rw [sel_t (Or.inl e0)] at hz
            exact hz _ (zcr2 _) (ztr2 _)
        · have e11 : W (10 + 5 * j) 11 = -6 := by
            rcases hLT.2.2.1 with q | ⟨⟨t, ht, et⟩, -⟩
            · exact q
            · rw [et] at c4; exact absurd (nI_pos' (by omega)) c4
          rw [sel_t (Or.inr e11)] at hz
          exact hz _ (zcr2 _) (ztr2 _)
    · unfold r_pass at hz
      rw [sel_t (Or.inl (fun q => c3 q.1))] at hz
      refine hz _ (((Zcr.rf.mi (by decide)).mi (by decide)).mi (by decide)) ?_
      simp [z_tr, m_i]), fun c1 => ⟨vp, fun c2 => ?_, fun c2 => (by
    have hz : ∀ N', Zcr M N' → z_tr N' = ((r_pass W (M.1 175 20) (0, 0, 0, M.1 175 33, M.1 175 34) v2 r1).2.2.2.1, (r_pass W (M.1 175 20) (0, 0, 0, M.1 175 33, M.1 175 34) v2 r1).2.2.2.2, r1) → K 0 N' := fun N' hN' e => h N' ⟨hN', by rw [e]; unfold z_crt; rw [← e1, sel_t (show ¬ r1 = (z_tr M).2.2 ∨ v2 = W (zp v1) 0 from Or.inr c2)]; rfl⟩
    subst g1
    refine ⟨fun c3 => ?_, fun c3 => ?_⟩
    · rcases hgi with q | ⟨j, hj, ej⟩
      · rw [q] at c3; exact absurd c3 (by decide)
      · have h8 := hR.n.2.2
        have hlaw : (0 : Int32) ≤ r1 ∧ r1 < W 8 1 := by rw [ej]; exact hR.li hj
        obtain ⟨hLT, -, -, r185, r186, -⟩ := hT.2.2 j hj
        have hw := hT.wy hj
        have ix : Int32.toNatClampNeg r1 = j := by rw [ej, ix_nI (by omega)]
        simp only [ix]
        have a33 : (m_i (m_i M 175 30 (w_gov2 W (zp v1) v2).2) 175 35 r1).1 175 33 = M.1 175 33 := by rw [m_i_ne (by omega), m_i_ne (by omega)]
        have a34 : (m_i (m_i M 175 30 (w_gov2 W (zp v1) v2).2) 175 35 r1).1 175 34 = M.1 175 34 := by rw [m_i_ne (by omega), m_i_ne (by omega)]
        have a35 : ∀ X, (m_i (m_i (m_i M 175 30 (w_gov2 W (zp v1) v2).2) 175 35 r1) 175 33 X).1 175 34 = M.1 175 34 := by intro X; rw [m_i_ne (by omega), a34]
        have a185 : (m_i (m_i M 175 30 (w_gov2 W (zp v1) v2).2) 175 35 r1).1 185 j = W (10 + 5 * j) 11 := by rw [m_i_ne (by omega), m_i_ne (by omega), r185]
        have awy : z_wy (m_i (m_i M 175 30 (w_gov2 W (zp v1) v2).2) 175 35 r1).1 j = if M.1 175 20 = -6 then W (10 + 5 * j) 12 else M.1 175 20 := by
          have hs : Zcr M (m_i (m_i M 175 30 (w_gov2 W (zp v1) v2).2) 175 35 r1) := (Zcr.rf.mi (by decide)).mi (by decide)
          rw [(hT.z hs).wy hj, hs.2.1 20 (by decide)]
        simp only [a33, a34, a35, a185, awy, m_i_at]
        refine ⟨by rw [ej]; exact vp_nI (by omega) (by decide), ?_⟩
        unfold r_pass at hz
        rw [ix] at hz
        have ztr : ∀ X Y, z_tr (m_i (m_i (m_i (m_i M 175 30 (w_gov2 W (zp v1) v2).2) 175 35 r1) 175 33 X) 175 34 Y) = (X, Y, r1) := by
          intro X Y; simp [z_tr, m_i]
        have zcr : ∀ X Y, Zcr M (m_i (m_i (m_i (m_i M 175 30 (w_gov2 W (zp v1) v2).2) 175 35 r1) 175 33 X) 175 34 Y) := fun X Y => (((Zcr.rf.mi (by decide)).mi (by decide)).mi (by decide)).mi (by decide)
        have ztr2 : ∀ Y, z_tr (m_i (m_i (m_i M 175 30 (w_gov2 W (zp v1) v2).2) 175 35 r1) 175 34 Y) = (M.1 175 33, Y, r1) := by
          intro Y; simp [z_tr, m_i]
        have zcr2 : ∀ Y, Zcr M (m_i (m_i (m_i M 175 30 (w_gov2 W (zp v1) v2).2) 175 35 r1) 175 34 Y) := fun Y => ((Zcr.rf.mi (by decide)).mi (by decide)).mi (by decide)
        refine ⟨fun c4 => ?_, fun c4 => ?_⟩
        · have n6 : ¬ (¬ ((0 : Int32) ≤ r1 ∧ r1 < W 8 1) ∨ W (10 + 5 * j) 11 = -6) := fun q => q.elim (fun q => q hlaw) (fun q => by rw [q] at c4; exact absurd c4 (by decide))
          have hWay : WayL (W (10 + 5 * j) 12) := (hLT.2.2.1.resolve_left (fun q => n6 (Or.inr q))).2
          rw [sel_f n6] at hz
          refine ⟨fun c5 => ⟨⟨j, by omega, ej⟩, fun r10 e10 => ?_⟩, fun c5 => ?_⟩
          · have hr10 : WayL r10 := by
              rw [e10]
              rcases hT.2.1 with q | q
              · rw [if_pos q]; exact hWay
              · rw [if_neg q.nn.2]; exact q
            have e0 : ¬ M.1 175 34 = -6 := fun q => by rw [q] at c5; exact absurd c5 (by decide)
            rw [← e10] at hz
            unfold r_carry at hz
            refine ⟨fun c6 => ⟨fun c7 => ?_, fun c7 => ⟨fun c8 => ?_, fun c8 => ?_⟩⟩, fun c6 => ⟨fun c7 => ?_, fun c7 => ?_⟩⟩
            · rw [sel_t (Or.inr (by rcases hr10 with q | q | q <;> first | exact q | exact absurd q c6 | exact absurd q c7))] at hz
              exact hz _ (zcr _ _) (ztr _ _)
            · rw [sel_f (fun q => q.elim e0 (fun q => by rw [c7] at q; exact absurd q (by decide))), sel_f c6] at hz
              refine hz _ (zcr _ _) ((ztr _ _).trans ?_)
              show _ = (M.1 175 33, (if v2 + W (10 + 5 * j) 11 < M.1 175 34 then v2 + W (10 + 5 * j) 11 else M.1 175 34), r1)
              by_cases c9 : v2 + W (10 + 5 * j) 11 < M.1 175 34
              · rw [if_pos c9]
              · rw [if_neg c9, Int32.le_antisymm c8 (Int32.not_lt.mp c9)]
            · rw [sel_f (fun q => q.elim e0 (fun q => by rw [c7] at q; exact absurd q (by decide))), sel_f c6] at hz
              refine hz _ (zcr _ _) ((ztr _ _).trans ?_)
              show _ = (M.1 175 33, (if v2 + W (10 + 5 * j) 11 < M.1 175 34 then v2 + W (10 + 5 * j) 11 else M.1 175 34), r1)
              rw [if_neg (fun q => c8 (Int32.le_of_lt q))]
            · rw [sel_f (fun q => q.elim e0 (fun q => by rw [c6] at q; exact absurd q (by decide))), sel_t c6] at hz
              exact hz _ (zcr _ _) (ztr _ _)
            · rw [c6] at c7; exact absurd c7 (by decide)
          · have e0 : M.1 175 34 = -6 := hE.resolve_right c5
            unfold r_carry at hz
            rw [sel_t (Or.inl e0)] at hz
            exact hz _ (zcr2 _) (ztr2 _)
        · have e11 : W (10 + 5 * j) 11 = -6 := by
            rcases hLT.2.2.1 with q | ⟨⟨t, ht, et⟩, -⟩
            · exact q
            · rw [et] at c4; exact absurd (nI_pos' (by omega)) c4
          rw [sel_t (Or.inr e11)] at hz
          exact hz _ (zcr2 _) (ztr2 _)
    · unfold r_pass at hz
      rw [sel_t (Or.inl (fun q => c3 q.1))] at hz
      refine hz _ (((Zcr.rf.mi (by decide)).mi (by decide)).mi (by decide)) ?_
      simp [z_tr, m_i])⟩⟩
  · refine h _ ⟨by rw [g1]; exact (Zcr.rf.mi (by decide)).mi (by decide), ?_⟩
    unfold z_crt
    rw [← e1, sel_f (fun q => q.elim (fun q => q c1) c2)]
    rw [g1]
    simp [z_tr, m_i]

