/-! ===== 46.model14 ===== -/
/-! ===== kinds of answers, by all readings ===== -/
theorem fol_ans {W : WT} {m U : Int32} (h : ∀ l, (0 : Int32) ≤ l ∧ l < W 8 1 → c_gift W (10 + 5 * Int32.toNatClampNeg l) m = -6 ∨ ∃ g, g < 108 ∧ c_gift W (10 + 5 * Int32.toNatClampNeg l) m = nI g) : ∀ k been l, AnsO (w_fol W m U k been l)
  | 0, _, _ => Or.inr (Or.inl rfl)
  | k + 1, been, l => by
    have ih := fol_ans (W := W) (m := m) (U := U) h k
    unfold w_fol
    by_cases c1 : ¬ ((0 : Int32) ≤ l ∧ l < W 8 1) ∨ ¬ bitO U l
    · rw [sel_t c1]; exact Or.inl rfl
    · rw [sel_f c1]
      have hl : (0 : Int32) ≤ l ∧ l < W 8 1 := Classical.not_not.mp fun q => c1 (Or.inl q)
      by_cases c2 : c_gift W (10 + 5 * Int32.toNatClampNeg l) m = -6
      · rw [sel_t c2]; exact Or.inl rfl
      · rw [sel_f c2]
        obtain ⟨g, hg, eg⟩ := (h l hl).resolve_left c2
        by_cases c3 : ¬ bitO been l ∨ k = 0
        · rw [sel_t c3]; exact Or.inr (Or.inl rfl)
        · rw [sel_f c3]
          by_cases c4 : (100 : Int32) ≤ c_gift W (10 + 5 * Int32.toNatClampNeg l) m
          · rw [sel_t c4]; exact ih _ _
          · rw [sel_f c4, eg]
            rw [eg] at c4
            have : ¬ 100 ≤ g := fun q => c4 (nI_le (a := 100) q (by omega))
            exact Or.inr (Or.inr ⟨g, by omega, rfl⟩)
theorem given_ans {W : WT} {M : Mem} {p day : Int32} (hR : RG W M) (hP : PR W M p) : AnsO (w_given W (zp p) day) := by
  have hf : ∀ U k been l, AnsO (w_fol W (W (zp p) 3) U k been l) := fun U k been l => fol_ans (fun l hl => by
    rcases c_gift_fit hR hl hP with ⟨-, q⟩ | ⟨j, g, hg, -, -, q, -⟩
    · exact Or.inl q
    · exact Or.inr ⟨g, hg, q⟩) k been l
  unfold w_given
  have f1 : AnsO (w_fol9 W (zp p) (w_gov W (zp p) (c_dayOn W (zp p) day)) (c_dayOn W (zp p) day)) := hf _ _ _ _
  have f2 : AnsO (w_fol9 W (zp p) (w_gov W (zp p) (W (zp p) 0)) (W (zp p) 0)) := hf _ _ _ _
  unfold sel
  split
  · exact f1
  · split
    · exact f1
    · split
      · exact f2
      · exact f1
/-- what the answers by the readings below n are, as the class puts them -/
theorem a_unl_bits {W : WT} {p : Nat} {day times : Int32} (ha : ∀ r, AnsO (w_given (w_rd W r) p day)) : ∀ n, (∀ k, k < 102 → (aBit (a_unl W p day times n) k ↔ ∃ r, r < n ∧ (nI r &&& (times ^^^ (-1))) = 0 ∧ z_idx (w_given (w_rd W (nI r)) p day) = k)) ∧ aHi (a_unl W p day times n)
  | 0 => ⟨fun k _ => ⟨fun q => absurd q aBit_0, fun ⟨r, hr, _⟩ => absurd hr (by omega)⟩, aHi_0⟩
  | n + 1 => by
    obtain ⟨ih, ih2⟩ := a_unl_bits (W := W) (p := p) (day := day) (times := times) ha n
    unfold a_unl
    by_cases c : (nI n &&& (times ^^^ (-1))) = 0
    · rw [sel_t c]
      refine ⟨fun k hk => ?_, aHi_put (ha _) ih2⟩
      rw [aBit_put (ha _) hk, ih k hk]
      constructor
      · rintro (⟨r, hr, q⟩ | q)
        · exact ⟨r, by omega, q⟩
        · exact ⟨n, by omega, c, q.symm⟩
      · rintro ⟨r, hr, q1, q2⟩
        by_cases e : r = n
        · subst e; exact Or.inr q2.symm
        · exact Or.inl ⟨r, by omega, q1, q2⟩
    · rw [sel_f c]
      refine ⟨fun k hk => ?_, ih2⟩
      rw [ih k hk]
      constructor
      · rintro ⟨r, hr, q⟩; exact ⟨r, by omega, q⟩
      · rintro ⟨r, hr, q1, q2⟩
        by_cases e : r = n
        · subst e; exact absurd q1 c
        · exact ⟨r, by omega, q1, q2⟩
theorem bP_times {W : WT} {i : Nat} (hi : i < 32) : ∀ n, n ≤ 32 → (bP (w_times W n) i ↔ i < n ∧ ¬ w_wordAt W (nI i) = -6 ∧ w_wordAt W (nI i) - w_wordAt W (nI i) / 10 * 10 = 0)
  | 0, _ => ⟨fun q => absurd q bP_0, fun q => absurd q.1 (by omega)⟩
  | n + 1, hn => by
    have ih := bP_times (W := W) hi n (by omega)
    unfold w_times
    by_cases h : ¬ w_wordAt W (nI n) = -6 ∧ w_wordAt W (nI n) - w_wordAt W (nI n) / 10 * 10 = 0
    · rw [sel_t h, bP_or, bP_shl (by omega) hi, ih]
      constructor
      · rintro (q | q)
        · exact ⟨by omega, q.2⟩
        · subst q; exact ⟨by omega, h⟩
      · rintro ⟨q1, q2⟩
        by_cases e : i = n
        · exact Or.inr e
        · exact Or.inl ⟨by omega, q2⟩
    · rw [sel_f h, ih]
      constructor
      · rintro ⟨q1, q2⟩; exact ⟨by omega, q2⟩
      · rintro ⟨q1, q2⟩
        by_cases e : i = n
        · subst e; exact absurd q2 h
        · exact ⟨by omega, q2⟩
/-- the word of the time that may be read two ways is one of the times -/
theorem times_has {W : WT} (h8 : w_n W ≤ 8) {l : Nat} (hl : l < w_n W) (h : ¬ W (10 + 5 * l) 8 = -6) (hw : w_len W l < 8) : bP (w_times W 8) (w_len W l) := by
  rw [bP_times (by omega) 8 (by decide)]
  obtain ⟨t, et⟩ := w_wl_pre W (w_n W) (l + 1) (by omega)
  rw [w_wl, sel_f h, List.append_assoc] at et
  have hlw : (w_wl W l).length = w_len W l := rfl
  have hx : (w_wl W (w_n W))[w_len W l]? = some (10 * nI l) := by
    rw [et, List.getElem?_append_right (by rw [hlw]; exact Nat.le_refl _), hlw, Nat.sub_self]
    rfl
  have hlt : w_len W l < w_len W (w_n W) := by
    refine Classical.byContradiction fun q => ?_
    rw [List.getElem?_eq_none (by exact Nat.le_of_not_lt q)] at hx
    exact absurd hx (by simp)
  have hle := w_len_le W (w_n W)
  have ew : w_wordAt W (nI (w_len W l)) = 10 * nI l := by
    unfold w_wordAt
    rw [sel_t ⟨nI_pos' (by omega), nI_lt hlt (by omega)⟩, ix_nI (by omega), List.getD_eq_getElem?_getD, hx]
    rfl
  have key : ∀ l, l < 8 → ¬ (10 * nI l : Int32) = -6 ∧ (10 * nI l : Int32) - 10 * nI l / 10 * 10 = 0 := by decide +kernel
  rw [ew]
  exact ⟨hw, key l (by omega)⟩
theorem times_lt {W : WT} (h8 : w_n W ≤ 8) {i : Nat} (hi : i < 32) (h : bP (w_times W 8) i) : i < min (w_len W (w_n W)) 8 := by
  rw [bP_times hi 8 (by decide)] at h
  obtain ⟨h1, h2, -⟩ := h
  have hle := w_len_le W (w_n W)
  have : i < w_len W (w_n W) := by
    refine Classical.byContradiction fun q => h2 ?_
    unfold w_wordAt
    rw [sel_f]
    rintro ⟨-, z⟩
    exact q ((nI_ltI (by omega) (by omega)).mp z)
  omega
theorem w_rd_times {W : WT} (h8 : w_n W ≤ 8) (r : Int32) : w_rd W r = w_rd W (r &&& w_times W 8) := by
  funext c k
  by_cases h : k = 9 ∧ ∃ l, l < w_n W ∧ c = 10 + 5 * l
  · obtain ⟨rfl, l, hl, rfl⟩ := h
    rw [show w_rd W r (10 + 5 * l) 9 = w_tr W r l from w_rdn_at hl, show w_rd W (r &&& w_times W 8) (10 + 5 * l) 9 = w_tr W (r &&& w_times W 8) l from w_rdn_at hl]
    unfold w_tr
    by_cases c1 : ¬ W (10 + 5 * l) 8 = -6 ∧ w_len W l < 8
    · have ht := times_has h8 hl c1.1 c1.2
      have e1 : bitO r (nI (w_len W l)) ↔ ¬ bP r (w_len W l) := bit_is0 (by omega)
      have e2 : bitO (r &&& w_times W 8) (nI (w_len W l)) ↔ ¬ bP (r &&& w_times W 8) (w_len W l) := bit_is0 (by omega)
      have e3 : bitO r (nI (w_len W l)) ↔ bitO (r &&& w_times W 8) (nI (w_len W l)) := by
        rw [e1, e2, bP_and]
        exact ⟨fun q z => q z.1, fun q z => q ⟨z, ht⟩⟩
      rw [propext e3]
    · rw [sel_f (fun q => c1 ⟨q.1, q.2.1⟩), sel_f (fun q => c1 ⟨q.1, q.2.1⟩)]
  · exact (w_rdn_off h).trans (w_rdn_off h).symm
theorem nI_bits {m : Nat} (hm : m ≤ 8) : ∀ r, r < 2 ^ m → ∀ i, i < 32 → bP (nI r) i → i < m := by
  have key : ∀ m, m ≤ 8 → ∀ r, r < 2 ^ m → ∀ i, i < 32 → (nI r).toBitVec.getLsbD i = true → i < m := by decide +kernel
  exact key m hm
theorem bits_nI {x : Int32} {m : Nat} (hm : m ≤ 8) (h : ∀ i, i < 32 → bP x i → i < m) : ∃ r, r < 2 ^ m ∧ x = nI r := by
  have hx := x.toBitVec.isLt
  refine ⟨x.toBitVec.toNat, ?_, ?_⟩
  · refine Nat.lt_pow_two_of_testBit _ (fun i hi => ?_)
    by_cases h32 : i < 32
    · cases hb : x.toBitVec.toNat.testBit i with
      | false => rfl
      | true =>
        have := h i h32 hb
        omega
    · exact BitVec.testBit_toNat x.toBitVec ▸ BitVec.getLsbD_of_ge _ _ (by omega)
  · apply Int32.toBitVec_inj.mp
    apply BitVec.eq_of_toNat_eq
    show _ = (BitVec.ofNat 32 x.toBitVec.toNat).toNat
    rw [BitVec.toNat_ofNat, Nat.mod_eq_of_lt hx]

/-! BetweenLawsModel.ways(II)I -/
abbrev rm_X11_ways : Room := { frames := 8, cells := 0, slots := 0, locals := 199 }
abbrev B_X11_ways (G : GT) (K : Int32 → Mem → Prop) := BT G (Rep G) RX11 "ways" cX11_ways 4 (some .int) rm_X11_ways K 0 0
abbrev T_X11_ways (G : GT) (as : List Value) (M : Mem) (K : Int32 → Mem → Prop) : Prop := MT G (Rep G) yX11_ways cX11_ways 4 (some .int) rm_X11_ways as M K
theorem e_X11_ways {G : GT} {K : Int32 → Mem → Prop} {M : Mem} {v1 : Int32} {v2 : Int32} (h : B_X11_ways G K 0 [(0, .ref 175), (1, .int v1), (2, .int v2)] [] M) : T_X11_ways G [.ref 175, .int v1, .int v2] M K := MT.of (by decide +kernel) rfl rfl (Nat.le_of_ble_eq_true rfl) rfl h
set_option maxRecDepth 4000 in
theorem k_X11_ways_0 {G : GT} {K : Int32 → Mem → Prop} {M : Mem} {W : WT} {v1 : Int32} {v2 : Int32} (h : (RP W M) ∧ (((0 : Int32) ≤ v1 ∧ v1 < W 8 4) → (((0 : Int32) ≤ v2 ∧ v2 ≤ 99) → (∀ N7 : Mem, (Zcw M N7 ∧ ∀ k, k < 102 → N7.1 195 k = 0) → B_X11_ways G K 26 [(0, .ref 175), (1, .int v1), (2, .int v2), (3, .int 0)] [] N7)) ∧ (¬ ((0 : Int32) ≤ v2 ∧ v2 ≤ 99) → K (-2) M)) ∧ (¬ ((0 : Int32) ≤ v1 ∧ v1 < W 8 4) → K (-1) M)) : B_X11_ways G K 0 [(0, .ref 175), (1, .int v1), (2, .int v2)] [] M := by
  refine BT.aload_n dX11_ways_0 rfl 0 rfl ?_
  refine BT.iload_n dX11_ways_1 rfl 1 rfl ?_
  refine BT.mcV [.int v1] (t_X11_isPiece h.1 ?_) mb_X11_isPiece mv_X11_isPiece lk_X11_198 rfl (by decide) rfl (recvRep ho_175 rfl) (Nat.le_of_ble_eq_true rfl) dX11_ways_2
  show B_X11_ways G K 5 [(0, .ref 175), (1, .int v1), (2, .int v2)] [.int (bi ((0 : Int32) ≤ v1 ∧ v1 < W 8 4))] M
  refine BT.if_ne (tgt := 10) dX11_ways_5 (by decide) (fun c => ?_) (fun c => ?_)
  · have c2 := bi_ne0.mp c
    refine BT.iload_n dX11_ways_10 rfl 2 rfl ?_
    refine BT.mcS [.int v2] (t_X11_isDay  ?_) mb_X11_isDay ms_X11_isDay lk_X11_156 rfl (by decide) rfl (Nat.le_of_ble_eq_true rfl) dX11_ways_11
    show B_X11_ways G K 14 [(0, .ref 175), (1, .int v1), (2, .int v2)] [.int (bi ((0 : Int32) ≤ v2 ∧ v2 ≤ 99))] M
    refine BT.if_ne (tgt := 20) dX11_ways_14 (by decide) (fun c => ?_) (fun c => ?_)
    · have c5 := bi_ne0.mp c
      refine BT.aload_n dX11_ways_20 rfl 0 rfl ?_
      refine BT.mcVvp [] (t_X11_clearWere  (fun N hN => ⟨rfl, hN⟩)) mb_X11_clearWere mv_X11_clearWere lk_X11_284 rfl (by decide) rfl (recvRep ho_175 rfl) (Nat.le_of_ble_eq_true rfl) dX11_ways_21 (P := fun N7 => Zcw M N7 ∧ ∀ k, k < 102 → N7.1 195 k = 0) (fun N7 g7 => ?_)
      show B_X11_ways G K 24 [(0, .ref 175), (1, .int v1), (2, .int v2)] [] N7
      refine BT.iconst (v := 0) dX11_ways_24 (by decide) ?_
      refine BT.istore_n (L' := [(3, .int 0), (0, .ref 175), (1, .int v1), (2, .int v2)]) dX11_ways_25 rfl (by decide) rfl ?_
      refine BT.sub [1, 2, 3, 0] rfl ?_
      exact (((h.2.1 c2).1 c5) N7 g7)
    · have c6 := bi_eq0.mp c
      refine BT.bipush (v := (-2)) dX11_ways_17 (by decide) ?_
      exact BT.iret dX11_ways_19 rfl (by decide) (by decide) ((h.2.1 c2).2 c6)
  · have c3 := bi_eq0.mp c
    refine BT.iconst (v := (-1)) dX11_ways_8 (by decide) ?_
    exact BT.iret dX11_ways_9 rfl (by decide) (by decide) (h.2.2 c3)
set_option maxRecDepth 4000 in
theorem k_X11_ways_26 {G : GT} {K : Int32 → Mem → Prop} {M : Mem} {W : WT} {v1 : Int32} {v2 : Int32} {v3 : Int32} (h : (RG W M) ∧ (RT W M) ∧ (∀ r1 : Int32, r1 = (nI (min (w_len W (w_n W)) 8)) → (((1 : Int32) <<< (r1 &&& 31)) ≤ v3 → (∀ r4 : Int32, r4 = (nI (z_cnt M.1 102)) → K r4 M)) ∧ (¬ ((1 : Int32) <<< (r1 &&& 31)) ≤ v3 → (RG W M) ∧ (RT W M) ∧ (PR W M v1) ∧ (∀ r5 : Int32, r5 = (w_given (w_rd W v3) (zp v1) v2) → ∀ N5 : Mem, (Zcr M N5) → (AnsO r5) ∧ (∀ N6 : Mem, N6 = (m_i N5 195 (z_idx r5) 1) → B_X11_ways G K 26 [(0, .ref 175), (1, .int v1), (2, .int v2), (3, .int (v3 + 1))] [] N6))))) : B_X11_ways G K 26 [(0, .ref 175), (1, .int v1), (2, .int v2), (3, .int v3)] [] M := by
  refine BT.iload_n dX11_ways_26 rfl 3 rfl ?_
  refine BT.iconst (v := 1) dX11_ways_27 (by decide) ?_
  refine BT.aload_n dX11_ways_28 rfl 0 rfl ?_
  refine BT.mcVr [] (t_X11_opens h.1 h.2.1 ⟨rfl, rfl⟩) mb_X11_opens mv_X11_opens lk_X11_287 rfl (by decide) rfl (recvRep ho_175 rfl) (Nat.le_of_ble_eq_true rfl) dX11_ways_29 (fun r1 e1 => ?_)
  show B_X11_ways G K 32 [(0, .ref 175), (1, .int v1), (2, .int v2), (3, .int v3)] [.int r1, .int 1, .int v3] M
  refine BT.ishl dX11_ways_32 ?_
  refine BT.icmp_ge (tgt := 53) dX11_ways_33 (by decide) (fun c => ?_) (fun c => ?_)
  · have c2 := c
    refine BT.aload_n dX11_ways_53 rfl 0 rfl ?_
    refine BT.mcVr [] (t_X11_manyWere  ⟨rfl, rfl⟩) mb_X11_manyWere mv_X11_manyWere lk_X11_293 rfl (by decide) rfl (recvRep ho_175 rfl) (Nat.le_of_ble_eq_true rfl) dX11_ways_54 (fun r4 e4 => ?_)
    show B_X11_ways G K 57 [(0, .ref 175), (1, .int v1), (2, .int v2), (3, .int v3)] [.int r4] M
    exact BT.iret dX11_ways_57 rfl (by decide) (by decide) (((h.2.2 r1 e1).1 c2) r4 e4)
  · have c3 := c
    refine BT.aload_n dX11_ways_36 rfl 0 rfl ?_
    refine BT.aload_n dX11_ways_37 rfl 0 rfl ?_
    refine BT.iload_n dX11_ways_38 rfl 1 rfl ?_
    refine BT.iload_n dX11_ways_39 rfl 2 rfl ?_
    refine BT.iload_n dX11_ways_40 rfl 3 rfl ?_
    refine BT.mcVp [.int v1, .int v2, .int v3] (t_X11_giftBy ((h.2.2 r1 e1).2 c3).1 ((h.2.2 r1 e1).2 c3).2.1 ((h.2.2 r1 e1).2 c3).2.2.1 (fun N hN => ⟨rfl, hN⟩)) mb_X11_giftBy mv_X11_giftBy lk_X11_278 rfl (by decide) rfl (recvRep ho_175 rfl) (Nat.le_of_ble_eq_true rfl) dX11_ways_41 (P := fun N5 => Zcr M N5) (fun r5 e5 N5 g5 => ?_)
    show B_X11_ways G K 44 [(0, .ref 175), (1, .int v1), (2, .int v2), (3, .int v3)] [.int r5, .ref 175] N5
    refine BT.mcVvm [.int r5] (t_X11_note (((h.2.2 r1 e1).2 c3).2.2.2 r5 e5 N5 g5).1 ⟨rfl, rfl⟩) mb_X11_note mv_X11_note lk_X11_290 rfl (by decide) rfl (recvRep ho_175 rfl) (Nat.le_of_ble_eq_true rfl) dX11_ways_44 (fun N6 g6 => ?_)
    show B_X11_ways G K 47 [(0, .ref 175), (1, .int v1), (2, .int v2), (3, .int v3)] [] N6
    refine BT.iinc (j := 3) (v := (v3 + 1)) (L' := [(3, .int (v3 + 1)), (0, .ref 175), (1, .int v1), (2, .int v2)]) dX11_ways_47 rfl rfl (by decide) rfl ?_
    refine BT.goto (tgt := 26) dX11_ways_50 (by decide) ?_
    refine BT.sub [1, 2, 3, 0] rfl ?_
    exact ((((h.2.2 r1 e1).2 c3).2.2.2 r5 e5 N5 g5).2 N6 g6)

theorem shl_nI : ∀ m, m ≤ 8 → (1 : Int32) <<< (nI m &&& 31) = nI (2 ^ m) := by decide +kernel
theorem t_X11_ways {G : GT} {K : Int32 → Mem → Prop} {M : Mem} {W : WT} {v1 v2 : Int32} (hR : RG W M) (hQ : RP W M) (hT : RT W M) (h : ∀ N, Zq M N → K (a_ways W v1 v2) N) : T_X11_ways G [.ref 175, .int v1, .int v2] M K := by
  unfold a_ways at h
  have h8 := hR.n.2.2
  refine e_X11_ways (k_X11_ways_0 (W := W) ⟨hQ, fun c => ⟨fun c2 N7 g7 => ?_, fun c2 => ?_⟩, fun c => ?_⟩)
  · rw [q_rp_n c, sel_t c2, sel_t rfl] at h
    obtain ⟨i1, i2, i3, hP, ez⟩ := hQ.ix c
    rw [← ez] at h
    have ha : ∀ r, AnsO (w_given (w_rd W r) (zp v1) v2) := fun r => given_ans (RG_rd hR hT r) (PR_rd h8 hP r)
    obtain ⟨m, em⟩ : ∃ m, m = min (w_len W (w_n W)) 8 := ⟨_, rfl⟩
    have hm : m ≤ 8 := by omega
    have hpow : 2 ^ m ≤ 256 := by
      have : ∀ m, m ≤ 8 → 2 ^ m ≤ 256 := by decide
      exact this m hm
    refine up_loop (P := fun j => ∀ N, Zq M N → (∀ k, k < 102 → (¬ N.1 195 k = 0 ↔ ∃ r, r < j ∧ z_idx (w_given (w_rd W (nI r)) (zp v1) v2) = k)) → B_X11_ways G K 26 [(0, .ref 175), (1, .int v1), (2, .int v2), (3, .int (nI j))] [] N) (2 ^ m) (fun N hN hk => ?_) (fun j hj ih N hN hk => ?_) 0 (Nat.zero_le _) N7 g7.1.q (fun k hk => ⟨fun q => absurd (g7.2 k hk) q, fun ⟨r, hr, _⟩ => absurd hr (by omega)⟩)
    · refine k_X11_ways_26 (W := W) ⟨hR.q hN, hT.q hN, fun r1 e1 => ⟨fun _ r4 e4 => ?_, fun c3 => absurd ?_ c3⟩⟩
      · obtain ⟨hb, hh⟩ := a_unl_bits (W := W) (p := zp v1) (day := v2) (times := w_times W 8) ha 256
        have := a_count hh (Z := N.1) (fun k hk' => by
          rw [hk k hk', hb k hk']
          constructor
          · rintro ⟨r, hr, q⟩
            have hbits : ∀ i, i < 32 → bP (nI r &&& w_times W 8) i → i < m := fun i hi z => nI_bits hm r hr i hi (bP_and.mp z).1
            obtain ⟨r', hr', er'⟩ := bits_nI hm hbits
            refine ⟨r', by omega, ?_, ?_⟩
            · refine bP_eq0.mpr (fun i hi z => ?_)
              rw [← er', bP_and, bP_and, bP_not hi] at z
              exact z.2 z.1.2
            · rw [← er', ← w_rd_times h8]; exact q
          · rintro ⟨r, hr, q1, q2⟩
            have hbits : ∀ i, i < 32 → bP (nI r) i → i < m := fun i hi z => by
              have ht : bP (w_times W 8) i := Classical.not_not.mp fun y => bP_eq0.mp q1 i hi (bP_and.mpr ⟨z, (bP_not hi).mpr y⟩)
              rw [em]; exact times_lt h8 hi ht
            obtain ⟨r', hr', er'⟩ := bits_nI hm hbits
            exact ⟨r', hr', by rw [← er']; exact q2⟩)
        rw [e4, this]
        exact h N hN
      · rw [e1, ← em, shl_nI m hm]; exact Int32.le_refl _
    · refine k_X11_ways_26 (W := W) ⟨hR.q hN, hT.q hN, fun r1 e1 => ⟨fun c3 => ?_, fun _ => ⟨hR.q hN, hT.q hN, hP.q hN, fun r5 e5 N5 g5 => ⟨by rw [e5]; exact ha _, fun N6 g6 => ?_⟩⟩⟩⟩
      · rw [e1, ← em, shl_nI m hm, nI_leI (by omega) (by omega)] at c3; omega
      · rw [nI_1]
        refine ih N6 (by rw [g6]; exact (hN.tr g5.q).mc (by decide)) (fun k hk' => ?_)
        rw [g6]
        by_cases e : k = z_idx r5
        · rw [e, m_i_at]
          exact ⟨fun _ => ⟨j, by omega, by rw [e5]⟩, fun _ => by decide⟩
        · rw [m_i_ne (by omega), g5.1 195 (by decide), hk k hk']
          constructor
          · rintro ⟨r, hr, q⟩; exact ⟨r, by omega, q⟩
          · rintro ⟨r, hr, q⟩
            by_cases er : r = j
            · subst er; rw [← e5] at q; exact absurd q.symm e
            · exact ⟨r, by omega, q⟩
  · rw [q_rp_n c, sel_f c2, sel_f (by decide)] at h; exact h M Zq.rf
  · rw [q_rp, sel_f c, sel_f (by decide)] at h; exact h M Zq.rf

