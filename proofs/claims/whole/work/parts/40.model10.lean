/-! ===== 40.model10 ===== -/
/-! ===== the model's readings ===== -/
theorem w_fit_congr {W V : WT} {c : Nat} (h2 : V c 2 = W c 2) (h1 : V (c + 1) = W (c + 1)) (m : Int32) : w_fit V c m = w_fit W c m := by
  have key : ∀ f i, w_ff V c m i f = w_ff W c m i f := by
    intro f
    induction f with
    | zero => intro i; rfl
    | succ f ih =>
      intro i
      unfold w_ff w_fits
      rw [ih, h1]
  unfold w_fit
  rw [h2, key]
theorem GW_congr {W V : WT} (h : GW W) (e1 : V 8 1 = W 8 1) (e7 : V 8 7 = W 8 7) (e50 : V 50 = W 50) (hl : ∀ l, l < w_n W → (V (10 + 5 * l) 0 = W (10 + 5 * l) 0 ∧ V (10 + 5 * l) 1 = W (10 + 5 * l) 1 ∧ V (10 + 5 * l) 2 = W (10 + 5 * l) 2) ∧ V (10 + 5 * l + 1) = W (10 + 5 * l + 1) ∧ V (10 + 5 * l + 2) = W (10 + 5 * l + 2) ∧ V (10 + 5 * l + 3) = W (10 + 5 * l + 3) ∧ V (10 + 5 * l + 4) = W (10 + 5 * l + 4)) : GW V := by
  have en : w_n V = w_n W := by unfold w_n; rw [e1]
  obtain ⟨h1, h2, h3, h4⟩ := h
  refine ⟨by rw [en, e1]; exact h1, ?_, by rw [e7]; exact h3, fun l hl' => ?_⟩
  · rw [en, e50]
    exact LfTo_congr h1.2 (fun l hl' => ((hl l hl').1.1).symm) h2
  · rw [en] at hl'
    obtain ⟨⟨f0, f1, f2⟩, g1, g2, g3, g4⟩ := hl l hl'
    unfold LawG CasesW FitW
    rw [f0, f1, f2, g1, g2, g3, g4]
    have ew := fun m => w_fit_congr (W := W) (V := V) f2 g1 m
    simp only [ew]
    exact h4 l hl'
theorem rd_off {W : WT} {r : Int32} {c k : Nat} (h : ∀ l, l < w_n W → ¬ c = 10 + 5 * l) : w_rd W r c k = W c k := w_rdn_off (fun q => by
  obtain ⟨-, l, hl, e⟩ := q
  exact h l hl e)
theorem GW_rd {W : WT} (h : GW W) (r : Int32) : GW (w_rd W r) := by
  have h8 := h.1.2
  refine GW_congr h (rd_off (fun l hl => by omega)) (rd_off (fun l hl => by omega)) (by funext k; exact rd_off (fun l hl => by omega)) (fun l hl => ⟨⟨w_rdn_k (by decide), w_rdn_k (by decide), w_rdn_k (by decide)⟩, ?_, ?_, ?_, ?_⟩)
  all_goals (funext k; exact rd_off (fun l hl => by omega))
theorem RT.num {W : WT} {M : Mem} (h : RT W M) : ∀ l, l ≤ w_n W → z_num M.1 l = w_len W l
  | 0, _ => rfl
  | l + 1, hl => by
    obtain ⟨-, -, h3⟩ := id h
    obtain ⟨⟨t1, t2, t3, t4, t5⟩, -, r183, -, -, r187⟩ := h3 l (by omega)
    have e1 : (M.1 183 l < 0) = (W (10 + 5 * l) 8 = -6) := by
      rw [r183]
      apply propext
      rcases t2 with q | q
      · rw [q]; decide
      · rcases q with q | q | q <;> rw [q] <;> decide
    have e2 : (M.1 187 l < 0) = (W (10 + 5 * l) 13 = -6) := by
      rw [r187]
      apply propext
      rcases t4 with q | q
      · rw [q]; decide
      · rw [propext (iff_false_intro q.nn.1), propext (iff_false_intro q.nn.2)]
    unfold z_num
    rw [w_len_succ, RT.num h l (by omega), e1, e2]
theorem RT.sec {W : WT} {M : Mem} (h : RT W M) {l : Nat} (hl : l < w_n W) : M.1 183 l < 0 ↔ W (10 + 5 * l) 8 = -6 := by
  obtain ⟨-, -, h3⟩ := id h
  obtain ⟨⟨t1, t2, t3, t4, t5⟩, -, r183, -, -, r187⟩ := h3 l hl
  rw [r183]
  rcases t2 with q | q
  · rw [q]; decide
  · rcases q with q | q | q <;> rw [q] <;> decide
theorem RT.sec2 {W : WT} {M : Mem} (h : RT W M) {l : Nat} (hl : l < w_n W) : M.1 187 l < 0 ↔ W (10 + 5 * l) 13 = -6 := by
  obtain ⟨-, -, h3⟩ := id h
  obtain ⟨⟨t1, t2, t3, t4, t5⟩, -, r183, -, -, r187⟩ := h3 l hl
  rw [r187]
  rcases t4 with q | q
  · rw [q]; decide
  · exact ⟨fun z => absurd z q.nn.1, fun z => absurd z q.nn.2⟩
theorem RG_rd {W : WT} {M : Mem} (hR : RG W M) (hT : RT W M) (r : Int32) : RG (w_rd W r) (m_i M 175 19 r) := by
  obtain ⟨h0, h1, h2, h3, h4, h5⟩ := id hR
  have h8 := h0.1.2
  have off : ∀ c k, (∀ l, l < w_n W → ¬ c = 10 + 5 * l) → w_rd W r c k = W c k := fun c k h => rd_off h
  refine ⟨GW_rd h0 r, ?_, ?_, ?_, ?_, fun l hl => ?_⟩
  · rw [m_i_ne (by omega), h1, off 8 1 (fun l hl => by omega)]
  · rw [m_i_ne (by omega), h2, off 8 5 (fun l hl => by omega)]
  · rw [m_i_ne (by omega), h3, off 8 6 (fun l hl => by omega)]
  · rw [m_i_ne (by omega), h4, off 8 7 (fun l hl => by omega)]
  · rw [w_rd_n] at hl
    obtain ⟨r1, r2, r3, r4, r5, r6, r7⟩ := h5 l hl
    have k0 : ∀ k, ¬ k = 9 → w_rd W r (10 + 5 * l) k = W (10 + 5 * l) k := fun k hk => w_rdn_k hk
    unfold LawR
    rw [mi_off (by omega), mi_off (by omega), mi_off (by omega), mi_off (by omega), mi_off (by omega), mi_off (by omega), mi_off (by omega), k0 0 (by decide), k0 1 (by decide), k0 2 (by decide), k0 10 (by decide), k0 14 (by decide)]
    refine ⟨r1, r2, r3, r4, r5, ?_, fun k hk => ?_⟩
    · rw [show w_rd W r (10 + 5 * l) 9 = w_tr W r l from w_rdn_at hl]
      have hnum := hT.num l (by omega)
      have hnum' : z_num (m_i M 175 19 r).1 l = w_len W l := by
        rw [← hnum]
        have : ∀ j, z_num (m_i M 175 19 r).1 j = z_num M.1 j := by
          intro j
          induction j with
          | zero => rfl
          | succ j ih => unfold z_num; rw [ih, mi_off (by omega), mi_off (by omega)]
        exact this l
      have hle := w_len_le W l
      obtain ⟨-, r182, r183, -⟩ := hT.2.2 l hl
      have hs := hT.sec hl
      have hbo : bitO r (nI (w_len W l)) ↔ ¬ bP r (w_len W l) := bit_is0 (by omega)
      unfold z_tm z_sec z_numw w_tr
      rw [hnum', sel_f (show ¬ (0 : Int32) = 1 by decide), Nat.add_zero, m_i_at, mi_off (by omega), mi_off (by omega), r182, bit_is1 (by omega), propext hbo]
      rw [r183] at hs ⊢
      by_cases c1 : W (10 + 5 * l) 8 = -6
      · rw [sel_f (fun q => q.1 (hs.mpr c1)), sel_f (fun q => q.1 c1)]
      · by_cases c2 : w_len W l < 8 ∧ bP r (w_len W l)
        · rw [sel_t ⟨fun q => c1 (hs.mp q), c2⟩, sel_t ⟨c1, c2.1, fun q => q c2.2⟩]
        · rw [sel_f (fun q => c2 q.2), sel_f (fun q => c2 ⟨q.2.1, Classical.not_not.mp q.2.2⟩)]
    · rw [off _ _ (fun l' hl' => by omega), off _ _ (fun l' hl' => by omega)]
      exact r7 k hk
theorem PR_congr {W V : WT} {M N : Mem} {p : Int32} (h : PR W M p) (e : ∀ j k, j < 9 → p = nI j → k < 4 → V (zc j) k = W (zc j) k) (s : ∀ c, 189 ≤ c → c ≤ 192 → N.1 c = M.1 c) : PR V N p := by
  obtain ⟨j, hj, ep, ⟨p1, p2, p3, p4⟩, e0, e1, e2, e3⟩ := h
  have f := fun k hk => e j k hj ep hk
  refine ⟨j, hj, ep, ?_, ?_, ?_, ?_, ?_⟩
  · unfold PW BOk
    rw [f 0 (by decide), f 1 (by decide), f 2 (by decide), f 3 (by decide)]
    exact ⟨p1, p2, p3, p4⟩
  · rw [s 189 (by decide) (by decide), e0, f 0 (by decide)]
  · rw [s 190 (by decide) (by decide), e1, f 1 (by decide)]
  · rw [s 191 (by decide) (by decide), e2, f 2 (by decide)]
  · rw [s 192 (by decide) (by decide), e3, f 3 (by decide)]
theorem PR_rd {W : WT} {M : Mem} (h8 : w_n W ≤ 8) {p : Int32} (h : PR W M p) (r : Int32) : PR (w_rd W r) (m_i M 175 19 r) p :=
  PR_congr h (fun j k hj _ _ => rd_off (fun l hl => by unfold zc; split <;> omega)) (fun c h1 h2 => mi_off (by omega))
theorem RT.rdOk {W : WT} {M : Mem} (hR : RG W M) (hT : RT W M) : RdOk W := by
  intro l hl
  obtain ⟨-, -, -, -, -, r6, -⟩ := hR.2.2.2.2.2 l hl
  rw [← r6]
  unfold z_tm
  rw [sel_f, (hT.2.2 l hl).2.1]
  rintro ⟨-, a, b⟩
  rw [hT.1, bit_is1 (by omega)] at b
  exact bP_0 b
theorem w_rd_0 {W : WT} (hr : RdOk W) : w_rd W 0 = W := by
  funext c k
  by_cases h : k = 9 ∧ ∃ l, l < w_n W ∧ c = 10 + 5 * l
  · obtain ⟨rfl, l, hl, rfl⟩ := h
    show w_rdn W 0 (w_n W) _ _ = _
    rw [w_rdn_at hl, hr l hl]
    unfold w_tr
    rw [sel_f (fun q => q.2.2 (bitO_0 _))]
  · exact w_rdn_off h
theorem w_wl_pre (W : WT) : ∀ n l, l ≤ n → ∃ t, w_wl W n = w_wl W l ++ t
  | 0, l, h => ⟨[], by rw [show l = 0 by omega]; rfl⟩
  | n + 1, l, h => by
    by_cases e : l = n + 1
    · exact ⟨[], by rw [e, List.append_nil]⟩
    · obtain ⟨t, et⟩ := w_wl_pre W n l (by omega)
      refine ⟨t ++ (sel (W (10 + 5 * n) 8 = -6) [] [10 * nI n] ++ sel (W (10 + 5 * n) 13 = -6) [] [10 * nI n + 1]), ?_⟩
      rw [w_wl, et, List.append_assoc]

/-! BetweenLawsModel.giftBy(III)I -/
abbrev rm_X11_giftBy : Room := { frames := 7, cells := 0, slots := 0, locals := 175 }
abbrev B_X11_giftBy (G : GT) (K : Int32 → Mem → Prop) := BT G (Rep G) RX11 "giftBy" cX11_giftBy 5 (some .int) rm_X11_giftBy K 0 0
abbrev T_X11_giftBy (G : GT) (as : List Value) (M : Mem) (K : Int32 → Mem → Prop) : Prop := MT G (Rep G) yX11_giftBy cX11_giftBy 5 (some .int) rm_X11_giftBy as M K
theorem e_X11_giftBy {G : GT} {K : Int32 → Mem → Prop} {M : Mem} {v1 : Int32} {v2 : Int32} {v3 : Int32} (h : B_X11_giftBy G K 0 [(0, .ref 175), (1, .int v1), (2, .int v2), (3, .int v3)] [] M) : T_X11_giftBy G [.ref 175, .int v1, .int v2, .int v3] M K := MT.of (by decide +kernel) rfl rfl (Nat.le_of_ble_eq_true rfl) rfl h
set_option maxRecDepth 4000 in
theorem k_X11_giftBy_0 {G : GT} {K : Int32 → Mem → Prop} {M : Mem} {W : WT} {v1 : Int32} {v2 : Int32} {v3 : Int32} (h : (RG W (m_i M 175 19 v3)) ∧ (PR W (m_i M 175 19 v3) v1) ∧ (∀ r1 : Int32, r1 = (w_given W (zp v1) v2) → ∀ N1 : Mem, (Zcr (m_i M 175 19 v3) N1) → K r1 (m_i N1 175 19 0))) : B_X11_giftBy G K 0 [(0, .ref 175), (1, .int v1), (2, .int v2), (3, .int v3)] [] M := by
  refine BT.aload_n dX11_giftBy_0 rfl 0 rfl ?_
  refine BT.iload_n dX11_giftBy_1 rfl 3 rfl ?_
  refine BT.putI fl_X11_184 ft_11_19 ho_175 rfl dX11_giftBy_2 ?_
  refine BT.aload_n dX11_giftBy_5 rfl 0 rfl ?_
  refine BT.iload_n dX11_giftBy_6 rfl 1 rfl ?_
  refine BT.iload_n dX11_giftBy_7 rfl 2 rfl ?_
  refine BT.mcVp [.int v1, .int v2] (t_X11_giftOf h.1 h.2.1 (fun N hN => ⟨rfl, hN⟩)) mb_X11_giftOf mv_X11_giftOf lk_X11_254 rfl (by decide) rfl (recvRep ho_175 rfl) (Nat.le_of_ble_eq_true rfl) dX11_giftBy_8 (P := fun N1 => Zcr (m_i M 175 19 v3) N1) (fun r1 e1 N1 g1 => ?_)
  show B_X11_giftBy G K 11 [(0, .ref 175), (1, .int v1), (2, .int v2), (3, .int v3)] [.int r1] N1
  refine BT.istore (L' := [(4, .int r1), (0, .ref 175), (1, .int v1), (2, .int v2), (3, .int v3)]) dX11_giftBy_11 (by decide) rfl ?_
  refine BT.aload_n dX11_giftBy_13 rfl 1 rfl ?_
  refine BT.iconst (v := 0) dX11_giftBy_14 (by decide) ?_
  refine BT.putI fl_X11_184 ft_11_19 ho_175 rfl dX11_giftBy_15 ?_
  refine BT.iload dX11_giftBy_18 0 rfl ?_
  exact BT.iret dX11_giftBy_20 rfl (by decide) (by decide) (h.2.2 r1 e1 N1 g1)

theorem t_X11_giftBy {G : GT} {K : Int32 → Mem → Prop} {M : Mem} {W : WT} {v1 v2 v3 : Int32} (hR : RG W M) (hT : RT W M) (hP : PR W M v1) (h : ∀ N, Zcr M N → K (w_given (w_rd W v3) (zp v1) v2) N) : T_X11_giftBy G [.ref 175, .int v1, .int v2, .int v3] M K := by
  refine e_X11_giftBy (k_X11_giftBy_0 (W := w_rd W v3) ⟨RG_rd hR hT v3, PR_rd hR.1.1.2 hP v3, fun r1 e1 N1 g1 => ?_⟩)
  rw [e1]
  refine h _ ⟨fun i hi => ?_, fun j hj => ?_, g1.2.2⟩
  · rw [mi_off (fun e => hi (by omega)), g1.1 i hi, mi_off (fun e => hi (by omega))]
  · by_cases e : j = 19
    · rw [e, m_i_at, hT.1]
    · rw [m_i_ne (by omega), g1.2.1 j hj, m_i_ne (by omega)]

/-! BetweenLawsModel.read(III)I -/
abbrev rm_X11_read : Room := { frames := 8, cells := 0, slots := 0, locals := 199 }
abbrev B_X11_read (G : GT) (K : Int32 → Mem → Prop) := BT G (Rep G) RX11 "read" cX11_read 4 (some .int) rm_X11_read K 0 0
abbrev T_X11_read (G : GT) (as : List Value) (M : Mem) (K : Int32 → Mem → Prop) : Prop := MT G (Rep G) yX11_read cX11_read 4 (some .int) rm_X11_read as M K
theorem e_X11_read {G : GT} {K : Int32 → Mem → Prop} {M : Mem} {v1 : Int32} {v2 : Int32} {v3 : Int32} (h : B_X11_read G K 0 [(0, .ref 175), (1, .int v1), (2, .int v2), (3, .int v3)] [] M) : T_X11_read G [.ref 175, .int v1, .int v2, .int v3] M K := MT.of (by decide +kernel) rfl rfl (Nat.le_of_ble_eq_true rfl) rfl h
set_option maxRecDepth 4000 in
theorem k_X11_read_0 {G : GT} {K : Int32 → Mem → Prop} {M : Mem} {W : WT} {v1 : Int32} {v2 : Int32} {v3 : Int32} (h : (RP W M) ∧ (((0 : Int32) ≤ v1 ∧ v1 < W 8 4) → (¬ ((0 : Int32) ≤ v2 ∧ v2 ≤ 99) → K (-2) M) ∧ (((0 : Int32) ≤ v2 ∧ v2 ≤ 99) → (¬ ((0 : Int32) ≤ v3 ∧ v3 ≤ (255 : Int32)) → K (-2) M) ∧ (((0 : Int32) ≤ v3 ∧ v3 ≤ (255 : Int32)) → (RG W M) ∧ (RT W M) ∧ (PR W M v1) ∧ (∀ r9 : Int32, r9 = (w_given (w_rd W v3) (zp v1) v2) → ∀ N9 : Mem, (Zcr M N9) → K r9 N9)))) ∧ (¬ ((0 : Int32) ≤ v1 ∧ v1 < W 8 4) → K (-1) M)) : B_X11_read G K 0 [(0, .ref 175), (1, .int v1), (2, .int v2), (3, .int v3)] [] M := by
  refine BT.aload_n dX11_read_0 rfl 0 rfl ?_
  refine BT.iload_n dX11_read_1 rfl 1 rfl ?_
  refine BT.mcV [.int v1] (t_X11_isPiece h.1 ?_) mb_X11_isPiece mv_X11_isPiece lk_X11_198 rfl (by decide) rfl (recvRep ho_175 rfl) (Nat.le_of_ble_eq_true rfl) dX11_read_2
  show B_X11_read G K 5 [(0, .ref 175), (1, .int v1), (2, .int v2), (3, .int v3)] [.int (bi ((0 : Int32) ≤ v1 ∧ v1 < W 8 4))] M
  refine BT.if_ne (tgt := 10) dX11_read_5 (by decide) (fun c => ?_) (fun c => ?_)
  · have c2 := bi_ne0.mp c
    refine BT.iload_n dX11_read_10 rfl 2 rfl ?_
    refine BT.mcS [.int v2] (t_X11_isDay  ?_) mb_X11_isDay ms_X11_isDay lk_X11_156 rfl (by decide) rfl (Nat.le_of_ble_eq_true rfl) dX11_read_11
    show B_X11_read G K 14 [(0, .ref 175), (1, .int v1), (2, .int v2), (3, .int v3)] [.int (bi ((0 : Int32) ≤ v2 ∧ v2 ≤ 99))] M
    refine BT.if_eq (tgt := 39) dX11_read_14 (by decide) (fun c => ?_) (fun c => ?_)
    · have c5 := bi_eq0.mp c
      refine BT.bipush (v := (-2)) dX11_read_39 (by decide) ?_
      exact BT.iret dX11_read_41 rfl (by decide) (by decide) ((h.2.1 c2).1 c5)
    · have c6 := bi_ne0.mp c
      refine BT.iload_n dX11_read_17 rfl 3 rfl ?_
      refine BT.i2l dX11_read_18 ?_
      refine BT.lconst (v := 0) dX11_read_19 (by decide) ?_
      refine BT.ldc2 dX11_read_20 kc_X11_276 ?_
      refine BT.mcS [.long (Int32.toInt64 v3), .long 0, .long 255] (t_X11_in (x := v3) (y := (0 : Int32)) (z := (255 : Int32)) rfl (by decide) (by decide) ?_) mb_X11_in ms_X11_in lk_X11_86 rfl (by decide) rfl (Nat.le_of_ble_eq_true rfl) dX11_read_23
      show B_X11_read G K 26 [(0, .ref 175), (1, .int v1), (2, .int v2), (3, .int v3)] [.int (bi ((0 : Int32) ≤ v3 ∧ v3 ≤ (255 : Int32)))] M
      refine BT.if_eq (tgt := 39) dX11_read_26 (by decide) (fun c => ?_) (fun c => ?_)
      · have c7 := bi_eq0.mp c
        refine BT.bipush (v := (-2)) dX11_read_39 (by decide) ?_
        exact BT.iret dX11_read_41 rfl (by decide) (by decide) (((h.2.1 c2).2 c6).1 c7)
      · have c8 := bi_ne0.mp c
        refine BT.aload_n dX11_read_29 rfl 0 rfl ?_
        refine BT.iload_n dX11_read_30 rfl 1 rfl ?_
        refine BT.iload_n dX11_read_31 rfl 2 rfl ?_
        refine BT.iload_n dX11_read_32 rfl 3 rfl ?_
        refine BT.mcVp [.int v1, .int v2, .int v3] (t_X11_giftBy (((h.2.1 c2).2 c6).2 c8).1 (((h.2.1 c2).2 c6).2 c8).2.1 (((h.2.1 c2).2 c6).2 c8).2.2.1 (fun N hN => ⟨rfl, hN⟩)) mb_X11_giftBy mv_X11_giftBy lk_X11_278 rfl (by decide) rfl (recvRep ho_175 rfl) (Nat.le_of_ble_eq_true rfl) dX11_read_33 (P := fun N9 => Zcr M N9) (fun r9 e9 N9 g9 => ?_)
        show B_X11_read G K 36 [(0, .ref 175), (1, .int v1), (2, .int v2), (3, .int v3)] [.int r9] N9
        refine BT.goto (tgt := 41) dX11_read_36 (by decide) ?_
        exact BT.iret dX11_read_41 rfl (by decide) (by decide) ((((h.2.1 c2).2 c6).2 c8).2.2.2 r9 e9 N9 g9)
  · have c3 := bi_eq0.mp c
    refine BT.iconst (v := (-1)) dX11_read_8 (by decide) ?_
    exact BT.iret dX11_read_9 rfl (by decide) (by decide) (h.2.2 c3)

theorem t_X11_read {G : GT} {K : Int32 → Mem → Prop} {M : Mem} {W : WT} {v1 v2 v3 : Int32} (hR : RG W M) (hQ : RP W M) (hT : RT W M) (h : ∀ N, Zcr M N → K (a_read W v1 v2 v3) N) : T_X11_read G [.ref 175, .int v1, .int v2, .int v3] M K := by
  unfold a_read at h
  refine e_X11_read (k_X11_read_0 (W := W) ⟨hQ, fun c => ⟨fun c2 => ?_, fun c2 => ⟨fun c3 => ?_, fun c3 => ⟨hR, hT, ?_⟩⟩⟩, fun c => ?_⟩)
  · rw [q_rp_n c, sel_f c2, sel_f (by decide)] at h; exact h M Zcr.rf
  · rw [q_rp_n c, sel_t c2, sel_t rfl, sel_f c3] at h; exact h M Zcr.rf
  · rw [q_rp_n c, sel_t c2, sel_t rfl, sel_t c3] at h
    obtain ⟨i1, i2, i3, hP, ez⟩ := hQ.ix c
    rw [← ez] at h
    exact ⟨hP, fun r9 e9 N9 g9 => by rw [e9]; exact h _ g9⟩
  · rw [q_rp, sel_f c, sel_f (by decide)] at h; exact h M Zcr.rf

/-! BetweenLawsModel.open(I)I -/
abbrev rm_X11_open : Room := { frames := 0, cells := 0, slots := 0, locals := 0 }
abbrev B_X11_open (G : GT) (K : Int32 → Mem → Prop) := BT G (Rep G) RX11 "open" cX11_open 5 (some .int) rm_X11_open K 0 0
abbrev T_X11_open (G : GT) (as : List Value) (M : Mem) (K : Int32 → Mem → Prop) : Prop := MT G (Rep G) yX11_open cX11_open 5 (some .int) rm_X11_open as M K
theorem e_X11_open {G : GT} {K : Int32 → Mem → Prop} {M : Mem} {v1 : Int32} (h : B_X11_open G K 0 [(0, .ref 175), (1, .int v1)] [] M) : T_X11_open G [.ref 175, .int v1] M K := MT.of (by decide +kernel) rfl rfl (Nat.le_of_ble_eq_true rfl) rfl h
set_option maxRecDepth 4000 in
theorem k_X11_open_0 {G : GT} {K : Int32 → Mem → Prop} {M : Mem} {v1 : Int32} (h : B_X11_open G K 4 [(0, .ref 175), (1, .int v1), (2, .int 0), (3, .int 0)] [] M) : B_X11_open G K 0 [(0, .ref 175), (1, .int v1)] [] M := by
  refine BT.iconst (v := 0) dX11_open_0 (by decide) ?_
  refine BT.istore_n (L' := [(2, .int 0), (0, .ref 175), (1, .int v1)]) dX11_open_1 rfl (by decide) rfl ?_
  refine BT.iconst (v := 0) dX11_open_2 (by decide) ?_
  refine BT.istore_n (L' := [(3, .int 0), (2, .int 0), (0, .ref 175), (1, .int v1)]) dX11_open_3 rfl (by decide) rfl ?_
  refine BT.sub [2, 3, 1, 0] rfl ?_
  exact h
set_option maxRecDepth 4000 in
theorem k_X11_open_4 {G : GT} {K : Int32 → Mem → Prop} {M : Mem} {v1 : Int32} {v2 : Int32} {v3 : Int32} (h : ((M.1 175 18) ≤ v3 → (¬ v1 = (-1) → K (-6) M) ∧ (v1 = (-1) → K v2 M)) ∧ (¬ (M.1 175 18) ≤ v3 → B_X11_open G K 15 [(0, .ref 175), (1, .int v1), (2, .int v2), (3, .int v3), (4, .int 0)] [] M)) : B_X11_open G K 4 [(0, .ref 175), (1, .int v1), (2, .int v2), (3, .int v3)] [] M := by
  refine BT.iload_n dX11_open_4 rfl 3 rfl ?_
  refine BT.aload_n dX11_open_5 rfl 0 rfl ?_
  refine BT.getI fl_X11_149 ho_175 rfl dX11_open_6 ?_
  refine BT.icmp_ge (tgt := 72) dX11_open_9 (by decide) (fun c => ?_) (fun c => ?_)
  · have c1 := c
    refine BT.iload_n dX11_open_72 rfl 1 rfl ?_
    refine BT.iconst (v := (-1)) dX11_open_73 (by decide) ?_
    refine BT.icmp_ne (tgt := 81) dX11_open_74 (by decide) (fun c => ?_) (fun c => ?_)
    · have c3 := c
      refine BT.bipush (v := (-6)) dX11_open_81 (by decide) ?_
      exact BT.iret dX11_open_83 rfl (by decide) (by decide) ((h.1 c1).1 c3)
    · have c4 := c
      refine BT.iload_n dX11_open_77 rfl 2 rfl ?_
      refine BT.goto (tgt := 83) dX11_open_78 (by decide) ?_
      exact BT.iret dX11_open_83 rfl (by decide) (by decide) ((h.1 c1).2 c4)
  · have c2 := c
    refine BT.iconst (v := 0) dX11_open_12 (by decide) ?_
    refine BT.istore (L' := [(4, .int 0), (0, .ref 175), (1, .int v1), (2, .int v2), (3, .int v3)]) dX11_open_13 (by decide) rfl ?_
    refine BT.sub [1, 2, 3, 4, 0] rfl ?_
    exact (h.2 c2)
set_option maxRecDepth 4000 in
theorem k_X11_open_15 {G : GT} {K : Int32 → Mem → Prop} {M : Mem} {v1 : Int32} {v2 : Int32} {v3 : Int32} {v4 : Int32} (h : (2 ≤ v4 → B_X11_open G K 4 [(0, .ref 175), (1, .int v1), (2, .int v2), (3, .int (v3 + 1))] [] M) ∧ (¬ 2 ≤ v4 → (¬ v4 = 0 → (vp_in v3 8) ∧ ((M.1 187 (Int32.toNatClampNeg v3)) < 0 → B_X11_open G K 15 [(0, .ref 175), (1, .int v1), (2, .int v2), (3, .int v3), (4, .int (v4 + 1))] [] M) ∧ (¬ (M.1 187 (Int32.toNatClampNeg v3)) < 0 → (¬ v2 = v1 → B_X11_open G K 15 [(0, .ref 175), (1, .int v1), (2, .int (v2 + 1)), (3, .int v3), (4, .int (v4 + 1))] [] M) ∧ (v2 = v1 → K (((10 : Int32) * v3) + v4) M))) ∧ (v4 = 0 → (vp_in v3 8) ∧ ((M.1 183 (Int32.toNatClampNeg v3)) < 0 → B_X11_open G K 15 [(0, .ref 175), (1, .int v1), (2, .int v2), (3, .int v3), (4, .int (v4 + 1))] [] M) ∧ (¬ (M.1 183 (Int32.toNatClampNeg v3)) < 0 → (¬ v2 = v1 → B_X11_open G K 15 [(0, .ref 175), (1, .int v1), (2, .int (v2 + 1)), (3, .int v3), (4, .int (v4 + 1))] [] M) ∧ (v2 = v1 → K (((10 : Int32) * v3) + v4) M))))) : B_X11_open G K 15 [(0, .ref 175), (1, .int v1), (2, .int v2), (3, .int v3), (4, .int v4)] [] M := by
  refine BT.iload dX11_open_15 4 rfl ?_
  refine BT.iconst (v := 2) dX11_open_17 (by decide) ?_
  refine BT.icmp_ge (tgt := 66) dX11_open_18 (by decide) (fun c => ?_) (fun c => ?_)
  · have c1 := c
    refine BT.iinc (j := 3) (v := (v3 + 1)) (L' := [(3, .int (v3 + 1)), (0, .ref 175), (1, .int v1), (2, .int v2), (4, .int v4)]) dX11_open_66 rfl rfl (by decide) rfl ?_
    refine BT.goto (tgt := 4) dX11_open_69 (by decide) ?_
    refine BT.sub [1, 2, 3, 0] rfl ?_
    exact (h.1 c1)
  · have c2 := c
    refine BT.iload dX11_open_21 4 rfl ?_
    refine BT.if_ne (tgt := 35) dX11_open_23 (by decide) (fun c => ?_) (fun c => ?_)
    · have c3 := c
      refine BT.aload_n dX11_open_35 rfl 0 rfl ?_
      refine BT.getR (r := 187) fl_X11_43 ho_175 rfl dX11_open_36 ?_
      refine BT.iload_n dX11_open_39 rfl 3 rfl ?_
      refine BT.iald ha_187 ((h.2 c2).1 c3).1 dX11_open_40 ?_
      refine BT.if_lt (tgt := 60) dX11_open_41 (by decide) (fun c => ?_) (fun c => ?_)
      · have c5 := c
        refine BT.iinc (j := 4) (v := (v4 + 1)) (L' := [(4, .int (v4 + 1)), (0, .ref 175), (1, .int v1), (2, .int v2), (3, .int v3)]) dX11_open_60 rfl rfl (by decide) rfl ?_
        refine BT.goto (tgt := 15) dX11_open_63 (by decide) ?_
        refine BT.sub [1, 2, 3, 4, 0] rfl ?_
        exact (((h.2 c2).1 c3).2.1 c5)
      · have c6 := c
        refine BT.iload_n dX11_open_44 rfl 2 rfl ?_
        refine BT.iload_n dX11_open_45 rfl 1 rfl ?_
        refine BT.icmp_ne (tgt := 57) dX11_open_46 (by decide) (fun c => ?_) (fun c => ?_)
        · have c7 := c
          refine BT.iinc (j := 2) (v := (v2 + 1)) (L' := [(2, .int (v2 + 1)), (0, .ref 175), (1, .int v1), (3, .int v3), (4, .int v4)]) dX11_open_57 rfl rfl (by decide) rfl ?_
          refine BT.iinc (j := 4) (v := (v4 + 1)) (L' := [(4, .int (v4 + 1)), (2, .int (v2 + 1)), (0, .ref 175), (1, .int v1), (3, .int v3)]) dX11_open_60 rfl rfl (by decide) rfl ?_
          refine BT.goto (tgt := 15) dX11_open_63 (by decide) ?_
          refine BT.sub [2, 3, 1, 4, 0] rfl ?_
          exact ((((h.2 c2).1 c3).2.2 c6).1 c7)
        · have c8 := c
          refine BT.bipush (v := 10) dX11_open_49 (by decide) ?_
          refine BT.iload_n dX11_open_51 rfl 3 rfl ?_
          refine BT.imul dX11_open_52 ?_
          refine BT.iload dX11_open_53 4 rfl ?_
          refine BT.iadd dX11_open_55 ?_
          exact BT.iret dX11_open_56 rfl (by decide) (by decide) ((((h.2 c2).1 c3).2.2 c6).2 c8)
    · have c4 := c
      refine BT.aload_n dX11_open_26 rfl 0 rfl ?_
      refine BT.getR (r := 183) fl_X11_31 ho_175 rfl dX11_open_27 ?_
      refine BT.iload_n dX11_open_30 rfl 3 rfl ?_
      refine BT.iald ha_183 ((h.2 c2).2 c4).1 dX11_open_31 ?_
      refine BT.goto (tgt := 41) dX11_open_32 (by decide) ?_
      refine BT.if_lt (tgt := 60) dX11_open_41 (by decide) (fun c => ?_) (fun c => ?_)
      · have c9 := c
        refine BT.iinc (j := 4) (v := (v4 + 1)) (L' := [(4, .int (v4 + 1)), (0, .ref 175), (1, .int v1), (2, .int v2), (3, .int v3)]) dX11_open_60 rfl rfl (by decide) rfl ?_
        refine BT.goto (tgt := 15) dX11_open_63 (by decide) ?_
        refine BT.sub [1, 2, 3, 4, 0] rfl ?_
        exact (((h.2 c2).2 c4).2.1 c9)
      · have c10 := c
        refine BT.iload_n dX11_open_44 rfl 2 rfl ?_
        refine BT.iload_n dX11_open_45 rfl 1 rfl ?_
        refine BT.icmp_ne (tgt := 57) dX11_open_46 (by decide) (fun c => ?_) (fun c => ?_)
        · have c11 := c
          refine BT.iinc (j := 2) (v := (v2 + 1)) (L' := [(2, .int (v2 + 1)), (0, .ref 175), (1, .int v1), (3, .int v3), (4, .int v4)]) dX11_open_57 rfl rfl (by decide) rfl ?_
          refine BT.iinc (j := 4) (v := (v4 + 1)) (L' := [(4, .int (v4 + 1)), (2, .int (v2 + 1)), (0, .ref 175), (1, .int v1), (3, .int v3)]) dX11_open_60 rfl rfl (by decide) rfl ?_
          refine BT.goto (tgt := 15) dX11_open_63 (by decide) ?_
          refine BT.sub [2, 3, 1, 4, 0] rfl ?_
          exact ((((h.2 c2).2 c4).2.2 c10).1 c11)
        · have c12 := c
          refine BT.bipush (v := 10) dX11_open_49 (by decide) ?_
          refine BT.iload_n dX11_open_51 rfl 3 rfl ?_
          refine BT.imul dX11_open_52 ?_
          refine BT.iload dX11_open_53 4 rfl ?_
          refine BT.iadd dX11_open_55 ?_
          exact BT.iret dX11_open_56 rfl (by decide) (by decide) ((((h.2 c2).2 c4).2.2 c10).2 c12)

theorem t_X11_open {G : GT} {K : Int32 → Mem → Prop} {M : Mem} {W : WT} {v1 : Int32} (hR : RG W M) (hT : RT W M) (h : K (a_open W v1) M) : T_X11_open G [.ref 175, .int v1] M K := by
  obtain ⟨h1, h2, h8⟩ := hR.n
  have hlen := w_len_le W
  unfold a_open w_wordAt at h
  -- a word that is there
  have hit : ∀ (m : Nat) (x : Int32), (w_wl W (w_n W))[m]? = some x → v1 = nI m → K x M := by
    intro m x hx e
    have hm : m < w_len W (w_n W) := by
      refine Classical.byContradiction fun q => ?_
      rw [List.getElem?_eq_none (by exact Nat.le_of_not_lt q)] at hx
      exact absurd hx (by simp)
    have := hlen (w_n W)
    rw [e] at h
    rw [sel_f (fun q => absurd (nI_pos' (n := m) (by omega)) (by rw [q]; decide)), sel_t ⟨nI_pos' (by omega), nI_lt hm (by omega)⟩, ix_nI (by omega), List.getD_eq_getElem?_getD, hx] at h
    exact h
  have key : ∀ k, k ≤ w_n W → (∀ m, m < w_len W (w_n W - k) → ¬ v1 = nI m) → B_X11_open G K 4 [(0, .ref 175), (1, .int v1), (2, .int (nI (w_len W (w_n W - k)))), (3, .int (nI (w_n W - k)))] [] M := by
    intro k
    induction k with
    | zero =>
      intro _ hno
      rw [Nat.sub_zero] at hno ⊢
      have := hlen (w_n W)
      refine k_X11_open_4 ⟨fun _ => ⟨fun c => ?_, fun c => ?_⟩, fun c => absurd (by rw [h1]; exact Int32.le_refl _) c⟩
      · rw [sel_f c, sel_f] at h
        · exact h
        · rintro ⟨q1, q2⟩
          obtain ⟨m, hm, em⟩ := i_nat (by omega) q1 q2
          exact hno m hm em
      · rw [sel_t c] at h; exact h
    | succ k ih =>
      intro hk hno
      obtain ⟨l, el⟩ : ∃ l, l = w_n W - (k + 1) := ⟨_, rfl⟩
      have el2 : w_n W - k = l + 1 := by omega
      rw [← el] at hno ⊢
      rw [el2] at ih
      have hl : l < w_n W := by omega
      have := hlen l
      have vl : vp_in (nI l) 8 := vp_nI (by omega) (by decide)
      have hs := hT.sec hl
      have hs2 := hT.sec2 hl
      have ew := w_len_succ W l
      obtain ⟨t, et⟩ := w_wl_pre W (w_n W) (l + 1) (by omega)
      rw [w_wl] at et
      have e10 : (10 : Int32) * nI l = 10 * nI l := rfl
      -- behind both words
      have ending : (∀ m, m < w_len W (l + 1) → ¬ v1 = nI m) → B_X11_open G K 15 [(0, .ref 175), (1, .int v1), (2, .int (nI (w_len W (l + 1)))), (3, .int (nI l)), (4, .int (0 + 1 + 1))] [] M := fun hno2 =>
        k_X11_open_15 ⟨fun _ => by rw [nI_1]; exact ih (by omega) hno2, fun c => absurd (by decide) c⟩
      -- the second word, when m have been
      have second : ∀ m, m = w_len W l + sel (W (10 + 5 * l) 8 = -6) 0 1 → (∀ q, q < m → ¬ v1 = nI q) → B_X11_open G K 15 [(0, .ref 175), (1, .int v1), (2, .int (nI m)), (3, .int (nI l)), (4, .int (0 + 1))] [] M := by
        intro m hm hno2
        have hsel : sel (W (10 + 5 * l) 8 = -6) 0 1 ≤ 1 := by unfold sel; split <;> omega
        refine k_X11_open_15 ⟨fun c => absurd c (by decide), fun _ => ⟨fun _ => ⟨vl, fun c => ?_, fun c => ⟨fun c2 => ?_, fun c2 => ?_⟩⟩, fun c => absurd c (by decide)⟩⟩
        · rw [ix_nI (by omega)] at c
          have e : w_len W (l + 1) = m := by rw [ew, sel_t (hs2.mp c), Nat.add_zero, hm]
          rw [← e]
          exact ending (by rw [e]; exact hno2)
        · rw [ix_nI (by omega)] at c
          have e : w_len W (l + 1) = m + 1 := by rw [ew, sel_f (fun q => c (hs2.mpr q)), hm]; omega
          rw [nI_1, ← e]
          refine ending (fun q hq => ?_)
          rw [e] at hq
          by_cases eq : q = m
          · rw [eq]; exact fun z => c2 z.symm
          · exact hno2 q (by omega)
        · rw [ix_nI (by omega)] at c
          refine hit m _ ?_ c2.symm
          rw [et, sel_f (fun q => c (hs2.mpr q)), List.append_assoc]
          have hlw : (w_wl W l).length = w_len W l := rfl
          rw [List.getElem?_append_right (by rw [hlw]; omega), hlw]
          by_cases c3 : W (10 + 5 * l) 8 = -6
          · rw [sel_t c3] at hm ⊢
            rw [show m - w_len W l = 0 by omega]; rfl
          · rw [sel_f c3] at hm ⊢
            rw [show m - w_len W l = 1 by omega]; rfl
      refine k_X11_open_4 ⟨fun c => ?_, fun _ => ?_⟩
      · rw [h1, nI_leI (by omega) (by omega)] at c; omega
      · refine k_X11_open_15 ⟨fun c => absurd c (by decide), fun _ => ⟨fun c => absurd rfl c, fun _ => ⟨vl, fun c => ?_, fun c => ⟨fun c2 => ?_, fun c2 => ?_⟩⟩⟩⟩
        · rw [ix_nI (by omega)] at c
          exact second _ (by rw [sel_t (hs.mp c)]; rfl) hno
        · rw [ix_nI (by omega)] at c
          rw [nI_1]
          refine second _ (by rw [sel_f (fun q => c (hs.mpr q))]) (fun q hq => ?_)
          by_cases eq : q = w_len W l
          · rw [eq]; exact fun z => c2 z.symm
          · exact hno q (by omega)
        · rw [ix_nI (by omega)] at c
          refine hit (w_len W l) _ ?_ c2.symm
          rw [et, sel_f (fun q => c (hs.mpr q)), List.append_assoc]
          have hlw : (w_wl W l).length = w_len W l := rfl
          rw [List.getElem?_append_right (by rw [hlw]; exact Nat.le_refl _), hlw, Nat.sub_self]
          show some (10 * nI l) = some ((10 : Int32) * nI l + 0)
          rw [Int32.add_zero]
  refine e_X11_open (k_X11_open_0 ?_)
  have := key (w_n W) (Nat.le_refl _) (fun m hm => by rw [Nat.sub_self] at hm; exact absurd hm (by show ¬ m < 0; omega))
  rw [Nat.sub_self] at this
  exact this

/-! BetweenLawsModel.opens()I -/
abbrev rm_X11_opens : Room := { frames := 1, cells := 0, slots := 0, locals := 24 }
abbrev B_X11_opens (G : GT) (K : Int32 → Mem → Prop) := BT G (Rep G) RX11 "opens" cX11_opens 2 (some .int) rm_X11_opens K 0 0
abbrev T_X11_opens (G : GT) (as : List Value) (M : Mem) (K : Int32 → Mem → Prop) : Prop := MT G (Rep G) yX11_opens cX11_opens 2 (some .int) rm_X11_opens as M K
theorem e_X11_opens {G : GT} {K : Int32 → Mem → Prop} {M : Mem}  (h : B_X11_opens G K 0 [(0, .ref 175)] [] M) : T_X11_opens G [.ref 175] M K := MT.of (by decide +kernel) rfl rfl (Nat.le_of_ble_eq_true rfl) rfl h
set_option maxRecDepth 4000 in
theorem k_X11_opens_0 {G : GT} {K : Int32 → Mem → Prop} {M : Mem} {W : WT}  (h : (RG W M) ∧ (RT W M) ∧ (∀ r1 : Int32, r1 = (a_open W (-1)) → (r1 ≤ 8 → K r1 M) ∧ (¬ r1 ≤ 8 → K 8 M))) : B_X11_opens G K 0 [(0, .ref 175)] [] M := by
  refine BT.aload_n dX11_opens_0 rfl 0 rfl ?_
  refine BT.iconst (v := (-1)) dX11_opens_1 (by decide) ?_
  refine BT.mcVr [.int (-1)] (t_X11_open h.1 h.2.1 ⟨rfl, rfl⟩) mb_X11_open mv_X11_open lk_X11_281 rfl (by decide) rfl (recvRep ho_175 rfl) (Nat.le_of_ble_eq_true rfl) dX11_opens_2 (fun r1 e1 => ?_)
  show B_X11_opens G K 5 [(0, .ref 175)] [.int r1] M
  refine BT.istore_n (L' := [(1, .int r1), (0, .ref 175)]) dX11_opens_5 rfl (by decide) rfl ?_
  refine BT.iload_n dX11_opens_6 rfl 0 rfl ?_
  refine BT.bipush (v := 8) dX11_opens_7 (by decide) ?_
  refine BT.icmp_le (tgt := 17) dX11_opens_9 (by decide) (fun c => ?_) (fun c => ?_)
  · have c2 := c
    refine BT.iload_n dX11_opens_17 rfl 0 rfl ?_
    exact BT.iret dX11_opens_18 rfl (by decide) (by decide) ((h.2.2 r1 e1).1 c2)
  · have c3 := c
    refine BT.bipush (v := 8) dX11_opens_12 (by decide) ?_
    refine BT.goto (tgt := 18) dX11_opens_14 (by decide) ?_
    exact BT.iret dX11_opens_18 rfl (by decide) (by decide) ((h.2.2 r1 e1).2 c3)

theorem t_X11_opens {G : GT} {K : Int32 → Mem → Prop} {M : Mem} {W : WT} (hR : RG W M) (hT : RT W M) (h : K (nI (min (w_len W (w_n W)) 8)) M) : T_X11_opens G [.ref 175] M K := by
  have := w_len_le W (w_n W)
  have h8 := hR.n.2.2
  refine e_X11_opens (k_X11_opens_0 (W := W) ⟨hR, hT, fun r1 e1 => ?_⟩)
  unfold a_open at e1
  rw [sel_t rfl] at e1
  rw [e1]
  refine ⟨fun c => ?_, fun c => ?_⟩
  · have : w_len W (w_n W) ≤ 8 := (nI_leI (b := 8) (by omega) (by decide)).mp c
    rwa [Nat.min_eq_left this] at h
  · have : ¬ w_len W (w_n W) ≤ 8 := fun q => c (nI_le (b := 8) q (by decide))
    rwa [Nat.min_eq_right (by omega)] at h

/-! BetweenLawsModel.hangs(II)I -/
abbrev rm_X11_hangs : Room := { frames := 8, cells := 0, slots := 0, locals := 199 }
abbrev B_X11_hangs (G : GT) (K : Int32 → Mem → Prop) := BT G (Rep G) RX11 "hangs" cX11_hangs 8 (some .int) rm_X11_hangs K 0 0
abbrev T_X11_hangs (G : GT) (as : List Value) (M : Mem) (K : Int32 → Mem → Prop) : Prop := MT G (Rep G) yX11_hangs cX11_hangs 8 (some .int) rm_X11_hangs as M K
theorem e_X11_hangs {G : GT} {K : Int32 → Mem → Prop} {M : Mem} {v1 : Int32} {v2 : Int32} (h : B_X11_hangs G K 0 [(0, .ref 175), (1, .int v1), (2, .int v2)] [] M) : T_X11_hangs G [.ref 175, .int v1, .int v2] M K := MT.of (by decide +kernel) rfl rfl (Nat.le_of_ble_eq_true rfl) rfl h
set_option maxRecDepth 4000 in
theorem k_X11_hangs_0 {G : GT} {K : Int32 → Mem → Prop} {M : Mem} {v1 : Int32} {v2 : Int32} (h : (¬ ((0 : Int32) ≤ v1 ∧ v1 ≤ 99) → K (-2) M) ∧ (((0 : Int32) ≤ v1 ∧ v1 ≤ 99) → (((0 : Int32) ≤ v2 ∧ v2 ≤ (1 : Int32)) → B_X11_hangs G K 29 [(0, .ref 175), (1, .int v1), (2, .int v2), (3, .int (-6)), (4, .int 0), (5, .int 0)] [] M) ∧ (¬ ((0 : Int32) ≤ v2 ∧ v2 ≤ (1 : Int32)) → K (-2) M))) : B_X11_hangs G K 0 [(0, .ref 175), (1, .int v1), (2, .int v2)] [] M := by
  refine BT.iload_n dX11_hangs_0 rfl 1 rfl ?_
  refine BT.mcS [.int v1] (t_X11_isDay  ?_) mb_X11_isDay ms_X11_isDay lk_X11_156 rfl (by decide) rfl (Nat.le_of_ble_eq_true rfl) dX11_hangs_1
  show B_X11_hangs G K 4 [(0, .ref 175), (1, .int v1), (2, .int v2)] [.int (bi ((0 : Int32) ≤ v1 ∧ v1 ≤ 99))] M
  refine BT.if_eq (tgt := 17) dX11_hangs_4 (by decide) (fun c => ?_) (fun c => ?_)
  · have c2 := bi_eq0.mp c
    refine BT.bipush (v := (-2)) dX11_hangs_17 (by decide) ?_
    exact BT.iret dX11_hangs_19 rfl (by decide) (by decide) (h.1 c2)
  · have c3 := bi_ne0.mp c
    refine BT.iload_n dX11_hangs_7 rfl 2 rfl ?_
    refine BT.i2l dX11_hangs_8 ?_
    refine BT.lconst (v := 0) dX11_hangs_9 (by decide) ?_
    refine BT.lconst (v := 1) dX11_hangs_10 (by decide) ?_
    refine BT.mcS [.long (Int32.toInt64 v2), .long 0, .long 1] (t_X11_in (x := v2) (y := (0 : Int32)) (z := (1 : Int32)) rfl (by decide) (by decide) ?_) mb_X11_in ms_X11_in lk_X11_86 rfl (by decide) rfl (Nat.le_of_ble_eq_true rfl) dX11_hangs_11
    show B_X11_hangs G K 14 [(0, .ref 175), (1, .int v1), (2, .int v2)] [.int (bi ((0 : Int32) ≤ v2 ∧ v2 ≤ (1 : Int32)))] M
    refine BT.if_ne (tgt := 20) dX11_hangs_14 (by decide) (fun c => ?_) (fun c => ?_)
    · have c4 := bi_ne0.mp c
      refine BT.bipush (v := (-6)) dX11_hangs_20 (by decide) ?_
      refine BT.istore_n (L' := [(3, .int (-6)), (0, .ref 175), (1, .int v1), (2, .int v2)]) dX11_hangs_22 rfl (by decide) rfl ?_
      refine BT.iconst (v := 0) dX11_hangs_23 (by decide) ?_
      refine BT.istore (L' := [(4, .int 0), (3, .int (-6)), (0, .ref 175), (1, .int v1), (2, .int v2)]) dX11_hangs_24 (by decide) rfl ?_
      refine BT.iconst (v := 0) dX11_hangs_26 (by decide) ?_
      refine BT.istore (L' := [(5, .int 0), (4, .int 0), (3, .int (-6)), (0, .ref 175), (1, .int v1), (2, .int v2)]) dX11_hangs_27 (by decide) rfl ?_
      refine BT.sub [3, 4, 5, 2, 1, 0] rfl ?_
      exact ((h.2 c3).1 c4)
    · have c5 := bi_eq0.mp c
      refine BT.bipush (v := (-2)) dX11_hangs_17 (by decide) ?_
      exact BT.iret dX11_hangs_19 rfl (by decide) (by decide) ((h.2 c3).2 c5)
set_option maxRecDepth 4000 in
theorem k_X11_hangs_29 {G : GT} {K : Int32 → Mem → Prop} {M : Mem} {W : WT} {v1 : Int32} {v2 : Int32} {v3 : Int32} {v4 : Int32} {v5 : Int32} (h : (RG W M) ∧ (RT W M) ∧ (∀ r1 : Int32, r1 = (nI (min (w_len W (w_n W)) 8)) → (r1 ≤ v5 → (¬ v2 = 0 → K v4 M) ∧ (v2 = 0 → K v3 M)) ∧ (¬ r1 ≤ v5 → B_X11_hangs G K 44 [(0, .ref 175), (1, .int v1), (2, .int v2), (3, .int v3), (4, .int v4), (5, .int v5), (6, .int 0), (7, .int 0)] [] M))) : B_X11_hangs G K 29 [(0, .ref 175), (1, .int v1), (2, .int v2), (3, .int v3), (4, .int v4), (5, .int v5)] [] M := by
  refine BT.iload dX11_hangs_29 5 rfl ?_
  refine BT.aload_n dX11_hangs_31 rfl 0 rfl ?_
  refine BT.mcVr [] (t_X11_opens h.1 h.2.1 ⟨rfl, rfl⟩) mb_X11_opens mv_X11_opens lk_X11_287 rfl (by decide) rfl (recvRep ho_175 rfl) (Nat.le_of_ble_eq_true rfl) dX11_hangs_32 (fun r1 e1 => ?_)
  show B_X11_hangs G K 35 [(0, .ref 175), (1, .int v1), (2, .int v2), (3, .int v3), (4, .int v4), (5, .int v5)] [.int r1, .int v5] M
  refine BT.icmp_ge (tgt := 115) dX11_hangs_35 (by decide) (fun c => ?_) (fun c => ?_)
  · have c2 := c
    refine BT.iload_n dX11_hangs_115 rfl 2 rfl ?_
    refine BT.if_ne (tgt := 123) dX11_hangs_116 (by decide) (fun c => ?_) (fun c => ?_)
    · have c4 := c
      refine BT.iload dX11_hangs_123 4 rfl ?_
      exact BT.iret dX11_hangs_125 rfl (by decide) (by decide) (((h.2.2 r1 e1).1 c2).1 c4)
    · have c5 := c
      refine BT.iload_n dX11_hangs_119 rfl 3 rfl ?_
      refine BT.goto (tgt := 125) dX11_hangs_120 (by decide) ?_
      exact BT.iret dX11_hangs_125 rfl (by decide) (by decide) (((h.2.2 r1 e1).1 c2).2 c5)
  · have c3 := c
    refine BT.iconst (v := 0) dX11_hangs_38 (by decide) ?_
    refine BT.istore (L' := [(6, .int 0), (0, .ref 175), (1, .int v1), (2, .int v2), (3, .int v3), (4, .int v4), (5, .int v5)]) dX11_hangs_39 (by decide) rfl ?_
    refine BT.iconst (v := 0) dX11_hangs_41 (by decide) ?_
    refine BT.istore (L' := [(7, .int 0), (6, .int 0), (0, .ref 175), (1, .int v1), (2, .int v2), (3, .int v3), (4, .int v4), (5, .int v5)]) dX11_hangs_42 (by decide) rfl ?_
    refine BT.sub [2, 3, 4, 5, 6, 7, 1, 0] rfl ?_
    exact ((h.2.2 r1 e1).2 c3)
set_option maxRecDepth 4000 in
theorem k_X11_hangs_44 {G : GT} {K : Int32 → Mem → Prop} {M : Mem} {W : WT} {v1 : Int32} {v2 : Int32} {v3 : Int32} {v4 : Int32} {v5 : Int32} {v6 : Int32} {v7 : Int32} (h : ((M.1 175 26) ≤ v7 → (v3 < 0 → B_X11_hangs G K 29 [(0, .ref 175), (1, .int v1), (2, .int v2), (3, .int v5), (4, .int v6), (5, .int (v5 + 1))] [] M) ∧ (¬ v3 < 0 → (v6 ≤ v4 → B_X11_hangs G K 29 [(0, .ref 175), (1, .int v1), (2, .int v2), (3, .int v3), (4, .int v4), (5, .int (v5 + 1))] [] M) ∧ (¬ v6 ≤ v4 → B_X11_hangs G K 29 [(0, .ref 175), (1, .int v1), (2, .int v2), (3, .int v5), (4, .int v6), (5, .int (v5 + 1))] [] M))) ∧ (¬ (M.1 175 26) ≤ v7 → (RG W M) ∧ (RT W M) ∧ (PR W M v7) ∧ (∀ r7 : Int32, r7 = (w_given (w_rd W ((1 : Int32) <<< (v5 &&& 31))) (zp v7) v1) → ∀ N7 : Mem, (Zcr M N7) → (RG W N7) ∧ (RT W N7) ∧ (PR W N7 v7) ∧ (∀ r8 : Int32, r8 = (w_given (w_rd W 0) (zp v7) v1) → ∀ N8 : Mem, (Zcr N7 N8) → (r7 = r8 → B_X11_hangs G K 44 [(0, .ref 175), (1, .int v1), (2, .int v2), (3, .int v3), (4, .int v4), (5, .int v5), (6, .int (v6 + 0)), (7, .int (v7 + 1))] [] N8) ∧ (¬ r7 = r8 → B_X11_hangs G K 44 [(0, .ref 175), (1, .int v1), (2, .int v2), (3, .int v3), (4, .int v4), (5, .int v5), (6, .int (v6 + 1)), (7, .int (v7 + 1))] [] N8))))) : B_X11_hangs G K 44 [(0, .ref 175), (1, .int v1), (2, .int v2), (3, .int v3), (4, .int v4), (5, .int v5), (6, .int v6), (7, .int v7)] [] M := by
  refine BT.iload dX11_hangs_44 7 rfl ?_
  refine BT.aload_n dX11_hangs_46 rfl 0 rfl ?_
  refine BT.getI fl_X11_190 ho_175 rfl dX11_hangs_47 ?_
  refine BT.icmp_ge (tgt := 91) dX11_hangs_50 (by decide) (fun c => ?_) (fun c => ?_)
  · have c1 := c
    refine BT.iload_n dX11_hangs_91 rfl 3 rfl ?_
    refine BT.if_lt (tgt := 102) dX11_hangs_92 (by decide) (fun c => ?_) (fun c => ?_)
    · have c3 := c
      refine BT.iload dX11_hangs_102 5 rfl ?_
      refine BT.istore_n (L' := [(3, .int v5), (0, .ref 175), (1, .int v1), (2, .int v2), (4, .int v4), (5, .int v5), (6, .int v6), (7, .int v7)]) dX11_hangs_104 rfl (by decide) rfl ?_
      refine BT.iload dX11_hangs_105 6 rfl ?_
      refine BT.istore (L' := [(4, .int v6), (3, .int v5), (0, .ref 175), (1, .int v1), (2, .int v2), (5, .int v5), (6, .int v6), (7, .int v7)]) dX11_hangs_107 (by decide) rfl ?_
      refine BT.iinc (j := 5) (v := (v5 + 1)) (L' := [(5, .int (v5 + 1)), (4, .int v6), (3, .int v5), (0, .ref 175), (1, .int v1), (2, .int v2), (6, .int v6), (7, .int v7)]) dX11_hangs_109 rfl rfl (by decide) rfl ?_
      refine BT.goto (tgt := 29) dX11_hangs_112 (by decide) ?_
      refine BT.sub [3, 4, 5, 2, 1, 0] rfl ?_
      exact ((h.1 c1).1 c3)
    · have c4 := c
      refine BT.iload dX11_hangs_95 6 rfl ?_
      refine BT.iload dX11_hangs_97 4 rfl ?_
      refine BT.icmp_le (tgt := 109) dX11_hangs_99 (by decide) (fun c => ?_) (fun c => ?_)
      · have c5 := c
        refine BT.iinc (j := 5) (v := (v5 + 1)) (L' := [(5, .int (v5 + 1)), (0, .ref 175), (1, .int v1), (2, .int v2), (3, .int v3), (4, .int v4), (6, .int v6), (7, .int v7)]) dX11_hangs_109 rfl rfl (by decide) rfl ?_
        refine BT.goto (tgt := 29) dX11_hangs_112 (by decide) ?_
        refine BT.sub [1, 2, 3, 4, 5, 0] rfl ?_
        exact (((h.1 c1).2 c4).1 c5)
      · have c6 := c
        refine BT.iload dX11_hangs_102 5 rfl ?_
        refine BT.istore_n (L' := [(3, .int v5), (0, .ref 175), (1, .int v1), (2, .int v2), (4, .int v4), (5, .int v5), (6, .int v6), (7, .int v7)]) dX11_hangs_104 rfl (by decide) rfl ?_
        refine BT.iload dX11_hangs_105 6 rfl ?_
        refine BT.istore (L' := [(4, .int v6), (3, .int v5), (0, .ref 175), (1, .int v1), (2, .int v2), (5, .int v5), (6, .int v6), (7, .int v7)]) dX11_hangs_107 (by decide) rfl ?_
        refine BT.iinc (j := 5) (v := (v5 + 1)) (L' := [(5, .int (v5 + 1)), (4, .int v6), (3, .int v5), (0, .ref 175), (1, .int v1), (2, .int v2), (6, .int v6), (7, .int v7)]) dX11_hangs_109 rfl rfl (by decide) rfl ?_
        refine BT.goto (tgt := 29) dX11_hangs_112 (by decide) ?_
        refine BT.sub [3, 4, 5, 2, 1, 0] rfl ?_
        exact (((h.1 c1).2 c4).2 c6)
  · have c2 := c
    refine BT.iload dX11_hangs_53 6 rfl ?_
    refine BT.aload_n dX11_hangs_55 rfl 0 rfl ?_
    refine BT.iload dX11_hangs_56 7 rfl ?_
    refine BT.iload_n dX11_hangs_58 rfl 1 rfl ?_
    refine BT.iconst (v := 1) dX11_hangs_59 (by decide) ?_
    refine BT.iload dX11_hangs_60 5 rfl ?_
    refine BT.ishl dX11_hangs_62 ?_
    refine BT.mcVp [.int v7, .int v1, .int ((1 : Int32) <<< (v5 &&& 31))] (t_X11_giftBy (h.2 c2).1 (h.2 c2).2.1 (h.2 c2).2.2.1 (fun N hN => ⟨rfl, hN⟩)) mb_X11_giftBy mv_X11_giftBy lk_X11_278 rfl (by decide) rfl (recvRep ho_175 rfl) (Nat.le_of_ble_eq_true rfl) dX11_hangs_63 (P := fun N7 => Zcr M N7) (fun r7 e7 N7 g7 => ?_)
    show B_X11_hangs G K 66 [(0, .ref 175), (1, .int v1), (2, .int v2), (3, .int v3), (4, .int v4), (5, .int v5), (6, .int v6), (7, .int v7)] [.int r7, .int v6] N7
    refine BT.aload_n dX11_hangs_66 rfl 0 rfl ?_
    refine BT.iload dX11_hangs_67 7 rfl ?_
    refine BT.iload_n dX11_hangs_69 rfl 1 rfl ?_
    refine BT.iconst (v := 0) dX11_hangs_70 (by decide) ?_
    refine BT.mcVp [.int v7, .int v1, .int 0] (t_X11_giftBy ((h.2 c2).2.2.2 r7 e7 N7 g7).1 ((h.2 c2).2.2.2 r7 e7 N7 g7).2.1 ((h.2 c2).2.2.2 r7 e7 N7 g7).2.2.1 (fun N hN => ⟨rfl, hN⟩)) mb_X11_giftBy mv_X11_giftBy lk_X11_278 rfl (by decide) rfl (recvRep ho_175 rfl) (Nat.le_of_ble_eq_true rfl) dX11_hangs_71 (P := fun N8 => Zcr N7 N8) (fun r8 e8 N8 g8 => ?_)
    show B_X11_hangs G K 74 [(0, .ref 175), (1, .int v1), (2, .int v2), (3, .int v3), (4, .int v4), (5, .int v5), (6, .int v6), (7, .int v7)] [.int r8, .int r7, .int v6] N8
    refine BT.icmp_eq (tgt := 81) dX11_hangs_74 (by decide) (fun c => ?_) (fun c => ?_)
    · have c9 := c
      refine BT.iconst (v := 0) dX11_hangs_81 (by decide) ?_
      refine BT.iadd dX11_hangs_82 ?_
      refine BT.istore (L' := [(6, .int (v6 + 0)), (0, .ref 175), (1, .int v1), (2, .int v2), (3, .int v3), (4, .int v4), (5, .int v5), (7, .int v7)]) dX11_hangs_83 (by decide) rfl ?_
      refine BT.iinc (j := 7) (v := (v7 + 1)) (L' := [(7, .int (v7 + 1)), (6, .int (v6 + 0)), (0, .ref 175), (1, .int v1), (2, .int v2), (3, .int v3), (4, .int v4), (5, .int v5)]) dX11_hangs_85 rfl rfl (by decide) rfl ?_
      refine BT.goto (tgt := 44) dX11_hangs_88 (by decide) ?_
      refine BT.sub [2, 3, 4, 5, 6, 7, 1, 0] rfl ?_
      exact ((((h.2 c2).2.2.2 r7 e7 N7 g7).2.2.2 r8 e8 N8 g8).1 c9)
    · have c10 := c
      refine BT.iconst (v := 1) dX11_hangs_77 (by decide) ?_
      refine BT.goto (tgt := 82) dX11_hangs_78 (by decide) ?_
      refine BT.iadd dX11_hangs_82 ?_
      refine BT.istore (L' := [(6, .int (v6 + 1)), (0, .ref 175), (1, .int v1), (2, .int v2), (3, .int v3), (4, .int v4), (5, .int v5), (7, .int v7)]) dX11_hangs_83 (by decide) rfl ?_
      refine BT.iinc (j := 7) (v := (v7 + 1)) (L' := [(7, .int (v7 + 1)), (6, .int (v6 + 1)), (0, .ref 175), (1, .int v1), (2, .int v2), (3, .int v3), (4, .int v4), (5, .int v5)]) dX11_hangs_85 rfl rfl (by decide) rfl ?_
      refine BT.goto (tgt := 44) dX11_hangs_88 (by decide) ?_
      refine BT.sub [2, 3, 4, 5, 6, 7, 1, 0] rfl ?_
      exact ((((h.2 c2).2.2.2 r7 e7 N7 g7).2.2.2 r8 e8 N8 g8).2 c10)

theorem t_X11_hangs {G : GT} {K : Int32 → Mem → Prop} {M : Mem} {W : WT} {v1 v2 : Int32} (hR : RG W M) (hQ : RP W M) (hT : RT W M) (h : ∀ N, Zcr M N → K (a_hangs W v1 v2) N) : T_X11_hangs G [.ref 175, .int v1, .int v2] M K := by
  unfold a_hangs at h
  obtain ⟨hn, h9⟩ := hQ.n
  have h8 := hR.n.2.2
  have hrd := hT.rdOk hR
  refine e_X11_hangs (k_X11_hangs_0 ⟨fun c => ?_, fun c => ⟨fun c2 => ?_, fun c2 => ?_⟩⟩)
  · rw [sel_f c] at h; exact h M Zcr.rf
  · rw [sel_t c, sel_t c2] at h
    have hN8 : ∀ r p, w_hangN W r v1 p ≤ p := by
      intro r p
      induction p with
      | zero => exact Nat.le_refl _
      | succ p ih =>
        unfold w_hangN
        have : sel (w_given (w_rd W r) (52 + p) v1 = w_given W (52 + p) v1) 0 1 ≤ 1 := by unfold sel; split <;> omega
        omega
    have hwei : ∀ i, i ≤ 8 → (w_wei W v1 i).1 = -6 ∨ ∃ j, j < 8 ∧ (w_wei W v1 i).1 = nI j := by
      intro i
      induction i with
      | zero => intro _; exact Or.inl rfl
      | succ i ih =>
        intro hi
        unfold w_wei sel
        split
        · exact Or.inr ⟨i, by omega, rfl⟩
        · exact ih (by omega)
    refine up_loop (P := fun j => ∀ N, Zcr M N → B_X11_hangs G K 29 [(0, .ref 175), (1, .int v1), (2, .int v2), (3, .int (w_wei W v1 j).1), (4, .int (w_wei W v1 j).2), (5, .int (nI j))] [] N) (min (w_len W (w_n W)) 8) (fun N hN => ?_) (fun j hj ih N hN => ?_) 0 (Nat.zero_le _) M Zcr.rf
    · refine k_X11_hangs_29 (W := W) ⟨hR.z hN, hT.z hN, fun r1 e1 => ⟨fun _ => ⟨fun c3 => ?_, fun c3 => ?_⟩, fun c3 => absurd (by rw [e1]; exact Int32.le_refl _) c3⟩⟩
      · rw [sel_f c3] at h; exact h N hN
      · rw [sel_t c3] at h; exact h N hN
    · have hj8 : j < 8 := by omega
      refine k_X11_hangs_29 (W := W) ⟨hR.z hN, hT.z hN, fun r1 e1 => ⟨fun c3 => ?_, fun _ => ?_⟩⟩
      · rw [e1, nI_leI (by omega) (by omega)] at c3; omega
      · unfold w_wei at ih
        refine up_loop (P := fun p => ∀ N, Zcr M N → B_X11_hangs G K 44 [(0, .ref 175), (1, .int v1), (2, .int v2), (3, .int (w_wei W v1 j).1), (4, .int (w_wei W v1 j).2), (5, .int (nI j)), (6, .int (nI (w_hangN W ((1 : Int32) <<< (nI j &&& 31)) v1 p))), (7, .int (nI p))] [] N) (w_p W) (fun N hN => ?_) (fun p hp ihp N hN => ?_) 0 (Nat.zero_le _) N hN
        · have hw8 := hN8 ((1 : Int32) <<< (nI j &&& 31)) (w_p W)
          refine k_X11_hangs_44 (W := W) ⟨fun _ => ⟨fun c3 => ?_, fun c3 => ⟨fun c4 => ?_, fun c4 => ?_⟩⟩, fun c3 => absurd (by rw [(hQ.z hN).n.1]; exact Int32.le_refl _) c3⟩
          · have : (w_wei W v1 j).1 = -6 := by
              rcases hwei j (by omega) with q | ⟨i, hi, q⟩
              · exact q
              · rw [q] at c3; exact absurd c3 (nI_ge0 (by omega))
            rw [sel_t (Or.inl this)] at ih
            rw [nI_1]; exact ih N hN
          · have n6 : ¬ (w_wei W v1 j).1 = -6 := fun q => c3 (by rw [q]; decide)
            rw [sel_f (fun q => q.elim n6 (fun q => Int32.not_lt.mpr c4 q))] at ih
            rw [nI_1]; exact ih N hN
          · rw [sel_t (Or.inr (Int32.not_le.mp c4))] at ih
            rw [nI_1]; exact ih N hN
        · obtain ⟨hP, ez⟩ := hQ.pc hp
          unfold w_hangN at ihp
          refine k_X11_hangs_44 (W := W) ⟨fun c3 => ?_, fun _ => ⟨hR.z hN, hT.z hN, hP.z hN, fun r7 e7 N7 g7 => ⟨(hR.z hN).z g7, (hT.z hN).z g7, (hP.z hN).z g7, fun r8 e8 N8 g8 => ⟨fun c4 => ?_, fun c4 => ?_⟩⟩⟩⟩
          · rw [(hQ.z hN).n.1, nI_leI (by omega) (by omega)] at c3; omega
          · rw [ez] at e7 e8
            rw [w_rd_0 hrd] at e8
            rw [sel_t (by rw [← e7, ← e8]; exact c4)] at ihp
            rw [Int32.add_zero, nI_1 p]
            exact ihp N8 ((hN.tr g7).tr g8)
          · rw [ez] at e7 e8
            rw [w_rd_0 hrd] at e8
            rw [sel_f (by rw [← e7, ← e8]; exact c4)] at ihp
            rw [nI_1, nI_1 p]
            exact ihp N8 ((hN.tr g7).tr g8)
  · rw [sel_t c, sel_f c2] at h; exact h M Zcr.rf

