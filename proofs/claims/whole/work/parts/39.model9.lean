/-! ===== 39.model9 ===== -/
/-! BetweenLawsModel.term(III)I -/
abbrev rm_X11_term : Room := { frames := 6, cells := 0, slots := 0, locals := 148 }
abbrev B_X11_term (G : GT) (K : Int32 → Mem → Prop) := BT G (Rep G) RX11 "term" cX11_term 5 (some .int) rm_X11_term K 0 0
abbrev T_X11_term (G : GT) (as : List Value) (M : Mem) (K : Int32 → Mem → Prop) : Prop := MT G (Rep G) yX11_term cX11_term 5 (some .int) rm_X11_term as M K
theorem e_X11_term {G : GT} {K : Int32 → Mem → Prop} {M : Mem} {v1 : Int32} {v2 : Int32} {v3 : Int32} (h : B_X11_term G K 0 [(0, .ref 175), (1, .int v1), (2, .int v2), (3, .int v3)] [] M) : T_X11_term G [.ref 175, .int v1, .int v2, .int v3] M K := MT.of (by decide +kernel) rfl rfl (Nat.le_of_ble_eq_true rfl) rfl h
set_option maxRecDepth 4000 in
theorem k_X11_term_0 {G : GT} {K : Int32 → Mem → Prop} {M : Mem} {W : WT} {v1 : Int32} {v2 : Int32} {v3 : Int32} (h : (RP W M) ∧ (((0 : Int32) ≤ v1 ∧ v1 < W 8 4) → (¬ ((0 : Int32) ≤ v2 ∧ v2 ≤ 99) → K (-2) M) ∧ (((0 : Int32) ≤ v2 ∧ v2 ≤ 99) → (((0 : Int32) ≤ v3 ∧ v3 ≤ (1 : Int32)) → (vp_in v1 9) ∧ ((M.1 189 (Int32.toNatClampNeg v1)) ≤ v2 → (PR W M v1) ∧ (∀ N11 : Mem, N11 = (m_i (m_i (m_i M 175 33 (W (zp v1) 0)) 175 34 (-6)) 175 35 (-6)) → (vp_in v1 9) ∧ B_X11_term G K 56 [(0, .ref 175), (1, .int v1), (2, .int v2), (3, .int v3), (4, .int (N11.1 189 (Int32.toNatClampNeg v1)))] [] N11)) ∧ (¬ (M.1 189 (Int32.toNatClampNeg v1)) ≤ v2 → K (-3) M)) ∧ (¬ ((0 : Int32) ≤ v3 ∧ v3 ≤ (1 : Int32)) → K (-2) M))) ∧ (¬ ((0 : Int32) ≤ v1 ∧ v1 < W 8 4) → K (-1) M)) : B_X11_term G K 0 [(0, .ref 175), (1, .int v1), (2, .int v2), (3, .int v3)] [] M := by
  refine BT.aload_n dX11_term_0 rfl 0 rfl ?_
  refine BT.iload_n dX11_term_1 rfl 1 rfl ?_
  refine BT.mcV [.int v1] (t_X11_isPiece h.1 ?_) mb_X11_isPiece mv_X11_isPiece lk_X11_198 rfl (by decide) rfl (recvRep ho_175 rfl) (Nat.le_of_ble_eq_true rfl) dX11_term_2
  show B_X11_term G K 5 [(0, .ref 175), (1, .int v1), (2, .int v2), (3, .int v3)] [.int (bi ((0 : Int32) ≤ v1 ∧ v1 < W 8 4))] M
  refine BT.if_ne (tgt := 10) dX11_term_5 (by decide) (fun c => ?_) (fun c => ?_)
  · have c2 := bi_ne0.mp c
    refine BT.iload_n dX11_term_10 rfl 2 rfl ?_
    refine BT.mcS [.int v2] (t_X11_isDay  ?_) mb_X11_isDay ms_X11_isDay lk_X11_156 rfl (by decide) rfl (Nat.le_of_ble_eq_true rfl) dX11_term_11
    show B_X11_term G K 14 [(0, .ref 175), (1, .int v1), (2, .int v2), (3, .int v3)] [.int (bi ((0 : Int32) ≤ v2 ∧ v2 ≤ 99))] M
    refine BT.if_eq (tgt := 27) dX11_term_14 (by decide) (fun c => ?_) (fun c => ?_)
    · have c5 := bi_eq0.mp c
      refine BT.bipush (v := (-2)) dX11_term_27 (by decide) ?_
      exact BT.iret dX11_term_29 rfl (by decide) (by decide) ((h.2.1 c2).1 c5)
    · have c6 := bi_ne0.mp c
      refine BT.iload_n dX11_term_17 rfl 3 rfl ?_
      refine BT.i2l dX11_term_18 ?_
      refine BT.lconst (v := 0) dX11_term_19 (by decide) ?_
      refine BT.lconst (v := 1) dX11_term_20 (by decide) ?_
      refine BT.mcS [.long (Int32.toInt64 v3), .long 0, .long 1] (t_X11_in (x := v3) (y := (0 : Int32)) (z := (1 : Int32)) rfl (by decide) (by decide) ?_) mb_X11_in ms_X11_in lk_X11_86 rfl (by decide) rfl (Nat.le_of_ble_eq_true rfl) dX11_term_21
      show B_X11_term G K 24 [(0, .ref 175), (1, .int v1), (2, .int v2), (3, .int v3)] [.int (bi ((0 : Int32) ≤ v3 ∧ v3 ≤ (1 : Int32)))] M
      refine BT.if_ne (tgt := 30) dX11_term_24 (by decide) (fun c => ?_) (fun c => ?_)
      · have c7 := bi_ne0.mp c
        refine BT.iload_n dX11_term_30 rfl 2 rfl ?_
        refine BT.aload_n dX11_term_31 rfl 0 rfl ?_
        refine BT.getR (r := 189) fl_X11_53 ho_175 rfl dX11_term_32 ?_
        refine BT.iload_n dX11_term_35 rfl 1 rfl ?_
        refine BT.iald ha_189 (((h.2.1 c2).2 c6).1 c7).1 dX11_term_36 ?_
        refine BT.icmp_ge (tgt := 43) dX11_term_37 (by decide) (fun c => ?_) (fun c => ?_)
        · have c9 := c
          refine BT.aload_n dX11_term_43 rfl 0 rfl ?_
          refine BT.iload_n dX11_term_44 rfl 1 rfl ?_
          refine BT.mcVvm [.int v1] (t_X11_beginTerm ((((h.2.1 c2).2 c6).1 c7).2.1 c9).1 ⟨rfl, rfl⟩) mb_X11_beginTerm mv_X11_beginTerm lk_X11_269 rfl (by decide) rfl (recvRep ho_175 rfl) (Nat.le_of_ble_eq_true rfl) dX11_term_45 (fun N11 g11 => ?_)
          show B_X11_term G K 48 [(0, .ref 175), (1, .int v1), (2, .int v2), (3, .int v3)] [] N11
          refine BT.aload_n dX11_term_48 rfl 0 rfl ?_
          refine BT.getR (r := 189) fl_X11_53 ho_175 rfl dX11_term_49 ?_
          refine BT.iload_n dX11_term_52 rfl 1 rfl ?_
          refine BT.iald ha_189 (((((h.2.1 c2).2 c6).1 c7).2.1 c9).2 N11 g11).1 dX11_term_53 ?_
          refine BT.istore (L' := [(4, .int (N11.1 189 (Int32.toNatClampNeg v1))), (0, .ref 175), (1, .int v1), (2, .int v2), (3, .int v3)]) dX11_term_54 (by decide) rfl ?_
          refine BT.sub [1, 2, 3, 4, 0] rfl ?_
          exact (((((h.2.1 c2).2 c6).1 c7).2.1 c9).2 N11 g11).2
        · have c10 := c
          refine BT.bipush (v := (-3)) dX11_term_40 (by decide) ?_
          exact BT.iret dX11_term_42 rfl (by decide) (by decide) ((((h.2.1 c2).2 c6).1 c7).2.2 c10)
      · have c8 := bi_eq0.mp c
        refine BT.bipush (v := (-2)) dX11_term_27 (by decide) ?_
        exact BT.iret dX11_term_29 rfl (by decide) (by decide) (((h.2.1 c2).2 c6).2 c8)
  · have c3 := bi_eq0.mp c
    refine BT.iconst (v := (-1)) dX11_term_8 (by decide) ?_
    exact BT.iret dX11_term_9 rfl (by decide) (by decide) (h.2.2 c3)
set_option maxRecDepth 4000 in
theorem k_X11_term_56 {G : GT} {K : Int32 → Mem → Prop} {M : Mem} {W : WT} {v1 : Int32} {v2 : Int32} {v3 : Int32} {v4 : Int32} (h : (v2 < v4 → (¬ v3 = 0 → K (M.1 175 34) M) ∧ (v3 = 0 → K (M.1 175 33) M)) ∧ (¬ v2 < v4 → (RG W M) ∧ (RT W M) ∧ (PR W M v1) ∧ (M.1 175 34 = -6 ∨ 0 ≤ M.1 175 34) ∧ (∀ N5 : Mem, (Zcr M N5 ∧ z_tr N5 = z_crt W (M.1 175 20) (zp v1) v4 (z_tr M)) → B_X11_term G K 56 [(0, .ref 175), (1, .int v1), (2, .int v2), (3, .int v3), (4, .int (v4 + 1))] [] N5))) : B_X11_term G K 56 [(0, .ref 175), (1, .int v1), (2, .int v2), (3, .int v3), (4, .int v4)] [] M := by
  refine BT.iload dX11_term_56 4 rfl ?_
  refine BT.iload_n dX11_term_58 rfl 2 rfl ?_
  refine BT.icmp_gt (tgt := 75) dX11_term_59 (by decide) (fun c => ?_) (fun c => ?_)
  · have c1 := c
    refine BT.iload_n dX11_term_75 rfl 3 rfl ?_
    refine BT.if_ne (tgt := 86) dX11_term_76 (by decide) (fun c => ?_) (fun c => ?_)
    · have c3 := c
      refine BT.aload_n dX11_term_86 rfl 0 rfl ?_
      refine BT.getI fl_X11_260 ho_175 rfl dX11_term_87 ?_
      exact BT.iret dX11_term_90 rfl (by decide) (by decide) ((h.1 c1).1 c3)
    · have c4 := c
      refine BT.aload_n dX11_term_79 rfl 0 rfl ?_
      refine BT.getI fl_X11_263 ho_175 rfl dX11_term_80 ?_
      refine BT.goto (tgt := 90) dX11_term_83 (by decide) ?_
      exact BT.iret dX11_term_90 rfl (by decide) (by decide) ((h.1 c1).2 c4)
  · have c2 := c
    refine BT.aload_n dX11_term_62 rfl 0 rfl ?_
    refine BT.iload_n dX11_term_63 rfl 1 rfl ?_
    refine BT.iload dX11_term_64 4 rfl ?_
    refine BT.mcVvp [.int v1, .int v4] (t_X11_carry (h.2 c2).1 (h.2 c2).2.1 (h.2 c2).2.2.1 (h.2 c2).2.2.2.1 (fun N hN => ⟨rfl, hN⟩)) mb_X11_carry mv_X11_carry lk_X11_272 rfl (by decide) rfl (recvRep ho_175 rfl) (Nat.le_of_ble_eq_true rfl) dX11_term_66 (P := fun N5 => Zcr M N5 ∧ z_tr N5 = z_crt W (M.1 175 20) (zp v1) v4 (z_tr M)) (fun N5 g5 => ?_)
    show B_X11_term G K 69 [(0, .ref 175), (1, .int v1), (2, .int v2), (3, .int v3), (4, .int v4)] [] N5
    refine BT.iinc (j := 4) (v := (v4 + 1)) (L' := [(4, .int (v4 + 1)), (0, .ref 175), (1, .int v1), (2, .int v2), (3, .int v3)]) dX11_term_69 rfl rfl (by decide) rfl ?_
    refine BT.goto (tgt := 56) dX11_term_72 (by decide) ?_
    refine BT.sub [1, 2, 3, 4, 0] rfl ?_
    exact ((h.2 c2).2.2.2.2 N5 g5)

theorem SE.end_ {s : CrT} (h : SE s) : s.2.2.2.2 = -6 ∨ 0 ≤ s.2.2.2.2 := by
  rcases h.2 with q | ⟨e, he, q⟩
  · exact Or.inl q
  · exact Or.inr (by rw [q]; exact nI_pos' (by omega))
theorem SE.begin {W : WT} {p b : Nat} (hb : W p 0 = nI b) (h : b < 100) : SE (r_begin W p) := ⟨⟨b, h, hb⟩, Or.inl rfl⟩
theorem z_tr_of {N : Mem} {t : Int32 × Int32 × Int32} (h : z_tr N = t) : N.1 175 33 = t.1 ∧ N.1 175 34 = t.2.1 ∧ N.1 175 35 = t.2.2 := by subst h; exact ⟨rfl, rfl, rfl⟩
theorem t_X11_term {G : GT} {K : Int32 → Mem → Prop} {M : Mem} {W : WT} {v1 v2 v3 : Int32} (hR : RG W M) (hQ : RP W M) (hT : RT W M) (hw6 : M.1 175 20 = -6) (h : ∀ N, Zcr M N → K (a_term W v1 v2 v3) N) : T_X11_term G [.ref 175, .int v1, .int v2, .int v3] M K := by
  unfold a_term a_till at h
  refine e_X11_term (k_X11_term_0 (W := W) ⟨hQ, fun c => ⟨fun c2 => ?_, fun c2 => ⟨fun c3 => ?_, fun c3 => ?_⟩⟩, fun c => ?_⟩)
  · rw [q_rp_n c, sel_f c2, sel_f (by decide)] at h; exact h M Zcr.rf
  · rw [q_rp_n c, sel_t c2, sel_t rfl, sel_t c3] at h
    obtain ⟨i1, i2, i3, hP, ez⟩ := hQ.ix c
    obtain ⟨p0, p1, ⟨q1, -⟩, e0, -⟩ := hP.at
    obtain ⟨hb1, hb2⟩ := q1.b
    have vp : vp_in v1 9 := by rw [p1]; exact vp_nI p0 (by decide)
    rw [← ez] at h
    rw [e0]
    refine ⟨vp, fun c4 => ?_, fun c4 => ?_⟩
    · rw [sel_t c4] at h
      refine ⟨hP, fun N11 g11 => ⟨vp, ?_⟩⟩
      have hN11 : Zcr M N11 := by rw [g11]; exact ((Zcr.rf.mi (by decide)).mi (by decide)).mi (by decide)
      have key : ∀ (k : Nat) (s : CrT) (N : Mem), k ≤ 100 - w_b W (zp v1) → Zcr M N → SE s → z_tr N = (s.2.2.2.1, s.2.2.2.2, s.2.2.1) → (w_b W (zp v1) < 100 - k → s.2.2.1 = w_gov W (zp v1) (nI (100 - k - 1))) → (∀ N', Zcr M N' → K (sel (v3 = 0) (r_till W (zp v1) v2 k s).2.2.2.1 (r_till W (zp v1) v2 k s).2.2.2.2) N') → B_X11_term G K 56 [(0, .ref 175), (1, .int v1), (2, .int v2), (3, .int v3), (4, .int (nI (100 - k)))] [] N := by
        intro k
        induction k with
        | zero =>
          intro s N hk hN hse htr hgov hK
          obtain ⟨t1, t2, t3⟩ := z_tr_of htr
          refine k_X11_term_56 (W := W) ⟨fun _ => ⟨fun c5 => ?_, fun c5 => ?_⟩, fun c5 => absurd (Int32.lt_of_le_of_lt c2.2 (by decide)) c5⟩
          · have := hK N hN
            rw [sel_f c5] at this
            rw [t2]; exact this
          · have := hK N hN
            rw [sel_t c5] at this
            rw [t1]; exact this
        | succ k ih =>
          intro s N hk hN hse htr hgov hK
          obtain ⟨d, ed⟩ : ∃ d, d = 100 - (k + 1) := ⟨_, rfl⟩
          have ed2 : 100 - k = d + 1 := by omega
          have ed3 : 99 - k = d := by omega
          rw [← ed] at hgov ⊢
          unfold r_till at hK
          rw [ed3] at hK
          obtain ⟨t1, t2, t3⟩ := z_tr_of htr
          refine k_X11_term_56 (W := W) ⟨fun c5 => ?_, fun c5 => ⟨hR.z hN, hT.z hN, hP.z hN, ?_, fun N5 g5 => ?_⟩⟩
          · rw [sel_f (Int32.not_le.mpr c5)] at hK
            refine ⟨fun c6 => ?_, fun c6 => ?_⟩
            · have := hK N hN
              rw [sel_f c6] at this
              rw [t2]; exact this
            · have := hK N hN
              rw [sel_t c6] at this
              rw [t1]; exact this
          · rw [t2]; exact hse.end_
          · rw [sel_t (Int32.not_lt.mp c5)] at hK
            obtain ⟨s1, s2, s3⟩ := r_go_step (way := -6) hR.1 (fun l hl => (hT.2.2 l hl).1) hb2 (show w_b W (zp v1) ≤ d by omega) (by omega) hgov hse htr
            have htr5 := g5.2
            rw [hN.2.1 20 (by decide), hw6, s3] at htr5
            rw [nI_1]
            have := ih _ N5 (by omega) (hN.tr g5.1) s1 htr5 (fun _ => by rw [ed2]; exact s2) hK
            rw [ed2] at this
            exact this
      have := key (100 - w_b W (zp v1)) (r_begin W (zp v1)) N11 (Nat.le_refl _) hN11 (SE.begin hb2 hb1) (by rw [g11]; simp [z_tr, m_i, r_begin]) (fun z => by omega) h
      rw [show 100 - (100 - w_b W (zp v1)) = w_b W (zp v1) by omega, ← hb2] at this
      rw [hN11.1 189 (by decide), e0]
      exact this
    · rw [sel_f c4] at h; exact h M Zcr.rf
  · rw [q_rp_n c, sel_t c2, sel_t rfl, sel_f c3] at h; exact h M Zcr.rf
  · rw [q_rp, sel_f c, sel_f (by decide)] at h; exact h M Zcr.rf

/-! BetweenLawsModel.whole(II)I -/
abbrev rm_X11_whole : Room := { frames := 6, cells := 0, slots := 0, locals := 148 }
abbrev B_X11_whole (G : GT) (K : Int32 → Mem → Prop) := BT G (Rep G) RX11 "whole" cX11_whole 5 (some .int) rm_X11_whole K 0 0
abbrev T_X11_whole (G : GT) (as : List Value) (M : Mem) (K : Int32 → Mem → Prop) : Prop := MT G (Rep G) yX11_whole cX11_whole 5 (some .int) rm_X11_whole as M K
theorem e_X11_whole {G : GT} {K : Int32 → Mem → Prop} {M : Mem} {v1 : Int32} {v2 : Int32} (h : B_X11_whole G K 0 [(0, .ref 175), (1, .int v1), (2, .int v2)] [] M) : T_X11_whole G [.ref 175, .int v1, .int v2] M K := MT.of (by decide +kernel) rfl rfl (Nat.le_of_ble_eq_true rfl) rfl h
set_option maxRecDepth 4000 in
theorem k_X11_whole_0 {G : GT} {K : Int32 → Mem → Prop} {M : Mem} {W : WT} {v1 : Int32} {v2 : Int32} (h : (RP W M) ∧ (((0 : Int32) ≤ v1 ∧ v1 < W 8 4) → (((0 : Int32) ≤ v2 ∧ v2 ≤ (3 : Int32)) → (¬ v2 = 0 → (¬ v2 = 1 → (¬ v2 = 2 → (PR W (m_i M 175 20 108) v1) ∧ (∀ N12 : Mem, N12 = (m_i (m_i (m_i (m_i M 175 20 108) 175 33 (W (zp v1) 0)) 175 34 (-6)) 175 35 (-6)) → (vp_in v1 9) ∧ B_X11_whole G K 76 [(0, .ref 175), (1, .int v1), (3, .int (-6)), (4, .int (N12.1 189 (Int32.toNatClampNeg v1)))] [] N12)) ∧ (v2 = 2 → (PR W (m_i M 175 20 98) v1) ∧ (∀ N13 : Mem, N13 = (m_i (m_i (m_i (m_i M 175 20 98) 175 33 (W (zp v1) 0)) 175 34 (-6)) 175 35 (-6)) → (vp_in v1 9) ∧ B_X11_whole G K 76 [(0, .ref 175), (1, .int v1), (3, .int (-6)), (4, .int (N13.1 189 (Int32.toNatClampNeg v1)))] [] N13))) ∧ (v2 = 1 → (PR W (m_i M 175 20 99) v1) ∧ (∀ N14 : Mem, N14 = (m_i (m_i (m_i (m_i M 175 20 99) 175 33 (W (zp v1) 0)) 175 34 (-6)) 175 35 (-6)) → (vp_in v1 9) ∧ B_X11_whole G K 76 [(0, .ref 175), (1, .int v1), (3, .int (-6)), (4, .int (N14.1 189 (Int32.toNatClampNeg v1)))] [] N14))) ∧ (v2 = 0 → (PR W (m_i M 175 20 (-6)) v1) ∧ (∀ N15 : Mem, N15 = (m_i (m_i (m_i (m_i M 175 20 (-6)) 175 33 (W (zp v1) 0)) 175 34 (-6)) 175 35 (-6)) → (vp_in v1 9) ∧ B_X11_whole G K 76 [(0, .ref 175), (1, .int v1), (3, .int (-6)), (4, .int (N15.1 189 (Int32.toNatClampNeg v1)))] [] N15))) ∧ (¬ ((0 : Int32) ≤ v2 ∧ v2 ≤ (3 : Int32)) → K (-2) M)) ∧ (¬ ((0 : Int32) ≤ v1 ∧ v1 < W 8 4) → K (-1) M)) : B_X11_whole G K 0 [(0, .ref 175), (1, .int v1), (2, .int v2)] [] M := by
  refine BT.aload_n dX11_whole_0 rfl 0 rfl ?_
  refine BT.iload_n dX11_whole_1 rfl 1 rfl ?_
  refine BT.mcV [.int v1] (t_X11_isPiece h.1 ?_) mb_X11_isPiece mv_X11_isPiece lk_X11_198 rfl (by decide) rfl (recvRep ho_175 rfl) (Nat.le_of_ble_eq_true rfl) dX11_whole_2
  show B_X11_whole G K 5 [(0, .ref 175), (1, .int v1), (2, .int v2)] [.int (bi ((0 : Int32) ≤ v1 ∧ v1 < W 8 4))] M
  refine BT.if_ne (tgt := 10) dX11_whole_5 (by decide) (fun c => ?_) (fun c => ?_)
  · have c2 := bi_ne0.mp c
    refine BT.iload_n dX11_whole_10 rfl 2 rfl ?_
    refine BT.i2l dX11_whole_11 ?_
    refine BT.lconst (v := 0) dX11_whole_12 (by decide) ?_
    refine BT.ldc2 dX11_whole_13 kc_X11_246 ?_
    refine BT.mcS [.long (Int32.toInt64 v2), .long 0, .long 3] (t_X11_in (x := v2) (y := (0 : Int32)) (z := (3 : Int32)) rfl (by decide) (by decide) ?_) mb_X11_in ms_X11_in lk_X11_86 rfl (by decide) rfl (Nat.le_of_ble_eq_true rfl) dX11_whole_16
    show B_X11_whole G K 19 [(0, .ref 175), (1, .int v1), (2, .int v2)] [.int (bi ((0 : Int32) ≤ v2 ∧ v2 ≤ (3 : Int32)))] M
    refine BT.if_ne (tgt := 25) dX11_whole_19 (by decide) (fun c => ?_) (fun c => ?_)
    · have c4 := bi_ne0.mp c
      refine BT.aload_n dX11_whole_25 rfl 0 rfl ?_
      refine BT.iload_n dX11_whole_26 rfl 2 rfl ?_
      refine BT.if_ne (tgt := 35) dX11_whole_27 (by decide) (fun c => ?_) (fun c => ?_)
      · have c6 := c
        refine BT.iload_n dX11_whole_35 rfl 2 rfl ?_
        refine BT.iconst (v := 1) dX11_whole_36 (by decide) ?_
        refine BT.icmp_ne (tgt := 45) dX11_whole_37 (by decide) (fun c => ?_) (fun c => ?_)
        · have c8 := c
          refine BT.iload_n dX11_whole_45 rfl 2 rfl ?_
          refine BT.iconst (v := 2) dX11_whole_46 (by decide) ?_
          refine BT.icmp_ne (tgt := 55) dX11_whole_47 (by decide) (fun c => ?_) (fun c => ?_)
          · have c10 := c
            refine BT.bipush (v := 108) dX11_whole_55 (by decide) ?_
            refine BT.putI fl_X11_49 ft_11_20 ho_175 rfl dX11_whole_57 ?_
            refine BT.aload_n dX11_whole_60 rfl 0 rfl ?_
            refine BT.iload_n dX11_whole_61 rfl 1 rfl ?_
            refine BT.mcVvm [.int v1] (t_X11_beginTerm (((((h.2.1 c2).1 c4).1 c6).1 c8).1 c10).1 ⟨rfl, rfl⟩) mb_X11_beginTerm mv_X11_beginTerm lk_X11_269 rfl (by decide) rfl (recvRep ho_175 rfl) (Nat.le_of_ble_eq_true rfl) dX11_whole_62 (fun N12 g12 => ?_)
            show B_X11_whole G K 65 [(0, .ref 175), (1, .int v1), (2, .int v2)] [] N12
            refine BT.bipush (v := (-6)) dX11_whole_65 (by decide) ?_
            refine BT.istore_n (L' := [(3, .int (-6)), (0, .ref 175), (1, .int v1), (2, .int v2)]) dX11_whole_67 rfl (by decide) rfl ?_
            refine BT.aload_n dX11_whole_68 rfl 1 rfl ?_
            refine BT.getR (r := 189) fl_X11_53 ho_175 rfl dX11_whole_69 ?_
            refine BT.iload_n dX11_whole_72 rfl 2 rfl ?_
            refine BT.iald ha_189 ((((((h.2.1 c2).1 c4).1 c6).1 c8).1 c10).2 N12 g12).1 dX11_whole_73 ?_
            refine BT.istore (L' := [(4, .int (N12.1 189 (Int32.toNatClampNeg v1))), (3, .int (-6)), (0, .ref 175), (1, .int v1), (2, .int v2)]) dX11_whole_74 (by decide) rfl ?_
            refine BT.sub [2, 3, 1, 0] rfl ?_
            exact ((((((h.2.1 c2).1 c4).1 c6).1 c8).1 c10).2 N12 g12).2
          · have c11 := c
            refine BT.bipush (v := 98) dX11_whole_50 (by decide) ?_
            refine BT.goto (tgt := 57) dX11_whole_52 (by decide) ?_
            refine BT.putI fl_X11_49 ft_11_20 ho_175 rfl dX11_whole_57 ?_
            refine BT.aload_n dX11_whole_60 rfl 0 rfl ?_
            refine BT.iload_n dX11_whole_61 rfl 1 rfl ?_
            refine BT.mcVvm [.int v1] (t_X11_beginTerm (((((h.2.1 c2).1 c4).1 c6).1 c8).2 c11).1 ⟨rfl, rfl⟩) mb_X11_beginTerm mv_X11_beginTerm lk_X11_269 rfl (by decide) rfl (recvRep ho_175 rfl) (Nat.le_of_ble_eq_true rfl) dX11_whole_62 (fun N13 g13 => ?_)
            show B_X11_whole G K 65 [(0, .ref 175), (1, .int v1), (2, .int v2)] [] N13
            refine BT.bipush (v := (-6)) dX11_whole_65 (by decide) ?_
            refine BT.istore_n (L' := [(3, .int (-6)), (0, .ref 175), (1, .int v1), (2, .int v2)]) dX11_whole_67 rfl (by decide) rfl ?_
            refine BT.aload_n dX11_whole_68 rfl 1 rfl ?_
            refine BT.getR (r := 189) fl_X11_53 ho_175 rfl dX11_whole_69 ?_
            refine BT.iload_n dX11_whole_72 rfl 2 rfl ?_
            refine BT.iald ha_189 ((((((h.2.1 c2).1 c4).1 c6).1 c8).2 c11).2 N13 g13).1 dX11_whole_73 ?_
            refine BT.istore (L' := [(4, .int (N13.1 189 (Int32.toNatClampNeg v1))), (3, .int (-6)), (0, .ref 175), (1, .int v1), (2, .int v2)]) dX11_whole_74 (by decide) rfl ?_
            refine BT.sub [2, 3, 1, 0] rfl ?_
            exact ((((((h.2.1 c2).1 c4).1 c6).1 c8).2 c11).2 N13 g13).2
        · have c9 := c
          refine BT.bipush (v := 99) dX11_whole_40 (by decide) ?_
          refine BT.goto (tgt := 57) dX11_whole_42 (by decide) ?_
          refine BT.putI fl_X11_49 ft_11_20 ho_175 rfl dX11_whole_57 ?_
          refine BT.aload_n dX11_whole_60 rfl 0 rfl ?_
          refine BT.iload_n dX11_whole_61 rfl 1 rfl ?_
          refine BT.mcVvm [.int v1] (t_X11_beginTerm ((((h.2.1 c2).1 c4).1 c6).2 c9).1 ⟨rfl, rfl⟩) mb_X11_beginTerm mv_X11_beginTerm lk_X11_269 rfl (by decide) rfl (recvRep ho_175 rfl) (Nat.le_of_ble_eq_true rfl) dX11_whole_62 (fun N14 g14 => ?_)
          show B_X11_whole G K 65 [(0, .ref 175), (1, .int v1), (2, .int v2)] [] N14
          refine BT.bipush (v := (-6)) dX11_whole_65 (by decide) ?_
          refine BT.istore_n (L' := [(3, .int (-6)), (0, .ref 175), (1, .int v1), (2, .int v2)]) dX11_whole_67 rfl (by decide) rfl ?_
          refine BT.aload_n dX11_whole_68 rfl 1 rfl ?_
          refine BT.getR (r := 189) fl_X11_53 ho_175 rfl dX11_whole_69 ?_
          refine BT.iload_n dX11_whole_72 rfl 2 rfl ?_
          refine BT.iald ha_189 (((((h.2.1 c2).1 c4).1 c6).2 c9).2 N14 g14).1 dX11_whole_73 ?_
          refine BT.istore (L' := [(4, .int (N14.1 189 (Int32.toNatClampNeg v1))), (3, .int (-6)), (0, .ref 175), (1, .int v1), (2, .int v2)]) dX11_whole_74 (by decide) rfl ?_
          refine BT.sub [2, 3, 1, 0] rfl ?_
          exact (((((h.2.1 c2).1 c4).1 c6).2 c9).2 N14 g14).2
      · have c7 := c
        refine BT.bipush (v := (-6)) dX11_whole_30 (by decide) ?_
        refine BT.goto (tgt := 57) dX11_whole_32 (by decide) ?_
        refine BT.putI fl_X11_49 ft_11_20 ho_175 rfl dX11_whole_57 ?_
        refine BT.aload_n dX11_whole_60 rfl 0 rfl ?_
        refine BT.iload_n dX11_whole_61 rfl 1 rfl ?_
        refine BT.mcVvm [.int v1] (t_X11_beginTerm (((h.2.1 c2).1 c4).2 c7).1 ⟨rfl, rfl⟩) mb_X11_beginTerm mv_X11_beginTerm lk_X11_269 rfl (by decide) rfl (recvRep ho_175 rfl) (Nat.le_of_ble_eq_true rfl) dX11_whole_62 (fun N15 g15 => ?_)
        show B_X11_whole G K 65 [(0, .ref 175), (1, .int v1), (2, .int v2)] [] N15
        refine BT.bipush (v := (-6)) dX11_whole_65 (by decide) ?_
        refine BT.istore_n (L' := [(3, .int (-6)), (0, .ref 175), (1, .int v1), (2, .int v2)]) dX11_whole_67 rfl (by decide) rfl ?_
        refine BT.aload_n dX11_whole_68 rfl 1 rfl ?_
        refine BT.getR (r := 189) fl_X11_53 ho_175 rfl dX11_whole_69 ?_
        refine BT.iload_n dX11_whole_72 rfl 2 rfl ?_
        refine BT.iald ha_189 ((((h.2.1 c2).1 c4).2 c7).2 N15 g15).1 dX11_whole_73 ?_
        refine BT.istore (L' := [(4, .int (N15.1 189 (Int32.toNatClampNeg v1))), (3, .int (-6)), (0, .ref 175), (1, .int v1), (2, .int v2)]) dX11_whole_74 (by decide) rfl ?_
        refine BT.sub [2, 3, 1, 0] rfl ?_
        exact ((((h.2.1 c2).1 c4).2 c7).2 N15 g15).2
    · have c5 := bi_eq0.mp c
      refine BT.bipush (v := (-2)) dX11_whole_22 (by decide) ?_
      exact BT.iret dX11_whole_24 rfl (by decide) (by decide) ((h.2.1 c2).2 c5)
  · have c3 := bi_eq0.mp c
    refine BT.iconst (v := (-1)) dX11_whole_8 (by decide) ?_
    exact BT.iret dX11_whole_9 rfl (by decide) (by decide) (h.2.2 c3)
set_option maxRecDepth 4000 in
theorem k_X11_whole_76 {G : GT} {K : Int32 → Mem → Prop} {M : Mem} {W : WT} {v1 : Int32} {v3 : Int32} {v4 : Int32} (h : (99 < v4 → K v3 (m_i M 175 20 (-6))) ∧ (¬ 99 < v4 → (0 ≤ v3 → K v3 (m_i M 175 20 (-6))) ∧ (¬ 0 ≤ v3 → (RG W M) ∧ (RT W M) ∧ (PR W M v1) ∧ (M.1 175 34 = -6 ∨ 0 ≤ M.1 175 34) ∧ (∀ N5 : Mem, (Zcr M N5 ∧ z_tr N5 = z_crt W (M.1 175 20) (zp v1) v4 (z_tr M)) → ((N5.1 175 34) < 0 → B_X11_whole G K 76 [(0, .ref 175), (1, .int v1), (3, .int (-6)), (4, .int (v4 + 1))] [] N5) ∧ (¬ (N5.1 175 34) < 0 → (v4 < (N5.1 175 34) → B_X11_whole G K 76 [(0, .ref 175), (1, .int v1), (3, .int (-6)), (4, .int (v4 + 1))] [] N5) ∧ (¬ v4 < (N5.1 175 34) → B_X11_whole G K 76 [(0, .ref 175), (1, .int v1), (3, .int v4), (4, .int (v4 + 1))] [] N5)))))) : B_X11_whole G K 76 [(0, .ref 175), (1, .int v1), (3, .int v3), (4, .int v4)] [] M := by
  refine BT.iload dX11_whole_76 3 rfl ?_
  refine BT.bipush (v := 99) dX11_whole_78 (by decide) ?_
  refine BT.icmp_gt (tgt := 124) dX11_whole_80 (by decide) (fun c => ?_) (fun c => ?_)
  · have c1 := c
    refine BT.aload_n dX11_whole_124 rfl 0 rfl ?_
    refine BT.bipush (v := (-6)) dX11_whole_125 (by decide) ?_
    refine BT.putI fl_X11_49 ft_11_20 ho_175 rfl dX11_whole_127 ?_
    refine BT.iload_n dX11_whole_130 rfl 2 rfl ?_
    exact BT.iret dX11_whole_131 rfl (by decide) (by decide) (h.1 c1)
  · have c2 := c
    refine BT.iload_n dX11_whole_83 rfl 2 rfl ?_
    refine BT.if_ge (tgt := 124) dX11_whole_84 (by decide) (fun c => ?_) (fun c => ?_)
    · have c3 := c
      refine BT.aload_n dX11_whole_124 rfl 0 rfl ?_
      refine BT.bipush (v := (-6)) dX11_whole_125 (by decide) ?_
      refine BT.putI fl_X11_49 ft_11_20 ho_175 rfl dX11_whole_127 ?_
      refine BT.iload_n dX11_whole_130 rfl 2 rfl ?_
      exact BT.iret dX11_whole_131 rfl (by decide) (by decide) ((h.2 c2).1 c3)
    · have c4 := c
      refine BT.aload_n dX11_whole_87 rfl 0 rfl ?_
      refine BT.iload_n dX11_whole_88 rfl 1 rfl ?_
      refine BT.iload dX11_whole_89 3 rfl ?_
      refine BT.mcVvp [.int v1, .int v4] (t_X11_carry ((h.2 c2).2 c4).1 ((h.2 c2).2 c4).2.1 ((h.2 c2).2 c4).2.2.1 ((h.2 c2).2 c4).2.2.2.1 (fun N hN => ⟨rfl, hN⟩)) mb_X11_carry mv_X11_carry lk_X11_272 rfl (by decide) rfl (recvRep ho_175 rfl) (Nat.le_of_ble_eq_true rfl) dX11_whole_91 (P := fun N5 => Zcr M N5 ∧ z_tr N5 = z_crt W (M.1 175 20) (zp v1) v4 (z_tr M)) (fun N5 g5 => ?_)
      show B_X11_whole G K 94 [(0, .ref 175), (1, .int v1), (3, .int v3), (4, .int v4)] [] N5
      refine BT.aload_n dX11_whole_94 rfl 0 rfl ?_
      refine BT.getI fl_X11_260 ho_175 rfl dX11_whole_95 ?_
      refine BT.if_lt (tgt := 115) dX11_whole_98 (by decide) (fun c => ?_) (fun c => ?_)
      · have c6 := c
        refine BT.bipush (v := (-6)) dX11_whole_115 (by decide) ?_
        refine BT.istore_n (L' := [(3, .int (-6)), (0, .ref 175), (1, .int v1), (4, .int v4)]) dX11_whole_117 rfl (by decide) rfl ?_
        refine BT.iinc (j := 3) (v := (v4 + 1)) (L' := [(4, .int (v4 + 1)), (3, .int (-6)), (0, .ref 175), (1, .int v1)]) dX11_whole_118 rfl rfl (by decide) rfl ?_
        refine BT.goto (tgt := 76) dX11_whole_121 (by decide) ?_
        refine BT.sub [2, 3, 1, 0] rfl ?_
        exact ((((h.2 c2).2 c4).2.2.2.2 N5 g5).1 c6)
      · have c7 := c
        refine BT.aload_n dX11_whole_101 rfl 0 rfl ?_
        refine BT.getI fl_X11_260 ho_175 rfl dX11_whole_102 ?_
        refine BT.iload dX11_whole_105 3 rfl ?_
        refine BT.icmp_gt (tgt := 115) dX11_whole_107 (by decide) (fun c => ?_) (fun c => ?_)
        · have c8 := c
          refine BT.bipush (v := (-6)) dX11_whole_115 (by decide) ?_
          refine BT.istore_n (L' := [(3, .int (-6)), (0, .ref 175), (1, .int v1), (4, .int v4)]) dX11_whole_117 rfl (by decide) rfl ?_
          refine BT.iinc (j := 3) (v := (v4 + 1)) (L' := [(4, .int (v4 + 1)), (3, .int (-6)), (0, .ref 175), (1, .int v1)]) dX11_whole_118 rfl rfl (by decide) rfl ?_
          refine BT.goto (tgt := 76) dX11_whole_121 (by decide) ?_
          refine BT.sub [2, 3, 1, 0] rfl ?_
          exact (((((h.2 c2).2 c4).2.2.2.2 N5 g5).2 c7).1 c8)
        · have c9 := c
          refine BT.iload dX11_whole_110 3 rfl ?_
          refine BT.goto (tgt := 117) dX11_whole_112 (by decide) ?_
          refine BT.istore_n (L' := [(3, .int v4), (0, .ref 175), (1, .int v1), (4, .int v4)]) dX11_whole_117 rfl (by decide) rfl ?_
          refine BT.iinc (j := 3) (v := (v4 + 1)) (L' := [(4, .int (v4 + 1)), (3, .int v4), (0, .ref 175), (1, .int v1)]) dX11_whole_118 rfl rfl (by decide) rfl ?_
          refine BT.goto (tgt := 76) dX11_whole_121 (by decide) ?_
          refine BT.sub [2, 3, 1, 0] rfl ?_
          exact (((((h.2 c2).2 c4).2.2.2.2 N5 g5).2 c7).2 c9)

theorem t_X11_whole {G : GT} {K : Int32 → Mem → Prop} {M : Mem} {W : WT} {v1 v2 : Int32} (hR : RG W M) (hQ : RP W M) (hT : RT W M) (hw6 : M.1 175 20 = -6) (h : ∀ N, Zcr M N → K (a_whole W v1 v2) N) : T_X11_whole G [.ref 175, .int v1, .int v2] M K := by
  unfold a_whole at h
  refine e_X11_whole (k_X11_whole_0 (W := W) ⟨hQ, fun c => ⟨fun c2 => ?_, fun c2 => ?_⟩, fun c => ?_⟩)
  · rw [sel_t c, sel_t c2] at h
    obtain ⟨i1, i2, i3, hP, ez⟩ := hQ.ix c
    obtain ⟨p0, p1, ⟨q1, -⟩, e0, -⟩ := hP.at
    obtain ⟨hb1, hb2⟩ := q1.b
    have vp : vp_in v1 9 := by rw [p1]; exact vp_nI p0 (by decide)
    rw [← ez] at h
    have go : ∀ (wy : Int32), (wy = -6 ∨ WayL wy) → (∀ N, Zcr M N → K (r_who W (zp v1) wy (100 - w_b W (zp v1)) (r_begin W (zp v1))) N) → (PR W (m_i M 175 20 wy) v1) ∧ (∀ N12 : Mem, N12 = (m_i (m_i (m_i (m_i M 175 20 wy) 175 33 (W (zp v1) 0)) 175 34 (-6)) 175 35 (-6)) → (vp_in v1 9) ∧ B_X11_whole G K 76 [(0, .ref 175), (1, .int v1), (3, .int (-6)), (4, .int (N12.1 189 (Int32.toNatClampNeg v1)))] [] N12) := by
      intro wy hwy h
      have hR' : RG W (m_i M 175 20 wy) := hR.same (RGs.mi (by decide))
      have hP' : PR W (m_i M 175 20 wy) v1 := hP.m30
      have hT' : RT W (m_i M 175 20 wy) := by
        obtain ⟨z1, z2, z3⟩ := hT
        refine ⟨by rw [m_i_ne (by omega)]; exact z1, by rw [m_i_at]; exact hwy, fun l hl => ?_⟩
        rw [m_i_ne (by omega), m_i_ne (by omega), m_i_ne (by omega), m_i_ne (by omega), m_i_ne (by omega)]
        exact z3 l hl
      have e20 : (m_i M 175 20 wy).1 175 20 = wy := m_i_at
      have e189 : (m_i M 175 20 wy).1 189 (Int32.toNatClampNeg v1) = W (zp v1) 0 := by rw [m_i_ne (by omega), e0]
      have back : ∀ N, Zcr (m_i M 175 20 wy) N → Zcr M (m_i N 175 20 (-6)) := by
        intro N hN
        refine ⟨fun i hi => ?_, fun j hj => ?_, hN.2.2⟩
        · rw [mi_off (fun e => hi (by omega)), hN.1 i hi, mi_off (fun e => hi (by omega))]
        · by_cases e : j = 20
          · rw [e, m_i_at, hw6]
          · rw [m_i_ne (by omega), hN.2.1 j hj, m_i_ne (by omega)]
      refine ⟨hP', fun N12 g12 => ⟨vp, ?_⟩⟩
      have hN12 : Zcr (m_i M 175 20 wy) N12 := by rw [g12]; exact ((Zcr.rf.mi (by decide)).mi (by decide)).mi (by decide)
      have key : ∀ (k : Nat) (s : CrT) (N : Mem), k ≤ 100 - w_b W (zp v1) → Zcr (m_i M 175 20 wy) N → SE s → z_tr N = (s.2.2.2.1, s.2.2.2.2, s.2.2.1) → (w_b W (zp v1) < 100 - k → s.2.2.1 = w_gov W (zp v1) (nI (100 - k - 1))) → (∀ N', Zcr M N' → K (r_who W (zp v1) wy k s) N') → B_X11_whole G K 76 [(0, .ref 175), (1, .int v1), (3, .int (-6)), (4, .int (nI (100 - k)))] [] N := by
        intro k
        induction k with
        | zero =>
          intro s N hk hN hse htr hgov hK
          refine k_X11_whole_76 (W := W) ⟨fun _ => hK _ (back N hN), fun c5 => absurd (by decide) c5⟩
        | succ k ih =>
          intro s N hk hN hse htr hgov hK
          obtain ⟨d, ed⟩ : ∃ d, d = 100 - (k + 1) := ⟨_, rfl⟩
          have ed2 : 100 - k = d + 1 := by omega
          have ed3 : 99 - k = d := by omega
          rw [← ed] at hgov ⊢
          unfold r_who at hK
          rw [ed3] at hK
          obtain ⟨t1, t2, t3⟩ := z_tr_of htr
          refine k_X11_whole_76 (W := W) ⟨fun c5 => ?_, fun _ => ⟨fun c5 => absurd c5 (by decide), fun _ => ⟨hR'.z hN, hT'.z hN, hP'.z hN, by rw [t2]; exact hse.end_, fun N5 g5 => ?_⟩⟩⟩
          · exact absurd c5 (Int32.not_lt.mpr (nI_le (b := 99) (by omega) (by decide)))
          · obtain ⟨s1, s2, s3⟩ := r_go_step (way := wy) hR.1 (fun l hl => (hT.2.2 l hl).1) hb2 (show w_b W (zp v1) ≤ d by omega) (by omega) hgov hse htr
            have htr5 := g5.2
            rw [hN.2.1 20 (by decide), e20, s3] at htr5
            obtain ⟨u1, u2, u3⟩ := z_tr_of htr5
            rw [u2]
            have hN5 := hN.tr g5.1
            have nxt : ¬ (¬ (r_go W (zp v1) wy s (nI d)).2.2.2.2 = -6 ∧ (r_go W (zp v1) wy s (nI d)).2.2.2.2 ≤ nI d) → B_X11_whole G K 76 [(0, .ref 175), (1, .int v1), (3, .int (-6)), (4, .int (nI d + 1))] [] N5 := by
              intro q
              rw [sel_f q] at hK
              rw [nI_1]
              have := ih _ N5 (by omega) hN5 s1 htr5 (fun _ => by rw [ed2]; exact s2) hK
              rw [ed2] at this
              exact this
            refine ⟨fun c6 => nxt (fun q => ?_), fun c6 => ⟨fun c7 => nxt (fun q => absurd c7 (Int32.not_lt.mpr q.2)), fun c7 => ?_⟩⟩
            · rcases s1.end_ with z | z
              · exact q.1 z
              · exact Int32.not_lt.mpr z c6
            · have q : ¬ (r_go W (zp v1) wy s (nI d)).2.2.2.2 = -6 ∧ (r_go W (zp v1) wy s (nI d)).2.2.2.2 ≤ nI d := ⟨fun z => c6 (by show (r_go W (zp v1) wy s (nI d)).2.2.2.2 < 0; rw [z]; decide), Int32.not_lt.mp c7⟩
              rw [sel_t q] at hK
              refine k_X11_whole_76 (W := W) ⟨fun _ => hK _ (back N5 hN5), fun _ => ⟨fun _ => hK _ (back N5 hN5), fun c8 => absurd (nI_pos' (by omega)) c8⟩⟩
      have := key (100 - w_b W (zp v1)) (r_begin W (zp v1)) N12 (Nat.le_refl _) hN12 (SE.begin hb2 hb1) (by rw [g12]; simp [z_tr, m_i, r_begin]) (fun z => by omega) h
      rw [show 100 - (100 - w_b W (zp v1)) = w_b W (zp v1) by omega, ← hb2] at this
      rw [hN12.1 189 (by decide), e189]
      exact this
    refine ⟨fun c3 => ⟨fun c4 => ⟨fun c5 => ?_, fun c5 => ?_⟩, fun c4 => ?_⟩, fun c3 => ?_⟩
    · have e3 : v2 = 3 := by
        obtain ⟨j, hj, rfl⟩ := i_nat (x := v2) (N := 4) (by decide) c2.1 (Int32.lt_of_le_of_lt c2.2 (by decide))
        match j, hj with
        | 0, _ => exact absurd rfl c3
        | 1, _ => exact absurd rfl c4
        | 2, _ => exact absurd rfl c5
        | 3, _ => rfl
      rw [e3] at h
      exact go 108 (Or.inr (Or.inr (Or.inr rfl))) h
    · rw [c5] at h; exact go 98 (Or.inr (Or.inr (Or.inl rfl))) h
    · rw [c4] at h; exact go 99 (Or.inr (Or.inl rfl)) h
    · rw [c3] at h; exact go (-6) (Or.inl rfl) h
  · rw [sel_t c, sel_f c2] at h; exact h M Zcr.rf
  · rw [sel_f c] at h; exact h M Zcr.rf

/-! BetweenLawsModel.caught(I)I -/
abbrev rm_X11_caught : Room := { frames := 6, cells := 0, slots := 0, locals := 144 }
abbrev B_X11_caught (G : GT) (K : Int32 → Mem → Prop) := BT G (Rep G) RX11 "caught" cX11_caught 5 (some .int) rm_X11_caught K 0 0
abbrev T_X11_caught (G : GT) (as : List Value) (M : Mem) (K : Int32 → Mem → Prop) : Prop := MT G (Rep G) yX11_caught cX11_caught 5 (some .int) rm_X11_caught as M K
theorem e_X11_caught {G : GT} {K : Int32 → Mem → Prop} {M : Mem} {v1 : Int32} (h : B_X11_caught G K 0 [(0, .ref 175), (1, .int v1)] [] M) : T_X11_caught G [.ref 175, .int v1] M K := MT.of (by decide +kernel) rfl rfl (Nat.le_of_ble_eq_true rfl) rfl h
set_option maxRecDepth 4000 in
theorem k_X11_caught_0 {G : GT} {K : Int32 → Mem → Prop} {M : Mem} {W : WT} {v1 : Int32} (h : (RG W M) ∧ (((0 : Int32) ≤ v1 ∧ v1 < W 8 1) → B_X11_caught G K 14 [(0, .ref 175), (1, .int v1), (2, .int 0), (3, .int 0)] [] M) ∧ (¬ ((0 : Int32) ≤ v1 ∧ v1 < W 8 1) → K (-1) M)) : B_X11_caught G K 0 [(0, .ref 175), (1, .int v1)] [] M := by
  refine BT.aload_n dX11_caught_0 rfl 0 rfl ?_
  refine BT.iload_n dX11_caught_1 rfl 1 rfl ?_
  refine BT.mcV [.int v1] (t_X11_isLaw h.1 ?_) mb_X11_isLaw mv_X11_isLaw lk_X11_169 rfl (by decide) rfl (recvRep ho_175 rfl) (Nat.le_of_ble_eq_true rfl) dX11_caught_2
  show B_X11_caught G K 5 [(0, .ref 175), (1, .int v1)] [.int (bi ((0 : Int32) ≤ v1 ∧ v1 < W 8 1))] M
  refine BT.if_ne (tgt := 10) dX11_caught_5 (by decide) (fun c => ?_) (fun c => ?_)
  · have c2 := bi_ne0.mp c
    refine BT.iconst (v := 0) dX11_caught_10 (by decide) ?_
    refine BT.istore_n (L' := [(2, .int 0), (0, .ref 175), (1, .int v1)]) dX11_caught_11 rfl (by decide) rfl ?_
    refine BT.iconst (v := 0) dX11_caught_12 (by decide) ?_
    refine BT.istore_n (L' := [(3, .int 0), (2, .int 0), (0, .ref 175), (1, .int v1)]) dX11_caught_13 rfl (by decide) rfl ?_
    refine BT.sub [2, 3, 1, 0] rfl ?_
    exact (h.2.1 c2)
  · have c3 := bi_eq0.mp c
    refine BT.iconst (v := (-1)) dX11_caught_8 (by decide) ?_
    exact BT.iret dX11_caught_9 rfl (by decide) (by decide) (h.2.2 c3)
set_option maxRecDepth 4000 in
theorem k_X11_caught_14 {G : GT} {K : Int32 → Mem → Prop} {M : Mem} {v1 : Int32} {v2 : Int32} {v3 : Int32} (h : ((M.1 175 26) ≤ v3 → K v2 M) ∧ (¬ (M.1 175 26) ≤ v3 → (vp_in v3 9) ∧ B_X11_caught G K 30 [(0, .ref 175), (1, .int v1), (2, .int v2), (3, .int v3), (4, .int (M.1 189 (Int32.toNatClampNeg v3)))] [] M)) : B_X11_caught G K 14 [(0, .ref 175), (1, .int v1), (2, .int v2), (3, .int v3)] [] M := by
  refine BT.iload_n dX11_caught_14 rfl 3 rfl ?_
  refine BT.aload_n dX11_caught_15 rfl 0 rfl ?_
  refine BT.getI fl_X11_190 ho_175 rfl dX11_caught_16 ?_
  refine BT.icmp_ge (tgt := 78) dX11_caught_19 (by decide) (fun c => ?_) (fun c => ?_)
  · have c1 := c
    refine BT.iload_n dX11_caught_78 rfl 2 rfl ?_
    exact BT.iret dX11_caught_79 rfl (by decide) (by decide) (h.1 c1)
  · have c2 := c
    refine BT.aload_n dX11_caught_22 rfl 0 rfl ?_
    refine BT.getR (r := 189) fl_X11_53 ho_175 rfl dX11_caught_23 ?_
    refine BT.iload_n dX11_caught_26 rfl 3 rfl ?_
    refine BT.iald ha_189 (h.2 c2).1 dX11_caught_27 ?_
    refine BT.istore (L' := [(4, .int (M.1 189 (Int32.toNatClampNeg v3))), (0, .ref 175), (1, .int v1), (2, .int v2), (3, .int v3)]) dX11_caught_28 (by decide) rfl ?_
    refine BT.sub [1, 2, 3, 4, 0] rfl ?_
    exact (h.2 c2).2
set_option maxRecDepth 4000 in
theorem k_X11_caught_30 {G : GT} {K : Int32 → Mem → Prop} {M : Mem} {W : WT} {v1 : Int32} {v2 : Int32} {v3 : Int32} {v4 : Int32} (h : (99 < v4 → B_X11_caught G K 14 [(0, .ref 175), (1, .int v1), (2, .int v2), (3, .int (v3 + 1))] [] M) ∧ (¬ 99 < v4 → (¬ ((v2 >>> (v3 &&& 31)) &&& 1) = 0 → B_X11_caught G K 14 [(0, .ref 175), (1, .int v1), (2, .int v2), (3, .int (v3 + 1))] [] M) ∧ (((v2 >>> (v3 &&& 31)) &&& 1) = 0 → (RG W M) ∧ (PR W M v3) ∧ (∀ r5 : Int32, r5 = (w_gov W (zp v3) (c_dayOn W (zp v3) v4)) → ∀ N5 : Mem, N5 = (m_i M 175 30 (w_gov2 W (zp v3) (c_dayOn W (zp v3) v4)).2) → (¬ r5 = v1 → B_X11_caught G K 30 [(0, .ref 175), (1, .int v1), (2, .int (v2 ||| 0)), (3, .int v3), (4, .int (v4 + 1))] [] N5) ∧ (r5 = v1 → B_X11_caught G K 30 [(0, .ref 175), (1, .int v1), (2, .int (v2 ||| ((1 : Int32) <<< (v3 &&& 31)))), (3, .int v3), (4, .int (v4 + 1))] [] N5))))) : B_X11_caught G K 30 [(0, .ref 175), (1, .int v1), (2, .int v2), (3, .int v3), (4, .int v4)] [] M := by
  refine BT.iload dX11_caught_30 4 rfl ?_
  refine BT.bipush (v := 99) dX11_caught_32 (by decide) ?_
  refine BT.icmp_gt (tgt := 72) dX11_caught_34 (by decide) (fun c => ?_) (fun c => ?_)
  · have c1 := c
    refine BT.iinc (j := 3) (v := (v3 + 1)) (L' := [(3, .int (v3 + 1)), (0, .ref 175), (1, .int v1), (2, .int v2), (4, .int v4)]) dX11_caught_72 rfl rfl (by decide) rfl ?_
    refine BT.goto (tgt := 14) dX11_caught_75 (by decide) ?_
    refine BT.sub [1, 2, 3, 0] rfl ?_
    exact (h.1 c1)
  · have c2 := c
    refine BT.iload_n dX11_caught_37 rfl 2 rfl ?_
    refine BT.iload_n dX11_caught_38 rfl 3 rfl ?_
    refine BT.ishr dX11_caught_39 ?_
    refine BT.iconst (v := 1) dX11_caught_40 (by decide) ?_
    refine BT.iand dX11_caught_41 ?_
    refine BT.if_ne (tgt := 72) dX11_caught_42 (by decide) (fun c => ?_) (fun c => ?_)
    · have c3 := c
      refine BT.iinc (j := 3) (v := (v3 + 1)) (L' := [(3, .int (v3 + 1)), (0, .ref 175), (1, .int v1), (2, .int v2), (4, .int v4)]) dX11_caught_72 rfl rfl (by decide) rfl ?_
      refine BT.goto (tgt := 14) dX11_caught_75 (by decide) ?_
      refine BT.sub [1, 2, 3, 0] rfl ?_
      exact ((h.2 c2).1 c3)
    · have c4 := c
      refine BT.iload_n dX11_caught_45 rfl 2 rfl ?_
      refine BT.aload_n dX11_caught_46 rfl 0 rfl ?_
      refine BT.iload_n dX11_caught_47 rfl 3 rfl ?_
      refine BT.iload dX11_caught_48 4 rfl ?_
      refine BT.mcVn [.int v3, .int v4] (t_X11_governs0 ((h.2 c2).2 c4).1 ((h.2 c2).2 c4).2.1 ⟨rfl, rfl⟩) mb_X11_governs0 mv_X11_governs0 lk_X11_243 rfl (by decide) rfl (recvRep ho_175 rfl) (Nat.le_of_ble_eq_true rfl) dX11_caught_50 (fun r5 e5 N5 g5 => ?_)
      show B_X11_caught G K 53 [(0, .ref 175), (1, .int v1), (2, .int v2), (3, .int v3), (4, .int v4)] [.int r5, .int v2] N5
      refine BT.iload_n dX11_caught_53 rfl 1 rfl ?_
      refine BT.icmp_ne (tgt := 63) dX11_caught_54 (by decide) (fun c => ?_) (fun c => ?_)
      · have c6 := c
        refine BT.iconst (v := 0) dX11_caught_63 (by decide) ?_
        refine BT.ior dX11_caught_64 ?_
        refine BT.istore_n (L' := [(2, .int (v2 ||| 0)), (0, .ref 175), (1, .int v1), (3, .int v3), (4, .int v4)]) dX11_caught_65 rfl (by decide) rfl ?_
        refine BT.iinc (j := 4) (v := (v4 + 1)) (L' := [(4, .int (v4 + 1)), (2, .int (v2 ||| 0)), (0, .ref 175), (1, .int v1), (3, .int v3)]) dX11_caught_66 rfl rfl (by decide) rfl ?_
        refine BT.goto (tgt := 30) dX11_caught_69 (by decide) ?_
        refine BT.sub [2, 3, 1, 4, 0] rfl ?_
        exact ((((h.2 c2).2 c4).2.2 r5 e5 N5 g5).1 c6)
      · have c7 := c
        refine BT.iconst (v := 1) dX11_caught_57 (by decide) ?_
        refine BT.iload_n dX11_caught_58 rfl 3 rfl ?_
        refine BT.ishl dX11_caught_59 ?_
        refine BT.goto (tgt := 64) dX11_caught_60 (by decide) ?_
        refine BT.ior dX11_caught_64 ?_
        refine BT.istore_n (L' := [(2, .int (v2 ||| ((1 : Int32) <<< (v3 &&& 31)))), (0, .ref 175), (1, .int v1), (3, .int v3), (4, .int v4)]) dX11_caught_65 rfl (by decide) rfl ?_
        refine BT.iinc (j := 4) (v := (v4 + 1)) (L' := [(4, .int (v4 + 1)), (2, .int (v2 ||| ((1 : Int32) <<< (v3 &&& 31)))), (0, .ref 175), (1, .int v1), (3, .int v3)]) dX11_caught_66 rfl rfl (by decide) rfl ?_
        refine BT.goto (tgt := 30) dX11_caught_69 (by decide) ?_
        refine BT.sub [2, 3, 1, 4, 0] rfl ?_
        exact ((((h.2 c2).2 c4).2.2 r5 e5 N5 g5).2 c7)

theorem walk_back {W : WT} {p b : Nat} (hG : GW W) (hb : W p 0 = nI b) : ∀ e, b ≤ e → e < 100 → ∃ e', b ≤ e' ∧ e' ≤ e ∧ (e' = b ∨ w_turns W (nI e')) ∧ w_gov W p (nI e') = w_gov W p (nI e)
  | 0, h, _ => ⟨0, h, Nat.le_refl _, Or.inl (by omega), rfl⟩
  | e + 1, h, he => by
    by_cases c : e + 1 = b
    · exact ⟨e + 1, h, Nat.le_refl _, Or.inl c, rfl⟩
    · by_cases ct : w_turns W (nI (e + 1))
      · exact ⟨e + 1, h, Nat.le_refl _, Or.inr ct, rfl⟩
      · obtain ⟨e', h1, h2, h3, h4⟩ := walk_back hG hb e (by omega) (by omega)
        have := gov_turn (W := W) (p := p) (d := e) hG (by omega) (by rw [hb]; exact nI_le (by omega) (by omega)) ct
        refine ⟨e', h1, by omega, h3, ?_⟩
        unfold w_gov at h4 ⊢
        rw [this]; exact h4
theorem PW.day {W : WT} {p : Nat} (h : PW W p) {d : Nat} (hd : d < 100) (hb : w_b W p ≤ d) : ∃ e, w_b W p ≤ e ∧ e ≤ d ∧ c_dayOn W p (nI d) = nI e ∧ nI e ≤ c_dayOn W p 99 := by
  obtain ⟨q1, -, q3, -⟩ := h
  obtain ⟨hb1, hb2⟩ := q1.b
  unfold c_dayOn
  rcases q3 with q | ⟨q, j, hj, ej⟩
  · rw [if_pos q, if_pos q]
    exact ⟨d, hb, Nat.le_refl _, rfl, nI_le (b := 99) (by omega) (by decide)⟩
  · rw [hb2, ej, nI_leI (by omega) (by omega)] at q
    rw [ej, if_neg (nI_n6 (by omega)), if_neg (nI_n6 (by omega))]
    have h99 : (if nI j < 99 then nI j else 99) = nI j := by
      by_cases c : nI j < 99
      · rw [if_pos c]
      · rw [if_neg c]
        exact Int32.le_antisymm (Int32.not_lt.mp c) (nI_le (b := 99) (by omega) (by decide))
    rw [h99]
    by_cases c : nI j < nI d
    · rw [if_pos c]
      have := (nI_ltI (by omega) (by omega)).mp c
      exact ⟨j, by omega, by omega, rfl, Int32.le_refl _⟩
    · rw [if_neg c]
      exact ⟨d, hb, Nat.le_refl _, rfl, Int32.not_lt.mp c⟩
theorem PW.day2 {W : WT} {p : Nat} (h : PW W p) {d : Nat} (hd : d < 100) (hq : nI d ≤ c_dayOn W p 99) : c_dayOn W p (nI d) = nI d := by
  obtain ⟨q1, -, q3, -⟩ := h
  unfold c_dayOn at hq ⊢
  by_cases c : W p 2 = -6
  · rw [if_pos c]
  · rw [if_neg c] at hq ⊢
    by_cases c2 : W p 2 < 99
    · rw [if_pos c2] at hq
      rw [if_neg (Int32.not_lt.mpr hq)]
    · rcases q3 with q | ⟨q, j, hj, ej⟩
      · exact absurd q c
      · rw [ej] at c2 ⊢
        have : nI d ≤ nI j := Int32.le_trans (nI_le (b := 99) (by omega) (by decide)) (Int32.not_lt.mp c2)
        rw [if_neg (Int32.not_lt.mpr this)]
theorem t_X11_caught {G : GT} {K : Int32 → Mem → Prop} {M : Mem} {W : WT} {v1 : Int32} (hR : RG W M) (hQ : RP W M) (h : ∀ N, Zcr M N → K (a_caught W v1) N) : T_X11_caught G [.ref 175, .int v1] M K := by
  unfold a_caught at h
  obtain ⟨hn, h9⟩ := hQ.n
  refine e_X11_caught (k_X11_caught_0 (W := W) ⟨hR, fun c => ?_, fun c => ?_⟩)
  · rw [sel_t c] at h
    have small : ∀ j, j ≤ w_p W → ∀ x, j ≤ x → x < 32 → ¬ bP (w_caught W v1 j) x := by
      intro j
      induction j with
      | zero => intro _ x _ _; exact bP_0
      | succ j ih =>
        intro hj x hx hx2
        unfold w_caught sel
        split
        · rw [bP_or, bP_shl (by omega) hx2]
          rintro (q | q)
          · exact ih (by omega) x (by omega) hx2 q
          · omega
        · exact ih (by omega) x (by omega) hx2
    refine up_loop (P := fun j => ∀ N, Zcr M N → B_X11_caught G K 14 [(0, .ref 175), (1, .int v1), (2, .int (w_caught W v1 j)), (3, .int (nI j))] [] N) (w_p W) (fun N hN => ?_) (fun j hj ih N hN => ?_) 0 (Nat.zero_le _) M Zcr.rf
    · refine k_X11_caught_14 ⟨fun _ => h N hN, fun c => ?_⟩
      rw [(hQ.z hN).n.1] at c
      exact absurd (Int32.le_refl _) c
    · unfold w_caught at ih
      obtain ⟨hP, ez⟩ := hQ.pc hj
      obtain ⟨p0, p1, hPW, e0, -⟩ := (hP.z hN).at
      have hPW := id hPW
      obtain ⟨q1, q2, q3, q4⟩ := id hPW
      obtain ⟨hb1, hb2⟩ := q1.b
      rw [ez] at hPW hb1 hb2 e0
      have vp : vp_in (nI j) 9 := vp_nI (by omega) (by decide)
      have hno := small j (by omega) j (Nat.le_refl _) (by omega)
      have found : ∀ d, w_b W (52 + j) ≤ d → d < 100 → w_gov W (52 + j) (c_dayOn W (52 + j) (nI d)) = v1 → w_ever W v1 (52 + j) := by
        intro d hd1 hd2 eg
        obtain ⟨e, h1, h2, h3, h4⟩ := hPW.day hd2 hd1
        obtain ⟨e', z1, z2, z3, z4⟩ := walk_back hR.1 hb2 e h1 (by omega)
        refine ⟨e', by rw [hb2]; exact nI_le z1 (by omega), Int32.le_trans (nI_le z2 (by omega)) h4, by omega, ?_, by rw [z4, ← h3]; exact eg⟩
        rcases z3 with z | z
        · exact Or.inl (by rw [hb2, z])
        · exact Or.inr z
      have inner : ∀ (k : Nat) (N : Mem), k ≤ 100 - w_b W (52 + j) → Zcr M N → (∀ d, w_b W (52 + j) ≤ d → d < 100 - k → ¬ w_gov W (52 + j) (c_dayOn W (52 + j) (nI d)) = v1) → B_X11_caught G K 30 [(0, .ref 175), (1, .int v1), (2, .int (w_caught W v1 j)), (3, .int (nI j)), (4, .int (nI (100 - k)))] [] N := by
        intro k
        induction k with
        | zero =>
          intro N _ hN hnot
          refine k_X11_caught_30 (W := W) ⟨fun _ => ?_, fun c1 => absurd (by decide) c1⟩
          rw [sel_f] at ih
          · rw [nI_1]; exact ih N hN
          · rintro ⟨d, z1, z2, z3, z4, z5⟩
            rw [hb2, nI_leI (by omega) (by omega)] at z1
            exact hnot d z1 (by omega) (by rw [hPW.day2 z3 z2]; exact z5)
        | succ k ihk =>
          intro N hk hN hnot
          obtain ⟨d, ed⟩ : ∃ d, d = 100 - (k + 1) := ⟨_, rfl⟩
          have ed2 : 100 - k = d + 1 := by omega
          rw [← ed] at hnot ⊢
          refine k_X11_caught_30 (W := W) ⟨fun c1 => ?_, fun _ => ⟨fun c1 => ?_, fun c1 => ⟨hR.z hN, hP.z hN, fun r5 e5 N5 g5 => ?_⟩⟩⟩
          · exact absurd c1 (Int32.not_lt.mpr (nI_le (b := 99) (by omega) (by decide)))
          · exact absurd ((bit_is0 (by omega)).mpr hno) c1
          · have hN5 : Zcr M N5 := by rw [g5]; exact hN.mi (by decide)
            rw [ez] at e5
            refine ⟨fun c2 => ?_, fun c2 => ?_⟩
            · rw [Int32.or_zero, nI_1]
              have := ihk N5 (by omega) hN5 (fun d' h1 h2 => by
                by_cases e : d' = d
                · rw [e, ← e5]; exact c2
                · exact hnot d' h1 (by omega))
              rw [ed2] at this
              exact this
            · rw [sel_t (found d (by omega) (by omega) (by rw [← e5]; exact c2))] at ih
              refine k_X11_caught_30 (W := W) ⟨fun _ => by rw [nI_1 j]; exact ih N5 hN5, fun _ => ⟨fun _ => by rw [nI_1 j]; exact ih N5 hN5, fun c3 => ?_⟩⟩
              refine absurd ?_ ((bit_is0 (x := (w_caught W v1 j ||| ((1 : Int32) <<< (nI j &&& 31)))) (by omega)).mp c3)
              rw [bP_or, bP_shl (by omega) (by omega)]
              exact Or.inr rfl
      refine k_X11_caught_14 ⟨fun c1 => ?_, fun _ => ⟨vp, ?_⟩⟩
      · rw [(hQ.z hN).n.1, nI_leI (by omega) (by omega)] at c1; omega
      · have := inner (100 - w_b W (52 + j)) N (Nat.le_refl _) hN (fun d h1 h2 => by omega)
        rw [show 100 - (100 - w_b W (52 + j)) = w_b W (52 + j) by omega, ← hb2] at this
        rw [e0]
        exact this
  · rw [sel_f c] at h; exact h _ Zcr.rf

/-! BetweenLawsModel.those(II)I -/
abbrev rm_X11_those : Room := { frames := 6, cells := 0, slots := 0, locals := 150 }
abbrev B_X11_those (G : GT) (K : Int32 → Mem → Prop) := BT G (Rep G) RX11 "those" cX11_those 7 (some .int) rm_X11_those K 0 0
abbrev T_X11_those (G : GT) (as : List Value) (M : Mem) (K : Int32 → Mem → Prop) : Prop := MT G (Rep G) yX11_those cX11_those 7 (some .int) rm_X11_those as M K
theorem e_X11_those {G : GT} {K : Int32 → Mem → Prop} {M : Mem} {v1 : Int32} {v2 : Int32} (h : B_X11_those G K 0 [(0, .ref 175), (1, .int v1), (2, .int v2)] [] M) : T_X11_those G [.ref 175, .int v1, .int v2] M K := MT.of (by decide +kernel) rfl rfl (Nat.le_of_ble_eq_true rfl) rfl h
set_option maxRecDepth 4000 in
theorem k_X11_those_0 {G : GT} {K : Int32 → Mem → Prop} {M : Mem} {v1 : Int32} {v2 : Int32} (h : (¬ ((0 : Int32) ≤ v1 ∧ v1 ≤ 99) → K (-2) M) ∧ (((0 : Int32) ≤ v1 ∧ v1 ≤ 99) → (((0 : Int32) ≤ v2 ∧ v2 ≤ (3 : Int32)) → B_X11_those G K 27 [(0, .ref 175), (1, .int v1), (2, .int v2), (3, .int 0), (4, .int 0)] [] M) ∧ (¬ ((0 : Int32) ≤ v2 ∧ v2 ≤ (3 : Int32)) → K (-2) M))) : B_X11_those G K 0 [(0, .ref 175), (1, .int v1), (2, .int v2)] [] M := by
  refine BT.iload_n dX11_those_0 rfl 1 rfl ?_
  refine BT.mcS [.int v1] (t_X11_isDay  ?_) mb_X11_isDay ms_X11_isDay lk_X11_156 rfl (by decide) rfl (Nat.le_of_ble_eq_true rfl) dX11_those_1
  show B_X11_those G K 4 [(0, .ref 175), (1, .int v1), (2, .int v2)] [.int (bi ((0 : Int32) ≤ v1 ∧ v1 ≤ 99))] M
  refine BT.if_eq (tgt := 19) dX11_those_4 (by decide) (fun c => ?_) (fun c => ?_)
  · have c2 := bi_eq0.mp c
    refine BT.bipush (v := (-2)) dX11_those_19 (by decide) ?_
    exact BT.iret dX11_those_21 rfl (by decide) (by decide) (h.1 c2)
  · have c3 := bi_ne0.mp c
    refine BT.iload_n dX11_those_7 rfl 2 rfl ?_
    refine BT.i2l dX11_those_8 ?_
    refine BT.lconst (v := 0) dX11_those_9 (by decide) ?_
    refine BT.ldc2 dX11_those_10 kc_X11_246 ?_
    refine BT.mcS [.long (Int32.toInt64 v2), .long 0, .long 3] (t_X11_in (x := v2) (y := (0 : Int32)) (z := (3 : Int32)) rfl (by decide) (by decide) ?_) mb_X11_in ms_X11_in lk_X11_86 rfl (by decide) rfl (Nat.le_of_ble_eq_true rfl) dX11_those_13
    show B_X11_those G K 16 [(0, .ref 175), (1, .int v1), (2, .int v2)] [.int (bi ((0 : Int32) ≤ v2 ∧ v2 ≤ (3 : Int32)))] M
    refine BT.if_ne (tgt := 22) dX11_those_16 (by decide) (fun c => ?_) (fun c => ?_)
    · have c4 := bi_ne0.mp c
      refine BT.iconst (v := 0) dX11_those_22 (by decide) ?_
      refine BT.istore_n (L' := [(3, .int 0), (0, .ref 175), (1, .int v1), (2, .int v2)]) dX11_those_23 rfl (by decide) rfl ?_
      refine BT.iconst (v := 0) dX11_those_24 (by decide) ?_
      refine BT.istore (L' := [(4, .int 0), (3, .int 0), (0, .ref 175), (1, .int v1), (2, .int v2)]) dX11_those_25 (by decide) rfl ?_
      refine BT.sub [2, 3, 4, 1, 0] rfl ?_
      exact ((h.2 c3).1 c4)
    · have c5 := bi_eq0.mp c
      refine BT.bipush (v := (-2)) dX11_those_19 (by decide) ?_
      exact BT.iret dX11_those_21 rfl (by decide) (by decide) ((h.2 c3).2 c5)
set_option maxRecDepth 4000 in
theorem k_X11_those_27 {G : GT} {K : Int32 → Mem → Prop} {M : Mem} {W : WT} {v1 : Int32} {v2 : Int32} {v3 : Int32} {v4 : Int32} (h : ((M.1 175 26) ≤ v4 → K v3 M) ∧ (¬ (M.1 175 26) ≤ v4 → (vp_in v4 9) ∧ (v1 < (M.1 189 (Int32.toNatClampNeg v4)) → (¬ v2 = 2 → (2 ≤ v2 → B_X11_those G K 27 [(0, .ref 175), (1, .int v1), (2, .int v2), (3, .int (v3 ||| 0)), (4, .int (v4 + 1))] [] M) ∧ (¬ 2 ≤ v2 → (RG W M) ∧ (PR W M v4) ∧ (∀ r9 : Int32, r9 = (w_gov W (zp v4) (c_dayOn W (zp v4) v1)) → ∀ N9 : Mem, N9 = (m_i M 175 30 (w_gov2 W (zp v4) (c_dayOn W (zp v4) v1)).2) → (¬ v2 = 0 → B_X11_those G K 27 [(0, .ref 175), (1, .int v1), (2, .int v2), (3, .int (v3 ||| 0)), (4, .int (v4 + 1))] [] N9) ∧ (v2 = 0 → ((N9.1 175 30) = 0 → B_X11_those G K 27 [(0, .ref 175), (1, .int v1), (2, .int v2), (3, .int (v3 ||| 0)), (4, .int (v4 + 1))] [] N9) ∧ (¬ (N9.1 175 30) = 0 → B_X11_those G K 27 [(0, .ref 175), (1, .int v1), (2, .int v2), (3, .int (v3 ||| ((1 : Int32) <<< (v4 &&& 31)))), (4, .int (v4 + 1))] [] N9))))) ∧ (v2 = 2 → (RG W M) ∧ (PR W M v4) ∧ (∀ r14 : Int32, r14 = (w_fol9 W (zp v4) (w_gov W (zp v4) (c_dayOn W (zp v4) v1)) (c_dayOn W (zp v4) v1)) → ∀ N14 : Mem, (Zcr M N14 ∧ ZPath N14 (w_path9 W (zp v4) (w_gov W (zp v4) (c_dayOn W (zp v4) v1)) (c_dayOn W (zp v4) v1))) → (¬ r14 = (-3) → B_X11_those G K 27 [(0, .ref 175), (1, .int v1), (2, .int v2), (3, .int (v3 ||| 0)), (4, .int (v4 + 1))] [] N14) ∧ (r14 = (-3) → B_X11_those G K 27 [(0, .ref 175), (1, .int v1), (2, .int v2), (3, .int (v3 ||| ((1 : Int32) <<< (v4 &&& 31)))), (4, .int (v4 + 1))] [] N14)))) ∧ (¬ v1 < (M.1 189 (Int32.toNatClampNeg v4)) → (¬ v2 = 2 → (2 ≤ v2 → B_X11_those G K 27 [(0, .ref 175), (1, .int v1), (2, .int v2), (3, .int (v3 ||| ((1 : Int32) <<< (v4 &&& 31)))), (4, .int (v4 + 1))] [] M) ∧ (¬ 2 ≤ v2 → (RG W M) ∧ (PR W M v4) ∧ (∀ r21 : Int32, r21 = (w_gov W (zp v4) (c_dayOn W (zp v4) v1)) → ∀ N21 : Mem, N21 = (m_i M 175 30 (w_gov2 W (zp v4) (c_dayOn W (zp v4) v1)).2) → (¬ v2 = 0 → (0 ≤ r21 → B_X11_those G K 27 [(0, .ref 175), (1, .int v1), (2, .int v2), (3, .int (v3 ||| 0)), (4, .int (v4 + 1))] [] N21) ∧ (¬ 0 ≤ r21 → B_X11_those G K 27 [(0, .ref 175), (1, .int v1), (2, .int v2), (3, .int (v3 ||| ((1 : Int32) <<< (v4 &&& 31)))), (4, .int (v4 + 1))] [] N21)) ∧ (v2 = 0 → ((N21.1 175 30) = 0 → B_X11_those G K 27 [(0, .ref 175), (1, .int v1), (2, .int v2), (3, .int (v3 ||| 0)), (4, .int (v4 + 1))] [] N21) ∧ (¬ (N21.1 175 30) = 0 → B_X11_those G K 27 [(0, .ref 175), (1, .int v1), (2, .int v2), (3, .int (v3 ||| ((1 : Int32) <<< (v4 &&& 31)))), (4, .int (v4 + 1))] [] N21))))) ∧ (v2 = 2 → (RG W M) ∧ (PR W M v4) ∧ (∀ r28 : Int32, r28 = (w_fol9 W (zp v4) (w_gov W (zp v4) (c_dayOn W (zp v4) v1)) (c_dayOn W (zp v4) v1)) → ∀ N28 : Mem, (Zcr M N28 ∧ ZPath N28 (w_path9 W (zp v4) (w_gov W (zp v4) (c_dayOn W (zp v4) v1)) (c_dayOn W (zp v4) v1))) → (¬ r28 = (-3) → B_X11_those G K 27 [(0, .ref 175), (1, .int v1), (2, .int v2), (3, .int (v3 ||| 0)), (4, .int (v4 + 1))] [] N28) ∧ (r28 = (-3) → B_X11_those G K 27 [(0, .ref 175), (1, .int v1), (2, .int v2), (3, .int (v3 ||| ((1 : Int32) <<< (v4 &&& 31)))), (4, .int (v4 + 1))] [] N28)))))) : B_X11_those G K 27 [(0, .ref 175), (1, .int v1), (2, .int v2), (3, .int v3), (4, .int v4)] [] M := by
  refine BT.iload dX11_those_27 4 rfl ?_
  refine BT.aload_n dX11_those_29 rfl 0 rfl ?_
  refine BT.getI fl_X11_190 ho_175 rfl dX11_those_30 ?_
  refine BT.icmp_ge (tgt := 145) dX11_those_33 (by decide) (fun c => ?_) (fun c => ?_)
  · have c1 := c
    refine BT.iload_n dX11_those_145 rfl 3 rfl ?_
    exact BT.iret dX11_those_146 rfl (by decide) (by decide) (h.1 c1)
  · have c2 := c
    refine BT.aload_n dX11_those_36 rfl 0 rfl ?_
    refine BT.getR (r := 189) fl_X11_53 ho_175 rfl dX11_those_37 ?_
    refine BT.iload dX11_those_40 4 rfl ?_
    refine BT.iald ha_189 (h.2 c2).1 dX11_those_42 ?_
    refine BT.iload_n dX11_those_43 rfl 1 rfl ?_
    refine BT.icmp_gt (tgt := 51) dX11_those_44 (by decide) (fun c => ?_) (fun c => ?_)
    · have c3 := c
      refine BT.iconst (v := 0) dX11_those_51 (by decide) ?_
      refine BT.istore (L' := [(5, .int 0), (0, .ref 175), (1, .int v1), (2, .int v2), (3, .int v3), (4, .int v4)]) dX11_those_52 (by decide) rfl ?_
      refine BT.iload_n dX11_those_54 rfl 3 rfl ?_
      refine BT.iconst (v := 2) dX11_those_55 (by decide) ?_
      refine BT.icmp_ne (tgt := 81) dX11_those_56 (by decide) (fun c => ?_) (fun c => ?_)
      · have c5 := c
        refine BT.iload_n dX11_those_81 rfl 3 rfl ?_
        refine BT.iconst (v := 2) dX11_those_82 (by decide) ?_
        refine BT.icmp_ge (tgt := 123) dX11_those_83 (by decide) (fun c => ?_) (fun c => ?_)
        · have c7 := c
          refine BT.iload_n dX11_those_123 rfl 4 rfl ?_
          refine BT.iload dX11_those_124 0 rfl ?_
          refine BT.if_eq (tgt := 136) dX11_those_126 (by decide) (fun _ => ?_) (fun c => absurd c (by decide))
          refine BT.iconst (v := 0) dX11_those_136 (by decide) ?_
          refine BT.ior dX11_those_137 ?_
          refine BT.istore_n (L' := [(3, .int (v3 ||| 0)), (5, .int 0), (0, .ref 175), (1, .int v1), (2, .int v2), (4, .int v4)]) dX11_those_138 rfl (by decide) rfl ?_
          refine BT.iinc (j := 5) (v := (v4 + 1)) (L' := [(4, .int (v4 + 1)), (3, .int (v3 ||| 0)), (5, .int 0), (0, .ref 175), (1, .int v1), (2, .int v2)]) dX11_those_139 rfl rfl (by decide) rfl ?_
          refine BT.goto (tgt := 27) dX11_those_142 (by decide) ?_
          refine BT.sub [3, 4, 5, 1, 0] rfl ?_
          exact ((((h.2 c2).2.1 c3).1 c5).1 c7)
        · have c8 := c
          refine BT.aload_n dX11_those_86 rfl 1 rfl ?_
          refine BT.iload dX11_those_87 5 rfl ?_
          refine BT.iload_n dX11_those_89 rfl 2 rfl ?_
          refine BT.mcVn [.int v4, .int v1] (t_X11_governs0 ((((h.2 c2).2.1 c3).1 c5).2 c8).1 ((((h.2 c2).2.1 c3).1 c5).2 c8).2.1 ⟨rfl, rfl⟩) mb_X11_governs0 mv_X11_governs0 lk_X11_243 rfl (by decide) rfl (recvRep ho_175 rfl) (Nat.le_of_ble_eq_true rfl) dX11_those_90 (fun r9 e9 N9 g9 => ?_)
          show B_X11_those G K 93 [(5, .int 0), (0, .ref 175), (1, .int v1), (2, .int v2), (3, .int v3), (4, .int v4)] [.int r9] N9
          refine BT.istore (L' := [(6, .int r9), (5, .int 0), (0, .ref 175), (1, .int v1), (2, .int v2), (3, .int v3), (4, .int v4)]) dX11_those_93 (by decide) rfl ?_
          refine BT.iload_n dX11_those_95 rfl 4 rfl ?_
          refine BT.if_ne (tgt := 106) dX11_those_96 (by decide) (fun c => ?_) (fun c => ?_)
          · have c10 := c
            refine BT.iload dX11_those_106 1 rfl ?_
            refine BT.if_eq (tgt := 120) dX11_those_108 (by decide) (fun _ => ?_) (fun c => absurd c (by decide))
            refine BT.iconst (v := 0) dX11_those_120 (by decide) ?_
            refine BT.istore (L' := [(5, .int 0), (6, .int r9), (0, .ref 175), (1, .int v1), (2, .int v2), (3, .int v3), (4, .int v4)]) dX11_those_121 (by decide) rfl ?_
            refine BT.iload_n dX11_those_123 rfl 5 rfl ?_
            refine BT.iload dX11_those_124 0 rfl ?_
            refine BT.if_eq (tgt := 136) dX11_those_126 (by decide) (fun _ => ?_) (fun c => absurd c (by decide))
            refine BT.iconst (v := 0) dX11_those_136 (by decide) ?_
            refine BT.ior dX11_those_137 ?_
            refine BT.istore_n (L' := [(3, .int (v3 ||| 0)), (5, .int 0), (6, .int r9), (0, .ref 175), (1, .int v1), (2, .int v2), (4, .int v4)]) dX11_those_138 rfl (by decide) rfl ?_
            refine BT.iinc (j := 6) (v := (v4 + 1)) (L' := [(4, .int (v4 + 1)), (3, .int (v3 ||| 0)), (5, .int 0), (6, .int r9), (0, .ref 175), (1, .int v1), (2, .int v2)]) dX11_those_139 rfl rfl (by decide) rfl ?_
            refine BT.goto (tgt := 27) dX11_those_142 (by decide) ?_
            refine BT.sub [4, 5, 6, 1, 0] rfl ?_
            exact ((((((h.2 c2).2.1 c3).1 c5).2 c8).2.2 r9 e9 N9 g9).1 c10)
          · have c11 := c
            refine BT.aload_n dX11_those_99 rfl 2 rfl ?_
            refine BT.getI fl_X11_216 ho_175 rfl dX11_those_100 ?_
            refine BT.goto (tgt := 121) dX11_those_103 (by decide) ?_
            refine BT.istore (L' := [(5, .int (N9.1 175 30)), (6, .int r9), (0, .ref 175), (1, .int v1), (2, .int v2), (3, .int v3), (4, .int v4)]) dX11_those_121 (by decide) rfl ?_
            refine BT.iload_n dX11_those_123 rfl 5 rfl ?_
            refine BT.iload dX11_those_124 0 rfl ?_
            refine BT.if_eq (tgt := 136) dX11_those_126 (by decide) (fun c => ?_) (fun c => ?_)
            · have c12 := c
              refine BT.iconst (v := 0) dX11_those_136 (by decide) ?_
              refine BT.ior dX11_those_137 ?_
              refine BT.istore_n (L' := [(3, .int (v3 ||| 0)), (5, .int (N9.1 175 30)), (6, .int r9), (0, .ref 175), (1, .int v1), (2, .int v2), (4, .int v4)]) dX11_those_138 rfl (by decide) rfl ?_
              refine BT.iinc (j := 6) (v := (v4 + 1)) (L' := [(4, .int (v4 + 1)), (3, .int (v3 ||| 0)), (5, .int (N9.1 175 30)), (6, .int r9), (0, .ref 175), (1, .int v1), (2, .int v2)]) dX11_those_139 rfl rfl (by decide) rfl ?_
              refine BT.goto (tgt := 27) dX11_those_142 (by decide) ?_
              refine BT.sub [4, 5, 6, 1, 0] rfl ?_
              exact (((((((h.2 c2).2.1 c3).1 c5).2 c8).2.2 r9 e9 N9 g9).2 c11).1 c12)
            · have c13 := c
              refine BT.iconst (v := 1) dX11_those_129 (by decide) ?_
              refine BT.iload dX11_those_130 6 rfl ?_
              refine BT.ishl dX11_those_132 ?_
              refine BT.goto (tgt := 137) dX11_those_133 (by decide) ?_
              refine BT.ior dX11_those_137 ?_
              refine BT.istore_n (L' := [(3, .int (v3 ||| ((1 : Int32) <<< (v4 &&& 31)))), (5, .int (N9.1 175 30)), (6, .int r9), (0, .ref 175), (1, .int v1), (2, .int v2), (4, .int v4)]) dX11_those_138 rfl (by decide) rfl ?_
              refine BT.iinc (j := 6) (v := (v4 + 1)) (L' := [(4, .int (v4 + 1)), (3, .int (v3 ||| ((1 : Int32) <<< (v4 &&& 31)))), (5, .int (N9.1 175 30)), (6, .int r9), (0, .ref 175), (1, .int v1), (2, .int v2)]) dX11_those_139 rfl rfl (by decide) rfl ?_
              refine BT.goto (tgt := 27) dX11_those_142 (by decide) ?_
              refine BT.sub [4, 5, 6, 1, 0] rfl ?_
              exact (((((((h.2 c2).2.1 c3).1 c5).2 c8).2.2 r9 e9 N9 g9).2 c11).2 c13)
      · have c6 := c
        refine BT.aload_n dX11_those_59 rfl 1 rfl ?_
        refine BT.iload dX11_those_60 5 rfl ?_
        refine BT.iload_n dX11_those_62 rfl 2 rfl ?_
        refine BT.mcVp [.int v4, .int v1] (t_X11_plainGift (((h.2 c2).2.1 c3).2 c6).1 (((h.2 c2).2.1 c3).2 c6).2.1 (fun N hN => ⟨rfl, hN⟩)) mb_X11_plainGift mv_X11_plainGift lk_X11_248 rfl (by decide) rfl (recvRep ho_175 rfl) (Nat.le_of_ble_eq_true rfl) dX11_those_63 (P := fun N14 => Zcr M N14 ∧ ZPath N14 (w_path9 W (zp v4) (w_gov W (zp v4) (c_dayOn W (zp v4) v1)) (c_dayOn W (zp v4) v1))) (fun r14 e14 N14 g14 => ?_)
        show B_X11_those G K 66 [(5, .int 0), (0, .ref 175), (1, .int v1), (2, .int v2), (3, .int v3), (4, .int v4)] [.int r14] N14
        refine BT.bipush (v := (-3)) dX11_those_66 (by decide) ?_
        refine BT.icmp_ne (tgt := 75) dX11_those_68 (by decide) (fun c => ?_) (fun c => ?_)
        · have c15 := c
          refine BT.iconst (v := 0) dX11_those_75 (by decide) ?_
          refine BT.istore (L' := [(5, .int 0), (0, .ref 175), (1, .int v1), (2, .int v2), (3, .int v3), (4, .int v4)]) dX11_those_76 (by decide) rfl ?_
          refine BT.goto (tgt := 123) dX11_those_78 (by decide) ?_
          refine BT.iload_n dX11_those_123 rfl 4 rfl ?_
          refine BT.iload dX11_those_124 0 rfl ?_
          refine BT.if_eq (tgt := 136) dX11_those_126 (by decide) (fun _ => ?_) (fun c => absurd c (by decide))
          refine BT.iconst (v := 0) dX11_those_136 (by decide) ?_
          refine BT.ior dX11_those_137 ?_
          refine BT.istore_n (L' := [(3, .int (v3 ||| 0)), (5, .int 0), (0, .ref 175), (1, .int v1), (2, .int v2), (4, .int v4)]) dX11_those_138 rfl (by decide) rfl ?_
          refine BT.iinc (j := 5) (v := (v4 + 1)) (L' := [(4, .int (v4 + 1)), (3, .int (v3 ||| 0)), (5, .int 0), (0, .ref 175), (1, .int v1), (2, .int v2)]) dX11_those_139 rfl rfl (by decide) rfl ?_
          refine BT.goto (tgt := 27) dX11_those_142 (by decide) ?_
          refine BT.sub [3, 4, 5, 1, 0] rfl ?_
          exact (((((h.2 c2).2.1 c3).2 c6).2.2 r14 e14 N14 g14).1 c15)
        · have c16 := c
          refine BT.iconst (v := 1) dX11_those_71 (by decide) ?_
          refine BT.goto (tgt := 76) dX11_those_72 (by decide) ?_
          refine BT.istore (L' := [(5, .int 1), (0, .ref 175), (1, .int v1), (2, .int v2), (3, .int v3), (4, .int v4)]) dX11_those_76 (by decide) rfl ?_
          refine BT.goto (tgt := 123) dX11_those_78 (by decide) ?_
          refine BT.iload_n dX11_those_123 rfl 4 rfl ?_
          refine BT.iload dX11_those_124 0 rfl ?_
          refine BT.if_eq (tgt := 136) dX11_those_126 (by decide) (fun c => absurd c (by decide)) (fun _ => ?_)
          refine BT.iconst (v := 1) dX11_those_129 (by decide) ?_
          refine BT.iload dX11_those_130 5 rfl ?_
          refine BT.ishl dX11_those_132 ?_
          refine BT.goto (tgt := 137) dX11_those_133 (by decide) ?_
          refine BT.ior dX11_those_137 ?_
          refine BT.istore_n (L' := [(3, .int (v3 ||| ((1 : Int32) <<< (v4 &&& 31)))), (5, .int 1), (0, .ref 175), (1, .int v1), (2, .int v2), (4, .int v4)]) dX11_those_138 rfl (by decide) rfl ?_
          refine BT.iinc (j := 5) (v := (v4 + 1)) (L' := [(4, .int (v4 + 1)), (3, .int (v3 ||| ((1 : Int32) <<< (v4 &&& 31)))), (5, .int 1), (0, .ref 175), (1, .int v1), (2, .int v2)]) dX11_those_139 rfl rfl (by decide) rfl ?_
          refine BT.goto (tgt := 27) dX11_those_142 (by decide) ?_
          refine BT.sub [3, 4, 5, 1, 0] rfl ?_
          exact (((((h.2 c2).2.1 c3).2 c6).2.2 r14 e14 N14 g14).2 c16)
    · have c4 := c
      refine BT.iconst (v := 1) dX11_those_47 (by decide) ?_
      refine BT.goto (tgt := 52) dX11_those_48 (by decide) ?_
      refine BT.istore (L' := [(5, .int 1), (0, .ref 175), (1, .int v1), (2, .int v2), (3, .int v3), (4, .int v4)]) dX11_those_52 (by decide) rfl ?_
      refine BT.iload_n dX11_those_54 rfl 3 rfl ?_
      refine BT.iconst (v := 2) dX11_those_55 (by decide) ?_
      refine BT.icmp_ne (tgt := 81) dX11_those_56 (by decide) (fun c => ?_) (fun c => ?_)
      · have c17 := c
        refine BT.iload_n dX11_those_81 rfl 3 rfl ?_
        refine BT.iconst (v := 2) dX11_those_82 (by decide) ?_
        refine BT.icmp_ge (tgt := 123) dX11_those_83 (by decide) (fun c => ?_) (fun c => ?_)
        · have c19 := c
          refine BT.iload_n dX11_those_123 rfl 4 rfl ?_
          refine BT.iload dX11_those_124 0 rfl ?_
          refine BT.if_eq (tgt := 136) dX11_those_126 (by decide) (fun c => absurd c (by decide)) (fun _ => ?_)
          refine BT.iconst (v := 1) dX11_those_129 (by decide) ?_
          refine BT.iload dX11_those_130 5 rfl ?_
          refine BT.ishl dX11_those_132 ?_
          refine BT.goto (tgt := 137) dX11_those_133 (by decide) ?_
          refine BT.ior dX11_those_137 ?_
          refine BT.istore_n (L' := [(3, .int (v3 ||| ((1 : Int32) <<< (v4 &&& 31)))), (5, .int 1), (0, .ref 175), (1, .int v1), (2, .int v2), (4, .int v4)]) dX11_those_138 rfl (by decide) rfl ?_
          refine BT.iinc (j := 5) (v := (v4 + 1)) (L' := [(4, .int (v4 + 1)), (3, .int (v3 ||| ((1 : Int32) <<< (v4 &&& 31)))), (5, .int 1), (0, .ref 175), (1, .int v1), (2, .int v2)]) dX11_those_139 rfl rfl (by decide) rfl ?_
          refine BT.goto (tgt := 27) dX11_those_142 (by decide) ?_
          refine BT.sub [3, 4, 5, 1, 0] rfl ?_
          exact ((((h.2 c2).2.2 c4).1 c17).1 c19)
        · have c20 := c
          refine BT.aload_n dX11_those_86 rfl 1 rfl ?_
          refine BT.iload dX11_those_87 5 rfl ?_
          refine BT.iload_n dX11_those_89 rfl 2 rfl ?_
          refine BT.mcVn [.int v4, .int v1] (t_X11_governs0 ((((h.2 c2).2.2 c4).1 c17).2 c20).1 ((((h.2 c2).2.2 c4).1 c17).2 c20).2.1 ⟨rfl, rfl⟩) mb_X11_governs0 mv_X11_governs0 lk_X11_243 rfl (by decide) rfl (recvRep ho_175 rfl) (Nat.le_of_ble_eq_true rfl) dX11_those_90 (fun r21 e21 N21 g21 => ?_)
          show B_X11_those G K 93 [(5, .int 1), (0, .ref 175), (1, .int v1), (2, .int v2), (3, .int v3), (4, .int v4)] [.int r21] N21
          refine BT.istore (L' := [(6, .int r21), (5, .int 1), (0, .ref 175), (1, .int v1), (2, .int v2), (3, .int v3), (4, .int v4)]) dX11_those_93 (by decide) rfl ?_
          refine BT.iload_n dX11_those_95 rfl 4 rfl ?_
          refine BT.if_ne (tgt := 106) dX11_those_96 (by decide) (fun c => ?_) (fun c => ?_)
          · have c22 := c
            refine BT.iload dX11_those_106 1 rfl ?_
            refine BT.if_eq (tgt := 120) dX11_those_108 (by decide) (fun c => absurd c (by decide)) (fun _ => ?_)
            refine BT.iload dX11_those_111 0 rfl ?_
            refine BT.if_ge (tgt := 120) dX11_those_113 (by decide) (fun c => ?_) (fun c => ?_)
            · have c24 := c
              refine BT.iconst (v := 0) dX11_those_120 (by decide) ?_
              refine BT.istore (L' := [(5, .int 0), (6, .int r21), (0, .ref 175), (1, .int v1), (2, .int v2), (3, .int v3), (4, .int v4)]) dX11_those_121 (by decide) rfl ?_
              refine BT.iload_n dX11_those_123 rfl 5 rfl ?_
              refine BT.iload dX11_those_124 0 rfl ?_
              refine BT.if_eq (tgt := 136) dX11_those_126 (by decide) (fun _ => ?_) (fun c => absurd c (by decide))
              refine BT.iconst (v := 0) dX11_those_136 (by decide) ?_
              refine BT.ior dX11_those_137 ?_
              refine BT.istore_n (L' := [(3, .int (v3 ||| 0)), (5, .int 0), (6, .int r21), (0, .ref 175), (1, .int v1), (2, .int v2), (4, .int v4)]) dX11_those_138 rfl (by decide) rfl ?_
              refine BT.iinc (j := 6) (v := (v4 + 1)) (L' := [(4, .int (v4 + 1)), (3, .int (v3 ||| 0)), (5, .int 0), (6, .int r21), (0, .ref 175), (1, .int v1), (2, .int v2)]) dX11_those_139 rfl rfl (by decide) rfl ?_
              refine BT.goto (tgt := 27) dX11_those_142 (by decide) ?_
              refine BT.sub [4, 5, 6, 1, 0] rfl ?_
              exact (((((((h.2 c2).2.2 c4).1 c17).2 c20).2.2 r21 e21 N21 g21).1 c22).1 c24)
            · have c25 := c
              refine BT.iconst (v := 1) dX11_those_116 (by decide) ?_
              refine BT.goto (tgt := 121) dX11_those_117 (by decide) ?_
              refine BT.istore (L' := [(5, .int 1), (6, .int r21), (0, .ref 175), (1, .int v1), (2, .int v2), (3, .int v3), (4, .int v4)]) dX11_those_121 (by decide) rfl ?_
              refine BT.iload_n dX11_those_123 rfl 5 rfl ?_
              refine BT.iload dX11_those_124 0 rfl ?_
              refine BT.if_eq (tgt := 136) dX11_those_126 (by decide) (fun c => absurd c (by decide)) (fun _ => ?_)
              refine BT.iconst (v := 1) dX11_those_129 (by decide) ?_
              refine BT.iload dX11_those_130 6 rfl ?_
              refine BT.ishl dX11_those_132 ?_
              refine BT.goto (tgt := 137) dX11_those_133 (by decide) ?_
              refine BT.ior dX11_those_137 ?_
              refine BT.istore_n (L' := [(3, .int (v3 ||| ((1 : Int32) <<< (v4 &&& 31)))), (5, .int 1), (6, .int r21), (0, .ref 175), (1, .int v1), (2, .int v2), (4, .int v4)]) dX11_those_138 rfl (by decide) rfl ?_
              refine BT.iinc (j := 6) (v := (v4 + 1)) (L' := [(4, .int (v4 + 1)), (3, .int (v3 ||| ((1 : Int32) <<< (v4 &&& 31)))), (5, .int 1), (6, .int r21), (0, .ref 175), (1, .int v1), (2, .int v2)]) dX11_those_139 rfl rfl (by decide) rfl ?_
              refine BT.goto (tgt := 27) dX11_those_142 (by decide) ?_
              refine BT.sub [4, 5, 6, 1, 0] rfl ?_
              exact (((((((h.2 c2).2.2 c4).1 c17).2 c20).2.2 r21 e21 N21 g21).1 c22).2 c25)
          · have c23 := c
            refine BT.aload_n dX11_those_99 rfl 2 rfl ?_
            refine BT.getI fl_X11_216 ho_175 rfl dX11_those_100 ?_
            refine BT.goto (tgt := 121) dX11_those_103 (by decide) ?_
            refine BT.istore (L' := [(5, .int (N21.1 175 30)), (6, .int r21), (0, .ref 175), (1, .int v1), (2, .int v2), (3, .int v3), (4, .int v4)]) dX11_those_121 (by decide) rfl ?_
            refine BT.iload_n dX11_those_123 rfl 5 rfl ?_
            refine BT.iload dX11_those_124 0 rfl ?_
            refine BT.if_eq (tgt := 136) dX11_those_126 (by decide) (fun c => ?_) (fun c => ?_)
            · have c26 := c
              refine BT.iconst (v := 0) dX11_those_136 (by decide) ?_
              refine BT.ior dX11_those_137 ?_
              refine BT.istore_n (L' := [(3, .int (v3 ||| 0)), (5, .int (N21.1 175 30)), (6, .int r21), (0, .ref 175), (1, .int v1), (2, .int v2), (4, .int v4)]) dX11_those_138 rfl (by decide) rfl ?_
              refine BT.iinc (j := 6) (v := (v4 + 1)) (L' := [(4, .int (v4 + 1)), (3, .int (v3 ||| 0)), (5, .int (N21.1 175 30)), (6, .int r21), (0, .ref 175), (1, .int v1), (2, .int v2)]) dX11_those_139 rfl rfl (by decide) rfl ?_
              refine BT.goto (tgt := 27) dX11_those_142 (by decide) ?_
              refine BT.sub [4, 5, 6, 1, 0] rfl ?_
              exact (((((((h.2 c2).2.2 c4).1 c17).2 c20).2.2 r21 e21 N21 g21).2 c23).1 c26)
            · have c27 := c
              refine BT.iconst (v := 1) dX11_those_129 (by decide) ?_
              refine BT.iload dX11_those_130 6 rfl ?_
              refine BT.ishl dX11_those_132 ?_
              refine BT.goto (tgt := 137) dX11_those_133 (by decide) ?_
              refine BT.ior dX11_those_137 ?_
              refine BT.istore_n (L' := [(3, .int (v3 ||| ((1 : Int32) <<< (v4 &&& 31)))), (5, .int (N21.1 175 30)), (6, .int r21), (0, .ref 175), (1, .int v1), (2, .int v2), (4, .int v4)]) dX11_those_138 rfl (by decide) rfl ?_
              refine BT.iinc (j := 6) (v := (v4 + 1)) (L' := [(4, .int (v4 + 1)), (3, .int (v3 ||| ((1 : Int32) <<< (v4 &&& 31)))), (5, .int (N21.1 175 30)), (6, .int r21), (0, .ref 175), (1, .int v1), (2, .int v2)]) dX11_those_139 rfl rfl (by decide) rfl ?_
              refine BT.goto (tgt := 27) dX11_those_142 (by decide) ?_
              refine BT.sub [4, 5, 6, 1, 0] rfl ?_
              exact (((((((h.2 c2).2.2 c4).1 c17).2 c20).2.2 r21 e21 N21 g21).2 c23).2 c27)
      · have c18 := c
        refine BT.aload_n dX11_those_59 rfl 1 rfl ?_
        refine BT.iload dX11_those_60 5 rfl ?_
        refine BT.iload_n dX11_those_62 rfl 2 rfl ?_
        refine BT.mcVp [.int v4, .int v1] (t_X11_plainGift (((h.2 c2).2.2 c4).2 c18).1 (((h.2 c2).2.2 c4).2 c18).2.1 (fun N hN => ⟨rfl, hN⟩)) mb_X11_plainGift mv_X11_plainGift lk_X11_248 rfl (by decide) rfl (recvRep ho_175 rfl) (Nat.le_of_ble_eq_true rfl) dX11_those_63 (P := fun N28 => Zcr M N28 ∧ ZPath N28 (w_path9 W (zp v4) (w_gov W (zp v4) (c_dayOn W (zp v4) v1)) (c_dayOn W (zp v4) v1))) (fun r28 e28 N28 g28 => ?_)
        show B_X11_those G K 66 [(5, .int 1), (0, .ref 175), (1, .int v1), (2, .int v2), (3, .int v3), (4, .int v4)] [.int r28] N28
        refine BT.bipush (v := (-3)) dX11_those_66 (by decide) ?_
        refine BT.icmp_ne (tgt := 75) dX11_those_68 (by decide) (fun c => ?_) (fun c => ?_)
        · have c29 := c
          refine BT.iconst (v := 0) dX11_those_75 (by decide) ?_
          refine BT.istore (L' := [(5, .int 0), (0, .ref 175), (1, .int v1), (2, .int v2), (3, .int v3), (4, .int v4)]) dX11_those_76 (by decide) rfl ?_
          refine BT.goto (tgt := 123) dX11_those_78 (by decide) ?_
          refine BT.iload_n dX11_those_123 rfl 4 rfl ?_
          refine BT.iload dX11_those_124 0 rfl ?_
          refine BT.if_eq (tgt := 136) dX11_those_126 (by decide) (fun _ => ?_) (fun c => absurd c (by decide))
          refine BT.iconst (v := 0) dX11_those_136 (by decide) ?_
          refine BT.ior dX11_those_137 ?_
          refine BT.istore_n (L' := [(3, .int (v3 ||| 0)), (5, .int 0), (0, .ref 175), (1, .int v1), (2, .int v2), (4, .int v4)]) dX11_those_138 rfl (by decide) rfl ?_
          refine BT.iinc (j := 5) (v := (v4 + 1)) (L' := [(4, .int (v4 + 1)), (3, .int (v3 ||| 0)), (5, .int 0), (0, .ref 175), (1, .int v1), (2, .int v2)]) dX11_those_139 rfl rfl (by decide) rfl ?_
          refine BT.goto (tgt := 27) dX11_those_142 (by decide) ?_
          refine BT.sub [3, 4, 5, 1, 0] rfl ?_
          exact (((((h.2 c2).2.2 c4).2 c18).2.2 r28 e28 N28 g28).1 c29)
        · have c30 := c
          refine BT.iconst (v := 1) dX11_those_71 (by decide) ?_
          refine BT.goto (tgt := 76) dX11_those_72 (by decide) ?_
          refine BT.istore (L' := [(5, .int 1), (0, .ref 175), (1, .int v1), (2, .int v2), (3, .int v3), (4, .int v4)]) dX11_those_76 (by decide) rfl ?_
          refine BT.goto (tgt := 123) dX11_those_78 (by decide) ?_
          refine BT.iload_n dX11_those_123 rfl 4 rfl ?_
          refine BT.iload dX11_those_124 0 rfl ?_
          refine BT.if_eq (tgt := 136) dX11_those_126 (by decide) (fun c => absurd c (by decide)) (fun _ => ?_)
          refine BT.iconst (v := 1) dX11_those_129 (by decide) ?_
          refine BT.iload dX11_those_130 5 rfl ?_
          refine BT.ishl dX11_those_132 ?_
          refine BT.goto (tgt := 137) dX11_those_133 (by decide) ?_
          refine BT.ior dX11_those_137 ?_
          refine BT.istore_n (L' := [(3, .int (v3 ||| ((1 : Int32) <<< (v4 &&& 31)))), (5, .int 1), (0, .ref 175), (1, .int v1), (2, .int v2), (4, .int v4)]) dX11_those_138 rfl (by decide) rfl ?_
          refine BT.iinc (j := 5) (v := (v4 + 1)) (L' := [(4, .int (v4 + 1)), (3, .int (v3 ||| ((1 : Int32) <<< (v4 &&& 31)))), (5, .int 1), (0, .ref 175), (1, .int v1), (2, .int v2)]) dX11_those_139 rfl rfl (by decide) rfl ?_
          refine BT.goto (tgt := 27) dX11_those_142 (by decide) ?_
          refine BT.sub [3, 4, 5, 1, 0] rfl ?_
          exact (((((h.2 c2).2.2 c4).2 c18).2.2 r28 e28 N28 g28).2 c30)

theorem t_X11_those {G : GT} {K : Int32 → Mem → Prop} {M : Mem} {W : WT} {v1 v2 : Int32} (hR : RG W M) (hQ : RP W M) (h : ∀ N, Zcr M N → K (a_those W v1 v2) N) : T_X11_those G [.ref 175, .int v1, .int v2] M K := by
  unfold a_those at h
  obtain ⟨hn, h9⟩ := hQ.n
  refine e_X11_those (k_X11_those_0 ⟨fun c => ?_, fun c => ⟨fun c2 => ?_, fun c2 => ?_⟩⟩)
  · rw [sel_f c] at h; exact h _ Zcr.rf
  · rw [sel_t c, sel_t c2] at h
    refine up_loop (P := fun j => ∀ N, Zcr M N → B_X11_those G K 27 [(0, .ref 175), (1, .int v1), (2, .int v2), (3, .int (a_thoseN W v1 v2 j)), (4, .int (nI j))] [] N) (w_p W) (fun N hN => ?_) (fun j hj ih N hN => ?_) 0 (Nat.zero_le _) M Zcr.rf
    · refine k_X11_those_27 (W := W) ⟨fun _ => h N hN, fun c => ?_⟩
      rw [(hQ.z hN).n.1] at c
      exact absurd (Int32.le_refl _) c
    · obtain ⟨hP, ez⟩ := hQ.pc hj
      obtain ⟨p0, p1, hPW, e0, -⟩ := (hP.z hN).at
      rw [ez] at e0 hPW
      have vp : vp_in (nI j) 9 := vp_nI (by omega) (by decide)
      unfold a_thoseN at ih
      rw [← nI_1] at ih
      have yes : w_those W (52 + j) v1 v2 → ∀ N', Zcr M N' → B_X11_those G K 27 [(0, .ref 175), (1, .int v1), (2, .int v2), (3, .int (a_thoseN W v1 v2 j ||| ((1 : Int32) <<< (nI j &&& 31)))), (4, .int (nI j + 1))] [] N' := fun q N' hN' => by rw [sel_t q] at ih; exact ih N' hN'
      have no : ¬ w_those W (52 + j) v1 v2 → ∀ N', Zcr M N' → B_X11_those G K 27 [(0, .ref 175), (1, .int v1), (2, .int v2), (3, .int (a_thoseN W v1 v2 j ||| 0)), (4, .int (nI j + 1))] [] N' := fun q N' hN' => by rw [sel_f q] at ih; rw [Int32.or_zero]; exact ih N' hN'
      clear ih
      -- begun by then
      have hbe : W (52 + j) 0 ≤ c_dayOn W (52 + j) v1 ↔ ¬ v1 < W (52 + j) 0 := by
        rw [Int32.not_lt]
        obtain ⟨q1, -, q3, -⟩ := hPW
        unfold c_dayOn
        by_cases c3 : W (52 + j) 2 = -6
        · rw [if_pos c3]
        · have q := (q3.resolve_left c3).1
          rw [if_neg c3]
          by_cases c4 : W (52 + j) 2 < v1
          · rw [if_pos c4]
            exact ⟨fun _ => Int32.le_trans q (Int32.le_of_lt c4), fun _ => q⟩
          · rw [if_neg c4]
      have hgi := w_gov_in W (52 + j) (c_dayOn W (52 + j) v1)
      have h01 := w_gov2_01 W (52 + j) (c_dayOn W (52 + j) v1)
      have h8 := hR.n.2.2
      unfold w_those at yes no
      rw [hbe] at yes no
      have hv2 : ¬ v2 = 2 → 2 ≤ v2 → v2 = 3 := by
        intro a b
        obtain ⟨i, hi, rfl⟩ := i_nat (x := v2) (N := 4) (by decide) c2.1 (Int32.lt_of_le_of_lt c2.2 (by decide))
        match i, hi with
        | 0, _ => exact absurd b (by decide)
        | 1, _ => exact absurd b (by decide)
        | 2, _ => exact absurd rfl a
        | 3, _ => rfl
      have hv01 : ¬ 2 ≤ v2 → ¬ v2 = 0 → v2 = 1 := by
        intro a b
        obtain ⟨i, hi, rfl⟩ := i_nat (x := v2) (N := 4) (by decide) c2.1 (Int32.lt_of_le_of_lt c2.2 (by decide))
        match i, hi with
        | 0, _ => exact absurd rfl b
        | 1, _ => rfl
        | 2, _ => exact absurd (by decide) a
        | 3, _ => exact absurd (by decide) a
      have gneg : ∀ g, (g = -6 ∨ ∃ i, i < w_n W ∧ g = nI i) → (0 ≤ g ↔ ¬ g = -6) := by
        rintro g (q | ⟨i, hi, q⟩)
        · subst q; decide
        · subst q; exact ⟨fun _ => nI_n6 (by omega), fun _ => nI_pos' (by omega)⟩
      refine k_X11_those_27 (W := W) ?_
      rw [(hQ.z hN).n.1, e0, ez]
      refine ⟨fun c1 => ?_, fun _ => ⟨vp, fun cb => ⟨fun c4 => ⟨fun c5 => ?_, fun c5 => ⟨hR.z hN, hP.z hN, fun r9 e9 N9 g9 => ⟨fun c6 => ?_, fun c6 => ⟨fun c7 => ?_, fun c7 => ?_⟩⟩⟩⟩, fun c4 => ⟨hR.z hN, hP.z hN, fun r14 e14 N14 g14 => ⟨fun c6 => ?_, fun c6 => ?_⟩⟩⟩, fun cb => ⟨fun c4 => ⟨fun c5 => ?_, fun c5 => ⟨hR.z hN, hP.z hN, fun r9 e9 N9 g9 => ⟨fun c6 => ⟨fun c7 => ?_, fun c7 => ?_⟩, fun c6 => ⟨fun c7 => ?_, fun c7 => ?_⟩⟩⟩⟩, fun c4 => ⟨hR.z hN, hP.z hN, fun r14 e14 N14 g14 => ⟨fun c6 => ?_, fun c6 => ?_⟩⟩⟩⟩⟩
      · rw [nI_leI (by omega) (by omega)] at c1; omega
      · have e3 := hv2 c4 c5
        refine no ?_ N hN
        rw [e3]
        rintro (q | q | q | q)
        · exact q.2 cb
        · exact absurd q.1 (by decide)
        · exact absurd q.1 (by decide)
        · exact q.1 rfl
      · have e1 := hv01 c5 c6
        refine no ?_ N9 (by rw [g9]; exact hN.mi (by decide))
        rw [e1]
        rintro (q | q | q | q)
        · exact absurd q.1 (by decide)
        · exact absurd q.1 (by decide)
        · exact q.2.1 cb
        · exact q.2.2.1 rfl
      · rw [g9, m_i_at] at c7
        refine no ?_ N9 (by rw [g9]; exact hN.mi (by decide))
        rw [c6]
        rintro (q | q | q | q)
        · exact absurd q.1 (by decide)
        · rw [c7] at q; exact absurd q.2 (by decide)
        · exact absurd q.1 (by decide)
        · exact q.2.1 rfl
      · rw [g9, m_i_at] at c7
        exact yes (Or.inr (Or.inl ⟨c6, h01.resolve_left c7⟩)) N9 (by rw [g9]; exact hN.mi (by decide))
      · refine no ?_ N14 (hN.tr g14.1)
        rw [c4]
        rintro (q | q | q | q)
        · exact absurd q.1 (by decide)
        · exact absurd q.1 (by decide)
        · exact absurd q.1 (by decide)
        · exact c6 (by rw [e14]; exact q.2.2.2)
      · refine yes (Or.inr (Or.inr (Or.inr ?_))) N14 (hN.tr g14.1)
        rw [c4]
        exact ⟨by decide, by decide, by decide, by rw [← e14]; exact c6⟩
      · have e3 := hv2 c4 c5
        exact yes (Or.inl ⟨e3, cb⟩) N hN
      · have e1 := hv01 c5 c6
        refine no ?_ N9 (by rw [g9]; exact hN.mi (by decide))
        rw [e1]
        rw [e9] at c7
        rintro (q | q | q | q)
        · exact absurd q.1 (by decide)
        · exact absurd q.1 (by decide)
        · exact (gneg _ hgi).mp c7 q.2.2
        · exact q.2.2.1 rfl
      · have e1 := hv01 c5 c6
        rw [e9] at c7
        exact yes (Or.inr (Or.inr (Or.inl ⟨e1, cb, Classical.not_not.mp fun q => c7 ((gneg _ hgi).mpr q)⟩))) N9 (by rw [g9]; exact hN.mi (by decide))
      · rw [g9, m_i_at] at c7
        refine no ?_ N9 (by rw [g9]; exact hN.mi (by decide))
        rw [c6]
        rintro (q | q | q | q)
        · exact absurd q.1 (by decide)
        · rw [c7] at q; exact absurd q.2 (by decide)
        · exact absurd q.1 (by decide)
        · exact q.2.1 rfl
      · rw [g9, m_i_at] at c7
        exact yes (Or.inr (Or.inl ⟨c6, h01.resolve_left c7⟩)) N9 (by rw [g9]; exact hN.mi (by decide))
      · refine no ?_ N14 (hN.tr g14.1)
        rw [c4]
        rintro (q | q | q | q)
        · exact absurd q.1 (by decide)
        · exact absurd q.1 (by decide)
        · exact absurd q.1 (by decide)
        · exact c6 (by rw [e14]; exact q.2.2.2)
      · refine yes (Or.inr (Or.inr (Or.inr ?_))) N14 (hN.tr g14.1)
        rw [c4]
        exact ⟨by decide, by decide, by decide, by rw [← e14]; exact c6⟩
  · rw [sel_t c, sel_f c2] at h; exact h _ Zcr.rf

