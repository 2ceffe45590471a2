/-! ===== 34.model4 ===== -/
/-! ===== the model's governing and gifts ===== -/
theorem obst_gift {W : WT} {l p : Nat} {d g : Int32} (h : w_obst W l p d g = 0 ∨ w_obst W l p d g = 5) : ¬ c_gift W (10 + 5 * l) (W p 3) = -6 := by
  intro q
  unfold w_obst at h
  rw [sel_t q] at h
  unfold sel at h
  repeat' split at h
  all_goals (rcases h with h | h <;> exact absurd h (by decide))
theorem obst_late {W : WT} {l p : Nat} {d g : Int32} (hd : d < W p 0) : ¬ w_obst W l p d g = 0 := by
  intro h
  unfold w_obst at h
  rw [sel_t hd] at h
  unfold sel at h
  repeat' split at h
  all_goals exact absurd h (by decide)
theorem obst_05 {W : WT} {l p : Nat} {g : Int32} : (w_obst W l p (W p 0) g = 0 ∨ w_obst W l p (W p 0) g = 5) ↔ (inF W l (W p 0) ∧ bitO g (nI l) ∧ ¬ c_gift W (10 + 5 * l) (W p 3) = -6) := by
  unfold w_obst
  by_cases c1 : inF W l (W p 0)
  · rw [sel_f (fun q => q c1)]
    by_cases c2 : bitO g (nI l)
    · rw [sel_f (fun q => q c2), sel_f Int32.lt_irrefl]
      by_cases c3 : c_gift W (10 + 5 * l) (W p 3) = -6
      · rw [sel_t c3]
        exact ⟨fun q => by rcases q with q | q <;> exact absurd q (by decide), fun q => absurd c3 q.2.2⟩
      · rw [sel_f c3]
        refine ⟨fun _ => ⟨c1, c2, c3⟩, fun _ => ?_⟩
        by_cases c4 : c_reach W (10 + 5 * l) p
        · rw [sel_t c4]; exact Or.inl rfl
        · rw [sel_f c4]; exact Or.inr rfl
    · rw [sel_t c2]
      exact ⟨fun q => by rcases q with q | q <;> exact absurd q (by decide), fun q => absurd q.2.1 c2⟩
  · rw [sel_t c1]
    exact ⟨fun q => by rcases q with q | q <;> exact absurd q (by decide), fun q => absurd q.1 c1⟩
theorem z_ch_some {W : WT} {p : Nat} {set : Int32} : ∀ n, n < 2 ^ 31 → (∃ l, l < n ∧ bP set l) → ¬ (z_ch W p set n).1 = -6
  | 0, _, h => by obtain ⟨l, hl, -⟩ := h; omega
  | n + 1, hn, h => by
    unfold z_ch
    by_cases c : bP set n
    · rw [sel_f (fun q => q c)]
      show ¬ sel _ _ _ = -6
      by_cases c2 : 0 < z_more W p n (z_ch W p set n).1
      · rw [sel_t c2]; exact nI_n6 (by omega)
      · rw [sel_f c2]
        intro q
        unfold z_more at c2
        rw [if_pos q] at c2
        exact c2 (by decide)
    · rw [sel_t c]
      obtain ⟨l, hl, q⟩ := h
      refine z_ch_some n (by omega) ⟨l, ?_, q⟩
      by_cases e : l = n
      · rw [e] at q; exact absurd q c
      · omega
theorem RG.fit {W : WT} {M : Mem} (hR : RG W M) {v2 : Int32} (hP : PR W M v2) {l : Nat} (hl : l < w_n W) : z_fit W (nI l) v2 = -6 ↔ c_gift W (10 + 5 * l) (W (zp v2) 3) = -6 := by
  have h8 := hR.n.2.2
  have := c_gift_fit hR (hR.li hl) hP
  unfold plw at this
  rw [ix_nI (show l < 2 ^ 31 by omega)] at this
  rcases this with ⟨a, b⟩ | ⟨j, g, hg, hj, a, b, -⟩
  · exact ⟨fun _ => b, fun _ => a⟩
  · exact ⟨fun q => absurd (a.symm.trans q) (nI_n6 (by omega)), fun q => absurd (b.symm.trans q) (nI_n6 (by omega))⟩

/-! BetweenLawsModel.governing(II)I -/
abbrev rm_X11_governing : Room := { frames := 4, cells := 0, slots := 0, locals := 96 }
abbrev B_X11_governing (G : GT) (K : Int32 → Mem → Prop) := BT G (Rep G) RX11 "governing" cX11_governing 7 (some .int) rm_X11_governing K 0 0
abbrev T_X11_governing (G : GT) (as : List Value) (M : Mem) (K : Int32 → Mem → Prop) : Prop := MT G (Rep G) yX11_governing cX11_governing 7 (some .int) rm_X11_governing as M K
theorem e_X11_governing {G : GT} {K : Int32 → Mem → Prop} {M : Mem} {v1 : Int32} {v2 : Int32} (h : B_X11_governing G K 0 [(0, .ref 175), (1, .int v1), (2, .int v2)] [] M) : T_X11_governing G [.ref 175, .int v1, .int v2] M K := MT.of (by decide +kernel) rfl rfl (Nat.le_of_ble_eq_true rfl) rfl h
set_option maxRecDepth 4000 in
theorem k_X11_governing_0 {G : GT} {K : Int32 → Mem → Prop} {M : Mem} {W : WT} {v1 : Int32} {v2 : Int32} (h : (RG W M) ∧ (∀ r1 : Int32, r1 = (w_undone W v2) → B_X11_governing G K 12 [(0, .ref 175), (1, .int v1), (2, .int v2), (3, .int r1), (4, .int 0), (5, .int 0)] [] M)) : B_X11_governing G K 0 [(0, .ref 175), (1, .int v1), (2, .int v2)] [] M := by
  refine BT.aload_n dX11_governing_0 rfl 0 rfl ?_
  refine BT.iload_n dX11_governing_1 rfl 2 rfl ?_
  refine BT.mcVr [.int v2] (t_X11_undoneOf h.1 ⟨rfl, rfl⟩) mb_X11_undoneOf mv_X11_undoneOf lk_X11_181 rfl (by decide) rfl (recvRep ho_175 rfl) (Nat.le_of_ble_eq_true rfl) dX11_governing_2 (fun r1 e1 => ?_)
  show B_X11_governing G K 5 [(0, .ref 175), (1, .int v1), (2, .int v2)] [.int r1] M
  refine BT.istore_n (L' := [(3, .int r1), (0, .ref 175), (1, .int v1), (2, .int v2)]) dX11_governing_5 rfl (by decide) rfl ?_
  refine BT.iconst (v := 0) dX11_governing_6 (by decide) ?_
  refine BT.istore (L' := [(4, .int 0), (3, .int r1), (0, .ref 175), (1, .int v1), (2, .int v2)]) dX11_governing_7 (by decide) rfl ?_
  refine BT.iconst (v := 0) dX11_governing_9 (by decide) ?_
  refine BT.istore (L' := [(5, .int 0), (4, .int 0), (3, .int r1), (0, .ref 175), (1, .int v1), (2, .int v2)]) dX11_governing_10 (by decide) rfl ?_
  refine BT.sub [3, 4, 5, 2, 1, 0] rfl ?_
  exact (h.2 r1 e1)
set_option maxRecDepth 4000 in
theorem k_X11_governing_12 {G : GT} {K : Int32 → Mem → Prop} {M : Mem} {W : WT} {v1 : Int32} {v2 : Int32} {v3 : Int32} {v4 : Int32} {v5 : Int32} (h : ((M.1 175 18) ≤ v5 → (¬ v4 = 0 → (RG W M) ∧ (PR W M v1) ∧ (∀ l, l < w_n W → bP v4 l → ¬ z_fit W (nI l) v1 = -6) ∧ (∀ r5 : Int32, r5 = (z_ch W (zp v1) v4 (w_n W)).1 → ∀ N5 : Mem, N5 = (m_i M 175 30 (z_ch W (zp v1) v4 (w_n W)).2) → K r5 N5)) ∧ (v4 = 0 → (¬ (M.1 175 28) = 1 → (RG W M) ∧ (PR W M v1) ∧ (∀ l, l < w_n W → bP v4 l → ¬ z_fit W (nI l) v1 = -6) ∧ (∀ r8 : Int32, r8 = (z_ch W (zp v1) v4 (w_n W)).1 → ∀ N8 : Mem, N8 = (m_i M 175 30 (z_ch W (zp v1) v4 (w_n W)).2) → K r8 N8)) ∧ ((M.1 175 28) = 1 → (vp_in v1 9) ∧ (v2 < (M.1 189 (Int32.toNatClampNeg v1)) → (RG W M) ∧ (PR W M v1) ∧ (∀ l, l < w_n W → bP v4 l → ¬ z_fit W (nI l) v1 = -6) ∧ (∀ r11 : Int32, r11 = (z_ch W (zp v1) v4 (w_n W)).1 → ∀ N11 : Mem, N11 = (m_i M 175 30 (z_ch W (zp v1) v4 (w_n W)).2) → K r11 N11)) ∧ (¬ v2 < (M.1 189 (Int32.toNatClampNeg v1)) → B_X11_governing G K 78 [(0, .ref 175), (1, .int v1), (3, .int v3), (4, .int v4), (5, .int 0)] [] M)))) ∧ (¬ (M.1 175 18) ≤ v5 → (RG W M) ∧ ((0 : Int32) ≤ v5 ∧ v5 < W 8 1) ∧ (PR W M v1) ∧ (∀ r12 : Int32, r12 = (w_obst W (Int32.toNatClampNeg v5) (zp v1) v2 v3) → (¬ r12 = 0 → B_X11_governing G K 12 [(0, .ref 175), (1, .int v1), (2, .int v2), (3, .int v3), (4, .int (v4 ||| 0)), (5, .int (v5 + 1))] [] M) ∧ (r12 = 0 → B_X11_governing G K 12 [(0, .ref 175), (1, .int v1), (2, .int v2), (3, .int v3), (4, .int (v4 ||| ((1 : Int32) <<< (v5 &&& 31)))), (5, .int (v5 + 1))] [] M)))) : B_X11_governing G K 12 [(0, .ref 175), (1, .int v1), (2, .int v2), (3, .int v3), (4, .int v4), (5, .int v5)] [] M := by
  refine BT.iload dX11_governing_12 5 rfl ?_
  refine BT.aload_n dX11_governing_14 rfl 0 rfl ?_
  refine BT.getI fl_X11_149 ho_175 rfl dX11_governing_15 ?_
  refine BT.icmp_ge (tgt := 52) dX11_governing_18 (by decide) (fun c => ?_) (fun c => ?_)
  · have c1 := c
    refine BT.iload dX11_governing_52 4 rfl ?_
    refine BT.if_ne (tgt := 152) dX11_governing_54 (by decide) (fun c => ?_) (fun c => ?_)
    · have c3 := c
      refine BT.aload_n dX11_governing_152 rfl 0 rfl ?_
      refine BT.iload dX11_governing_153 4 rfl ?_
      refine BT.iload_n dX11_governing_155 rfl 1 rfl ?_
      refine BT.mcVn [.int v4, .int v1] (t_X11_chosen ((h.1 c1).1 c3).1 ((h.1 c1).1 c3).2.1 ((h.1 c1).1 c3).2.2.1 ⟨rfl, rfl⟩) mb_X11_chosen mv_X11_chosen lk_X11_234 rfl (by decide) rfl (recvRep ho_175 rfl) (Nat.le_of_ble_eq_true rfl) dX11_governing_156 (fun r5 e5 N5 g5 => ?_)
      show B_X11_governing G K 159 [(0, .ref 175), (1, .int v1), (2, .int v2), (3, .int v3), (4, .int v4), (5, .int v5)] [.int r5] N5
      exact BT.iret dX11_governing_159 rfl (by decide) (by decide) (((h.1 c1).1 c3).2.2.2 r5 e5 N5 g5)
    · have c4 := c
      refine BT.aload_n dX11_governing_57 rfl 0 rfl ?_
      refine BT.getI fl_X11_204 ho_175 rfl dX11_governing_58 ?_
      refine BT.iconst (v := 1) dX11_governing_61 (by decide) ?_
      refine BT.icmp_ne (tgt := 152) dX11_governing_62 (by decide) (fun c => ?_) (fun c => ?_)
      · have c6 := c
        refine BT.aload_n dX11_governing_152 rfl 0 rfl ?_
        refine BT.iload dX11_governing_153 4 rfl ?_
        refine BT.iload_n dX11_governing_155 rfl 1 rfl ?_
        refine BT.mcVn [.int v4, .int v1] (t_X11_chosen (((h.1 c1).2 c4).1 c6).1 (((h.1 c1).2 c4).1 c6).2.1 (((h.1 c1).2 c4).1 c6).2.2.1 ⟨rfl, rfl⟩) mb_X11_chosen mv_X11_chosen lk_X11_234 rfl (by decide) rfl (recvRep ho_175 rfl) (Nat.le_of_ble_eq_true rfl) dX11_governing_156 (fun r8 e8 N8 g8 => ?_)
        show B_X11_governing G K 159 [(0, .ref 175), (1, .int v1), (2, .int v2), (3, .int v3), (4, .int v4), (5, .int v5)] [.int r8] N8
        exact BT.iret dX11_governing_159 rfl (by decide) (by decide) ((((h.1 c1).2 c4).1 c6).2.2.2 r8 e8 N8 g8)
      · have c7 := c
        refine BT.aload_n dX11_governing_65 rfl 0 rfl ?_
        refine BT.getR (r := 189) fl_X11_53 ho_175 rfl dX11_governing_66 ?_
        refine BT.iload_n dX11_governing_69 rfl 1 rfl ?_
        refine BT.iald ha_189 (((h.1 c1).2 c4).2 c7).1 dX11_governing_70 ?_
        refine BT.iload_n dX11_governing_71 rfl 2 rfl ?_
        refine BT.icmp_gt (tgt := 152) dX11_governing_72 (by decide) (fun c => ?_) (fun c => ?_)
        · have c9 := c
          refine BT.aload_n dX11_governing_152 rfl 0 rfl ?_
          refine BT.iload dX11_governing_153 4 rfl ?_
          refine BT.iload_n dX11_governing_155 rfl 1 rfl ?_
          refine BT.mcVn [.int v4, .int v1] (t_X11_chosen ((((h.1 c1).2 c4).2 c7).2.1 c9).1 ((((h.1 c1).2 c4).2 c7).2.1 c9).2.1 ((((h.1 c1).2 c4).2 c7).2.1 c9).2.2.1 ⟨rfl, rfl⟩) mb_X11_chosen mv_X11_chosen lk_X11_234 rfl (by decide) rfl (recvRep ho_175 rfl) (Nat.le_of_ble_eq_true rfl) dX11_governing_156 (fun r11 e11 N11 g11 => ?_)
          show B_X11_governing G K 159 [(0, .ref 175), (1, .int v1), (2, .int v2), (3, .int v3), (4, .int v4), (5, .int v5)] [.int r11] N11
          exact BT.iret dX11_governing_159 rfl (by decide) (by decide) (((((h.1 c1).2 c4).2 c7).2.1 c9).2.2.2 r11 e11 N11 g11)
        · have c10 := c
          refine BT.iconst (v := 0) dX11_governing_75 (by decide) ?_
          refine BT.istore (L' := [(5, .int 0), (0, .ref 175), (1, .int v1), (2, .int v2), (3, .int v3), (4, .int v4)]) dX11_governing_76 (by decide) rfl ?_
          refine BT.sub [1, 2, 4, 5, 0] rfl ?_
          exact ((((h.1 c1).2 c4).2 c7).2.2 c10)
  · have c2 := c
    refine BT.iload dX11_governing_21 4 rfl ?_
    refine BT.aload_n dX11_governing_23 rfl 0 rfl ?_
    refine BT.iload dX11_governing_24 5 rfl ?_
    refine BT.iload_n dX11_governing_26 rfl 1 rfl ?_
    refine BT.iload_n dX11_governing_27 rfl 2 rfl ?_
    refine BT.iload_n dX11_governing_28 rfl 3 rfl ?_
    refine BT.mcVr [.int v5, .int v1, .int v2, .int v3] (t_X11_lackOf (h.2 c2).1 (h.2 c2).2.1 (h.2 c2).2.2.1 ⟨rfl, rfl⟩) mb_X11_lackOf mv_X11_lackOf lk_X11_230 rfl (by decide) rfl (recvRep ho_175 rfl) (Nat.le_of_ble_eq_true rfl) dX11_governing_29 (fun r12 e12 => ?_)
    show B_X11_governing G K 32 [(0, .ref 175), (1, .int v1), (2, .int v2), (3, .int v3), (4, .int v4), (5, .int v5)] [.int r12, .int v4] M
    refine BT.if_ne (tgt := 42) dX11_governing_32 (by decide) (fun c => ?_) (fun c => ?_)
    · have c13 := c
      refine BT.iconst (v := 0) dX11_governing_42 (by decide) ?_
      refine BT.ior dX11_governing_43 ?_
      refine BT.istore (L' := [(4, .int (v4 ||| 0)), (0, .ref 175), (1, .int v1), (2, .int v2), (3, .int v3), (5, .int v5)]) dX11_governing_44 (by decide) rfl ?_
      refine BT.iinc (j := 5) (v := (v5 + 1)) (L' := [(5, .int (v5 + 1)), (4, .int (v4 ||| 0)), (0, .ref 175), (1, .int v1), (2, .int v2), (3, .int v3)]) dX11_governing_46 rfl rfl (by decide) rfl ?_
      refine BT.goto (tgt := 12) dX11_governing_49 (by decide) ?_
      refine BT.sub [2, 3, 4, 5, 1, 0] rfl ?_
      exact (((h.2 c2).2.2.2 r12 e12).1 c13)
    · have c14 := c
      refine BT.iconst (v := 1) dX11_governing_35 (by decide) ?_
      refine BT.iload dX11_governing_36 5 rfl ?_
      refine BT.ishl dX11_governing_38 ?_
      refine BT.goto (tgt := 43) dX11_governing_39 (by decide) ?_
      refine BT.ior dX11_governing_43 ?_
      refine BT.istore (L' := [(4, .int (v4 ||| ((1 : Int32) <<< (v5 &&& 31)))), (0, .ref 175), (1, .int v1), (2, .int v2), (3, .int v3), (5, .int v5)]) dX11_governing_44 (by decide) rfl ?_
      refine BT.iinc (j := 5) (v := (v5 + 1)) (L' := [(5, .int (v5 + 1)), (4, .int (v4 ||| ((1 : Int32) <<< (v5 &&& 31)))), (0, .ref 175), (1, .int v1), (2, .int v2), (3, .int v3)]) dX11_governing_46 rfl rfl (by decide) rfl ?_
      refine BT.goto (tgt := 12) dX11_governing_49 (by decide) ?_
      refine BT.sub [2, 3, 4, 5, 1, 0] rfl ?_
      exact (((h.2 c2).2.2.2 r12 e12).2 c14)
set_option maxRecDepth 4000 in
theorem k_X11_governing_78 {G : GT} {K : Int32 → Mem → Prop} {M : Mem} {W : WT} {v1 : Int32} {v3 : Int32} {v4 : Int32} {v5 : Int32} (h : ((M.1 175 18) ≤ v5 → (RG W M) ∧ (PR W M v1) ∧ (∀ l, l < w_n W → bP v4 l → ¬ z_fit W (nI l) v1 = -6) ∧ (∀ r3 : Int32, r3 = (z_ch W (zp v1) v4 (w_n W)).1 → ∀ N3 : Mem, N3 = (m_i M 175 30 (z_ch W (zp v1) v4 (w_n W)).2) → K r3 N3)) ∧ (¬ (M.1 175 18) ≤ v5 → (vp_in v1 9) ∧ (RG W M) ∧ ((0 : Int32) ≤ v5 ∧ v5 < W 8 1) ∧ (¬ (inF W (Int32.toNatClampNeg v5) (M.1 189 (Int32.toNatClampNeg v1))) → B_X11_governing G K 78 [(0, .ref 175), (1, .int v1), (3, .int v3), (4, .int (v4 ||| 0)), (5, .int (v5 + 1))] [] M) ∧ ((inF W (Int32.toNatClampNeg v5) (M.1 189 (Int32.toNatClampNeg v1))) → (¬ ((v3 >>> (v5 &&& 31)) &&& 1) = 0 → B_X11_governing G K 78 [(0, .ref 175), (1, .int v1), (3, .int v3), (4, .int (v4 ||| 0)), (5, .int (v5 + 1))] [] M) ∧ (((v3 >>> (v5 &&& 31)) &&& 1) = 0 → (RG W M) ∧ ((0 : Int32) ≤ v5 ∧ v5 < W 8 1) ∧ (PR W M v1) ∧ (∀ r9 : Int32, r9 = (z_fit W v5 v1) → (r9 < 0 → B_X11_governing G K 78 [(0, .ref 175), (1, .int v1), (3, .int v3), (4, .int (v4 ||| 0)), (5, .int (v5 + 1))] [] M) ∧ (¬ r9 < 0 → B_X11_governing G K 78 [(0, .ref 175), (1, .int v1), (3, .int v3), (4, .int (v4 ||| ((1 : Int32) <<< (v5 &&& 31)))), (5, .int (v5 + 1))] [] M)))))) : B_X11_governing G K 78 [(0, .ref 175), (1, .int v1), (3, .int v3), (4, .int v4), (5, .int v5)] [] M := by
  refine BT.iload dX11_governing_78 4 rfl ?_
  refine BT.aload_n dX11_governing_80 rfl 0 rfl ?_
  refine BT.getI fl_X11_149 ho_175 rfl dX11_governing_81 ?_
  refine BT.icmp_ge (tgt := 152) dX11_governing_84 (by decide) (fun c => ?_) (fun c => ?_)
  · have c1 := c
    refine BT.aload_n dX11_governing_152 rfl 0 rfl ?_
    refine BT.iload dX11_governing_153 3 rfl ?_
    refine BT.iload_n dX11_governing_155 rfl 1 rfl ?_
    refine BT.mcVn [.int v4, .int v1] (t_X11_chosen (h.1 c1).1 (h.1 c1).2.1 (h.1 c1).2.2.1 ⟨rfl, rfl⟩) mb_X11_chosen mv_X11_chosen lk_X11_234 rfl (by decide) rfl (recvRep ho_175 rfl) (Nat.le_of_ble_eq_true rfl) dX11_governing_156 (fun r3 e3 N3 g3 => ?_)
    show B_X11_governing G K 159 [(0, .ref 175), (1, .int v1), (3, .int v3), (4, .int v4), (5, .int v5)] [.int r3] N3
    exact BT.iret dX11_governing_159 rfl (by decide) (by decide) ((h.1 c1).2.2.2 r3 e3 N3 g3)
  · have c2 := c
    refine BT.aload_n dX11_governing_87 rfl 0 rfl ?_
    refine BT.iload dX11_governing_88 4 rfl ?_
    refine BT.aload_n dX11_governing_90 rfl 0 rfl ?_
    refine BT.getR (r := 189) fl_X11_53 ho_175 rfl dX11_governing_91 ?_
    refine BT.iload_n dX11_governing_94 rfl 1 rfl ?_
    refine BT.iald ha_189 (h.2 c2).1 dX11_governing_95 ?_
    refine BT.mcV [.int v5, .int (M.1 189 (Int32.toNatClampNeg v1))] (t_X11_isInForce (h.2 c2).2.1 (h.2 c2).2.2.1 ?_) mb_X11_isInForce mv_X11_isInForce lk_X11_172 rfl (by decide) rfl (recvRep ho_175 rfl) (Nat.le_of_ble_eq_true rfl) dX11_governing_96
    show B_X11_governing G K 99 [(0, .ref 175), (1, .int v1), (3, .int v3), (4, .int v4), (5, .int v5)] [.int (bi (inF W (Int32.toNatClampNeg v5) (M.1 189 (Int32.toNatClampNeg v1))))] M
    refine BT.if_eq (tgt := 125) dX11_governing_99 (by decide) (fun c => ?_) (fun c => ?_)
    · have c5 := bi_eq0.mp c
      refine BT.iconst (v := 0) dX11_governing_125 (by decide) ?_
      refine BT.istore (L' := [(6, .int 0), (0, .ref 175), (1, .int v1), (3, .int v3), (4, .int v4), (5, .int v5)]) dX11_governing_126 (by decide) rfl ?_
      refine BT.iload dX11_governing_128 4 rfl ?_
      refine BT.iload dX11_governing_130 0 rfl ?_
      refine BT.if_eq (tgt := 142) dX11_governing_132 (by decide) (fun _ => ?_) (fun c => absurd c (by decide))
      refine BT.iconst (v := 0) dX11_governing_142 (by decide) ?_
      refine BT.ior dX11_governing_143 ?_
      refine BT.istore (L' := [(4, .int (v4 ||| 0)), (6, .int 0), (0, .ref 175), (1, .int v1), (3, .int v3), (5, .int v5)]) dX11_governing_144 (by decide) rfl ?_
      refine BT.iinc (j := 5) (v := (v5 + 1)) (L' := [(5, .int (v5 + 1)), (4, .int (v4 ||| 0)), (6, .int 0), (0, .ref 175), (1, .int v1), (3, .int v3)]) dX11_governing_146 rfl rfl (by decide) rfl ?_
      refine BT.goto (tgt := 78) dX11_governing_149 (by decide) ?_
      refine BT.sub [3, 4, 5, 1, 0] rfl ?_
      exact ((h.2 c2).2.2.2.1 c5)
    · have c6 := bi_ne0.mp c
      refine BT.iload_n dX11_governing_102 rfl 2 rfl ?_
      refine BT.iload dX11_governing_103 4 rfl ?_
      refine BT.ishr dX11_governing_105 ?_
      refine BT.iconst (v := 1) dX11_governing_106 (by decide) ?_
      refine BT.iand dX11_governing_107 ?_
      refine BT.if_ne (tgt := 125) dX11_governing_108 (by decide) (fun c => ?_) (fun c => ?_)
      · have c7 := c
        refine BT.iconst (v := 0) dX11_governing_125 (by decide) ?_
        refine BT.istore (L' := [(6, .int 0), (0, .ref 175), (1, .int v1), (3, .int v3), (4, .int v4), (5, .int v5)]) dX11_governing_126 (by decide) rfl ?_
        refine BT.iload dX11_governing_128 4 rfl ?_
        refine BT.iload dX11_governing_130 0 rfl ?_
        refine BT.if_eq (tgt := 142) dX11_governing_132 (by decide) (fun _ => ?_) (fun c => absurd c (by decide))
        refine BT.iconst (v := 0) dX11_governing_142 (by decide) ?_
        refine BT.ior dX11_governing_143 ?_
        refine BT.istore (L' := [(4, .int (v4 ||| 0)), (6, .int 0), (0, .ref 175), (1, .int v1), (3, .int v3), (5, .int v5)]) dX11_governing_144 (by decide) rfl ?_
        refine BT.iinc (j := 5) (v := (v5 + 1)) (L' := [(5, .int (v5 + 1)), (4, .int (v4 ||| 0)), (6, .int 0), (0, .ref 175), (1, .int v1), (3, .int v3)]) dX11_governing_146 rfl rfl (by decide) rfl ?_
        refine BT.goto (tgt := 78) dX11_governing_149 (by decide) ?_
        refine BT.sub [3, 4, 5, 1, 0] rfl ?_
        exact (((h.2 c2).2.2.2.2 c6).1 c7)
      · have c8 := c
        refine BT.aload_n dX11_governing_111 rfl 0 rfl ?_
        refine BT.iload dX11_governing_112 4 rfl ?_
        refine BT.iload_n dX11_governing_114 rfl 1 rfl ?_
        refine BT.mcVr [.int v5, .int v1] (t_X11_fitting (((h.2 c2).2.2.2.2 c6).2 c8).1 (((h.2 c2).2.2.2.2 c6).2 c8).2.1 (((h.2 c2).2.2.2.2 c6).2 c8).2.2.1 ⟨rfl, rfl⟩) mb_X11_fitting mv_X11_fitting lk_X11_210 rfl (by decide) rfl (recvRep ho_175 rfl) (Nat.le_of_ble_eq_true rfl) dX11_governing_115 (fun r9 e9 => ?_)
        show B_X11_governing G K 118 [(0, .ref 175), (1, .int v1), (3, .int v3), (4, .int v4), (5, .int v5)] [.int r9] M
        refine BT.if_lt (tgt := 125) dX11_governing_118 (by decide) (fun c => ?_) (fun c => ?_)
        · have c10 := c
          refine BT.iconst (v := 0) dX11_governing_125 (by decide) ?_
          refine BT.istore (L' := [(6, .int 0), (0, .ref 175), (1, .int v1), (3, .int v3), (4, .int v4), (5, .int v5)]) dX11_governing_126 (by decide) rfl ?_
          refine BT.iload dX11_governing_128 4 rfl ?_
          refine BT.iload dX11_governing_130 0 rfl ?_
          refine BT.if_eq (tgt := 142) dX11_governing_132 (by decide) (fun _ => ?_) (fun c => absurd c (by decide))
          refine BT.iconst (v := 0) dX11_governing_142 (by decide) ?_
          refine BT.ior dX11_governing_143 ?_
          refine BT.istore (L' := [(4, .int (v4 ||| 0)), (6, .int 0), (0, .ref 175), (1, .int v1), (3, .int v3), (5, .int v5)]) dX11_governing_144 (by decide) rfl ?_
          refine BT.iinc (j := 5) (v := (v5 + 1)) (L' := [(5, .int (v5 + 1)), (4, .int (v4 ||| 0)), (6, .int 0), (0, .ref 175), (1, .int v1), (3, .int v3)]) dX11_governing_146 rfl rfl (by decide) rfl ?_
          refine BT.goto (tgt := 78) dX11_governing_149 (by decide) ?_
          refine BT.sub [3, 4, 5, 1, 0] rfl ?_
          exact (((((h.2 c2).2.2.2.2 c6).2 c8).2.2.2 r9 e9).1 c10)
        · have c11 := c
          refine BT.iconst (v := 1) dX11_governing_121 (by decide) ?_
          refine BT.goto (tgt := 126) dX11_governing_122 (by decide) ?_
          refine BT.istore (L' := [(6, .int 1), (0, .ref 175), (1, .int v1), (3, .int v3), (4, .int v4), (5, .int v5)]) dX11_governing_126 (by decide) rfl ?_
          refine BT.iload dX11_governing_128 4 rfl ?_
          refine BT.iload dX11_governing_130 0 rfl ?_
          refine BT.if_eq (tgt := 142) dX11_governing_132 (by decide) (fun c => absurd c (by decide)) (fun _ => ?_)
          refine BT.iconst (v := 1) dX11_governing_135 (by decide) ?_
          refine BT.iload dX11_governing_136 5 rfl ?_
          refine BT.ishl dX11_governing_138 ?_
          refine BT.goto (tgt := 143) dX11_governing_139 (by decide) ?_
          refine BT.ior dX11_governing_143 ?_
          refine BT.istore (L' := [(4, .int (v4 ||| ((1 : Int32) <<< (v5 &&& 31)))), (6, .int 1), (0, .ref 175), (1, .int v1), (3, .int v3), (5, .int v5)]) dX11_governing_144 (by decide) rfl ?_
          refine BT.iinc (j := 5) (v := (v5 + 1)) (L' := [(5, .int (v5 + 1)), (4, .int (v4 ||| ((1 : Int32) <<< (v5 &&& 31)))), (6, .int 1), (0, .ref 175), (1, .int v1), (3, .int v3)]) dX11_governing_146 rfl rfl (by decide) rfl ?_
          refine BT.goto (tgt := 78) dX11_governing_149 (by decide) ?_
          refine BT.sub [3, 4, 5, 1, 0] rfl ?_
          exact (((((h.2 c2).2.2.2.2 c6).2 c8).2.2.2 r9 e9).2 c11)

theorem t_X11_governing {G : GT} {K : Int32 → Mem → Prop} {M : Mem} {W : WT} {v1 v2 : Int32} (hR : RG W M) (hP : PR W M v1) (h : K (w_gov W (zp v1) v2) (m_i M 175 30 (w_gov2 W (zp v1) v2).2)) : T_X11_governing G [.ref 175, .int v1, .int v2] M K := by
  obtain ⟨h1, h2, h8⟩ := hR.n
  obtain ⟨p0, p1, ⟨q1, q2, q3, q4⟩, e0, e1, e2, e3⟩ := hP.at
  have vp : vp_in v1 9 := by rw [p1]; exact vp_nI p0 (by decide)
  have fin : ∀ S : Int32, z_ch W (zp v1) S (w_n W) = w_gov2 W (zp v1) v2 → (∀ l, l < w_n W → bP S l → ¬ c_gift W (10 + 5 * l) (W (zp v1) 3) = -6) → (RG W M) ∧ (PR W M v1) ∧ (∀ l, l < w_n W → bP S l → ¬ z_fit W (nI l) v1 = -6) ∧ (∀ r5 : Int32, r5 = (z_ch W (zp v1) S (w_n W)).1 → ∀ N5 : Mem, N5 = (m_i M 175 30 (z_ch W (zp v1) S (w_n W)).2) → K r5 N5) := by
    intro S hz hf
    refine ⟨hR, hP, fun l hl hb q => hf l hl hb ((hR.fit hP hl).mp q), fun r er N eN => ?_⟩
    rw [er, eN, hz]
    exact h
  refine e_X11_governing (k_X11_governing_0 (W := W) ⟨hR, fun r1 er1 => ?_⟩)
  have z0 : ∀ {Q : Nat → Prop}, (0 : Int32) = zset Q 0 := rfl
  have bits : ∀ {Q : Nat → Prop} {l : Nat}, l < w_n W → (bP (zset Q (w_n W)) l ↔ Q l) := fun hl => (bP_zset (by omega) _ (by omega)).trans ⟨fun q => q.2, fun q => ⟨hl, q⟩⟩
  have bits0 : ∀ {Q : Nat → Prop}, zset Q (w_n W) = 0 ↔ ∀ l, l < w_n W → ¬ Q l := by
    intro Q
    rw [bP_eq0]
    constructor
    · intro z l hl q; exact z l (by omega) ((bits hl).mpr q)
    · intro z l hl q
      have := (bP_zset hl _ (by omega)).mp q
      exact z l this.1 this.2
  refine up_loop (P := fun j => B_X11_governing G K 12 [(0, .ref 175), (1, .int v1), (2, .int v2), (3, .int r1), (4, .int (zset (fun l => w_obst W l (zp v1) v2 r1 = 0) j)), (5, .int (nI j))] [] M) (w_n W) ?_ (fun j hj ih => ?_) 0 (Nat.zero_le _)
  · refine k_X11_governing_12 (W := W) ⟨fun _ => ?_, fun c => absurd (by rw [h1]; exact Int32.le_refl _) c⟩
    have gifts : ∀ l, l < w_n W → bP (zset (fun l => w_obst W l (zp v1) v2 r1 = 0) (w_n W)) l → ¬ c_gift W (10 + 5 * l) (W (zp v1) 3) = -6 := fun l hl q => obst_gift (Or.inl ((bits hl).mp q))
    have hch : z_ch W (zp v1) (zset (fun l => w_obst W l (zp v1) v2 r1 = 0) (w_n W)) (w_n W) = w_choose W (zp v1) v2 r1 0 0 (w_n W) := z_ch_choose _ (fun l hl => (bits hl).trans ⟨Or.inl, fun q => q.elim id id⟩)
    by_cases late : v2 < W (zp v1) 0
    · have hS : ∀ l, l < w_n W → ¬ bP (zset (fun l => w_obst W l (zp v1) v2 r1 = 0) (w_n W)) l := fun l hl q => obst_late late ((bits hl).mp q)
      have hz : z_ch W (zp v1) (zset (fun l => w_obst W l (zp v1) v2 r1 = 0) (w_n W)) (w_n W) = w_gov2 W (zp v1) v2 := by
        rw [z_ch_0 _ hS]; unfold w_gov2; rw [sel_t late]
      refine ⟨fun _ => fin _ hz gifts, fun _ => ⟨fun _ => fin _ hz gifts, fun _ => ⟨vp, fun _ => fin _ hz gifts, fun c => absurd (by rw [e0]; exact late) c⟩⟩⟩
    · refine ⟨fun c => fin _ ?_ gifts, fun c => ⟨fun c1 => fin _ ?_ gifts, fun c1 => ⟨vp, fun c2 => absurd (by rw [← e0]; exact c2) late, fun _ => ?_⟩⟩⟩
      · have : ∃ l, l < w_n W ∧ bP (zset (fun l => w_obst W l (zp v1) v2 r1 = 0) (w_n W)) l := by
          refine Classical.byContradiction fun hno => c (bits0.mpr fun l hl q => hno ⟨l, hl, (bits hl).mpr q⟩)
        have hs := z_ch_some (W := W) (p := zp v1) _ (by omega) this
        rw [hch] at hs
        unfold w_gov2
        rw [sel_f late, ← er1, sel_f (fun q => hs q.1), hch]
      · unfold w_gov2
        rw [sel_f late, ← er1, sel_f (fun q => c1 (by rw [hR.2.2.2.1]; exact q.2)), hch]
      · have hS := bits0.mp c
        have hfirst : w_choose W (zp v1) v2 r1 0 0 (w_n W) = (-6, 0) := by rw [← hch]; exact z_ch_0 _ (fun l hl q => hS l hl ((bits hl).mp q))
        rw [c]
        refine up_loop (P := fun j => B_X11_governing G K 78 [(0, .ref 175), (1, .int v1), (3, .int r1), (4, .int (zset (fun l => inF W l (W (zp v1) 0) ∧ bitO r1 (nI l) ∧ ¬ c_gift W (10 + 5 * l) (W (zp v1) 3) = -6) j)), (5, .int (nI j))] [] M) (w_n W) ?_ (fun j hj ih => ?_) 0 (Nat.zero_le _)
        · refine k_X11_governing_78 (W := W) ⟨fun _ => ?_, fun c => absurd (by rw [h1]; exact Int32.le_refl _) c⟩
          refine fin _ ?_ (fun l hl q => ((bits hl).mp q).2.2)
          unfold w_gov2
          rw [sel_f late, ← er1, hfirst, sel_t ⟨rfl, by rw [← hR.2.2.2.1]; exact c1⟩]
          exact z_ch_choose _ (fun l hl => (bits hl).trans obst_05.symm)
        · unfold zset at ih
          refine k_X11_governing_78 (W := W) ⟨fun c => ?_, fun _ => ⟨vp, hR, hR.li hj, fun c3 => ?_, fun c3 => ⟨fun c4 => ?_, fun c4 => ⟨hR, hR.li hj, hP, fun r9 e9 => ⟨fun c5 => ?_, fun c5 => ?_⟩⟩⟩⟩⟩
          · rw [h1, nI_leI (by omega) (by omega)] at c; omega
          · rw [e0, ix_nI (by omega)] at c3
            rw [sel_f (fun q => c3 q.1)] at ih
            rw [Int32.or_zero, nI_1]; exact ih
          · rw [sel_f (fun q => c4 q.2.1)] at ih
            rw [Int32.or_zero, nI_1]; exact ih
          · have hf := hR.fit hP hj
            have : z_fit W (nI j) v1 = -6 := by
              rcases w_ff_in W (plw (nI j)) (W (zp v1) 3) (Int32.toNatClampNeg (W (plw (nI j)) 2)) 0 with q | ⟨i, hi, q⟩
              · exact q
              · have q : z_fit W (nI j) v1 = nI i := q
                obtain ⟨-, -, ⟨k, ⟨hk1, hk6⟩, ek, -⟩, -⟩ := hR.1.2.2.2 j hj
                unfold plw at hi
                rw [ix_nI (show j < 2 ^ 31 by omega), ek, ix_nI (by omega)] at hi
                rw [e9, q] at c5
                exact absurd c5 (nI_ge0 (by omega))
            rw [sel_f (fun q => q.2.2 (hf.mp this))] at ih
            rw [Int32.or_zero, nI_1]; exact ih
          · have hf := hR.fit hP hj
            rw [e0, ix_nI (by omega)] at c3
            rw [sel_t ⟨c3, c4, fun q => c5 (by rw [e9, hf.mpr q]; decide)⟩] at ih
            rw [nI_1]; exact ih
  · unfold zset at ih
    refine k_X11_governing_12 (W := W) ⟨fun c => ?_, fun _ => ⟨hR, hR.li hj, hP, fun r12 e12 => ⟨fun c2 => ?_, fun c2 => ?_⟩⟩⟩
    · rw [h1, nI_leI (by omega) (by omega)] at c; omega
    · rw [e12, ix_nI (by omega)] at c2
      rw [sel_f c2] at ih
      rw [Int32.or_zero, nI_1]; exact ih
    · rw [e12, ix_nI (by omega)] at c2
      rw [sel_t c2] at ih
      rw [nI_1]; exact ih

/-! BetweenLawsModel.governs0(II)I -/
abbrev rm_X11_governs0 : Room := { frames := 5, cells := 0, slots := 0, locals := 122 }
abbrev B_X11_governs0 (G : GT) (K : Int32 → Mem → Prop) := BT G (Rep G) RX11 "governs0" cX11_governs0 3 (some .int) rm_X11_governs0 K 0 0
abbrev T_X11_governs0 (G : GT) (as : List Value) (M : Mem) (K : Int32 → Mem → Prop) : Prop := MT G (Rep G) yX11_governs0 cX11_governs0 3 (some .int) rm_X11_governs0 as M K
theorem e_X11_governs0 {G : GT} {K : Int32 → Mem → Prop} {M : Mem} {v1 : Int32} {v2 : Int32} (h : B_X11_governs0 G K 0 [(0, .ref 175), (1, .int v1), (2, .int v2)] [] M) : T_X11_governs0 G [.ref 175, .int v1, .int v2] M K := MT.of (by decide +kernel) rfl rfl (Nat.le_of_ble_eq_true rfl) rfl h
set_option maxRecDepth 4000 in
theorem k_X11_governs0_0 {G : GT} {K : Int32 → Mem → Prop} {M : Mem} {W : WT} {v1 : Int32} {v2 : Int32} (h : (PR W M v1) ∧ (∀ r1 : Int32, r1 = (c_dayOn W (zp v1) v2) → (RG W M) ∧ (PR W M v1) ∧ (∀ r2 : Int32, r2 = (w_gov W (zp v1) r1) → ∀ N2 : Mem, N2 = (m_i M 175 30 (w_gov2 W (zp v1) r1).2) → K r2 N2))) : B_X11_governs0 G K 0 [(0, .ref 175), (1, .int v1), (2, .int v2)] [] M := by
  refine BT.aload_n dX11_governs0_0 rfl 0 rfl ?_
  refine BT.iload_n dX11_governs0_1 rfl 1 rfl ?_
  refine BT.aload_n dX11_governs0_2 rfl 0 rfl ?_
  refine BT.iload_n dX11_governs0_3 rfl 1 rfl ?_
  refine BT.iload_n dX11_governs0_4 rfl 2 rfl ?_
  refine BT.mcVr [.int v1, .int v2] (t_X11_sameDay h.1 ⟨rfl, rfl⟩) mb_X11_sameDay mv_X11_sameDay lk_X11_237 rfl (by decide) rfl (recvRep ho_175 rfl) (Nat.le_of_ble_eq_true rfl) dX11_governs0_5 (fun r1 e1 => ?_)
  show B_X11_governs0 G K 8 [(0, .ref 175), (1, .int v1), (2, .int v2)] [.int r1, .int v1, .ref 175] M
  refine BT.mcVn [.int v1, .int r1] (t_X11_governing (h.2 r1 e1).1 (h.2 r1 e1).2.1 ⟨rfl, rfl⟩) mb_X11_governing mv_X11_governing lk_X11_240 rfl (by decide) rfl (recvRep ho_175 rfl) (Nat.le_of_ble_eq_true rfl) dX11_governs0_8 (fun r2 e2 N2 g2 => ?_)
  show B_X11_governs0 G K 11 [(0, .ref 175), (1, .int v1), (2, .int v2)] [.int r2] N2
  exact BT.iret dX11_governs0_11 rfl (by decide) (by decide) ((h.2 r1 e1).2.2 r2 e2 N2 g2)

theorem t_X11_governs0 {G : GT} {K : Int32 → Mem → Prop} {M : Mem} {W : WT} {v1 v2 : Int32} (hR : RG W M) (hP : PR W M v1) (h : K (w_gov W (zp v1) (c_dayOn W (zp v1) v2)) (m_i M 175 30 (w_gov2 W (zp v1) (c_dayOn W (zp v1) v2)).2)) : T_X11_governs0 G [.ref 175, .int v1, .int v2] M K := by
  refine e_X11_governs0 (k_X11_governs0_0 (W := W) ⟨hP, fun r1 e1 => ⟨hR, hP, fun r2 e2 N2 g2 => ?_⟩⟩)
  rw [e2, g2, e1]; exact h

/-- what the model's questions may change: its own notes -/
def Zcr (M N : Mem) : Prop := (∀ c, ¬ (c = 175 ∨ c = 194) → N.1 c = M.1 c) ∧ (∀ k, ¬ (k = 30 ∨ k = 32 ∨ k = 33 ∨ k = 34 ∨ k = 35) → N.1 175 k = M.1 175 k) ∧ N.2 = M.2
theorem Zcr.rf {M : Mem} : Zcr M M := ⟨fun _ _ => rfl, fun _ _ => rfl, rfl⟩
theorem Zcr.tr {M N P : Mem} (h : Zcr M N) (h2 : Zcr N P) : Zcr M P := ⟨fun c hc => (h2.1 c hc).trans (h.1 c hc), fun k hk => (h2.2.1 k hk).trans (h.2.1 k hk), h2.2.2.trans h.2.2⟩
theorem Zcr.mi {M N : Mem} {k : Nat} {v : Int32} (h : Zcr M N) (hk : k = 30 ∨ k = 32 ∨ k = 33 ∨ k = 34 ∨ k = 35) : Zcr M (m_i N 175 k v) :=
  ⟨fun i hi => (mi_off (fun e => hi (by omega))).trans (h.1 i hi), fun j hj => (m_i_ne (by omega)).trans (h.2.1 j hj), h.2.2⟩
theorem Zcr.mc {M N : Mem} {c k : Nat} {v : Int32} (h : Zcr M N) (hc : c = 194) : Zcr M (m_i N c k v) :=
  ⟨fun i hi => (mi_off (fun e => hi (by omega))).trans (h.1 i hi), fun j hj => (m_i_ne (by omega)).trans (h.2.1 j hj), h.2.2⟩
theorem Zcr.rgs {M N : Mem} (h : Zcr M N) : RGs M N := ⟨fun c h1 h2 => h.1 c (by omega), h.2.1 18 (by decide), h.2.1 19 (by decide), h.2.1 27 (by decide), h.2.1 28 (by decide), h.2.1 29 (by decide)⟩
theorem RG.z {W : WT} {M N : Mem} (h : RG W M) (s : Zcr M N) : RG W N := h.same s.rgs
theorem PR.z {W : WT} {M N : Mem} {p : Int32} (h : PR W M p) (s : Zcr M N) : PR W N p := h.same (fun c h1 h2 => s.1 c (by omega))
theorem RP.z {W : WT} {M N : Mem} (h : RP W M) (s : Zcr M N) : RP W N := by
  refine ⟨h.1, (s.2.1 26 (by decide)).trans h.2.1, fun p hp => ⟨(h.2.2 p hp).1.z s, ?_⟩⟩
  rw [s.1 193 (by decide)]
  exact (h.2.2 p hp).2
def ZPath (N : Mem) (l : List Int32) : Prop := N.1 175 32 = nI l.length ∧ ∀ j, j < l.length → l[j]? = some (N.1 194 j)

