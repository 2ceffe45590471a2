/-! ===== 12.court ===== -/
theorem c_gift_wv {M : Mem} {c : Nat} {m : Int32} (h : c + 3 < 60) : c_gift M.1 c m = c_gift (wv M) c m := by
  unfold c_gift
  rw [wv_at (by omega)]
theorem c_weight_wv {M : Mem} {c : Nat} {m : Int32} (h : c + 4 < 60) : c_weight M.1 c m = c_weight (wv M) c m := by
  unfold c_weight
  rw [wv_at (by omega)]
theorem c_reach_wv {M : Mem} {c p : Nat} (h : c < 60) (hp : p < 60 ∨ p = 174) : c_reach M.1 c p = c_reach (wv M) c p := by
  have e1 : ∀ k, wv M c k = M.1 c k := fun k => wv_at (by omega)
  have e2 : ∀ k, wv M p k = M.1 p k := fun k => wv_at hp
  unfold c_reach
  simp only [e1, e2]
theorem c_dayOn_wv {M : Mem} {p : Nat} {d : Int32} (hp : p < 60 ∨ p = 174) : c_dayOn M.1 p d = c_dayOn (wv M) p d := by
  unfold c_dayOn
  rw [wv_at hp]
noncomputable def w_obst (W : WT) (l p : Nat) (day gone : Int32) : Int32 :=
  sel (¬ inF W l day) 1 (sel (¬ ((gone >>> (nI l &&& 31)) &&& 1) = 0) 2 (sel (day < W p 0) 3 (sel (c_gift W (10 + 5 * l) (W p 3) = -6) 4 (sel (c_reach W (10 + 5 * l) p) 0 5))))
noncomputable def c_cmp (W : WT) (a b : Nat) (marks : Int32) : Int32 :=
  sel (W 8 5 = 0) (sel (W a 0 - W b 0 = 0) (c_weight W a marks - c_weight W b marks) (W a 0 - W b 0)) (sel (c_weight W a marks - c_weight W b marks = 0) (W a 0 - W b 0) (c_weight W a marks - c_weight W b marks))
theorem c_cmp_wv {M : Mem} {a b : Nat} {m : Int32} (ha : a + 4 < 60) (hb : b + 4 < 60) : c_cmp M.1 a b m = c_cmp (wv M) a b m := by
  unfold c_cmp
  rw [wv_at (by decide), wv_at (by omega), wv_at (by omega), c_weight_wv ha, c_weight_wv hb]
noncomputable def w_choose (W : WT) (p : Nat) (day gone allowed t0 : Int32) : Nat → Int32 × Int32
  | 0 => (-6, t0)
  | l + 1 =>
    sel (¬ w_obst W l p day gone = 0 ∧ ¬ w_obst W l p day gone = allowed) (w_choose W p day gone allowed t0 l)
      (sel (0 < (if (w_choose W p day gone allowed t0 l).1 = -6 then 1 else c_cmp W (10 + 5 * l) (10 + 5 * Int32.toNatClampNeg (w_choose W p day gone allowed t0 l).1) (W p 3))) (nI l) (w_choose W p day gone allowed t0 l).1,
       sel (0 ≤ (if (w_choose W p day gone allowed t0 l).1 = -6 then 1 else c_cmp W (10 + 5 * l) (10 + 5 * Int32.toNatClampNeg (w_choose W p day gone allowed t0 l).1) (W p 3))) (bi ((if (w_choose W p day gone allowed t0 l).1 = -6 then 1 else c_cmp W (10 + 5 * l) (10 + 5 * Int32.toNatClampNeg (w_choose W p day gone allowed t0 l).1) (W p 3)) = 0)) (w_choose W p day gone allowed t0 l).2)
/-- what was chosen is none, or a law that was looked at -/
theorem w_choose_in (W : WT) (p : Nat) (day gone allowed t0 : Int32) : ∀ l, (w_choose W p day gone allowed t0 l).1 = -6 ∨ ∃ j, j < l ∧ (w_choose W p day gone allowed t0 l).1 = nI j
  | 0 => Or.inl rfl
  | l + 1 => by
    have ih := w_choose_in W p day gone allowed t0 l
    have up : ∀ x : Int32, (x = -6 ∨ ∃ j, j < l ∧ x = nI j) → (x = -6 ∨ ∃ j, j < l + 1 ∧ x = nI j) := fun x h => h.imp id (fun ⟨j, h1, h2⟩ => ⟨j, by omega, h2⟩)
    unfold w_choose
    by_cases h1 : ¬ w_obst W l p day gone = 0 ∧ ¬ w_obst W l p day gone = allowed
    · rw [sel_t h1]; exact up _ ih
    · rw [sel_f h1]
      show sel _ _ _ = -6 ∨ ∃ j, j < l + 1 ∧ sel _ _ _ = nI j
      by_cases h2 : 0 < (if (w_choose W p day gone allowed t0 l).1 = -6 then (1 : Int32) else c_cmp W (10 + 5 * l) (10 + 5 * Int32.toNatClampNeg (w_choose W p day gone allowed t0 l).1) (W p 3))
      · rw [sel_t h2]; exact Or.inr ⟨l, by omega, rfl⟩
      · rw [sel_f h2]; exact up _ ih
noncomputable def w_gov2 (W : WT) (p : Nat) (day : Int32) : Int32 × Int32 :=
  sel (day < W p 0) (-6, 0)
    (sel ((w_choose W p day (w_undone W day) 0 0 (w_n W)).1 = -6 ∧ W 8 6 = 1) (w_choose W p (W p 0) (w_undone W day) 5 (w_choose W p day (w_undone W day) 0 0 (w_n W)).2 (w_n W)) (w_choose W p day (w_undone W day) 0 0 (w_n W)))
noncomputable def w_gov (W : WT) (p : Nat) (day : Int32) : Int32 := (w_gov2 W p day).1
theorem w_gov_in (W : WT) (p : Nat) (day : Int32) : w_gov W p day = -6 ∨ ∃ j, j < w_n W ∧ w_gov W p day = nI j := by
  unfold w_gov w_gov2
  by_cases h1 : day < W p 0
  · rw [sel_t h1]; exact Or.inl rfl
  · rw [sel_f h1]
    by_cases h2 : (w_choose W p day (w_undone W day) 0 0 (w_n W)).1 = -6 ∧ W 8 6 = 1
    · rw [sel_t h2]; exact w_choose_in _ _ _ _ _ _ _
    · rw [sel_f h2]; exact w_choose_in _ _ _ _ _ _ _
/-- what the court may change: itself, its path -/
def Scr (M N : Mem) : Prop := (∀ c, ¬ (c = 167 ∨ c = 168) → N.1 c = M.1 c) ∧ N.2 = M.2
theorem Scr.rf {M : Mem} : Scr M M := ⟨fun _ _ => rfl, rfl⟩
theorem Scr.tr {M N P : Mem} (h : Scr M N) (h2 : Scr N P) : Scr M P := ⟨fun c hc => (h2.1 c hc).trans (h.1 c hc), h2.2.trans h.2⟩
theorem mi_off {N : Mem} {c k i : Nat} {v : Int32} (hi : ¬ i = c) : (m_i N c k v).1 i = N.1 i := by
  funext j
  exact m_i_ne (fun q => hi q.1)
theorem Scr.mi {M N : Mem} {c k : Nat} {v : Int32} (h : Scr M N) (hc : c = 167 ∨ c = 168) : Scr M (m_i N c k v) :=
  ⟨fun i hi => (mi_off (fun e => hi (by omega))).trans (h.1 i hi), h.2⟩
theorem wv_eq {M N : Mem} (h : ∀ c, (c < 60 ∨ c = 174) → N.1 c = M.1 c) : wv N = wv M := by
  funext c k
  unfold wv
  by_cases hc : c < 60 ∨ c = 174
  · rw [if_pos hc, if_pos hc, h c hc]
  · rw [if_neg hc, if_neg hc]
theorem Scr.wvE {M N : Mem} (h : Scr M N) : wv N = wv M := wv_eq (fun c hc => h.1 c (by omega))
/-- the scratch of the governor -/
theorem Scr.gov {M N : Mem} {t : Int32} (h : N = m_i M 167 1 t) : Scr M N := by
  rw [h]; exact Scr.rf.mi (by decide)

/-! BetweenLaws$Court.obstacle(ILBetweenLaws$Piece;II)I -/
abbrev rm_X2_obstacle : Room := { frames := 1, cells := 0, slots := 0, locals := 23 }
abbrev B_X2_obstacle (G : GT) (K : Int32 → Mem → Prop) := BT G (Rep G) RX2 "obstacle" cX2_obstacle 6 (some .int) rm_X2_obstacle K 0 0
abbrev T_X2_obstacle (G : GT) (as : List Value) (M : Mem) (K : Int32 → Mem → Prop) : Prop := MT G (Rep G) yX2_obstacle cX2_obstacle 6 (some .int) rm_X2_obstacle as M K
theorem e_X2_obstacle {G : GT} {K : Int32 → Mem → Prop} {M : Mem} {v1 : Int32} {a2 : Nat} {v3 : Int32} {v4 : Int32} (h : B_X2_obstacle G K 0 [(0, .ref 167), (1, .int v1), (2, .ref a2), (3, .int v3), (4, .int v4)] [] M) : T_X2_obstacle G [.ref 167, .int v1, .ref a2, .int v3, .int v4] M K := MT.of (by decide +kernel) rfl rfl (Nat.le_of_ble_eq_true rfl) rfl h
set_option maxRecDepth 4000 in
theorem k_X2_obstacle_0 {G : GT} {K : Int32 → Mem → Prop} {M : Mem} {v1 : Int32} {a2 : Nat} {v3 : Int32} {v4 : Int32} (ha2 : PieceC a2) (h : (((0 : Int32) ≤ v1 ∧ v1 < (M.1 8 1)) → (vp_in v1 8) ∧ (((M.1 (10 + 5 * (Int32.toNatClampNeg v1)) 0) ≤ v3 ∧ v3 < (M.1 (10 + 5 * (Int32.toNatClampNeg v1)) 1)) → (((v4 >>> (v1 &&& 31)) &&& 1) = 0 → ((M.1 a2 0) ≤ v3 → (¬ (c_gift M.1 (10 + 5 * (Int32.toNatClampNeg v1)) (M.1 a2 3)) = (-6) → (¬ (c_reach M.1 (10 + 5 * (Int32.toNatClampNeg v1)) a2) → K 5 M) ∧ ((c_reach M.1 (10 + 5 * (Int32.toNatClampNeg v1)) a2) → K 0 M)) ∧ ((c_gift M.1 (10 + 5 * (Int32.toNatClampNeg v1)) (M.1 a2 3)) = (-6) → K 4 M)) ∧ (¬ (M.1 a2 0) ≤ v3 → K 3 M)) ∧ (¬ ((v4 >>> (v1 &&& 31)) &&& 1) = 0 → K 2 M)) ∧ (¬ ((M.1 (10 + 5 * (Int32.toNatClampNeg v1)) 0) ≤ v3 ∧ v3 < (M.1 (10 + 5 * (Int32.toNatClampNeg v1)) 1)) → K 1 M)) ∧ (¬ ((0 : Int32) ≤ v1 ∧ v1 < (M.1 8 1)) → K 1 M)) : B_X2_obstacle G K 0 [(0, .ref 167), (1, .int v1), (2, .ref a2), (3, .int v3), (4, .int v4)] [] M := by
  refine BT.aload_n dX2_obstacle_0 rfl 0 rfl ?_
  refine BT.getR (r := 8) fl_X2_9 ho_167 rfl dX2_obstacle_1 ?_
  refine BT.iload_n dX2_obstacle_4 rfl 1 rfl ?_
  refine BT.mcV [.int v1] (t_X9_hasLaw  ?_) mb_X9_hasLaw mv_X9_hasLaw lk_X2_19 rfl (by decide) rfl (recvRep ho_8 rfl) (Nat.le_of_ble_eq_true rfl) dX2_obstacle_5
  show B_X2_obstacle G K 8 [(0, .ref 167), (1, .int v1), (2, .ref a2), (3, .int v3), (4, .int v4)] [.int (bi ((0 : Int32) ≤ v1 ∧ v1 < (M.1 8 1)))] M
  refine BT.if_ne (tgt := 13) dX2_obstacle_8 (by decide) (fun c => ?_) (fun c => ?_)
  · have c2 := bi_ne0.mp c
    refine BT.aload_n dX2_obstacle_13 rfl 0 rfl ?_
    refine BT.getR (r := 8) fl_X2_9 ho_167 rfl dX2_obstacle_14 ?_
    refine BT.getR (r := 9) fl_X2_25 ho_8 rfl dX2_obstacle_17 ?_
    refine BT.iload_n dX2_obstacle_20 rfl 1 rfl ?_
    refine BT.aald ha_9 (by decide) (h.1 c2).1 dX2_obstacle_21 ?_
    refine BT.astore (L' := [(5, .ref (10 + 5 * (Int32.toNatClampNeg v1))), (0, .ref 167), (1, .int v1), (2, .ref a2), (3, .int v3), (4, .int v4)]) dX2_obstacle_22 (by decide) rfl ?_
    refine BT.aload dX2_obstacle_24 0 rfl ?_
    refine BT.iload_n dX2_obstacle_26 rfl 4 rfl ?_
    refine BT.mcV [.int v3] (t_X3_isInForce (lawC8 (h.1 c2).1) ?_) mb_X3_isInForce mv_X3_isInForce lk_X2_29 rfl (by decide) rfl (recvRep (lawC8 (h.1 c2).1).1 rfl) (Nat.le_of_ble_eq_true rfl) dX2_obstacle_27
    show B_X2_obstacle G K 30 [(5, .ref (10 + 5 * (Int32.toNatClampNeg v1))), (0, .ref 167), (1, .int v1), (2, .ref a2), (3, .int v3), (4, .int v4)] [.int (bi ((M.1 (10 + 5 * (Int32.toNatClampNeg v1)) 0) ≤ v3 ∧ v3 < (M.1 (10 + 5 * (Int32.toNatClampNeg v1)) 1)))] M
    refine BT.if_ne (tgt := 35) dX2_obstacle_30 (by decide) (fun c => ?_) (fun c => ?_)
    · have c5 := bi_ne0.mp c
      refine BT.iload dX2_obstacle_35 5 rfl ?_
      refine BT.iload_n dX2_obstacle_37 rfl 2 rfl ?_
      refine BT.ishr dX2_obstacle_38 ?_
      refine BT.iconst (v := 1) dX2_obstacle_39 (by decide) ?_
      refine BT.iand dX2_obstacle_40 ?_
      refine BT.if_eq (tgt := 46) dX2_obstacle_41 (by decide) (fun c => ?_) (fun c => ?_)
      · have c7 := c
        refine BT.iload_n dX2_obstacle_46 rfl 4 rfl ?_
        refine BT.aload_n dX2_obstacle_47 rfl 3 rfl ?_
        refine BT.getI fl_X2_34 ha2 rfl dX2_obstacle_48 ?_
        refine BT.icmp_ge (tgt := 56) dX2_obstacle_51 (by decide) (fun c => ?_) (fun c => ?_)
        · have c9 := c
          refine BT.aload dX2_obstacle_56 0 rfl ?_
          refine BT.aload_n dX2_obstacle_58 rfl 3 rfl ?_
          refine BT.getI fl_X2_40 ha2 rfl dX2_obstacle_59 ?_
          refine BT.mcV [.int (M.1 a2 3)] (t_X3_giftFor (lawC8 (h.1 c2).1) ?_) mb_X3_giftFor mv_X3_giftFor lk_X2_43 rfl (by decide) rfl (recvRep (lawC8 (h.1 c2).1).1 rfl) (Nat.le_of_ble_eq_true rfl) dX2_obstacle_62
          show B_X2_obstacle G K 65 [(5, .ref (10 + 5 * (Int32.toNatClampNeg v1))), (0, .ref 167), (1, .int v1), (2, .ref a2), (3, .int v3), (4, .int v4)] [.int (c_gift M.1 (10 + 5 * (Int32.toNatClampNeg v1)) (M.1 a2 3))] M
          refine BT.bipush (v := (-6)) dX2_obstacle_65 (by decide) ?_
          refine BT.icmp_ne (tgt := 72) dX2_obstacle_67 (by decide) (fun c => ?_) (fun c => ?_)
          · have c12 := c
            refine BT.aload dX2_obstacle_72 0 rfl ?_
            refine BT.aload_n dX2_obstacle_74 rfl 3 rfl ?_
            refine BT.mcV [.ref a2] (t_X3_reachesByTime (lawC8 (h.1 c2).1) ha2 ?_) mb_X3_reachesByTime mv_X3_reachesByTime lk_X2_47 rfl (by decide) rfl (recvRep (lawC8 (h.1 c2).1).1 rfl) (Nat.le_of_ble_eq_true rfl) dX2_obstacle_75
            show B_X2_obstacle G K 78 [(5, .ref (10 + 5 * (Int32.toNatClampNeg v1))), (0, .ref 167), (1, .int v1), (2, .ref a2), (3, .int v3), (4, .int v4)] [.int (bi (c_reach M.1 (10 + 5 * (Int32.toNatClampNeg v1)) a2))] M
            refine BT.if_eq (tgt := 85) dX2_obstacle_78 (by decide) (fun c => ?_) (fun c => ?_)
            · have c15 := bi_eq0.mp c
              refine BT.iconst (v := 5) dX2_obstacle_85 (by decide) ?_
              exact BT.iret dX2_obstacle_86 rfl (by decide) (by decide) ((((((h.1 c2).2.1 c5).1 c7).1 c9).1 c12).1 c15)
            · have c16 := bi_ne0.mp c
              refine BT.iconst (v := 0) dX2_obstacle_81 (by decide) ?_
              refine BT.goto (tgt := 86) dX2_obstacle_82 (by decide) ?_
              exact BT.iret dX2_obstacle_86 rfl (by decide) (by decide) ((((((h.1 c2).2.1 c5).1 c7).1 c9).1 c12).2 c16)
          · have c13 := c
            refine BT.iconst (v := 4) dX2_obstacle_70 (by decide) ?_
            exact BT.iret dX2_obstacle_71 rfl (by decide) (by decide) (((((h.1 c2).2.1 c5).1 c7).1 c9).2 c13)
        · have c10 := c
          refine BT.iconst (v := 3) dX2_obstacle_54 (by decide) ?_
          exact BT.iret dX2_obstacle_55 rfl (by decide) (by decide) ((((h.1 c2).2.1 c5).1 c7).2 c10)
      · have c8 := c
        refine BT.iconst (v := 2) dX2_obstacle_44 (by decide) ?_
        exact BT.iret dX2_obstacle_45 rfl (by decide) (by decide) (((h.1 c2).2.1 c5).2 c8)
    · have c6 := bi_eq0.mp c
      refine BT.iconst (v := 1) dX2_obstacle_33 (by decide) ?_
      exact BT.iret dX2_obstacle_34 rfl (by decide) (by decide) ((h.1 c2).2.2 c6)
  · have c3 := bi_eq0.mp c
    refine BT.iconst (v := 1) dX2_obstacle_11 (by decide) ?_
    exact BT.iret dX2_obstacle_12 rfl (by decide) (by decide) (h.2 c3)

theorem t_X2_obstacle {G : GT} {K : Int32 → Mem → Prop} {M : Mem} {v1 : Int32} {a2 : Nat} {v3 v4 : Int32} (ha2 : PieceC a2) (hl : (0 : Int32) ≤ v1 ∧ v1 < wv M 8 1) (hp : a2 < 60 ∨ a2 = 174) (hw : WOk (wv M)) (h : K (w_obst (wv M) (Int32.toNatClampNeg v1) a2 v3 v4) M) : T_X2_obstacle G [.ref 167, .int v1, .ref a2, .int v3, .int v4] M K := by
  obtain ⟨⟨hn, h8⟩, -⟩ := hw
  obtain ⟨j, hj, rfl⟩ := i_nat (show w_n (wv M) < 2 ^ 31 by omega) hl.1 (by rw [← hn]; exact hl.2)
  rw [wv_at (by decide)] at hl
  rw [ix_nI (by omega)] at h
  have e1 : ∀ k, wv M (10 + 5 * j) k = M.1 (10 + 5 * j) k := fun k => wv_at (by omega)
  have e2 : ∀ k, wv M a2 k = M.1 a2 k := fun k => wv_at hp
  refine e_X2_obstacle (k_X2_obstacle_0 ha2 ?_)
  simp only [ix_nI (show j < 2 ^ 31 by omega), c_gift_wv (M := M) (show 10 + 5 * j + 3 < 60 by omega), c_reach_wv (M := M) (show 10 + 5 * j < 60 by omega) hp, ← e1, ← e2]
  unfold w_obst at h
  refine ⟨fun _ => ⟨vp_nI (by omega) (by decide), fun c1 => ⟨fun c2 => ⟨fun c3 => ⟨fun c4 => ⟨fun c5 => ?_, fun c5 => ?_⟩, fun c4 => ?_⟩, fun c3 => ?_⟩, fun c2 => ?_⟩, fun c1 => ?_⟩, fun c => absurd hl c⟩
  · rwa [sel_f (not_not_intro c1), sel_f (not_not_intro c2), sel_f (Int32.not_lt.mpr c3), sel_f c4, sel_f c5] at h
  · rwa [sel_f (not_not_intro c1), sel_f (not_not_intro c2), sel_f (Int32.not_lt.mpr c3), sel_f c4, sel_t c5] at h
  · rwa [sel_f (not_not_intro c1), sel_f (not_not_intro c2), sel_f (Int32.not_lt.mpr c3), sel_t c4] at h
  · rwa [sel_f (not_not_intro c1), sel_f (not_not_intro c2), sel_t (Int32.not_le.mp c3)] at h
  · rwa [sel_f (not_not_intro c1), sel_t c2] at h
  · rwa [sel_t c1] at h

/-! BetweenLaws$Court.compare(LBetweenLaws$Law;LBetweenLaws$Law;I)I -/
abbrev rm_X2_compare : Room := { frames := 1, cells := 0, slots := 0, locals := 21 }
abbrev B_X2_compare (G : GT) (K : Int32 → Mem → Prop) := BT G (Rep G) RX2 "compare" cX2_compare 6 (some .int) rm_X2_compare K 0 0
abbrev T_X2_compare (G : GT) (as : List Value) (M : Mem) (K : Int32 → Mem → Prop) : Prop := MT G (Rep G) yX2_compare cX2_compare 6 (some .int) rm_X2_compare as M K
theorem e_X2_compare {G : GT} {K : Int32 → Mem → Prop} {M : Mem} {a1 : Nat} {a2 : Nat} {v3 : Int32} (h : B_X2_compare G K 0 [(0, .ref 167), (1, .ref a1), (2, .ref a2), (3, .int v3)] [] M) : T_X2_compare G [.ref 167, .ref a1, .ref a2, .int v3] M K := MT.of (by decide +kernel) rfl rfl (Nat.le_of_ble_eq_true rfl) rfl h
set_option maxRecDepth 4000 in
theorem k_X2_compare_0 {G : GT} {K : Int32 → Mem → Prop} {M : Mem} {a1 : Nat} {a2 : Nat} {v3 : Int32} (ha1 : LawC a1) (ha2 : LawC a2) (h : (¬ (M.1 8 5) = 0 → (((c_weight M.1 a1 v3) - (c_weight M.1 a2 v3)) = 0 → K ((M.1 a1 0) - (M.1 a2 0)) M) ∧ (¬ ((c_weight M.1 a1 v3) - (c_weight M.1 a2 v3)) = 0 → K ((c_weight M.1 a1 v3) - (c_weight M.1 a2 v3)) M)) ∧ ((M.1 8 5) = 0 → (((M.1 a1 0) - (M.1 a2 0)) = 0 → K ((c_weight M.1 a1 v3) - (c_weight M.1 a2 v3)) M) ∧ (¬ ((M.1 a1 0) - (M.1 a2 0)) = 0 → K ((M.1 a1 0) - (M.1 a2 0)) M))) : B_X2_compare G K 0 [(0, .ref 167), (1, .ref a1), (2, .ref a2), (3, .int v3)] [] M := by
  refine BT.aload_n dX2_compare_0 rfl 1 rfl ?_
  refine BT.getI fl_X2_76 ha1.1 rfl dX2_compare_1 ?_
  refine BT.aload_n dX2_compare_4 rfl 2 rfl ?_
  refine BT.getI fl_X2_76 ha2.1 rfl dX2_compare_5 ?_
  refine BT.isub dX2_compare_8 ?_
  refine BT.istore (L' := [(4, .int ((M.1 a1 0) - (M.1 a2 0))), (0, .ref 167), (1, .ref a1), (2, .ref a2), (3, .int v3)]) dX2_compare_9 (by decide) rfl ?_
  refine BT.aload_n dX2_compare_11 rfl 2 rfl ?_
  refine BT.iload_n dX2_compare_12 rfl 4 rfl ?_
  refine BT.mcV [.int v3] (t_X3_weightFor ha1 ?_) mb_X3_weightFor mv_X3_weightFor lk_X2_79 rfl (by decide) rfl (recvRep ha1.1 rfl) (Nat.le_of_ble_eq_true rfl) dX2_compare_13
  show B_X2_compare G K 16 [(4, .int ((M.1 a1 0) - (M.1 a2 0))), (0, .ref 167), (1, .ref a1), (2, .ref a2), (3, .int v3)] [.int (c_weight M.1 a1 v3)] M
  refine BT.aload_n dX2_compare_16 rfl 3 rfl ?_
  refine BT.iload_n dX2_compare_17 rfl 4 rfl ?_
  refine BT.mcV [.int v3] (t_X3_weightFor ha2 ?_) mb_X3_weightFor mv_X3_weightFor lk_X2_79 rfl (by decide) rfl (recvRep ha2.1 rfl) (Nat.le_of_ble_eq_true rfl) dX2_compare_18
  show B_X2_compare G K 21 [(4, .int ((M.1 a1 0) - (M.1 a2 0))), (0, .ref 167), (1, .ref a1), (2, .ref a2), (3, .int v3)] [.int (c_weight M.1 a2 v3), .int (c_weight M.1 a1 v3)] M
  refine BT.isub dX2_compare_21 ?_
  refine BT.istore (L' := [(5, .int ((c_weight M.1 a1 v3) - (c_weight M.1 a2 v3))), (4, .int ((M.1 a1 0) - (M.1 a2 0))), (0, .ref 167), (1, .ref a1), (2, .ref a2), (3, .int v3)]) dX2_compare_22 (by decide) rfl ?_
  refine BT.aload_n dX2_compare_24 rfl 2 rfl ?_
  refine BT.getR (r := 8) fl_X2_9 ho_167 rfl dX2_compare_25 ?_
  refine BT.getI fl_X2_82 ho_8 rfl dX2_compare_28 ?_
  refine BT.if_ne (tgt := 47) dX2_compare_31 (by decide) (fun c => ?_) (fun c => ?_)
  · have c3 := c
    refine BT.iload dX2_compare_47 0 rfl ?_
    refine BT.if_eq (tgt := 57) dX2_compare_49 (by decide) (fun c => ?_) (fun c => ?_)
    · have c5 := c
      refine BT.iload dX2_compare_57 1 rfl ?_
      exact BT.iret dX2_compare_59 rfl (by decide) (by decide) ((h.1 c3).1 c5)
    · have c6 := c
      refine BT.iload dX2_compare_52 0 rfl ?_
      refine BT.goto (tgt := 59) dX2_compare_54 (by decide) ?_
      exact BT.iret dX2_compare_59 rfl (by decide) (by decide) ((h.1 c3).2 c6)
  · have c4 := c
    refine BT.iload dX2_compare_34 1 rfl ?_
    refine BT.if_eq (tgt := 44) dX2_compare_36 (by decide) (fun c => ?_) (fun c => ?_)
    · have c7 := c
      refine BT.iload dX2_compare_44 0 rfl ?_
      exact BT.iret dX2_compare_46 rfl (by decide) (by decide) ((h.2 c4).1 c7)
    · have c8 := c
      refine BT.iload dX2_compare_39 1 rfl ?_
      refine BT.goto (tgt := 46) dX2_compare_41 (by decide) ?_
      exact BT.iret dX2_compare_46 rfl (by decide) (by decide) ((h.2 c4).2 c8)

theorem t_X2_compare {G : GT} {K : Int32 → Mem → Prop} {M : Mem} {a1 a2 : Nat} {v3 : Int32} (ha1 : LawC a1) (ha2 : LawC a2) (h : K (c_cmp M.1 a1 a2 v3) M) : T_X2_compare G [.ref 167, .ref a1, .ref a2, .int v3] M K := by
  refine e_X2_compare (k_X2_compare_0 ha1 ha2 ?_)
  unfold c_cmp at h
  refine ⟨fun c1 => ⟨fun c2 => ?_, fun c2 => ?_⟩, fun c1 => ⟨fun c2 => ?_, fun c2 => ?_⟩⟩
  · rwa [sel_f c1, sel_t c2] at h
  · rwa [sel_f c1, sel_f c2] at h
  · rwa [sel_t c1, sel_t c2] at h
  · rwa [sel_t c1, sel_f c2] at h

/-! BetweenLaws$Court.choose(LBetweenLaws$Piece;III)I -/
abbrev rm_X2_choose : Room := { frames := 2, cells := 0, slots := 0, locals := 48 }
abbrev B_X2_choose (G : GT) (K : Int32 → Mem → Prop) := BT G (Rep G) RX2 "choose" cX2_choose 9 (some .int) rm_X2_choose K 0 0
abbrev T_X2_choose (G : GT) (as : List Value) (M : Mem) (K : Int32 → Mem → Prop) : Prop := MT G (Rep G) yX2_choose cX2_choose 9 (some .int) rm_X2_choose as M K
theorem e_X2_choose {G : GT} {K : Int32 → Mem → Prop} {M : Mem} {a1 : Nat} {v2 : Int32} {v3 : Int32} {v4 : Int32} (h : B_X2_choose G K 0 [(0, .ref 167), (1, .ref a1), (2, .int v2), (3, .int v3), (4, .int v4)] [] M) : T_X2_choose G [.ref 167, .ref a1, .int v2, .int v3, .int v4] M K := MT.of (by decide +kernel) rfl rfl (Nat.le_of_ble_eq_true rfl) rfl h
set_option maxRecDepth 4000 in
theorem k_X2_choose_0 {G : GT} {K : Int32 → Mem → Prop} {M : Mem} {a1 : Nat} {v2 : Int32} {v3 : Int32} {v4 : Int32} (ha1 : PieceC a1) (h : B_X2_choose G K 7 [(0, .ref 167), (1, .ref a1), (2, .int v2), (3, .int v3), (4, .int v4), (5, .int (-6)), (6, .int 0)] [] M) : B_X2_choose G K 0 [(0, .ref 167), (1, .ref a1), (2, .int v2), (3, .int v3), (4, .int v4)] [] M := by
  refine BT.bipush (v := (-6)) dX2_choose_0 (by decide) ?_
  refine BT.istore (L' := [(5, .int (-6)), (0, .ref 167), (1, .ref a1), (2, .int v2), (3, .int v3), (4, .int v4)]) dX2_choose_2 (by decide) rfl ?_
  refine BT.iconst (v := 0) dX2_choose_4 (by decide) ?_
  refine BT.istore (L' := [(6, .int 0), (5, .int (-6)), (0, .ref 167), (1, .ref a1), (2, .int v2), (3, .int v3), (4, .int v4)]) dX2_choose_5 (by decide) rfl ?_
  refine BT.sub [2, 3, 4, 5, 6, 1, 0] rfl ?_
  exact h
set_option maxRecDepth 4000 in
theorem k_X2_choose_7 {G : GT} {K : Int32 → Mem → Prop} {M : Mem} {a1 : Nat} {v2 : Int32} {v3 : Int32} {v4 : Int32} {v5 : Int32} {v6 : Int32} (ha1 : PieceC a1) (h : ((M.1 8 1) ≤ v6 → K v5 M) ∧ (¬ (M.1 8 1) ≤ v6 → ((0 : Int32) ≤ v6 ∧ v6 < wv M 8 1) ∧ (a1 < 60 ∨ a1 = 174) ∧ (WOk (wv M)) ∧ (∀ r3 : Int32, r3 = (w_obst (wv M) (Int32.toNatClampNeg v6) a1 v2 v3) → (r3 = 0 → B_X2_choose G K 45 [(0, .ref 167), (1, .ref a1), (2, .int v2), (3, .int v3), (4, .int v4), (5, .int v5), (6, .int v6)] [] M) ∧ (¬ r3 = 0 → (r3 = v4 → B_X2_choose G K 45 [(0, .ref 167), (1, .ref a1), (2, .int v2), (3, .int v3), (4, .int v4), (5, .int v5), (6, .int v6)] [] M) ∧ (¬ r3 = v4 → B_X2_choose G K 7 [(0, .ref 167), (1, .ref a1), (2, .int v2), (3, .int v3), (4, .int v4), (5, .int v5), (6, .int (v6 + 1))] [] M))))) : B_X2_choose G K 7 [(0, .ref 167), (1, .ref a1), (2, .int v2), (3, .int v3), (4, .int v4), (5, .int v5), (6, .int v6)] [] M := by
  refine BT.iload dX2_choose_7 6 rfl ?_
  refine BT.aload_n dX2_choose_9 rfl 0 rfl ?_
  refine BT.getR (r := 8) fl_X2_9 ho_167 rfl dX2_choose_10 ?_
  refine BT.getI fl_X2_65 ho_8 rfl dX2_choose_13 ?_
  refine BT.icmp_ge (tgt := 120) dX2_choose_16 (by decide) (fun c => ?_) (fun c => ?_)
  · have c1 := c
    refine BT.iload dX2_choose_120 5 rfl ?_
    exact BT.iret dX2_choose_122 rfl (by decide) (by decide) (h.1 c1)
  · have c2 := c
    refine BT.aload_n dX2_choose_19 rfl 0 rfl ?_
    refine BT.iload dX2_choose_20 6 rfl ?_
    refine BT.aload_n dX2_choose_22 rfl 1 rfl ?_
    refine BT.iload_n dX2_choose_23 rfl 2 rfl ?_
    refine BT.iload_n dX2_choose_24 rfl 3 rfl ?_
    refine BT.mcVr [.int v6, .ref a1, .int v2, .int v3] (t_X2_obstacle ha1 (h.2 c2).1 (h.2 c2).2.1 (h.2 c2).2.2.1 ⟨rfl, rfl⟩) mb_X2_obstacle mv_X2_obstacle lk_X2_68 rfl (by decide) rfl (recvRep ho_167 rfl) (Nat.le_of_ble_eq_true rfl) dX2_choose_25 (fun r3 e3 => ?_)
    show B_X2_choose G K 28 [(0, .ref 167), (1, .ref a1), (2, .int v2), (3, .int v3), (4, .int v4), (5, .int v5), (6, .int v6)] [.int r3] M
    refine BT.istore (L' := [(7, .int r3), (0, .ref 167), (1, .ref a1), (2, .int v2), (3, .int v3), (4, .int v4), (5, .int v5), (6, .int v6)]) dX2_choose_28 (by decide) rfl ?_
    refine BT.iload dX2_choose_30 0 rfl ?_
    refine BT.if_eq (tgt := 45) dX2_choose_32 (by decide) (fun c => ?_) (fun c => ?_)
    · have c4 := c
      refine BT.sub [1, 2, 3, 4, 5, 6, 7] rfl ?_
      exact (((h.2 c2).2.2.2 r3 e3).1 c4)
    · have c5 := c
      refine BT.iload dX2_choose_35 0 rfl ?_
      refine BT.iload dX2_choose_37 5 rfl ?_
      refine BT.icmp_eq (tgt := 45) dX2_choose_39 (by decide) (fun c => ?_) (fun c => ?_)
      · have c6 := c
        refine BT.sub [1, 2, 3, 4, 5, 6, 7] rfl ?_
        exact ((((h.2 c2).2.2.2 r3 e3).2 c5).1 c6)
      · have c7 := c
        refine BT.goto (tgt := 114) dX2_choose_42 (by decide) ?_
        refine BT.iinc (j := 7) (v := (v6 + 1)) (L' := [(6, .int (v6 + 1)), (7, .int r3), (0, .ref 167), (1, .ref a1), (2, .int v2), (3, .int v3), (4, .int v4), (5, .int v5)]) dX2_choose_114 rfl rfl (by decide) rfl ?_
        refine BT.goto (tgt := 7) dX2_choose_117 (by decide) ?_
        refine BT.sub [2, 3, 4, 5, 6, 7, 0] rfl ?_
        exact ((((h.2 c2).2.2.2 r3 e3).2 c5).2 c7)
set_option maxRecDepth 4000 in
theorem k_X2_choose_45 {G : GT} {K : Int32 → Mem → Prop} {M : Mem} {a1 : Nat} {v2 : Int32} {v3 : Int32} {v4 : Int32} {v5 : Int32} {v6 : Int32} (ha1 : PieceC a1) (h : (¬ v5 = (-6) → (vp_in v6 8) ∧ (vp_in v5 8) ∧ (∀ r3 : Int32, r3 = (c_cmp M.1 (10 + 5 * (Int32.toNatClampNeg v6)) (10 + 5 * (Int32.toNatClampNeg v5)) (M.1 a1 3)) → B_X2_choose G K 84 [(0, .ref 167), (1, .ref a1), (2, .int v2), (3, .int v3), (4, .int v4), (5, .int v5), (6, .int v6)] [.int r3] M)) ∧ (v5 = (-6) → B_X2_choose G K 84 [(0, .ref 167), (1, .ref a1), (2, .int v2), (3, .int v3), (4, .int v4), (5, .int v5), (6, .int v6)] [.int 1] M)) : B_X2_choose G K 45 [(0, .ref 167), (1, .ref a1), (2, .int v2), (3, .int v3), (4, .int v4), (5, .int v5), (6, .int v6)] [] M := by
  refine BT.iload dX2_choose_45 5 rfl ?_
  refine BT.bipush (v := (-6)) dX2_choose_47 (by decide) ?_
  refine BT.icmp_ne (tgt := 56) dX2_choose_49 (by decide) (fun c => ?_) (fun c => ?_)
  · have c1 := c
    refine BT.aload_n dX2_choose_56 rfl 0 rfl ?_
    refine BT.aload_n dX2_choose_57 rfl 0 rfl ?_
    refine BT.getR (r := 8) fl_X2_9 ho_167 rfl dX2_choose_58 ?_
    refine BT.getR (r := 9) fl_X2_25 ho_8 rfl dX2_choose_61 ?_
    refine BT.iload dX2_choose_64 6 rfl ?_
    refine BT.aald ha_9 (by decide) (h.1 c1).1 dX2_choose_66 ?_
    refine BT.aload_n dX2_choose_67 rfl 0 rfl ?_
    refine BT.getR (r := 8) fl_X2_9 ho_167 rfl dX2_choose_68 ?_
    refine BT.getR (r := 9) fl_X2_25 ho_8 rfl dX2_choose_71 ?_
    refine BT.iload dX2_choose_74 5 rfl ?_
    refine BT.aald ha_9 (by decide) (h.1 c1).2.1 dX2_choose_76 ?_
    refine BT.aload_n dX2_choose_77 rfl 1 rfl ?_
    refine BT.getI fl_X2_40 ha1 rfl dX2_choose_78 ?_
    refine BT.mcVr [.ref (10 + 5 * (Int32.toNatClampNeg v6)), .ref (10 + 5 * (Int32.toNatClampNeg v5)), .int (M.1 a1 3)] (t_X2_compare (lawC8 (h.1 c1).1) (lawC8 (h.1 c1).2.1) ⟨rfl, rfl⟩) mb_X2_compare mv_X2_compare lk_X2_72 rfl (by decide) rfl (recvRep ho_167 rfl) (Nat.le_of_ble_eq_true rfl) dX2_choose_81 (fun r3 e3 => ?_)
    show B_X2_choose G K 84 [(0, .ref 167), (1, .ref a1), (2, .int v2), (3, .int v3), (4, .int v4), (5, .int v5), (6, .int v6)] [.int r3] M
    exact ((h.1 c1).2.2 r3 e3)
  · have c2 := c
    refine BT.iconst (v := 1) dX2_choose_52 (by decide) ?_
    refine BT.goto (tgt := 84) dX2_choose_53 (by decide) ?_
    exact (h.2 c2)
set_option maxRecDepth 4000 in
theorem k_X2_choose_84 {G : GT} {K : Int32 → Mem → Prop} {M : Mem} {a1 : Nat} {v2 : Int32} {v3 : Int32} {v4 : Int32} {v5 : Int32} {v6 : Int32} {s0 : Int32} (ha1 : PieceC a1) (h : (s0 ≤ 0 → (s0 < 0 → B_X2_choose G K 7 [(0, .ref 167), (1, .ref a1), (2, .int v2), (3, .int v3), (4, .int v4), (5, .int v5), (6, .int (v6 + 1))] [] M) ∧ (¬ s0 < 0 → (¬ s0 = 0 → B_X2_choose G K 7 [(0, .ref 167), (1, .ref a1), (2, .int v2), (3, .int v3), (4, .int v4), (5, .int v5), (6, .int (v6 + 1))] [] (m_i M 167 1 0)) ∧ (s0 = 0 → B_X2_choose G K 7 [(0, .ref 167), (1, .ref a1), (2, .int v2), (3, .int v3), (4, .int v4), (5, .int v5), (6, .int (v6 + 1))] [] (m_i M 167 1 1)))) ∧ (¬ s0 ≤ 0 → (s0 < 0 → B_X2_choose G K 7 [(0, .ref 167), (1, .ref a1), (2, .int v2), (3, .int v3), (4, .int v4), (5, .int v6), (6, .int (v6 + 1))] [] M) ∧ (¬ s0 < 0 → (¬ s0 = 0 → B_X2_choose G K 7 [(0, .ref 167), (1, .ref a1), (2, .int v2), (3, .int v3), (4, .int v4), (5, .int v6), (6, .int (v6 + 1))] [] (m_i M 167 1 0)) ∧ (s0 = 0 → B_X2_choose G K 7 [(0, .ref 167), (1, .ref a1), (2, .int v2), (3, .int v3), (4, .int v4), (5, .int v6), (6, .int (v6 + 1))] [] (m_i M 167 1 1))))) : B_X2_choose G K 84 [(0, .ref 167), (1, .ref a1), (2, .int v2), (3, .int v3), (4, .int v4), (5, .int v5), (6, .int v6)] [.int s0] M := by
  refine BT.istore (L' := [(8, .int s0), (0, .ref 167), (1, .ref a1), (2, .int v2), (3, .int v3), (4, .int v4), (5, .int v5), (6, .int v6)]) dX2_choose_84 (by decide) rfl ?_
  refine BT.iload dX2_choose_86 0 rfl ?_
  refine BT.if_le (tgt := 95) dX2_choose_88 (by decide) (fun c => ?_) (fun c => ?_)
  · have c1 := c
    refine BT.iload dX2_choose_95 0 rfl ?_
    refine BT.if_lt (tgt := 114) dX2_choose_97 (by decide) (fun c => ?_) (fun c => ?_)
    · have c3 := c
      refine BT.iinc (j := 7) (v := (v6 + 1)) (L' := [(6, .int (v6 + 1)), (8, .int s0), (0, .ref 167), (1, .ref a1), (2, .int v2), (3, .int v3), (4, .int v4), (5, .int v5)]) dX2_choose_114 rfl rfl (by decide) rfl ?_
      refine BT.goto (tgt := 7) dX2_choose_117 (by decide) ?_
      refine BT.sub [2, 3, 4, 5, 6, 7, 0] rfl ?_
      exact ((h.1 c1).1 c3)
    · have c4 := c
      refine BT.aload_n dX2_choose_100 rfl 1 rfl ?_
      refine BT.iload dX2_choose_101 0 rfl ?_
      refine BT.if_ne (tgt := 110) dX2_choose_103 (by decide) (fun c => ?_) (fun c => ?_)
      · have c5 := c
        refine BT.iconst (v := 0) dX2_choose_110 (by decide) ?_
        refine BT.putZ fl_X2_51 ft_2_1 ho_167 rfl (Or.inl rfl) dX2_choose_111 ?_
        refine BT.iinc (j := 7) (v := (v6 + 1)) (L' := [(6, .int (v6 + 1)), (8, .int s0), (0, .ref 167), (1, .ref a1), (2, .int v2), (3, .int v3), (4, .int v4), (5, .int v5)]) dX2_choose_114 rfl rfl (by decide) rfl ?_
        refine BT.goto (tgt := 7) dX2_choose_117 (by decide) ?_
        refine BT.sub [2, 3, 4, 5, 6, 7, 0] rfl ?_
        exact (((h.1 c1).2 c4).1 c5)
      · have c6 := c
        refine BT.iconst (v := 1) dX2_choose_106 (by decide) ?_
        refine BT.goto (tgt := 111) dX2_choose_107 (by decide) ?_
        refine BT.putZ fl_X2_51 ft_2_1 ho_167 rfl (Or.inr rfl) dX2_choose_111 ?_
        refine BT.iinc (j := 7) (v := (v6 + 1)) (L' := [(6, .int (v6 + 1)), (8, .int s0), (0, .ref 167), (1, .ref a1), (2, .int v2), (3, .int v3), (4, .int v4), (5, .int v5)]) dX2_choose_114 rfl rfl (by decide) rfl ?_
        refine BT.goto (tgt := 7) dX2_choose_117 (by decide) ?_
        refine BT.sub [2, 3, 4, 5, 6, 7, 0] rfl ?_
        exact (((h.1 c1).2 c4).2 c6)
  · have c2 := c
    refine BT.iload dX2_choose_91 7 rfl ?_
    refine BT.istore (L' := [(5, .int v6), (8, .int s0), (0, .ref 167), (1, .ref a1), (2, .int v2), (3, .int v3), (4, .int v4), (6, .int v6)]) dX2_choose_93 (by decide) rfl ?_
    refine BT.iload dX2_choose_95 1 rfl ?_
    refine BT.if_lt (tgt := 114) dX2_choose_97 (by decide) (fun c => ?_) (fun c => ?_)
    · have c7 := c
      refine BT.iinc (j := 7) (v := (v6 + 1)) (L' := [(6, .int (v6 + 1)), (5, .int v6), (8, .int s0), (0, .ref 167), (1, .ref a1), (2, .int v2), (3, .int v3), (4, .int v4)]) dX2_choose_114 rfl rfl (by decide) rfl ?_
      refine BT.goto (tgt := 7) dX2_choose_117 (by decide) ?_
      refine BT.sub [3, 4, 5, 6, 7, 1, 0] rfl ?_
      exact ((h.2 c2).1 c7)
    · have c8 := c
      refine BT.aload_n dX2_choose_100 rfl 2 rfl ?_
      refine BT.iload dX2_choose_101 1 rfl ?_
      refine BT.if_ne (tgt := 110) dX2_choose_103 (by decide) (fun c => ?_) (fun c => ?_)
      · have c9 := c
        refine BT.iconst (v := 0) dX2_choose_110 (by decide) ?_
        refine BT.putZ fl_X2_51 ft_2_1 ho_167 rfl (Or.inl rfl) dX2_choose_111 ?_
        refine BT.iinc (j := 7) (v := (v6 + 1)) (L' := [(6, .int (v6 + 1)), (5, .int v6), (8, .int s0), (0, .ref 167), (1, .ref a1), (2, .int v2), (3, .int v3), (4, .int v4)]) dX2_choose_114 rfl rfl (by decide) rfl ?_
        refine BT.goto (tgt := 7) dX2_choose_117 (by decide) ?_
        refine BT.sub [3, 4, 5, 6, 7, 1, 0] rfl ?_
        exact (((h.2 c2).2 c8).1 c9)
      · have c10 := c
        refine BT.iconst (v := 1) dX2_choose_106 (by decide) ?_
        refine BT.goto (tgt := 111) dX2_choose_107 (by decide) ?_
        refine BT.putZ fl_X2_51 ft_2_1 ho_167 rfl (Or.inr rfl) dX2_choose_111 ?_
        refine BT.iinc (j := 7) (v := (v6 + 1)) (L' := [(6, .int (v6 + 1)), (5, .int v6), (8, .int s0), (0, .ref 167), (1, .ref a1), (2, .int v2), (3, .int v3), (4, .int v4)]) dX2_choose_114 rfl rfl (by decide) rfl ?_
        refine BT.goto (tgt := 7) dX2_choose_117 (by decide) ?_
        refine BT.sub [3, 4, 5, 6, 7, 1, 0] rfl ?_
        exact (((h.2 c2).2 c8).2 c10)

theorem i_trich {a : Int32} (h1 : ¬ a < 0) (h2 : ¬ a = 0) : 0 < a := by
  have h3 : (0 : Int32) ≤ a := Int32.not_lt.mp h1
  rw [Int32.lt_iff_toInt_lt]
  rw [Int32.le_iff_toInt_le] at h3
  have h4 : ¬ a.toInt = (0 : Int32).toInt := fun q => h2 (Int32.toInt_inj.mp q)
  omega
theorem t_X2_choose {G : GT} {K : Int32 → Mem → Prop} {M : Mem} {a1 : Nat} {v2 v3 v4 : Int32} (ha1 : PieceC a1) (hp : a1 < 60 ∨ a1 = 174) (hw : WOk (wv M)) (h : K (w_choose (wv M) a1 v2 v3 v4 (M.1 167 1) (w_n (wv M))).1 (m_i M 167 1 (w_choose (wv M) a1 v2 v3 v4 (M.1 167 1) (w_n (wv M))).2)) : T_X2_choose G [.ref 167, .ref a1, .int v2, .int v3, .int v4] M K := by
  obtain ⟨⟨hn, h8⟩, hw2⟩ := id hw
  have hn0 := hn
  rw [wv_at (by decide)] at hn
  refine e_X2_choose (k_X2_choose_0 ha1 ?_)
  have key := up_loop (P := fun j => B_X2_choose G K 7 [(0, .ref 167), (1, .ref a1), (2, .int v2), (3, .int v3), (4, .int v4), (5, .int (w_choose (wv M) a1 v2 v3 v4 (M.1 167 1) j).1), (6, .int (nI j))] [] (m_i M 167 1 (w_choose (wv M) a1 v2 v3 v4 (M.1 167 1) j).2)) (w_n (wv M)) ?_ ?_ 0 (Nat.zero_le _)
  · have e0 : m_i M 167 1 (w_choose (wv M) a1 v2 v3 v4 (M.1 167 1) 0).2 = M := m_i_self rfl
    rw [e0] at key
    exact key
  · refine k_X2_choose_7 ha1 ⟨fun _ => h, fun c => ?_⟩
    rw [m_i_ne (by decide), hn] at c
    exact absurd (Int32.le_refl _) c
  · intro j hj ih
    generalize hs : w_choose (wv M) a1 v2 v3 v4 (M.1 167 1) j = st at *
    have hin := w_choose_in (wv M) a1 v2 v3 v4 (M.1 167 1) j
    rw [hs] at hin
    have hwv : ∀ t, wv (m_i M 167 1 t) = wv M := fun t => wv_mi (by decide)
    have hoff : ∀ t, (m_i M 167 1 t).1 8 1 = M.1 8 1 := fun t => m_i_ne (by decide)
    have hpm : ∀ t k, (m_i M 167 1 t).1 a1 k = wv M a1 k := fun t k => by rw [m_i_ne (by omega), wv_at hp]
    unfold w_choose at ih
    rw [hs] at ih
    -- the common tail
    have tail : ¬ (¬ w_obst (wv M) j a1 v2 v3 = 0 ∧ ¬ w_obst (wv M) j a1 v2 v3 = v4) → B_X2_choose G K 45 [(0, .ref 167), (1, .ref a1), (2, .int v2), (3, .int v3), (4, .int v4), (5, .int st.1), (6, .int (nI j))] [] (m_i M 167 1 st.2) := by
      intro ho
      rw [sel_f ho] at ih
      have t84 : ∀ s0 : Int32, s0 = (if st.1 = -6 then (1 : Int32) else c_cmp (wv M) (10 + 5 * j) (10 + 5 * Int32.toNatClampNeg st.1) (wv M a1 3)) → B_X2_choose G K 84 [(0, .ref 167), (1, .ref a1), (2, .int v2), (3, .int v3), (4, .int v4), (5, .int st.1), (6, .int (nI j))] [.int s0] (m_i M 167 1 st.2) := by
        intro s0 es
        rw [← es] at ih
        refine k_X2_choose_84 ha1 ?_
        simp only [m_i_i, nI_1]
        refine ⟨fun c1 => ⟨fun c2 => ?_, fun c2 => ⟨fun c3 => ?_, fun c3 => ?_⟩⟩, fun c1 => ⟨fun c2 => ?_, fun c2 => ⟨fun c3 => ?_, fun c3 => ?_⟩⟩⟩
        · rw [sel_f (Int32.not_lt.mpr c1), sel_f (fun q => Int32.not_lt.mpr q c2)] at ih
          exact ih
        · exact absurd (i_trich c2 c3) (Int32.not_lt.mpr c1)
        · rw [sel_f (Int32.not_lt.mpr c1), sel_t (Int32.not_lt.mp c2), bi_t c3] at ih
          exact ih
        · exact absurd (Int32.le_of_lt c2) c1
        · rw [sel_t (Int32.not_le.mp c1), sel_t (Int32.not_lt.mp c2), bi_f c3] at ih
          exact ih
        · exact absurd (by rw [c3]; exact Int32.le_refl _) c1
      refine k_X2_choose_45 ha1 ⟨fun c => ?_, fun c => t84 1 (by rw [if_pos c])⟩
      rcases hin with q | ⟨i, hi, ei⟩
      · exact absurd q c
      · refine ⟨vp_nI (by omega) (by decide), by rw [ei]; exact vp_nI (by omega) (by decide), fun r3 e3 => ?_⟩
        refine t84 r3 ?_
        rw [if_neg c, e3, ei, ix_nI (by omega), ix_nI (by omega), c_cmp_wv (by omega) (by omega), hwv, hpm]
    refine k_X2_choose_7 ha1 ?_
    rw [hwv, hoff, hn, hn0]
    simp only [ix_nI (show j < 2 ^ 31 by omega)]
    refine ⟨fun c => ?_, fun c => ⟨⟨nI_pos' (by omega), nI_lt hj (by omega)⟩, hp, hw, fun r3 e3 => ⟨fun c1 => ?_, fun c1 => ⟨fun c2 => ?_, fun c2 => ?_⟩⟩⟩⟩
    · rw [nI_leI (by omega) (by omega)] at c
      omega
    · exact tail (fun q => q.1 (by rw [← e3]; exact c1))
    · exact tail (fun q => q.2 (by rw [← e3]; exact c2))
    · rw [sel_t ⟨by rw [← e3]; exact c1, by rw [← e3]; exact c2⟩] at ih
      rw [nI_1]
      exact ih

/-! BetweenLaws$Court.governor(LBetweenLaws$Piece;I)I -/
abbrev rm_X2_governor : Room := { frames := 3, cells := 0, slots := 0, locals := 76 }
abbrev B_X2_governor (G : GT) (K : Int32 → Mem → Prop) := BT G (Rep G) RX2 "governor" cX2_governor 5 (some .int) rm_X2_governor K 0 0
abbrev T_X2_governor (G : GT) (as : List Value) (M : Mem) (K : Int32 → Mem → Prop) : Prop := MT G (Rep G) yX2_governor cX2_governor 5 (some .int) rm_X2_governor as M K
theorem e_X2_governor {G : GT} {K : Int32 → Mem → Prop} {M : Mem} {a1 : Nat} {v2 : Int32} (h : B_X2_governor G K 0 [(0, .ref 167), (1, .ref a1), (2, .int v2)] [] M) : T_X2_governor G [.ref 167, .ref a1, .int v2] M K := MT.of (by decide +kernel) rfl rfl (Nat.le_of_ble_eq_true rfl) rfl h
set_option maxRecDepth 4000 in
theorem k_X2_governor_0 {G : GT} {K : Int32 → Mem → Prop} {M : Mem} {a1 : Nat} {v2 : Int32} (ha1 : PieceC a1) (h : (((m_i M 167 1 0).1 a1 0) ≤ v2 → (WOk (wv (m_i M 167 1 0))) ∧ (∀ r3 : Int32, r3 = (w_undone (wv (m_i M 167 1 0)) v2) → (a1 < 60 ∨ a1 = 174) ∧ (WOk (wv (m_i M 167 1 0))) ∧ (∀ r4 : Int32, r4 = ((w_choose (wv (m_i M 167 1 0)) a1 v2 r3 0 ((m_i M 167 1 0).1 167 1) (w_n (wv (m_i M 167 1 0)))).1) → ∀ N4 : Mem, N4 = (m_i (m_i M 167 1 0) 167 1 (w_choose (wv (m_i M 167 1 0)) a1 v2 r3 0 ((m_i M 167 1 0).1 167 1) (w_n (wv (m_i M 167 1 0)))).2) → (¬ r4 = (-6) → K r4 N4) ∧ (r4 = (-6) → (¬ (N4.1 8 6) = 1 → K r4 N4) ∧ ((N4.1 8 6) = 1 → (a1 < 60 ∨ a1 = 174) ∧ (WOk (wv N4)) ∧ (∀ r9 : Int32, r9 = ((w_choose (wv N4) a1 (N4.1 a1 0) r3 5 (N4.1 167 1) (w_n (wv N4))).1) → ∀ N9 : Mem, N9 = (m_i N4 167 1 (w_choose (wv N4) a1 (N4.1 a1 0) r3 5 (N4.1 167 1) (w_n (wv N4))).2) → K r9 N9)))))) ∧ (¬ ((m_i M 167 1 0).1 a1 0) ≤ v2 → K (-6) (m_i M 167 1 0))) : B_X2_governor G K 0 [(0, .ref 167), (1, .ref a1), (2, .int v2)] [] M := by
  refine BT.aload_n dX2_governor_0 rfl 0 rfl ?_
  refine BT.iconst (v := 0) dX2_governor_1 (by decide) ?_
  refine BT.putZ fl_X2_51 ft_2_1 ho_167 rfl (Or.inl rfl) dX2_governor_2 ?_
  refine BT.iload_n dX2_governor_5 rfl 2 rfl ?_
  refine BT.aload_n dX2_governor_6 rfl 1 rfl ?_
  refine BT.getI fl_X2_34 ha1 rfl dX2_governor_7 ?_
  refine BT.icmp_ge (tgt := 16) dX2_governor_10 (by decide) (fun c => ?_) (fun c => ?_)
  · have c1 := c
    refine BT.aload_n dX2_governor_16 rfl 0 rfl ?_
    refine BT.getR (r := 8) fl_X2_9 ho_167 rfl dX2_governor_17 ?_
    refine BT.iload_n dX2_governor_20 rfl 2 rfl ?_
    refine BT.mcVr [.int v2] (t_X9_undone (h.1 c1).1 ⟨rfl, rfl⟩) mb_X9_undone mv_X9_undone lk_X2_55 rfl (by decide) rfl (recvRep ho_8 rfl) (Nat.le_of_ble_eq_true rfl) dX2_governor_21 (fun r3 e3 => ?_)
    show B_X2_governor G K 24 [(0, .ref 167), (1, .ref a1), (2, .int v2)] [.int r3] (m_i M 167 1 0)
    refine BT.istore_n (L' := [(3, .int r3), (0, .ref 167), (1, .ref a1), (2, .int v2)]) dX2_governor_24 rfl (by decide) rfl ?_
    refine BT.aload_n dX2_governor_25 rfl 1 rfl ?_
    refine BT.aload_n dX2_governor_26 rfl 2 rfl ?_
    refine BT.iload_n dX2_governor_27 rfl 3 rfl ?_
    refine BT.iload_n dX2_governor_28 rfl 0 rfl ?_
    refine BT.iconst (v := 0) dX2_governor_29 (by decide) ?_
    refine BT.mcVn [.ref a1, .int v2, .int r3, .int 0] (t_X2_choose ha1 ((h.1 c1).2 r3 e3).1 ((h.1 c1).2 r3 e3).2.1 ⟨rfl, rfl⟩) mb_X2_choose mv_X2_choose lk_X2_58 rfl (by decide) rfl (recvRep ho_167 rfl) (Nat.le_of_ble_eq_true rfl) dX2_governor_30 (fun r4 e4 N4 g4 => ?_)
    show B_X2_governor G K 33 [(3, .int r3), (0, .ref 167), (1, .ref a1), (2, .int v2)] [.int r4] N4
    refine BT.istore (L' := [(4, .int r4), (3, .int r3), (0, .ref 167), (1, .ref a1), (2, .int v2)]) dX2_governor_33 (by decide) rfl ?_
    refine BT.iload dX2_governor_35 0 rfl ?_
    refine BT.bipush (v := (-6)) dX2_governor_37 (by decide) ?_
    refine BT.icmp_ne (tgt := 66) dX2_governor_39 (by decide) (fun c => ?_) (fun c => ?_)
    · have c5 := c
      refine BT.iload dX2_governor_66 0 rfl ?_
      exact BT.iret dX2_governor_68 rfl (by decide) (by decide) ((((h.1 c1).2 r3 e3).2.2 r4 e4 N4 g4).1 c5)
    · have c6 := c
      refine BT.aload_n dX2_governor_42 rfl 2 rfl ?_
      refine BT.getR (r := 8) fl_X2_9 ho_167 rfl dX2_governor_43 ?_
      refine BT.getI fl_X2_62 ho_8 rfl dX2_governor_46 ?_
      refine BT.iconst (v := 1) dX2_governor_49 (by decide) ?_
      refine BT.icmp_ne (tgt := 66) dX2_governor_50 (by decide) (fun c => ?_) (fun c => ?_)
      · have c7 := c
        refine BT.iload dX2_governor_66 0 rfl ?_
        exact BT.iret dX2_governor_68 rfl (by decide) (by decide) (((((h.1 c1).2 r3 e3).2.2 r4 e4 N4 g4).2 c6).1 c7)
      · have c8 := c
        refine BT.aload_n dX2_governor_53 rfl 2 rfl ?_
        refine BT.aload_n dX2_governor_54 rfl 3 rfl ?_
        refine BT.aload_n dX2_governor_55 rfl 3 rfl ?_
        refine BT.getI fl_X2_34 ha1 rfl dX2_governor_56 ?_
        refine BT.iload_n dX2_governor_59 rfl 1 rfl ?_
        refine BT.iconst (v := 5) dX2_governor_60 (by decide) ?_
        refine BT.mcVn [.ref a1, .int (N4.1 a1 0), .int r3, .int 5] (t_X2_choose ha1 (((((h.1 c1).2 r3 e3).2.2 r4 e4 N4 g4).2 c6).2 c8).1 (((((h.1 c1).2 r3 e3).2.2 r4 e4 N4 g4).2 c6).2 c8).2.1 ⟨rfl, rfl⟩) mb_X2_choose mv_X2_choose lk_X2_58 rfl (by decide) rfl (recvRep ho_167 rfl) (Nat.le_of_ble_eq_true rfl) dX2_governor_61 (fun r9 e9 N9 g9 => ?_)
        show B_X2_governor G K 64 [(4, .int r4), (3, .int r3), (0, .ref 167), (1, .ref a1), (2, .int v2)] [.int r9] N9
        refine BT.istore (L' := [(4, .int r9), (3, .int r3), (0, .ref 167), (1, .ref a1), (2, .int v2)]) dX2_governor_64 (by decide) rfl ?_
        refine BT.iload dX2_governor_66 0 rfl ?_
        exact BT.iret dX2_governor_68 rfl (by decide) (by decide) ((((((h.1 c1).2 r3 e3).2.2 r4 e4 N4 g4).2 c6).2 c8).2.2 r9 e9 N9 g9)
  · have c2 := c
    refine BT.bipush (v := (-6)) dX2_governor_13 (by decide) ?_
    exact BT.iret dX2_governor_15 rfl (by decide) (by decide) (h.2 c2)

theorem t0_X2_governor {G : GT} {K : Int32 → Mem → Prop} {M : Mem} {a1 : Nat} {v2 : Int32} (ha1 : PieceC a1) (hp : a1 < 60 ∨ a1 = 174) (hw : WOk (wv M)) (h : K (w_gov (wv M) a1 v2) (m_i M 167 1 (w_gov2 (wv M) a1 v2).2)) : T_X2_governor G [.ref 167, .ref a1, .int v2] M K := by
  refine e_X2_governor (k_X2_governor_0 ha1 ?_)
  have hwv : ∀ t, wv (m_i M 167 1 t) = wv M := fun t => wv_mi (by decide)
  have hpm : ∀ t k, (m_i M 167 1 t).1 a1 k = wv M a1 k := fun t k => by rw [m_i_ne (by omega), wv_at hp]
  unfold w_gov w_gov2 at h
  simp only [hwv, hpm, m_i_at, m_i_i]
  refine ⟨fun c1 => ⟨hw, fun r3 e3 => ⟨hp, hw, fun r4 e4 N4 e5 => ⟨fun c2 => ?_, fun c2 => ⟨fun c3 => ?_, fun c3 => ⟨hp, ?_, fun r9 e9 N9 e10 => ?_⟩⟩⟩⟩⟩, fun c1 => ?_⟩
  · rw [sel_f (Int32.not_lt.mpr c1)] at h
    subst e3
    rw [sel_f (fun q => c2 (e4.trans q.1)), ← e4, ← e5] at h
    exact h
  · rw [sel_f (Int32.not_lt.mpr c1)] at h
    subst e3
    rw [sel_f (fun q => c3 (by rw [e5, m_i_ne (by decide), ← wv_at (by decide)]; exact q.2)), ← e4, ← e5] at h
    exact h
  · rw [e5, hwv]; exact hw
  · subst e3
    subst e5
    rw [hwv, hpm, m_i_at] at e9 e10
    rw [m_i_i] at e10
    have hb : wv M 8 6 = 1 := by rw [m_i_ne (by decide)] at c3; rw [wv_at (by decide)]; exact c3
    rw [sel_f (Int32.not_lt.mpr c1), sel_t ⟨e4 ▸ c2, hb⟩, ← e9, ← e10] at h
    exact h
  · rw [sel_t (Int32.not_le.mp c1)] at h
    exact h
theorem t_X2_governor {G : GT} {K : Int32 → Mem → Prop} {M : Mem} {a1 : Nat} {v2 : Int32} (ha1 : PieceC a1) (hp : a1 < 60 ∨ a1 = 174) (hw : WOk (wv M)) (h : ∀ N, Scr M N ∧ N.1 167 1 = (w_gov2 (wv M) a1 v2).2 → K (w_gov (wv M) a1 v2) N) : T_X2_governor G [.ref 167, .ref a1, .int v2] M K :=
  t0_X2_governor ha1 hp hw (h _ ⟨Scr.gov rfl, m_i_at⟩)

