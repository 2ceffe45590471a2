/-! ===== 12.court ===== -/
theorem c_gift_wv {M : Mem} {c : Nat} {m : Int32} (h : c + 3 < 60) : c_gift M.1 c m = c_gift (wv M) c m := by
  unfold c_gift
  rw [wv_at (by omega)]
theorem c_weight_wv {M : Mem} {c : Nat} {m : Int32} (h : c + 4 < 60) : c_weight M.1 c m = c_weight (wv M) c m := by
  unfold c_weight
  rw [wv_at (by omega)]
theorem c_reach_wv {M : Mem} {c p : Nat} (h : c < 60) (hp : p < 60 ∨ p = 174) : c_reach M.1 c p = c_reach (wv M) c p := by
  have e1 : ∀ k, wv M c k = M.1 c k := fun k => wv_at (by omega)
  have e2 : ∀ k, wv M p k = M.1 p k := fun k => wv_at hp
  unfold c_reach
  simp only [e1, e2]
theorem c_dayOn_wv {M : Mem} {p : Nat} {d : Int32} (hp : p < 60 ∨ p = 174) : c_dayOn M.1 p d = c_dayOn (wv M) p d := by
  unfold c_dayOn
  rw [wv_at hp]
noncomputable def w_obst (W : WT) (l p : Nat) (day gone : Int32) : Int32 :=
  sel (¬ inF W l day) 1 (sel (¬ ((gone >>> (nI l &&& 31)) &&& 1) = 0) 2 (sel (day < W p 0) 3 (sel (c_gift W (10 + 5 * l) (W p 3) = -6) 4 (sel (c_reach W (10 + 5 * l) p) 0 5))))
noncomputable def c_cmp (W : WT) (a b : Nat) (marks : Int32) : Int32 :=
  sel (W 8 5 = 0) (sel (W a 0 - W b 0 = 0) (c_weight W a marks - c_weight W b marks) (W a 0 - W b 0)) (sel (c_weight W a marks - c_weight W b marks = 0) (W a 0 - W b 0) (c_weight W a marks - c_weight W b marks))
theorem c_cmp_wv {M : Mem} {a b : Nat} {m : Int32} (ha : a + 4 < 60) (hb : b + 4 < 60) : c_cmp M.1 a b m = c_cmp (wv M) a b m := by
  unfold c_cmp
  rw [wv_at (by decide), wv_at (by omega), wv_at (by omega), c_weight_wv ha, c_weight_wv hb]
noncomputable def w_choose (W : WT) (p : Nat) (day gone allowed t0 : Int32) : Nat → Int32 × Int32
  | 0 => (-6, t0)
  | l + 1 =>
    sel (¬ w_obst W l p day gone = 0 ∧ ¬ w_obst W l p day gone = allowed) (w_choose W p day gone allowed t0 l)
      (sel (0 < (if (w_choose W p day gone allowed t0 l).1 = -6 then 1 else c_cmp W (10 + 5 * l) (10 + 5 * Int32.toNatClampNeg (w_choose W p day gone allowed t0 l).1) (W p 3))) (nI l) (w_choose W p day gone allowed t0 l).1,
       sel (0 ≤ (if (w_choose W p day gone allowed t0 l).1 = -6 then 1 else c_cmp W (10 + 5 * l) (10 + 5 * Int32.toNatClampNeg (w_choose W p day gone allowed t0 l).1) (W p 3))) (bi ((if (w_choose W p day gone allowed t0 l).1 = -6 then 1 else c_cmp W (10 + 5 * l) (10 + 5 * Int32.toNatClampNeg (w_choose W p day gone allowed t0 l).1) (W p 3)) = 0)) (w_choose W p day gone allowed t0 l).2)
/-- what was chosen is none, or a law that was looked at -/
theorem w_choose_in (W : WT) (p : Nat) (day gone allowed t0 : Int32) : ∀ l, (w_choose W p day gone allowed t0 l).1 = -6 ∨ ∃ j, j < l ∧ (w_choose W p day gone allowed t0 l).1 = nI j
  | 0 => Or.inl rfl
  | l + 1 => by
    have ih := w_choose_in W p day gone allowed t0 l
    have up : ∀ x : Int32, (x = -6 ∨ ∃ j, j < l ∧ x = nI j) → (x = -6 ∨ ∃ j, j < l + 1 ∧ x = nI j) := fun x h => h.imp id (fun ⟨j, h1, h2⟩ => ⟨j, by omega, h2⟩)
    unfold w_choose
    by_cases h1 : ¬ w_obst W l p day gone = 0 ∧ ¬ w_obst W l p day gone = allowed
    · rw [sel_t h1]; exact up _ ih
    · rw [sel_f h1]
      show sel _ _ _ = -6 ∨ ∃ j, j < l + 1 ∧ sel _ _ _ = nI j
      by_cases h2 : 0 < (if (w_choose W p day gone allowed t0 l).1 = -6 then (1 : Int32) else c_cmp W (10 + 5 * l) (10 + 5 * Int32.toNatClampNeg (w_choose W p day gone allowed t0 l).1) (W p 3))
      · rw [sel_t h2]; exact Or.inr ⟨l, by omega, rfl⟩
      · rw [sel_f h2]; exact up _ ih
noncomputable def w_gov2 (W : WT) (p : Nat) (day : Int32) : Int32 × Int32 :=
  sel (day < W p 0) (-6, 0)
    (sel ((w_choose W p day (w_undone W day) 0 0 (w_n W)).1 = -6 ∧ W 8 6 = 1) (w_choose W p (W p 0) (w_undone W day) 5 (w_choose W p day (w_undone W day) 0 0 (w_n W)).2 (w_n W)) (w_choose W p day (w_undone W day) 0 0 (w_n W)))
noncomputable def w_gov (W : WT) (p : Nat) (day : Int32) : Int32 := (w_gov2 W p day).1
theorem w_gov_in (W : WT) (p : Nat) (day : Int32) : w_gov W p day = -6 ∨ ∃ j, j < w_n W ∧ w_gov W p day = nI j := by
  unfold w_gov w_gov2
  by_cases h1 : day < W p 0
  · rw [sel_t h1]; exact Or.inl rfl
  · rw [sel_f h1]
    by_cases h2 : (w_choose W p day (w_undone W day) 0 0 (w_n W)).1 = -6 ∧ W 8 6 = 1
    · rw [sel_t h2]; exact w_choose_in _ _ _ _ _ _ _
    · rw [sel_f h2]; exact w_choose_in _ _ _ _ _ _ _

/-! BetweenLaws$Court.obstacle(ILBetweenLaws$Piece;II)I -/
abbrev rm_X2_obstacle : Room := { frames := 1, cells := 0, slots := 0, locals := 23 }
abbrev B_X2_obstacle (G : GT) (K : Int32 → Mem → Prop) := BT G (Rep G) RX2 "obstacle" cX2_obstacle 6 (some .int) rm_X2_obstacle K 0 0
abbrev T_X2_obstacle (G : GT) (as : List Value) (M : Mem) (K : Int32 → Mem → Prop) : Prop := MT G (Rep G) yX2_obstacle cX2_obstacle 6 (some .int) rm_X2_obstacle as M K
theorem e_X2_obstacle {G : GT} {K : Int32 → Mem → Prop} {M : Mem} {v1 : Int32} {a2 : Nat} {v3 : Int32} {v4 : Int32} (h : B_X2_obstacle G K 0 [(0, .ref 167), (1, .int v1), (2, .ref a2), (3, .int v3), (4, .int v4)] [] M) : T_X2_obstacle G [.ref 167, .int v1, .ref a2, .int v3, .int v4] M K := MT.of (by decide +kernel) rfl rfl (Nat.le_of_ble_eq_true rfl) rfl h
set_option maxRecDepth 4000 in
theorem k_X2_obstacle_0 {G : GT} {K : Int32 → Mem → Prop} {M : Mem} {v1 : Int32} {a2 : Nat} {v3 : Int32} {v4 : Int32} (ha2 : PieceC a2) (h : (((0 : Int32) ≤ v1 ∧ v1 < (M.1 8 1)) → (vp_in v1 8) ∧ (((M.1 (10 + 5 * (Int32.toNatClampNeg v1)) 0) ≤ v3 ∧ v3 < (M.1 (10 + 5 * (Int32.toNatClampNeg v1)) 1)) → (((v4 >>> (v1 &&& 31)) &&& 1) = 0 → ((M.1 a2 0) ≤ v3 → (¬ (c_gift M.1 (10 + 5 * (Int32.toNatClampNeg v1)) (M.1 a2 3)) = (-6) → (¬ (c_reach M.1 (10 + 5 * (Int32.toNatClampNeg v1)) a2) → K 5 M) ∧ ((c_reach M.1 (10 + 5 * (Int32.toNatClampNeg v1)) a2) → K 0 M)) ∧ ((c_gift M.1 (10 + 5 * (Int32.toNatClampNeg v1)) (M.1 a2 3)) = (-6) → K 4 M)) ∧ (¬ (M.1 a2 0) ≤ v3 → K 3 M)) ∧ (¬ ((v4 >>> (v1 &&& 31)) &&& 1) = 0 → K 2 M)) ∧ (¬ ((M.1 (10 + 5 * (Int32.toNatClampNeg v1)) 0) ≤ v3 ∧ v3 < (M.1 (10 + 5 * (Int32.toNatClampNeg v1)) 1)) → K 1 M)) ∧ (¬ ((0 : Int32) ≤ v1 ∧ v1 < (M.1 8 1)) → K 1 M)) : B_X2_obstacle G K 0 [(0, .ref 167), (1, .int v1), (2, .ref a2), (3, .int v3), (4, .int v4)] [] M := by
  refine BT.aload_n dX2_obstacle_0 rfl 0 rfl ?_
  refine BT.getR (r := 8) fl_X2_9 ho_167 rfl dX2_obstacle_1 ?_
  refine BT.iload_n dX2_obstacle_4 rfl 1 rfl ?_
  refine BT.mcV [.int v1] (t_X9_hasLaw  ?_) mb_X9_hasLaw mv_X9_hasLaw lk_X2_19 rfl (by decide) rfl (recvRep ho_8 rfl) (Nat.le_of_ble_eq_true rfl) dX2_obstacle_5
  show B_X2_obstacle G K 8 [(0, .ref 167), (1, .int v1), (2, .ref a2), (3, .int v3), (4, .int v4)] [.int (bi ((0 : Int32) ≤ v1 ∧ v1 < (M.1 8 1)))] M
  refine BT.if_ne (tgt := 13) dX2_obstacle_8 (by decide) (fun c => ?_) (fun c => ?_)
  · have c1 := bi_ne0.mp c
    refine BT.aload_n dX2_obstacle_13 rfl 0 rfl ?_
    refine BT.getR (r := 8) fl_X2_9 ho_167 rfl dX2_obstacle_14 ?_
    refine BT.getR (r := 9) fl_X2_25 ho_8 rfl dX2_obstacle_17 ?_
    refine BT.iload_n dX2_obstacle_20 rfl 1 rfl ?_
    refine BT.aald ha_9 (by decide) (h.1 c1).1 dX2_obstacle_21 ?_
    refine BT.astore (L' := [(5, .ref (10 + 5 * (Int32.toNatClampNeg v1))), (0, .ref 167), (1, .int v1), (2, .ref a2), (3, .int v3), (4, .int v4)]) dX2_obstacle_22 (by decide) rfl ?_
    refine BT.aload dX2_obstacle_24 0 rfl ?_
    refine BT.iload_n dX2_obstacle_26 rfl 4 rfl ?_
    refine BT.mcV [.int v3] (t_X3_isInForce (lawC8 (h.1 c1).1) ?_) mb_X3_isInForce mv_X3_isInForce lk_X2_29 rfl (by decide) rfl (recvRep (lawC8 (h.1 c1).1).1 rfl) (Nat.le_of_ble_eq_true rfl) dX2_obstacle_27
    show B_X2_obstacle G K 30 [(5, .ref (10 + 5 * (Int32.toNatClampNeg v1))), (0, .ref 167), (1, .int v1), (2, .ref a2), (3, .int v3), (4, .int v4)] [.int (bi ((M.1 (10 + 5 * (Int32.toNatClampNeg v1)) 0) ≤ v3 ∧ v3 < (M.1 (10 + 5 * (Int32.toNatClampNeg v1)) 1)))] M
    refine BT.if_ne (tgt := 35) dX2_obstacle_30 (by decide) (fun c => ?_) (fun c => ?_)
    · have c3 := bi_ne0.mp c
      refine BT.iload dX2_obstacle_35 5 rfl ?_
      refine BT.iload_n dX2_obstacle_37 rfl 2 rfl ?_
      refine BT.ishr dX2_obstacle_38 ?_
      refine BT.iconst (v := 1) dX2_obstacle_39 (by decide) ?_
      refine BT.iand dX2_obstacle_40 ?_
      refine BT.if_eq (tgt := 46) dX2_obstacle_41 (by decide) (fun c => ?_) (fun c => ?_)
      · have c5 := c
        refine BT.iload_n dX2_obstacle_46 rfl 4 rfl ?_
        refine BT.aload_n dX2_obstacle_47 rfl 3 rfl ?_
        refine BT.getI fl_X2_34 ha2 rfl dX2_obstacle_48 ?_
        refine BT.icmp_ge (tgt := 56) dX2_obstacle_51 (by decide) (fun c => ?_) (fun c => ?_)
        · have c7 := c
          refine BT.aload dX2_obstacle_56 0 rfl ?_
          refine BT.aload_n dX2_obstacle_58 rfl 3 rfl ?_
          refine BT.getI fl_X2_40 ha2 rfl dX2_obstacle_59 ?_
          refine BT.mcV [.int (M.1 a2 3)] (t_X3_giftFor (lawC8 (h.1 c1).1) ?_) mb_X3_giftFor mv_X3_giftFor lk_X2_43 rfl (by decide) rfl (recvRep (lawC8 (h.1 c1).1).1 rfl) (Nat.le_of_ble_eq_true rfl) dX2_obstacle_62
          show B_X2_obstacle G K 65 [(5, .ref (10 + 5 * (Int32.toNatClampNeg v1))), (0, .ref 167), (1, .int v1), (2, .ref a2), (3, .int v3), (4, .int v4)] [.int (c_gift M.1 (10 + 5 * (Int32.toNatClampNeg v1)) (M.1 a2 3))] M
          refine BT.bipush (v := (-6)) dX2_obstacle_65 (by decide) ?_
          refine BT.icmp_ne (tgt := 72) dX2_obstacle_67 (by decide) (fun c => ?_) (fun c => ?_)
          · have c9 := c
            refine BT.aload dX2_obstacle_72 0 rfl ?_
            refine BT.aload_n dX2_obstacle_74 rfl 3 rfl ?_
            refine BT.mcV [.ref a2] (t_X3_reachesByTime (lawC8 (h.1 c1).1) ha2 ?_) mb_X3_reachesByTime mv_X3_reachesByTime lk_X2_47 rfl (by decide) rfl (recvRep (lawC8 (h.1 c1).1).1 rfl) (Nat.le_of_ble_eq_true rfl) dX2_obstacle_75
            show B_X2_obstacle G K 78 [(5, .ref (10 + 5 * (Int32.toNatClampNeg v1))), (0, .ref 167), (1, .int v1), (2, .ref a2), (3, .int v3), (4, .int v4)] [.int (bi (c_reach M.1 (10 + 5 * (Int32.toNatClampNeg v1)) a2))] M
            refine BT.if_eq (tgt := 85) dX2_obstacle_78 (by decide) (fun c => ?_) (fun c => ?_)
            · have c11 := bi_eq0.mp c
              refine BT.iconst (v := 5) dX2_obstacle_85 (by decide) ?_
              exact BT.iret dX2_obstacle_86 rfl (by decide) (by decide) ((((((h.1 c1).2.1 c3).1 c5).1 c7).1 c9).1 c11)
            · have c12 := bi_ne0.mp c
              refine BT.iconst (v := 0) dX2_obstacle_81 (by decide) ?_
              refine BT.goto (tgt := 86) dX2_obstacle_82 (by decide) ?_
              exact BT.iret dX2_obstacle_86 rfl (by decide) (by decide) ((((((h.1 c1).2.1 c3).1 c5).1 c7).1 c9).2 c12)
          · have c10 := c
            refine BT.iconst (v := 4) dX2_obstacle_70 (by decide) ?_
            exact BT.iret dX2_obstacle_71 rfl (by decide) (by decide) (((((h.1 c1).2.1 c3).1 c5).1 c7).2 c10)
        · have c8 := c
          refine BT.iconst (v := 3) dX2_obstacle_54 (by decide) ?_
          exact BT.iret dX2_obstacle_55 rfl (by decide) (by decide) ((((h.1 c1).2.1 c3).1 c5).2 c8)
      · have c6 := c
        refine BT.iconst (v := 2) dX2_obstacle_44 (by decide) ?_
        exact BT.iret dX2_obstacle_45 rfl (by decide) (by decide) (((h.1 c1).2.1 c3).2 c6)
    · have c4 := bi_eq0.mp c
      refine BT.iconst (v := 1) dX2_obstacle_33 (by decide) ?_
      exact BT.iret dX2_obstacle_34 rfl (by decide) (by decide) ((h.1 c1).2.2 c4)
  · have c2 := bi_eq0.mp c
    refine BT.iconst (v := 1) dX2_obstacle_11 (by decide) ?_
    exact BT.iret dX2_obstacle_12 rfl (by decide) (by decide) (h.2 c2)

theorem t_X2_obstacle {G : GT} {K : Int32 → Mem → Prop} {M : Mem} {v1 : Int32} {a2 : Nat} {v3 v4 : Int32} (ha2 : PieceC a2) (hl : (0 : Int32) ≤ v1 ∧ v1 < wv M 8 1) (hp : a2 < 60 ∨ a2 = 174) (hw : WOk (wv M)) (h : K (w_obst (wv M) (Int32.toNatClampNeg v1) a2 v3 v4) M) : T_X2_obstacle G [.ref 167, .int v1, .ref a2, .int v3, .int v4] M K := by
  obtain ⟨⟨hn, h8⟩, -⟩ := hw
  obtain ⟨j, hj, rfl⟩ := i_nat (show w_n (wv M) < 2 ^ 31 by omega) hl.1 (by rw [← hn]; exact hl.2)
  rw [wv_at (by decide)] at hl
  rw [ix_nI (by omega)] at h
  have e1 : ∀ k, wv M (10 + 5 * j) k = M.1 (10 + 5 * j) k := fun k => wv_at (by omega)
  have e2 : ∀ k, wv M a2 k = M.1 a2 k := fun k => wv_at hp
  refine e_X2_obstacle (k_X2_obstacle_0 ha2 ?_)
  simp only [ix_nI (show j < 2 ^ 31 by omega), c_gift_wv (M := M) (show 10 + 5 * j + 3 < 60 by omega), c_reach_wv (M := M) (show 10 + 5 * j < 60 by omega) hp, ← e1, ← e2]
  unfold w_obst at h
  refine ⟨fun _ => ⟨vp_nI (by omega) (by decide), fun c1 => ⟨fun c2 => ⟨fun c3 => ⟨fun c4 => ⟨fun c5 => ?_, fun c5 => ?_⟩, fun c4 => ?_⟩, fun c3 => ?_⟩, fun c2 => ?_⟩, fun c1 => ?_⟩, fun c => absurd hl c⟩
  · rwa [sel_f (not_not_intro c1), sel_f (not_not_intro c2), sel_f (Int32.not_lt.mpr c3), sel_f c4, sel_f c5] at h
  · rwa [sel_f (not_not_intro c1), sel_f (not_not_intro c2), sel_f (Int32.not_lt.mpr c3), sel_f c4, sel_t c5] at h
  · rwa [sel_f (not_not_intro c1), sel_f (not_not_intro c2), sel_f (Int32.not_lt.mpr c3), sel_t c4] at h
  · rwa [sel_f (not_not_intro c1), sel_f (not_not_intro c2), sel_t (Int32.not_le.mp c3)] at h
  · rwa [sel_f (not_not_intro c1), sel_t c2] at h
  · rwa [sel_t c1] at h

/-! BetweenLaws$Court.compare(LBetweenLaws$Law;LBetweenLaws$Law;I)I -/
abbrev rm_X2_compare : Room := { frames := 1, cells := 0, slots := 0, locals := 21 }
abbrev B_X2_compare (G : GT) (K : Int32 → Mem → Prop) := BT G (Rep G) RX2 "compare" cX2_compare 6 (some .int) rm_X2_compare K 0 0
abbrev T_X2_compare (G : GT) (as : List Value) (M : Mem) (K : Int32 → Mem → Prop) : Prop := MT G (Rep G) yX2_compare cX2_compare 6 (some .int) rm_X2_compare as M K
theorem e_X2_compare {G : GT} {K : Int32 → Mem → Prop} {M : Mem} {a1 : Nat} {a2 : Nat} {v3 : Int32} (h : B_X2_compare G K 0 [(0, .ref 167), (1, .ref a1), (2, .ref a2), (3, .int v3)] [] M) : T_X2_compare G [.ref 167, .ref a1, .ref a2, .int v3] M K := MT.of (by decide +kernel) rfl rfl (Nat.le_of_ble_eq_true rfl) rfl h
set_option maxRecDepth 4000 in
theorem k_X2_compare_0 {G : GT} {K : Int32 → Mem → Prop} {M : Mem} {a1 : Nat} {a2 : Nat} {v3 : Int32} (ha1 : LawC a1) (ha2 : LawC a2) (h : (¬ (M.1 8 5) = 0 → (((c_weight M.1 a1 v3) - (c_weight M.1 a2 v3)) = 0 → K ((M.1 a1 0) - (M.1 a2 0)) M) ∧ (¬ ((c_weight M.1 a1 v3) - (c_weight M.1 a2 v3)) = 0 → K ((c_weight M.1 a1 v3) - (c_weight M.1 a2 v3)) M)) ∧ ((M.1 8 5) = 0 → (((M.1 a1 0) - (M.1 a2 0)) = 0 → K ((c_weight M.1 a1 v3) - (c_weight M.1 a2 v3)) M) ∧ (¬ ((M.1 a1 0) - (M.1 a2 0)) = 0 → K ((M.1 a1 0) - (M.1 a2 0)) M))) : B_X2_compare G K 0 [(0, .ref 167), (1, .ref a1), (2, .ref a2), (3, .int v3)] [] M := by
  refine BT.aload_n dX2_compare_0 rfl 1 rfl ?_
  refine BT.getI fl_X2_76 ha1.1 rfl dX2_compare_1 ?_
  refine BT.aload_n dX2_compare_4 rfl 2 rfl ?_
  refine BT.getI fl_X2_76 ha2.1 rfl dX2_compare_5 ?_
  refine BT.isub dX2_compare_8 ?_
  refine BT.istore (L' := [(4, .int ((M.1 a1 0) - (M.1 a2 0))), (0, .ref 167), (1, .ref a1), (2, .ref a2), (3, .int v3)]) dX2_compare_9 (by decide) rfl ?_
  refine BT.aload_n dX2_compare_11 rfl 2 rfl ?_
  refine BT.iload_n dX2_compare_12 rfl 4 rfl ?_
  refine BT.mcV [.int v3] (t_X3_weightFor ha1 ?_) mb_X3_weightFor mv_X3_weightFor lk_X2_79 rfl (by decide) rfl (recvRep ha1.1 rfl) (Nat.le_of_ble_eq_true rfl) dX2_compare_13
  show B_X2_compare G K 16 [(4, .int ((M.1 a1 0) - (M.1 a2 0))), (0, .ref 167), (1, .ref a1), (2, .ref a2), (3, .int v3)] [.int (c_weight M.1 a1 v3)] M
  refine BT.aload_n dX2_compare_16 rfl 3 rfl ?_
  refine BT.iload_n dX2_compare_17 rfl 4 rfl ?_
  refine BT.mcV [.int v3] (t_X3_weightFor ha2 ?_) mb_X3_weightFor mv_X3_weightFor lk_X2_79 rfl (by decide) rfl (recvRep ha2.1 rfl) (Nat.le_of_ble_eq_true rfl) dX2_compare_18
  show B_X2_compare G K 21 [(4, .int ((M.1 a1 0) - (M.1 a2 0))), (0, .ref 167), (1, .ref a1), (2, .ref a2), (3, .int v3)] [.int (c_weight M.1 a2 v3), .int (c_weight M.1 a1 v3)] M
  refine BT.isub dX2_compare_21 ?_
  refine BT.istore (L' := [(5, .int ((c_weight M.1 a1 v3) - (c_weight M.1 a2 v3))), (4, .int ((M.1 a1 0) - (M.1 a2 0))), (0, .ref 167), (1, .ref a1), (2, .ref a2), (3, .int v3)]) dX2_compare_22 (by decide) rfl ?_
  refine BT.aload_n dX2_compare_24 rfl 2 rfl ?_
  refine BT.getR (r := 8) fl_X2_9 ho_167 rfl dX2_compare_25 ?_
  refine BT.getI fl_X2_82 ho_8 rfl dX2_compare_28 ?_
  refine BT.if_ne (tgt := 47) dX2_compare_31 (by decide) (fun c => ?_) (fun c => ?_)
  · have c1 := c
    refine BT.iload dX2_compare_47 0 rfl ?_
    refine BT.if_eq (tgt := 57) dX2_compare_49 (by decide) (fun c => ?_) (fun c => ?_)
    · have c3 := c
      refine BT.iload dX2_compare_57 1 rfl ?_
      exact BT.iret dX2_compare_59 rfl (by decide) (by decide) ((h.1 c1).1 c3)
    · have c4 := c
      refine BT.iload dX2_compare_52 0 rfl ?_
      refine BT.goto (tgt := 59) dX2_compare_54 (by decide) ?_
      exact BT.iret dX2_compare_59 rfl (by decide) (by decide) ((h.1 c1).2 c4)
  · have c2 := c
    refine BT.iload dX2_compare_34 1 rfl ?_
    refine BT.if_eq (tgt := 44) dX2_compare_36 (by decide) (fun c => ?_) (fun c => ?_)
    · have c5 := c
      refine BT.iload dX2_compare_44 0 rfl ?_
      exact BT.iret dX2_compare_46 rfl (by decide) (by decide) ((h.2 c2).1 c5)
    · have c6 := c
      refine BT.iload dX2_compare_39 1 rfl ?_
      refine BT.goto (tgt := 46) dX2_compare_41 (by decide) ?_
      exact BT.iret dX2_compare_46 rfl (by decide) (by decide) ((h.2 c2).2 c6)

theorem t_X2_compare {G : GT} {K : Int32 → Mem → Prop} {M : Mem} {a1 a2 : Nat} {v3 : Int32} (ha1 : LawC a1) (ha2 : LawC a2) (h : K (c_cmp M.1 a1 a2 v3) M) : T_X2_compare G [.ref 167, .ref a1, .ref a2, .int v3] M K := by
  refine e_X2_compare (k_X2_compare_0 ha1 ha2 ?_)
  unfold c_cmp at h
  refine ⟨fun c1 => ⟨fun c2 => ?_, fun c2 => ?_⟩, fun c1 => ⟨fun c2 => ?_, fun c2 => ?_⟩⟩
  · rwa [sel_f c1, sel_t c2] at h
  · rwa [sel_f c1, sel_f c2] at h
  · rwa [sel_t c1, sel_t c2] at h
  · rwa [sel_t c1, sel_f c2] at h

