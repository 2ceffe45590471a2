/-! ===== 14.court3 ===== -/
noncomputable def w_given (W : WT) (p : Nat) (day : Int32) : Int32 :=
  sel (W 8 7 = 0 ∨ w_fol9 W p (w_gov W p (c_dayOn W p day)) (c_dayOn W p day) < 0 ∨ ¬ ((0 : Int32) ≤ w_gov W p (c_dayOn W p day) ∧ w_gov W p (c_dayOn W p day) < W 8 1))
    (w_fol9 W p (w_gov W p (c_dayOn W p day)) (c_dayOn W p day))
    (sel (W (10 + 5 * Int32.toNatClampNeg (w_gov W p (c_dayOn W p day))) 0 ≤ W p 0 ∨ w_fol9 W p (w_gov W p (W p 0)) (W p 0) < 0)
      (w_fol9 W p (w_gov W p (c_dayOn W p day)) (c_dayOn W p day))
      (if w_fol9 W p (w_gov W p (W p 0)) (W p 0) < w_fol9 W p (w_gov W p (c_dayOn W p day)) (c_dayOn W p day) then w_fol9 W p (w_gov W p (W p 0)) (W p 0) else w_fol9 W p (w_gov W p (c_dayOn W p day)) (c_dayOn W p day)))
theorem w_choose_01 (W : WT) (p : Nat) (day gone allowed t0 : Int32) (h0 : t0 = 0 ∨ t0 = 1) : ∀ l, (w_choose W p day gone allowed t0 l).2 = 0 ∨ (w_choose W p day gone allowed t0 l).2 = 1
  | 0 => h0
  | l + 1 => by
    have ih := w_choose_01 W p day gone allowed t0 h0 l
    unfold w_choose
    by_cases h1 : ¬ w_obst W l p day gone = 0 ∧ ¬ w_obst W l p day gone = allowed
    · rw [sel_t h1]; exact ih
    · rw [sel_f h1]
      show sel _ _ _ = 0 ∨ sel _ _ _ = 1
      by_cases h2 : 0 ≤ (if (w_choose W p day gone allowed t0 l).1 = -6 then (1 : Int32) else c_cmp W (10 + 5 * l) (10 + 5 * Int32.toNatClampNeg (w_choose W p day gone allowed t0 l).1) (W p 3))
      · rw [sel_t h2]; exact bi_01
      · rw [sel_f h2]; exact ih
theorem w_gov2_01 (W : WT) (p : Nat) (day : Int32) : (w_gov2 W p day).2 = 0 ∨ (w_gov2 W p day).2 = 1 := by
  unfold w_gov2
  by_cases h1 : day < W p 0
  · rw [sel_t h1]; exact Or.inl rfl
  · rw [sel_f h1]
    have h0 := w_choose_01 W p day (w_undone W day) 0 0 (Or.inl rfl) (w_n W)
    by_cases h2 : (w_choose W p day (w_undone W day) 0 0 (w_n W)).1 = -6 ∧ W 8 6 = 1
    · rw [sel_t h2]; exact w_choose_01 _ _ _ _ _ _ h0 _
    · rw [sel_f h2]; exact h0
/-- those for which it is two (0), that none governs (1), in a ring (2), begun (3) -/
def w_those (W : WT) (p : Nat) (day how : Int32) : Prop :=
  (how = 3 ∧ W p 0 ≤ c_dayOn W p day) ∨ (how = 0 ∧ (w_gov2 W p (c_dayOn W p day)).2 = 1) ∨ (how = 1 ∧ W p 0 ≤ c_dayOn W p day ∧ w_gov W p (c_dayOn W p day) = -6) ∨ (¬ how = 3 ∧ ¬ how = 0 ∧ ¬ how = 1 ∧ w_fol9 W p (w_gov W p (c_dayOn W p day)) (c_dayOn W p day) = -3)
noncomputable def w_taken (W : WT) (l : Int32) : Nat → Int32
  | 0 => 0
  | p + 1 => sel (¬ W (52 + p) 1 = -6 ∧ W (52 + p) 1 < W (10 + 5 * Int32.toNatClampNeg l) 0 ∧ w_gov W (52 + p) (c_dayOn W (52 + p) (W (10 + 5 * Int32.toNatClampNeg l) 0)) = l) (w_taken W l p ||| ((1 : Int32) <<< (nI p &&& 31))) (w_taken W l p)
/-- the law l governs p on some day from the one that it began on, on which something turns -/
def w_ever (W : WT) (l : Int32) (p : Nat) : Prop := ∃ d : Nat, W p 0 ≤ nI d ∧ nI d ≤ c_dayOn W p 99 ∧ d < 100 ∧ (nI d = W p 0 ∨ w_turns W (nI d)) ∧ w_gov W p (nI d) = l
noncomputable def w_caught (W : WT) (l : Int32) : Nat → Int32
  | 0 => 0
  | p + 1 => sel (w_ever W l (52 + p)) (w_caught W l p ||| ((1 : Int32) <<< (nI p &&& 31))) (w_caught W l p)

/-! BetweenLaws$Court.given(LBetweenLaws$Piece;I)I -/
abbrev rm_X2_given : Room := { frames := 4, cells := 0, slots := 0, locals := 100 }
abbrev B_X2_given (G : GT) (K : Int32 → Mem → Prop) := BT G (Rep G) RX2 "given" cX2_given 7 (some .int) rm_X2_given K 0 0
abbrev T_X2_given (G : GT) (as : List Value) (M : Mem) (K : Int32 → Mem → Prop) : Prop := MT G (Rep G) yX2_given cX2_given 7 (some .int) rm_X2_given as M K
theorem e_X2_given {G : GT} {K : Int32 → Mem → Prop} {M : Mem} {a1 : Nat} {v2 : Int32} (h : B_X2_given G K 0 [(0, .ref 167), (1, .ref a1), (2, .int v2)] [] M) : T_X2_given G [.ref 167, .ref a1, .int v2] M K := MT.of (by decide +kernel) rfl rfl (Nat.le_of_ble_eq_true rfl) rfl h
set_option maxRecDepth 4000 in
theorem k_X2_given_0 {G : GT} {K : Int32 → Mem → Prop} {M : Mem} {a1 : Nat} {v2 : Int32} (ha1 : PieceC a1) (h : (a1 < 60 ∨ a1 = 174) ∧ (WOk (wv M)) ∧ (∀ r2 : Int32, r2 = (w_gov (wv M) a1 (c_dayOn M.1 a1 v2)) → ∀ N2 : Mem, (Scr M N2 ∧ N2.1 167 1 = (w_gov2 (wv M) a1 (c_dayOn M.1 a1 v2)).2) → (a1 < 60 ∨ a1 = 174) ∧ (WOk (wv N2)) ∧ (∀ r3 : Int32, r3 = (w_fol9 (wv N2) a1 r2 (c_dayOn M.1 a1 v2)) → ∀ N3 : Mem, (Scr N2 N3 ∧ HasPath N3 (w_path9 (wv N2) a1 r2 (c_dayOn M.1 a1 v2))) → ((N3.1 8 7) = 0 → K r3 N3) ∧ (¬ (N3.1 8 7) = 0 → (r3 < 0 → K r3 N3) ∧ (¬ r3 < 0 → (((0 : Int32) ≤ r2 ∧ r2 < (N3.1 8 1)) → (vp_in r2 8) ∧ ((N3.1 a1 0) < (N3.1 (10 + 5 * (Int32.toNatClampNeg r2)) 0) → (a1 < 60 ∨ a1 = 174) ∧ (WOk (wv N3)) ∧ (∀ r13 : Int32, r13 = (w_gov (wv N3) a1 (N3.1 a1 0)) → ∀ N13 : Mem, (Scr N3 N13 ∧ N13.1 167 1 = (w_gov2 (wv N3) a1 (N3.1 a1 0)).2) → (a1 < 60 ∨ a1 = 174) ∧ (WOk (wv N13)) ∧ (∀ r14 : Int32, r14 = (w_fol9 (wv N13) a1 r13 (N13.1 a1 0)) → ∀ N14 : Mem, (Scr N13 N14 ∧ HasPath N14 (w_path9 (wv N13) a1 r13 (N13.1 a1 0))) → (0 ≤ r14 → K (if r14 < r3 then r14 else r3) N14) ∧ (¬ 0 ≤ r14 → K r3 N14)))) ∧ (¬ (N3.1 a1 0) < (N3.1 (10 + 5 * (Int32.toNatClampNeg r2)) 0) → K r3 N3)) ∧ (¬ ((0 : Int32) ≤ r2 ∧ r2 < (N3.1 8 1)) → K r3 N3)))))) : B_X2_given G K 0 [(0, .ref 167), (1, .ref a1), (2, .int v2)] [] M := by
  refine BT.aload_n dX2_given_0 rfl 1 rfl ?_
  refine BT.iload_n dX2_given_1 rfl 2 rfl ?_
  refine BT.mcV [.int v2] (t_X6_dayOn ha1 ?_) mb_X6_dayOn mv_X6_dayOn lk_X2_88 rfl (by decide) rfl (recvRep ha1 rfl) (Nat.le_of_ble_eq_true rfl) dX2_given_2
  show B_X2_given G K 5 [(0, .ref 167), (1, .ref a1), (2, .int v2)] [.int (c_dayOn M.1 a1 v2)] M
  refine BT.istore_n (L' := [(3, .int (c_dayOn M.1 a1 v2)), (0, .ref 167), (1, .ref a1), (2, .int v2)]) dX2_given_5 rfl (by decide) rfl ?_
  refine BT.aload_n dX2_given_6 rfl 1 rfl ?_
  refine BT.aload_n dX2_given_7 rfl 2 rfl ?_
  refine BT.iload_n dX2_given_8 rfl 0 rfl ?_
  refine BT.mcVp [.ref a1, .int (c_dayOn M.1 a1 v2)] (t_X2_governor ha1 h.1 h.2.1 (fun N hN => ⟨rfl, hN⟩)) mb_X2_governor mv_X2_governor lk_X2_91 rfl (by decide) rfl (recvRep ho_167 rfl) (Nat.le_of_ble_eq_true rfl) dX2_given_9 (P := fun N2 => Scr M N2 ∧ N2.1 167 1 = (w_gov2 (wv M) a1 (c_dayOn M.1 a1 v2)).2) (fun r2 e2 N2 g2 => ?_)
  show B_X2_given G K 12 [(3, .int (c_dayOn M.1 a1 v2)), (0, .ref 167), (1, .ref a1), (2, .int v2)] [.int r2] N2
  refine BT.istore (L' := [(4, .int r2), (3, .int (c_dayOn M.1 a1 v2)), (0, .ref 167), (1, .ref a1), (2, .int v2)]) dX2_given_12 (by decide) rfl ?_
  refine BT.aload_n dX2_given_14 rfl 2 rfl ?_
  refine BT.aload_n dX2_given_15 rfl 3 rfl ?_
  refine BT.iload dX2_given_16 0 rfl ?_
  refine BT.iload_n dX2_given_18 rfl 1 rfl ?_
  refine BT.mcVp [.ref a1, .int r2, .int (c_dayOn M.1 a1 v2)] (t_X2_follow ha1 (h.2.2 r2 e2 N2 g2).1 (h.2.2 r2 e2 N2 g2).2.1 (fun N hN => ⟨rfl, hN⟩)) mb_X2_follow mv_X2_follow lk_X2_95 rfl (by decide) rfl (recvRep ho_167 rfl) (Nat.le_of_ble_eq_true rfl) dX2_given_19 (P := fun N3 => Scr N2 N3 ∧ HasPath N3 (w_path9 (wv N2) a1 r2 (c_dayOn M.1 a1 v2))) (fun r3 e3 N3 g3 => ?_)
  show B_X2_given G K 22 [(4, .int r2), (3, .int (c_dayOn M.1 a1 v2)), (0, .ref 167), (1, .ref a1), (2, .int v2)] [.int r3] N3
  refine BT.istore (L' := [(5, .int r3), (4, .int r2), (3, .int (c_dayOn M.1 a1 v2)), (0, .ref 167), (1, .ref a1), (2, .int v2)]) dX2_given_22 (by decide) rfl ?_
  refine BT.aload_n dX2_given_24 rfl 3 rfl ?_
  refine BT.getR (r := 8) fl_X2_9 ho_167 rfl dX2_given_25 ?_
  refine BT.getI fl_X2_99 ho_8 rfl dX2_given_28 ?_
  refine BT.if_eq (tgt := 51) dX2_given_31 (by decide) (fun c => ?_) (fun c => ?_)
  · have c4 := c
    refine BT.iload dX2_given_51 0 rfl ?_
    exact BT.iret dX2_given_53 rfl (by decide) (by decide) (((h.2.2 r2 e2 N2 g2).2.2 r3 e3 N3 g3).1 c4)
  · have c5 := c
    refine BT.iload dX2_given_34 0 rfl ?_
    refine BT.if_lt (tgt := 51) dX2_given_36 (by decide) (fun c => ?_) (fun c => ?_)
    · have c6 := c
      refine BT.iload dX2_given_51 0 rfl ?_
      exact BT.iret dX2_given_53 rfl (by decide) (by decide) ((((h.2.2 r2 e2 N2 g2).2.2 r3 e3 N3 g3).2 c5).1 c6)
    · have c7 := c
      refine BT.aload_n dX2_given_39 rfl 3 rfl ?_
      refine BT.getR (r := 8) fl_X2_9 ho_167 rfl dX2_given_40 ?_
      refine BT.iload dX2_given_43 1 rfl ?_
      refine BT.mcV [.int r2] (t_X9_hasLaw  ?_) mb_X9_hasLaw mv_X9_hasLaw lk_X2_19 rfl (by decide) rfl (recvRep ho_8 rfl) (Nat.le_of_ble_eq_true rfl) dX2_given_45
      show B_X2_given G K 48 [(5, .int r3), (4, .int r2), (3, .int (c_dayOn M.1 a1 v2)), (0, .ref 167), (1, .ref a1), (2, .int v2)] [.int (bi ((0 : Int32) ≤ r2 ∧ r2 < (N3.1 8 1)))] N3
      refine BT.if_ne (tgt := 54) dX2_given_48 (by decide) (fun c => ?_) (fun c => ?_)
      · have c9 := bi_ne0.mp c
        refine BT.aload_n dX2_given_54 rfl 3 rfl ?_
        refine BT.getR (r := 8) fl_X2_9 ho_167 rfl dX2_given_55 ?_
        refine BT.getR (r := 9) fl_X2_25 ho_8 rfl dX2_given_58 ?_
        refine BT.iload dX2_given_61 1 rfl ?_
        refine BT.aald ha_9 (by decide) (((((h.2.2 r2 e2 N2 g2).2.2 r3 e3 N3 g3).2 c5).2 c7).1 c9).1 dX2_given_63 ?_
        refine BT.getI fl_X2_76 (lawC8 (((((h.2.2 r2 e2 N2 g2).2.2 r3 e3 N3 g3).2 c5).2 c7).1 c9).1).1 rfl dX2_given_64 ?_
        refine BT.aload_n dX2_given_67 rfl 4 rfl ?_
        refine BT.getI fl_X2_34 ha1 rfl dX2_given_68 ?_
        refine BT.icmp_gt (tgt := 77) dX2_given_71 (by decide) (fun c => ?_) (fun c => ?_)
        · have c11 := c
          refine BT.aload_n dX2_given_77 rfl 3 rfl ?_
          refine BT.aload_n dX2_given_78 rfl 4 rfl ?_
          refine BT.aload_n dX2_given_79 rfl 3 rfl ?_
          refine BT.aload_n dX2_given_80 rfl 4 rfl ?_
          refine BT.aload_n dX2_given_81 rfl 4 rfl ?_
          refine BT.getI fl_X2_34 ha1 rfl dX2_given_82 ?_
          refine BT.mcVp [.ref a1, .int (N3.1 a1 0)] (t_X2_governor ha1 ((((((h.2.2 r2 e2 N2 g2).2.2 r3 e3 N3 g3).2 c5).2 c7).1 c9).2.1 c11).1 ((((((h.2.2 r2 e2 N2 g2).2.2 r3 e3 N3 g3).2 c5).2 c7).1 c9).2.1 c11).2.1 (fun N hN => ⟨rfl, hN⟩)) mb_X2_governor mv_X2_governor lk_X2_91 rfl (by decide) rfl (recvRep ho_167 rfl) (Nat.le_of_ble_eq_true rfl) dX2_given_85 (P := fun N13 => Scr N3 N13 ∧ N13.1 167 1 = (w_gov2 (wv N3) a1 (N3.1 a1 0)).2) (fun r13 e13 N13 g13 => ?_)
          show B_X2_given G K 88 [(5, .int r3), (4, .int r2), (3, .int (c_dayOn M.1 a1 v2)), (0, .ref 167), (1, .ref a1), (2, .int v2)] [.int r13, .ref a1, .ref 167] N13
          refine BT.aload_n dX2_given_88 rfl 4 rfl ?_
          refine BT.getI fl_X2_34 ha1 rfl dX2_given_89 ?_
          refine BT.mcVp [.ref a1, .int r13, .int (N13.1 a1 0)] (t_X2_follow ha1 (((((((h.2.2 r2 e2 N2 g2).2.2 r3 e3 N3 g3).2 c5).2 c7).1 c9).2.1 c11).2.2 r13 e13 N13 g13).1 (((((((h.2.2 r2 e2 N2 g2).2.2 r3 e3 N3 g3).2 c5).2 c7).1 c9).2.1 c11).2.2 r13 e13 N13 g13).2.1 (fun N hN => ⟨rfl, hN⟩)) mb_X2_follow mv_X2_follow lk_X2_95 rfl (by decide) rfl (recvRep ho_167 rfl) (Nat.le_of_ble_eq_true rfl) dX2_given_92 (P := fun N14 => Scr N13 N14 ∧ HasPath N14 (w_path9 (wv N13) a1 r13 (N13.1 a1 0))) (fun r14 e14 N14 g14 => ?_)
          show B_X2_given G K 95 [(5, .int r3), (4, .int r2), (3, .int (c_dayOn M.1 a1 v2)), (0, .ref 167), (1, .ref a1), (2, .int v2)] [.int r14] N14
          refine BT.istore (L' := [(6, .int r14), (5, .int r3), (4, .int r2), (3, .int (c_dayOn M.1 a1 v2)), (0, .ref 167), (1, .ref a1), (2, .int v2)]) dX2_given_95 (by decide) rfl ?_
          refine BT.iload dX2_given_97 0 rfl ?_
          refine BT.if_ge (tgt := 107) dX2_given_99 (by decide) (fun c => ?_) (fun c => ?_)
          · have c15 := c
            refine BT.iload dX2_given_107 1 rfl ?_
            refine BT.iload dX2_given_109 0 rfl ?_
            refine BT.mmin lk_X2_102 mm_1 mm_2 mm_3 (Nat.le_of_ble_eq_true rfl) dX2_given_111 (by decide) (by decide) (by decide) (by decide) ?_
            exact BT.iret dX2_given_114 rfl (by decide) (by decide) (((((((((h.2.2 r2 e2 N2 g2).2.2 r3 e3 N3 g3).2 c5).2 c7).1 c9).2.1 c11).2.2 r13 e13 N13 g13).2.2 r14 e14 N14 g14).1 c15)
          · have c16 := c
            refine BT.iload dX2_given_102 1 rfl ?_
            refine BT.goto (tgt := 114) dX2_given_104 (by decide) ?_
            exact BT.iret dX2_given_114 rfl (by decide) (by decide) (((((((((h.2.2 r2 e2 N2 g2).2.2 r3 e3 N3 g3).2 c5).2 c7).1 c9).2.1 c11).2.2 r13 e13 N13 g13).2.2 r14 e14 N14 g14).2 c16)
        · have c12 := c
          refine BT.iload dX2_given_74 0 rfl ?_
          exact BT.iret dX2_given_76 rfl (by decide) (by decide) ((((((h.2.2 r2 e2 N2 g2).2.2 r3 e3 N3 g3).2 c5).2 c7).1 c9).2.2 c12)
      · have c10 := bi_eq0.mp c
        refine BT.iload dX2_given_51 0 rfl ?_
        exact BT.iret dX2_given_53 rfl (by decide) (by decide) (((((h.2.2 r2 e2 N2 g2).2.2 r3 e3 N3 g3).2 c5).2 c7).2 c10)

theorem t_X2_given {G : GT} {K : Int32 → Mem → Prop} {M : Mem} {a1 : Nat} {v2 : Int32} (ha1 : PieceC a1) (hp : a1 < 60 ∨ a1 = 174) (hw : WOk (wv M)) (h : ∀ N, Scr M N → K (w_given (wv M) a1 v2) N) : T_X2_given G [.ref 167, .ref a1, .int v2] M K := by
  refine e_X2_given (k_X2_given_0 ha1 ?_)
  rw [c_dayOn_wv hp]
  unfold w_given at h
  refine ⟨hp, hw, fun r2 e2 N2 g2 => ⟨hp, by rw [g2.1.wvE]; exact hw, fun r3 e3 N3 g3 => ?_⟩⟩
  rw [g2.1.wvE] at e3 g3
  have s3 : Scr M N3 := g2.1.tr g3.1
  have off : ∀ c k, (c < 60 ∨ c = 174) → N3.1 c k = wv M c k := fun c k hc => by rw [s3.1 c (by omega), wv_at hc]
  rw [off 8 7 (by decide), off 8 1 (by decide), off a1 0 hp]
  rw [← e2, ← e3] at h
  refine ⟨fun c1 => ?_, fun c1 => ⟨fun c2 => ?_, fun c2 => ⟨fun c3 => ?_, fun c3 => ?_⟩⟩⟩
  · have := h N3 s3
    rwa [sel_t (Or.inl c1)] at this
  · have := h N3 s3
    rwa [sel_t (Or.inr (Or.inl c2))] at this
  · have hg := w_gov_in (wv M) a1 (c_dayOn (wv M) a1 v2)
    rw [← e2] at hg
    obtain ⟨⟨hn, h8⟩, -⟩ := id hw
    rcases hg with q | ⟨j, hj, ej⟩
    · rw [q] at c3
      exact absurd c3.1 (by decide)
    · have ix : Int32.toNatClampNeg r2 = j := by rw [ej, ix_nI (by omega)]
      have hx : sel (wv M 8 7 = 0 ∨ r3 < 0 ∨ ¬ ((0 : Int32) ≤ r2 ∧ r2 < wv M 8 1)) = fun (a b : Int32) => b := by
        funext a b
        exact sel_f (fun q => q.elim c1 (fun q => q.elim c2 (fun q => q c3)))
      rw [hx] at h
      rw [ix] at h ⊢
      rw [off (10 + 5 * j) 0 (by omega)]
      refine ⟨by rw [ej]; exact vp_nI (by omega) (by decide), fun c4 => ⟨hp, by rw [s3.wvE]; exact hw, fun r13 e13 N13 g13 => ⟨hp, by rw [g13.1.wvE, s3.wvE]; exact hw, fun r14 e14 N14 g14 => ?_⟩⟩, fun c4 => ?_⟩
      · rw [s3.wvE] at e13
        rw [g13.1.1 a1 (by omega), off a1 0 hp, g13.1.wvE, s3.wvE] at e14
        rw [← e13, ← e14] at h
        have := h N14 (s3.tr (g13.1.tr g14.1))
        refine ⟨fun c5 => ?_, fun c5 => ?_⟩
        · rwa [sel_f (fun q => q.elim (fun q => Int32.not_le.mpr c4 q) (fun q => Int32.not_lt.mpr c5 q))] at this
        · rwa [sel_t (Or.inr (Int32.not_le.mp c5))] at this
      · have := h N3 s3
        rwa [sel_t (Or.inl (Int32.not_lt.mp c4))] at this
  · have := h N3 s3
    rwa [sel_t (Or.inr (Or.inr c3))] at this

/-! BetweenLaws$Court.isOfThose(LBetweenLaws$Piece;II)Z -/
abbrev rm_X2_isOfThose : Room := { frames := 4, cells := 0, slots := 0, locals := 100 }
abbrev B_X2_isOfThose (G : GT) (K : Int32 → Mem → Prop) := BT G (Rep G) RX2 "isOfThose" cX2_isOfThose 7 (some .boolean) rm_X2_isOfThose K 0 0
abbrev T_X2_isOfThose (G : GT) (as : List Value) (M : Mem) (K : Int32 → Mem → Prop) : Prop := MT G (Rep G) yX2_isOfThose cX2_isOfThose 7 (some .boolean) rm_X2_isOfThose as M K
theorem e_X2_isOfThose {G : GT} {K : Int32 → Mem → Prop} {M : Mem} {a1 : Nat} {v2 : Int32} {v3 : Int32} (h : B_X2_isOfThose G K 0 [(0, .ref 167), (1, .ref a1), (2, .int v2), (3, .int v3)] [] M) : T_X2_isOfThose G [.ref 167, .ref a1, .int v2, .int v3] M K := MT.of (by decide +kernel) rfl rfl (Nat.le_of_ble_eq_true rfl) rfl h
set_option maxRecDepth 4000 in
theorem k_X2_isOfThose_0 {G : GT} {K : Int32 → Mem → Prop} {M : Mem} {a1 : Nat} {v2 : Int32} {v3 : Int32} (ha1 : PieceC a1) (h : ((c_dayOn M.1 a1 v2) < (M.1 a1 0) → (¬ v3 = 3 → (a1 < 60 ∨ a1 = 174) ∧ (WOk (wv M)) ∧ (∀ r6 : Int32, r6 = (w_gov (wv M) a1 (c_dayOn M.1 a1 v2)) → ∀ N6 : Mem, (Scr M N6 ∧ N6.1 167 1 = (w_gov2 (wv M) a1 (c_dayOn M.1 a1 v2)).2) → (¬ v3 = 0 → (¬ v3 = 1 → (a1 < 60 ∨ a1 = 174) ∧ (WOk (wv N6)) ∧ (∀ r11 : Int32, r11 = (w_fol9 (wv N6) a1 r6 (c_dayOn M.1 a1 v2)) → ∀ N11 : Mem, (Scr N6 N11 ∧ HasPath N11 (w_path9 (wv N6) a1 r6 (c_dayOn M.1 a1 v2))) → (¬ r11 = (-3) → K 0 N11) ∧ (r11 = (-3) → K 1 N11))) ∧ (v3 = 1 → K 0 N6)) ∧ (v3 = 0 → ((N6.1 167 1) = 0 ∨ (N6.1 167 1) = 1) ∧ K (N6.1 167 1) N6))) ∧ (v3 = 3 → K 0 M)) ∧ (¬ (c_dayOn M.1 a1 v2) < (M.1 a1 0) → (¬ v3 = 3 → (a1 < 60 ∨ a1 = 174) ∧ (WOk (wv M)) ∧ (∀ r16 : Int32, r16 = (w_gov (wv M) a1 (c_dayOn M.1 a1 v2)) → ∀ N16 : Mem, (Scr M N16 ∧ N16.1 167 1 = (w_gov2 (wv M) a1 (c_dayOn M.1 a1 v2)).2) → (¬ v3 = 0 → (¬ v3 = 1 → (a1 < 60 ∨ a1 = 174) ∧ (WOk (wv N16)) ∧ (∀ r21 : Int32, r21 = (w_fol9 (wv N16) a1 r16 (c_dayOn M.1 a1 v2)) → ∀ N21 : Mem, (Scr N16 N21 ∧ HasPath N21 (w_path9 (wv N16) a1 r16 (c_dayOn M.1 a1 v2))) → (¬ r21 = (-3) → K 0 N21) ∧ (r21 = (-3) → K 1 N21))) ∧ (v3 = 1 → (¬ r16 = (-6) → K 0 N16) ∧ (r16 = (-6) → K 1 N16))) ∧ (v3 = 0 → ((N16.1 167 1) = 0 ∨ (N16.1 167 1) = 1) ∧ K (N16.1 167 1) N16))) ∧ (v3 = 3 → K 1 M))) : B_X2_isOfThose G K 0 [(0, .ref 167), (1, .ref a1), (2, .int v2), (3, .int v3)] [] M := by
  refine BT.aload_n dX2_isOfThose_0 rfl 1 rfl ?_
  refine BT.iload_n dX2_isOfThose_1 rfl 2 rfl ?_
  refine BT.mcV [.int v2] (t_X6_dayOn ha1 ?_) mb_X6_dayOn mv_X6_dayOn lk_X2_88 rfl (by decide) rfl (recvRep ha1 rfl) (Nat.le_of_ble_eq_true rfl) dX2_isOfThose_2
  show B_X2_isOfThose G K 5 [(0, .ref 167), (1, .ref a1), (2, .int v2), (3, .int v3)] [.int (c_dayOn M.1 a1 v2)] M
  refine BT.istore (L' := [(4, .int (c_dayOn M.1 a1 v2)), (0, .ref 167), (1, .ref a1), (2, .int v2), (3, .int v3)]) dX2_isOfThose_5 (by decide) rfl ?_
  refine BT.aload_n dX2_isOfThose_7 rfl 2 rfl ?_
  refine BT.getI fl_X2_34 ha1 rfl dX2_isOfThose_8 ?_
  refine BT.iload dX2_isOfThose_11 0 rfl ?_
  refine BT.icmp_gt (tgt := 20) dX2_isOfThose_13 (by decide) (fun c => ?_) (fun c => ?_)
  · have c2 := c
    refine BT.iconst (v := 0) dX2_isOfThose_20 (by decide) ?_
    refine BT.istore (L' := [(5, .int 0), (4, .int (c_dayOn M.1 a1 v2)), (0, .ref 167), (1, .ref a1), (2, .int v2), (3, .int v3)]) dX2_isOfThose_21 (by decide) rfl ?_
    refine BT.iload_n dX2_isOfThose_23 rfl 5 rfl ?_
    refine BT.iconst (v := 3) dX2_isOfThose_24 (by decide) ?_
    refine BT.icmp_ne (tgt := 31) dX2_isOfThose_25 (by decide) (fun c => ?_) (fun c => ?_)
    · have c4 := c
      refine BT.aload_n dX2_isOfThose_31 rfl 2 rfl ?_
      refine BT.aload_n dX2_isOfThose_32 rfl 3 rfl ?_
      refine BT.iload dX2_isOfThose_33 1 rfl ?_
      refine BT.mcVp [.ref a1, .int (c_dayOn M.1 a1 v2)] (t_X2_governor ha1 ((h.1 c2).1 c4).1 ((h.1 c2).1 c4).2.1 (fun N hN => ⟨rfl, hN⟩)) mb_X2_governor mv_X2_governor lk_X2_91 rfl (by decide) rfl (recvRep ho_167 rfl) (Nat.le_of_ble_eq_true rfl) dX2_isOfThose_35 (P := fun N6 => Scr M N6 ∧ N6.1 167 1 = (w_gov2 (wv M) a1 (c_dayOn M.1 a1 v2)).2) (fun r6 e6 N6 g6 => ?_)
      show B_X2_isOfThose G K 38 [(5, .int 0), (4, .int (c_dayOn M.1 a1 v2)), (0, .ref 167), (1, .ref a1), (2, .int v2), (3, .int v3)] [.int r6] N6
      refine BT.istore (L' := [(6, .int r6), (5, .int 0), (4, .int (c_dayOn M.1 a1 v2)), (0, .ref 167), (1, .ref a1), (2, .int v2), (3, .int v3)]) dX2_isOfThose_38 (by decide) rfl ?_
      refine BT.iload_n dX2_isOfThose_40 rfl 6 rfl ?_
      refine BT.if_ne (tgt := 49) dX2_isOfThose_41 (by decide) (fun c => ?_) (fun c => ?_)
      · have c7 := c
        refine BT.iload_n dX2_isOfThose_49 rfl 6 rfl ?_
        refine BT.iconst (v := 1) dX2_isOfThose_50 (by decide) ?_
        refine BT.icmp_ne (tgt := 72) dX2_isOfThose_51 (by decide) (fun c => ?_) (fun c => ?_)
        · have c9 := c
          refine BT.aload_n dX2_isOfThose_72 rfl 3 rfl ?_
          refine BT.aload_n dX2_isOfThose_73 rfl 4 rfl ?_
          refine BT.iload dX2_isOfThose_74 0 rfl ?_
          refine BT.iload dX2_isOfThose_76 2 rfl ?_
          refine BT.mcVp [.ref a1, .int r6, .int (c_dayOn M.1 a1 v2)] (t_X2_follow ha1 (((((h.1 c2).1 c4).2.2 r6 e6 N6 g6).1 c7).1 c9).1 (((((h.1 c2).1 c4).2.2 r6 e6 N6 g6).1 c7).1 c9).2.1 (fun N hN => ⟨rfl, hN⟩)) mb_X2_follow mv_X2_follow lk_X2_95 rfl (by decide) rfl (recvRep ho_167 rfl) (Nat.le_of_ble_eq_true rfl) dX2_isOfThose_78 (P := fun N11 => Scr N6 N11 ∧ HasPath N11 (w_path9 (wv N6) a1 r6 (c_dayOn M.1 a1 v2))) (fun r11 e11 N11 g11 => ?_)
          show B_X2_isOfThose G K 81 [(6, .int r6), (5, .int 0), (4, .int (c_dayOn M.1 a1 v2)), (0, .ref 167), (1, .ref a1), (2, .int v2), (3, .int v3)] [.int r11] N11
          refine BT.bipush (v := (-3)) dX2_isOfThose_81 (by decide) ?_
          refine BT.icmp_ne (tgt := 90) dX2_isOfThose_83 (by decide) (fun c => ?_) (fun c => ?_)
          · have c12 := c
            refine BT.iconst (v := 0) dX2_isOfThose_90 (by decide) ?_
            exact BT.zret dX2_isOfThose_91 rfl (by decide) (by decide) (nar01 ((Or.inl rfl))) (((((((h.1 c2).1 c4).2.2 r6 e6 N6 g6).1 c7).1 c9).2.2 r11 e11 N11 g11).1 c12)
          · have c13 := c
            refine BT.iconst (v := 1) dX2_isOfThose_86 (by decide) ?_
            refine BT.goto (tgt := 91) dX2_isOfThose_87 (by decide) ?_
            exact BT.zret dX2_isOfThose_91 rfl (by decide) (by decide) (nar01 ((Or.inr rfl))) (((((((h.1 c2).1 c4).2.2 r6 e6 N6 g6).1 c7).1 c9).2.2 r11 e11 N11 g11).2 c13)
        · have c10 := c
          refine BT.iload dX2_isOfThose_54 1 rfl ?_
          refine BT.if_eq (tgt := 70) dX2_isOfThose_56 (by decide) (fun _ => ?_) (fun c => absurd c (by decide))
          refine BT.iconst (v := 0) dX2_isOfThose_70 (by decide) ?_
          exact BT.zret dX2_isOfThose_71 rfl (by decide) (by decide) (nar01 ((Or.inl rfl))) (((((h.1 c2).1 c4).2.2 r6 e6 N6 g6).1 c7).2 c10)
      · have c8 := c
        refine BT.aload_n dX2_isOfThose_44 rfl 3 rfl ?_
        refine BT.getI fl_X2_51 ho_167 rfl dX2_isOfThose_45 ?_
        exact BT.zret dX2_isOfThose_48 rfl (by decide) (by decide) (nar01 (((((h.1 c2).1 c4).2.2 r6 e6 N6 g6).2 c8).1)) ((((h.1 c2).1 c4).2.2 r6 e6 N6 g6).2 c8).2
    · have c5 := c
      refine BT.iload dX2_isOfThose_28 0 rfl ?_
      exact BT.zret dX2_isOfThose_30 rfl (by decide) (by decide) (nar01 ((Or.inl rfl))) ((h.1 c2).2 c5)
  · have c3 := c
    refine BT.iconst (v := 1) dX2_isOfThose_16 (by decide) ?_
    refine BT.goto (tgt := 21) dX2_isOfThose_17 (by decide) ?_
    refine BT.istore (L' := [(5, .int 1), (4, .int (c_dayOn M.1 a1 v2)), (0, .ref 167), (1, .ref a1), (2, .int v2), (3, .int v3)]) dX2_isOfThose_21 (by decide) rfl ?_
    refine BT.iload_n dX2_isOfThose_23 rfl 5 rfl ?_
    refine BT.iconst (v := 3) dX2_isOfThose_24 (by decide) ?_
    refine BT.icmp_ne (tgt := 31) dX2_isOfThose_25 (by decide) (fun c => ?_) (fun c => ?_)
    · have c14 := c
      refine BT.aload_n dX2_isOfThose_31 rfl 2 rfl ?_
      refine BT.aload_n dX2_isOfThose_32 rfl 3 rfl ?_
      refine BT.iload dX2_isOfThose_33 1 rfl ?_
      refine BT.mcVp [.ref a1, .int (c_dayOn M.1 a1 v2)] (t_X2_governor ha1 ((h.2 c3).1 c14).1 ((h.2 c3).1 c14).2.1 (fun N hN => ⟨rfl, hN⟩)) mb_X2_governor mv_X2_governor lk_X2_91 rfl (by decide) rfl (recvRep ho_167 rfl) (Nat.le_of_ble_eq_true rfl) dX2_isOfThose_35 (P := fun N16 => Scr M N16 ∧ N16.1 167 1 = (w_gov2 (wv M) a1 (c_dayOn M.1 a1 v2)).2) (fun r16 e16 N16 g16 => ?_)
      show B_X2_isOfThose G K 38 [(5, .int 1), (4, .int (c_dayOn M.1 a1 v2)), (0, .ref 167), (1, .ref a1), (2, .int v2), (3, .int v3)] [.int r16] N16
      refine BT.istore (L' := [(6, .int r16), (5, .int 1), (4, .int (c_dayOn M.1 a1 v2)), (0, .ref 167), (1, .ref a1), (2, .int v2), (3, .int v3)]) dX2_isOfThose_38 (by decide) rfl ?_
      refine BT.iload_n dX2_isOfThose_40 rfl 6 rfl ?_
      refine BT.if_ne (tgt := 49) dX2_isOfThose_41 (by decide) (fun c => ?_) (fun c => ?_)
      · have c17 := c
        refine BT.iload_n dX2_isOfThose_49 rfl 6 rfl ?_
        refine BT.iconst (v := 1) dX2_isOfThose_50 (by decide) ?_
        refine BT.icmp_ne (tgt := 72) dX2_isOfThose_51 (by decide) (fun c => ?_) (fun c => ?_)
        · have c19 := c
          refine BT.aload_n dX2_isOfThose_72 rfl 3 rfl ?_
          refine BT.aload_n dX2_isOfThose_73 rfl 4 rfl ?_
          refine BT.iload dX2_isOfThose_74 0 rfl ?_
          refine BT.iload dX2_isOfThose_76 2 rfl ?_
          refine BT.mcVp [.ref a1, .int r16, .int (c_dayOn M.1 a1 v2)] (t_X2_follow ha1 (((((h.2 c3).1 c14).2.2 r16 e16 N16 g16).1 c17).1 c19).1 (((((h.2 c3).1 c14).2.2 r16 e16 N16 g16).1 c17).1 c19).2.1 (fun N hN => ⟨rfl, hN⟩)) mb_X2_follow mv_X2_follow lk_X2_95 rfl (by decide) rfl (recvRep ho_167 rfl) (Nat.le_of_ble_eq_true rfl) dX2_isOfThose_78 (P := fun N21 => Scr N16 N21 ∧ HasPath N21 (w_path9 (wv N16) a1 r16 (c_dayOn M.1 a1 v2))) (fun r21 e21 N21 g21 => ?_)
          show B_X2_isOfThose G K 81 [(6, .int r16), (5, .int 1), (4, .int (c_dayOn M.1 a1 v2)), (0, .ref 167), (1, .ref a1), (2, .int v2), (3, .int v3)] [.int r21] N21
          refine BT.bipush (v := (-3)) dX2_isOfThose_81 (by decide) ?_
          refine BT.icmp_ne (tgt := 90) dX2_isOfThose_83 (by decide) (fun c => ?_) (fun c => ?_)
          · have c22 := c
            refine BT.iconst (v := 0) dX2_isOfThose_90 (by decide) ?_
            exact BT.zret dX2_isOfThose_91 rfl (by decide) (by decide) (nar01 ((Or.inl rfl))) (((((((h.2 c3).1 c14).2.2 r16 e16 N16 g16).1 c17).1 c19).2.2 r21 e21 N21 g21).1 c22)
          · have c23 := c
            refine BT.iconst (v := 1) dX2_isOfThose_86 (by decide) ?_
            refine BT.goto (tgt := 91) dX2_isOfThose_87 (by decide) ?_
            exact BT.zret dX2_isOfThose_91 rfl (by decide) (by decide) (nar01 ((Or.inr rfl))) (((((((h.2 c3).1 c14).2.2 r16 e16 N16 g16).1 c17).1 c19).2.2 r21 e21 N21 g21).2 c23)
        · have c20 := c
          refine BT.iload dX2_isOfThose_54 1 rfl ?_
          refine BT.if_eq (tgt := 70) dX2_isOfThose_56 (by decide) (fun c => absurd c (by decide)) (fun _ => ?_)
          refine BT.iload dX2_isOfThose_59 0 rfl ?_
          refine BT.bipush (v := (-6)) dX2_isOfThose_61 (by decide) ?_
          refine BT.icmp_ne (tgt := 70) dX2_isOfThose_63 (by decide) (fun c => ?_) (fun c => ?_)
          · have c24 := c
            refine BT.iconst (v := 0) dX2_isOfThose_70 (by decide) ?_
            exact BT.zret dX2_isOfThose_71 rfl (by decide) (by decide) (nar01 ((Or.inl rfl))) ((((((h.2 c3).1 c14).2.2 r16 e16 N16 g16).1 c17).2 c20).1 c24)
          · have c25 := c
            refine BT.iconst (v := 1) dX2_isOfThose_66 (by decide) ?_
            refine BT.goto (tgt := 71) dX2_isOfThose_67 (by decide) ?_
            exact BT.zret dX2_isOfThose_71 rfl (by decide) (by decide) (nar01 ((Or.inr rfl))) ((((((h.2 c3).1 c14).2.2 r16 e16 N16 g16).1 c17).2 c20).2 c25)
      · have c18 := c
        refine BT.aload_n dX2_isOfThose_44 rfl 3 rfl ?_
        refine BT.getI fl_X2_51 ho_167 rfl dX2_isOfThose_45 ?_
        exact BT.zret dX2_isOfThose_48 rfl (by decide) (by decide) (nar01 (((((h.2 c3).1 c14).2.2 r16 e16 N16 g16).2 c18).1)) ((((h.2 c3).1 c14).2.2 r16 e16 N16 g16).2 c18).2
    · have c15 := c
      refine BT.iload dX2_isOfThose_28 0 rfl ?_
      exact BT.zret dX2_isOfThose_30 rfl (by decide) (by decide) (nar01 ((Or.inr rfl))) ((h.2 c3).2 c15)

theorem t_X2_isOfThose {G : GT} {K : Int32 → Mem → Prop} {M : Mem} {a1 : Nat} {v2 v3 : Int32} (ha1 : PieceC a1) (hp : a1 < 60 ∨ a1 = 174) (hw : WOk (wv M)) (h : ∀ N, Scr M N → K (bi (w_those (wv M) a1 v2 v3)) N) : T_X2_isOfThose G [.ref 167, .ref a1, .int v2, .int v3] M K := by
  have h1 : w_those (wv M) a1 v2 v3 → ∀ N, Scr M N → K 1 N := fun q N hN => (bi_K (h N hN)).1 q
  have h0 : ¬ w_those (wv M) a1 v2 v3 → ∀ N, Scr M N → K 0 N := fun q N hN => (bi_K (h N hN)).2 q
  clear h
  have tail : ¬ v3 = 3 → ∀ (r : Int32) (N : Mem), r = w_gov (wv M) a1 (c_dayOn (wv M) a1 v2) → (Scr M N ∧ N.1 167 1 = (w_gov2 (wv M) a1 (c_dayOn (wv M) a1 v2)).2) → (v3 = 0 → (N.1 167 1 = 0 ∨ N.1 167 1 = 1) ∧ K (N.1 167 1) N) := by
    intro c3 r N er gN c0
    have h01 := w_gov2_01 (wv M) a1 (c_dayOn (wv M) a1 v2)
    rw [gN.2]
    refine ⟨h01, ?_⟩
    rcases h01 with q | q
    · rw [q]
      refine h0 (fun z => ?_) N gN.1
      rcases z with z | z | z | z
      · exact c3 z.1
      · rw [q] at z; exact absurd z.2 (by decide)
      · rw [c0] at z; exact absurd z.1 (by decide)
      · exact z.2.1 c0
    · rw [q]
      exact h1 (Or.inr (Or.inl ⟨c0, q⟩)) N gN.1
  have ring : ¬ v3 = 3 → ¬ v3 = 0 → ¬ v3 = 1 → ∀ (r r2 : Int32) (N N2 : Mem), r = w_gov (wv M) a1 (c_dayOn (wv M) a1 v2) → Scr M N → r2 = w_fol9 (wv N) a1 r (c_dayOn (wv M) a1 v2) → Scr N N2 → (¬ r2 = (-3) → K 0 N2) ∧ (r2 = (-3) → K 1 N2) := by
    intro c3 c0 c1 r r2 N N2 er gN er2 gN2
    rw [gN.wvE, er] at er2
    refine ⟨fun q => h0 (fun z => ?_) N2 (gN.tr gN2), fun q => h1 (Or.inr (Or.inr (Or.inr ⟨c3, c0, c1, by rw [← er2]; exact q⟩))) N2 (gN.tr gN2)⟩
    rcases z with z | z | z | z
    · exact c3 z.1
    · exact c0 z.1
    · exact c1 z.1
    · exact q (by rw [er2]; exact z.2.2.2)
  refine e_X2_isOfThose (k_X2_isOfThose_0 ha1 ?_)
  rw [c_dayOn_wv hp, ← wv_at (M := M) (k := 0) hp]
  refine ⟨fun cb => ⟨fun c3 => ⟨hp, hw, fun r6 e6 N6 g6 => ⟨fun c0 => ⟨fun c1 => ⟨hp, by rw [g6.1.wvE]; exact hw, fun r11 e11 N11 g11 => ring c3 c0 c1 r6 r11 N6 N11 e6 g6.1 e11 g11.1⟩, fun c1 => h0 (fun z => ?_) N6 g6.1⟩, tail c3 r6 N6 e6 g6⟩⟩, fun c3 => h0 (fun z => ?_) M Scr.rf⟩,
    fun cb => ⟨fun c3 => ⟨hp, hw, fun r6 e6 N6 g6 => ⟨fun c0 => ⟨fun c1 => ⟨hp, by rw [g6.1.wvE]; exact hw, fun r11 e11 N11 g11 => ring c3 c0 c1 r6 r11 N6 N11 e6 g6.1 e11 g11.1⟩, fun c1 => ⟨fun c4 => h0 (fun z => ?_) N6 g6.1, fun c4 => h1 (Or.inr (Or.inr (Or.inl ⟨c1, Int32.not_lt.mp cb, e6.symm.trans c4⟩))) N6 g6.1⟩⟩, tail c3 r6 N6 e6 g6⟩⟩, fun c3 => h1 (Or.inl ⟨c3, Int32.not_lt.mp cb⟩) M Scr.rf⟩⟩
  · rcases z with z | z | z | z
    · exact c3 z.1
    · exact c0 z.1
    · exact Int32.not_lt.mpr z.2.1 cb
    · exact z.2.2.1 c1
  · rcases z with z | z | z | z
    · exact Int32.not_lt.mpr z.2 cb
    · rw [c3] at z; exact absurd z.1 (by decide)
    · rw [c3] at z; exact absurd z.1 (by decide)
    · exact z.1 c3
  · rcases z with z | z | z | z
    · exact c3 z.1
    · exact c0 z.1
    · exact c4 (e6.trans z.2.2)
    · exact z.2.2.1 c1

/-! BetweenLaws$Court.takenBy(I)I -/
abbrev rm_X2_takenBy : Room := { frames := 4, cells := 0, slots := 0, locals := 100 }
abbrev B_X2_takenBy (G : GT) (K : Int32 → Mem → Prop) := BT G (Rep G) RX2 "takenBy" cX2_takenBy 7 (some .int) rm_X2_takenBy K 0 0
abbrev T_X2_takenBy (G : GT) (as : List Value) (M : Mem) (K : Int32 → Mem → Prop) : Prop := MT G (Rep G) yX2_takenBy cX2_takenBy 7 (some .int) rm_X2_takenBy as M K
theorem e_X2_takenBy {G : GT} {K : Int32 → Mem → Prop} {M : Mem} {v1 : Int32} (h : B_X2_takenBy G K 0 [(0, .ref 167), (1, .int v1)] [] M) : T_X2_takenBy G [.ref 167, .int v1] M K := MT.of (by decide +kernel) rfl rfl (Nat.le_of_ble_eq_true rfl) rfl h
set_option maxRecDepth 4000 in
theorem k_X2_takenBy_0 {G : GT} {K : Int32 → Mem → Prop} {M : Mem} {v1 : Int32} (h : B_X2_takenBy G K 4 [(0, .ref 167), (1, .int v1), (2, .int 0), (3, .int 0)] [] M) : B_X2_takenBy G K 0 [(0, .ref 167), (1, .int v1)] [] M := by
  refine BT.iconst (v := 0) dX2_takenBy_0 (by decide) ?_
  refine BT.istore_n (L' := [(2, .int 0), (0, .ref 167), (1, .int v1)]) dX2_takenBy_1 rfl (by decide) rfl ?_
  refine BT.iconst (v := 0) dX2_takenBy_2 (by decide) ?_
  refine BT.istore_n (L' := [(3, .int 0), (2, .int 0), (0, .ref 167), (1, .int v1)]) dX2_takenBy_3 rfl (by decide) rfl ?_
  refine BT.sub [2, 3, 1, 0] rfl ?_
  exact h
set_option maxRecDepth 4000 in
theorem k_X2_takenBy_4 {G : GT} {K : Int32 → Mem → Prop} {M : Mem} {v1 : Int32} {v2 : Int32} {v3 : Int32} (h : ((M.1 8 4) ≤ v3 → K v2 M) ∧ (¬ (M.1 8 4) ≤ v3 → (vp_in v3 8) ∧ (vp_in v1 8) ∧ ((M.1 (52 + (Int32.toNatClampNeg v3)) 1) = (-6) → B_X2_takenBy G K 4 [(0, .ref 167), (1, .int v1), (2, .int v2), (3, .int (v3 + 1))] [] M) ∧ (¬ (M.1 (52 + (Int32.toNatClampNeg v3)) 1) = (-6) → ((M.1 (10 + 5 * (Int32.toNatClampNeg v1)) 0) ≤ (M.1 (52 + (Int32.toNatClampNeg v3)) 1) → B_X2_takenBy G K 4 [(0, .ref 167), (1, .int v1), (2, .int v2), (3, .int (v3 + 1))] [] M) ∧ (¬ (M.1 (10 + 5 * (Int32.toNatClampNeg v1)) 0) ≤ (M.1 (52 + (Int32.toNatClampNeg v3)) 1) → ((52 + (Int32.toNatClampNeg v3)) < 60 ∨ (52 + (Int32.toNatClampNeg v3)) = 174) ∧ (WOk (wv M)) ∧ (∀ r8 : Int32, r8 = (w_gov (wv M) (52 + (Int32.toNatClampNeg v3)) (c_dayOn M.1 (52 + (Int32.toNatClampNeg v3)) (M.1 (10 + 5 * (Int32.toNatClampNeg v1)) 0))) → ∀ N8 : Mem, (Scr M N8 ∧ N8.1 167 1 = (w_gov2 (wv M) (52 + (Int32.toNatClampNeg v3)) (c_dayOn M.1 (52 + (Int32.toNatClampNeg v3)) (M.1 (10 + 5 * (Int32.toNatClampNeg v1)) 0))).2) → (¬ r8 = v1 → B_X2_takenBy G K 4 [(0, .ref 167), (1, .int v1), (2, .int v2), (3, .int (v3 + 1))] [] N8) ∧ (r8 = v1 → B_X2_takenBy G K 4 [(0, .ref 167), (1, .int v1), (2, .int (v2 ||| ((1 : Int32) <<< (v3 &&& 31)))), (3, .int (v3 + 1))] [] N8)))))) : B_X2_takenBy G K 4 [(0, .ref 167), (1, .int v1), (2, .int v2), (3, .int v3)] [] M := by
  refine BT.iload_n dX2_takenBy_4 rfl 3 rfl ?_
  refine BT.aload_n dX2_takenBy_5 rfl 0 rfl ?_
  refine BT.getR (r := 8) fl_X2_9 ho_167 rfl dX2_takenBy_6 ?_
  refine BT.getI fl_X2_108 ho_8 rfl dX2_takenBy_9 ?_
  refine BT.icmp_ge (tgt := 101) dX2_takenBy_12 (by decide) (fun c => ?_) (fun c => ?_)
  · have c1 := c
    refine BT.iload_n dX2_takenBy_101 rfl 2 rfl ?_
    exact BT.iret dX2_takenBy_102 rfl (by decide) (by decide) (h.1 c1)
  · have c2 := c
    refine BT.aload_n dX2_takenBy_15 rfl 0 rfl ?_
    refine BT.getR (r := 8) fl_X2_9 ho_167 rfl dX2_takenBy_16 ?_
    refine BT.getR (r := 51) fl_X2_111 ho_8 rfl dX2_takenBy_19 ?_
    refine BT.iload_n dX2_takenBy_22 rfl 3 rfl ?_
    refine BT.aald1 ha_51 (by decide) (h.2 c2).1 dX2_takenBy_23 ?_
    refine BT.astore (L' := [(4, .ref (52 + (Int32.toNatClampNeg v3))), (0, .ref 167), (1, .int v1), (2, .int v2), (3, .int v3)]) dX2_takenBy_24 (by decide) rfl ?_
    refine BT.aload_n dX2_takenBy_26 rfl 1 rfl ?_
    refine BT.getR (r := 8) fl_X2_9 ho_167 rfl dX2_takenBy_27 ?_
    refine BT.getR (r := 9) fl_X2_25 ho_8 rfl dX2_takenBy_30 ?_
    refine BT.iload_n dX2_takenBy_33 rfl 2 rfl ?_
    refine BT.aald ha_9 (by decide) (h.2 c2).2.1 dX2_takenBy_34 ?_
    refine BT.getI fl_X2_76 (lawC8 (h.2 c2).2.1).1 rfl dX2_takenBy_35 ?_
    refine BT.istore (L' := [(5, .int (M.1 (10 + 5 * (Int32.toNatClampNeg v1)) 0)), (4, .ref (52 + (Int32.toNatClampNeg v3))), (0, .ref 167), (1, .int v1), (2, .int v2), (3, .int v3)]) dX2_takenBy_38 (by decide) rfl ?_
    refine BT.aload dX2_takenBy_40 1 rfl ?_
    refine BT.getI fl_X2_115 (pieceC8 (h.2 c2).1) rfl dX2_takenBy_42 ?_
    refine BT.bipush (v := (-6)) dX2_takenBy_45 (by decide) ?_
    refine BT.icmp_eq (tgt := 64) dX2_takenBy_47 (by decide) (fun c => ?_) (fun c => ?_)
    · have c3 := c
      refine BT.iconst (v := 0) dX2_takenBy_64 (by decide) ?_
      refine BT.istore (L' := [(6, .int 0), (5, .int (M.1 (10 + 5 * (Int32.toNatClampNeg v1)) 0)), (4, .ref (52 + (Int32.toNatClampNeg v3))), (0, .ref 167), (1, .int v1), (2, .int v2), (3, .int v3)]) dX2_takenBy_65 (by decide) rfl ?_
      refine BT.iload dX2_takenBy_67 0 rfl ?_
      refine BT.if_eq (tgt := 95) dX2_takenBy_69 (by decide) (fun _ => ?_) (fun c => absurd c (by decide))
      refine BT.iinc (j := 6) (v := (v3 + 1)) (L' := [(3, .int (v3 + 1)), (6, .int 0), (5, .int (M.1 (10 + 5 * (Int32.toNatClampNeg v1)) 0)), (4, .ref (52 + (Int32.toNatClampNeg v3))), (0, .ref 167), (1, .int v1), (2, .int v2)]) dX2_takenBy_95 rfl rfl (by decide) rfl ?_
      refine BT.goto (tgt := 4) dX2_takenBy_98 (by decide) ?_
      refine BT.sub [4, 5, 6, 0] rfl ?_
      exact ((h.2 c2).2.2.1 c3)
    · have c4 := c
      refine BT.aload dX2_takenBy_50 1 rfl ?_
      refine BT.getI fl_X2_115 (pieceC8 (h.2 c2).1) rfl dX2_takenBy_52 ?_
      refine BT.iload dX2_takenBy_55 0 rfl ?_
      refine BT.icmp_ge (tgt := 64) dX2_takenBy_57 (by decide) (fun c => ?_) (fun c => ?_)
      · have c5 := c
        refine BT.iconst (v := 0) dX2_takenBy_64 (by decide) ?_
        refine BT.istore (L' := [(6, .int 0), (5, .int (M.1 (10 + 5 * (Int32.toNatClampNeg v1)) 0)), (4, .ref (52 + (Int32.toNatClampNeg v3))), (0, .ref 167), (1, .int v1), (2, .int v2), (3, .int v3)]) dX2_takenBy_65 (by decide) rfl ?_
        refine BT.iload dX2_takenBy_67 0 rfl ?_
        refine BT.if_eq (tgt := 95) dX2_takenBy_69 (by decide) (fun _ => ?_) (fun c => absurd c (by decide))
        refine BT.iinc (j := 6) (v := (v3 + 1)) (L' := [(3, .int (v3 + 1)), (6, .int 0), (5, .int (M.1 (10 + 5 * (Int32.toNatClampNeg v1)) 0)), (4, .ref (52 + (Int32.toNatClampNeg v3))), (0, .ref 167), (1, .int v1), (2, .int v2)]) dX2_takenBy_95 rfl rfl (by decide) rfl ?_
        refine BT.goto (tgt := 4) dX2_takenBy_98 (by decide) ?_
        refine BT.sub [4, 5, 6, 0] rfl ?_
        exact (((h.2 c2).2.2.2 c4).1 c5)
      · have c6 := c
        refine BT.iconst (v := 1) dX2_takenBy_60 (by decide) ?_
        refine BT.goto (tgt := 65) dX2_takenBy_61 (by decide) ?_
        refine BT.istore (L' := [(6, .int 1), (5, .int (M.1 (10 + 5 * (Int32.toNatClampNeg v1)) 0)), (4, .ref (52 + (Int32.toNatClampNeg v3))), (0, .ref 167), (1, .int v1), (2, .int v2), (3, .int v3)]) dX2_takenBy_65 (by decide) rfl ?_
        refine BT.iload dX2_takenBy_67 0 rfl ?_
        refine BT.if_eq (tgt := 95) dX2_takenBy_69 (by decide) (fun c => absurd c (by decide)) (fun _ => ?_)
        refine BT.aload_n dX2_takenBy_72 rfl 3 rfl ?_
        refine BT.aload dX2_takenBy_73 2 rfl ?_
        refine BT.aload dX2_takenBy_75 2 rfl ?_
        refine BT.iload dX2_takenBy_77 1 rfl ?_
        refine BT.mcV [.int (M.1 (10 + 5 * (Int32.toNatClampNeg v1)) 0)] (t_X6_dayOn (pieceC8 (h.2 c2).1) ?_) mb_X6_dayOn mv_X6_dayOn lk_X2_88 rfl (by decide) rfl (recvRep (pieceC8 (h.2 c2).1) rfl) (Nat.le_of_ble_eq_true rfl) dX2_takenBy_79
        show B_X2_takenBy G K 82 [(6, .int 1), (5, .int (M.1 (10 + 5 * (Int32.toNatClampNeg v1)) 0)), (4, .ref (52 + (Int32.toNatClampNeg v3))), (0, .ref 167), (1, .int v1), (2, .int v2), (3, .int v3)] [.int (c_dayOn M.1 (52 + (Int32.toNatClampNeg v3)) (M.1 (10 + 5 * (Int32.toNatClampNeg v1)) 0)), .ref (52 + (Int32.toNatClampNeg v3)), .ref 167] M
        refine BT.mcVp [.ref (52 + (Int32.toNatClampNeg v3)), .int (c_dayOn M.1 (52 + (Int32.toNatClampNeg v3)) (M.1 (10 + 5 * (Int32.toNatClampNeg v1)) 0))] (t_X2_governor (pieceC8 (h.2 c2).1) (((h.2 c2).2.2.2 c4).2 c6).1 (((h.2 c2).2.2.2 c4).2 c6).2.1 (fun N hN => ⟨rfl, hN⟩)) mb_X2_governor mv_X2_governor lk_X2_91 rfl (by decide) rfl (recvRep ho_167 rfl) (Nat.le_of_ble_eq_true rfl) dX2_takenBy_82 (P := fun N8 => Scr M N8 ∧ N8.1 167 1 = (w_gov2 (wv M) (52 + (Int32.toNatClampNeg v3)) (c_dayOn M.1 (52 + (Int32.toNatClampNeg v3)) (M.1 (10 + 5 * (Int32.toNatClampNeg v1)) 0))).2) (fun r8 e8 N8 g8 => ?_)
        show B_X2_takenBy G K 85 [(6, .int 1), (5, .int (M.1 (10 + 5 * (Int32.toNatClampNeg v1)) 0)), (4, .ref (52 + (Int32.toNatClampNeg v3))), (0, .ref 167), (1, .int v1), (2, .int v2), (3, .int v3)] [.int r8] N8
        refine BT.iload_n dX2_takenBy_85 rfl 4 rfl ?_
        refine BT.icmp_ne (tgt := 95) dX2_takenBy_86 (by decide) (fun c => ?_) (fun c => ?_)
        · have c9 := c
          refine BT.iinc (j := 6) (v := (v3 + 1)) (L' := [(3, .int (v3 + 1)), (6, .int 1), (5, .int (M.1 (10 + 5 * (Int32.toNatClampNeg v1)) 0)), (4, .ref (52 + (Int32.toNatClampNeg v3))), (0, .ref 167), (1, .int v1), (2, .int v2)]) dX2_takenBy_95 rfl rfl (by decide) rfl ?_
          refine BT.goto (tgt := 4) dX2_takenBy_98 (by decide) ?_
          refine BT.sub [4, 5, 6, 0] rfl ?_
          exact (((((h.2 c2).2.2.2 c4).2 c6).2.2 r8 e8 N8 g8).1 c9)
        · have c10 := c
          refine BT.iload_n dX2_takenBy_89 rfl 5 rfl ?_
          refine BT.iconst (v := 1) dX2_takenBy_90 (by decide) ?_
          refine BT.iload_n dX2_takenBy_91 rfl 6 rfl ?_
          refine BT.ishl dX2_takenBy_92 ?_
          refine BT.ior dX2_takenBy_93 ?_
          refine BT.istore_n (L' := [(2, .int (v2 ||| ((1 : Int32) <<< (v3 &&& 31)))), (6, .int 1), (5, .int (M.1 (10 + 5 * (Int32.toNatClampNeg v1)) 0)), (4, .ref (52 + (Int32.toNatClampNeg v3))), (0, .ref 167), (1, .int v1), (3, .int v3)]) dX2_takenBy_94 rfl (by decide) rfl ?_
          refine BT.iinc (j := 6) (v := (v3 + 1)) (L' := [(3, .int (v3 + 1)), (2, .int (v2 ||| ((1 : Int32) <<< (v3 &&& 31)))), (6, .int 1), (5, .int (M.1 (10 + 5 * (Int32.toNatClampNeg v1)) 0)), (4, .ref (52 + (Int32.toNatClampNeg v3))), (0, .ref 167), (1, .int v1)]) dX2_takenBy_95 rfl rfl (by decide) rfl ?_
          refine BT.goto (tgt := 4) dX2_takenBy_98 (by decide) ?_
          refine BT.sub [5, 6, 1, 0] rfl ?_
          exact (((((h.2 c2).2.2.2 c4).2 c6).2.2 r8 e8 N8 g8).2 c10)

theorem t_X2_takenBy {G : GT} {K : Int32 → Mem → Prop} {M : Mem} {v1 : Int32} (hw : WOk (wv M)) (hl : (0 : Int32) ≤ v1 ∧ v1 < wv M 8 1) (h : ∀ N, Scr M N → K (w_taken (wv M) v1 (w_p (wv M))) N) : T_X2_takenBy G [.ref 167, .int v1] M K := by
  obtain ⟨⟨hn, h8⟩, ⟨hq, h9⟩, -⟩ := id hw
  obtain ⟨l, hl8, rfl⟩ := i_nat (show w_n (wv M) < 2 ^ 31 by omega) hl.1 (by rw [← hn]; exact hl.2)
  refine e_X2_takenBy (k_X2_takenBy_0 ?_)
  refine up_loop (P := fun j => ∀ N, Scr M N → B_X2_takenBy G K 4 [(0, .ref 167), (1, .int (nI l)), (2, .int (w_taken (wv M) (nI l) j)), (3, .int (nI j))] [] N) (w_p (wv M)) (fun N hN => ?_) (fun j hj ih N hN => ?_) 0 (Nat.zero_le _) M Scr.rf
  · have e4 : N.1 8 4 = nI (w_p (wv M)) := by rw [hN.1 8 (by decide), ← hq, wv_at (by decide)]
    refine k_X2_takenBy_4 ⟨fun _ => h N hN, fun c => ?_⟩
    rw [e4] at c
    exact absurd (Int32.le_refl _) c
  · have off : ∀ c k, (c < 60 ∨ c = 174) → N.1 c k = wv M c k := fun c k hc => by rw [hN.1 c (by omega), wv_at hc]
    refine k_X2_takenBy_4 ?_
    rw [off 8 4 (by decide), hq]
    simp only [ix_nI (show j < 2 ^ 31 by omega), ix_nI (show l < 2 ^ 31 by omega)]
    rw [off (52 + j) 1 (by omega), off (10 + 5 * l) 0 (by omega), c_dayOn_wv (by omega), hN.wvE, nI_1]
    unfold w_taken at ih
    rw [ix_nI (show l < 2 ^ 31 by omega)] at ih
    refine ⟨fun c => ?_, fun c => ⟨vp_nI (by omega) (by decide), vp_nI (by omega) (by decide), fun c1 => ?_, fun c1 => ⟨fun c2 => ?_, fun c2 => ⟨by omega, hw, fun r8 e8 N8 g8 => ⟨fun c3 => ?_, fun c3 => ?_⟩⟩⟩⟩⟩
    · rw [nI_leI (by omega) (by omega)] at c
      omega
    · rw [sel_f (fun q => q.1 c1)] at ih
      exact ih N hN
    · rw [sel_f (fun q => Int32.not_lt.mpr c2 q.2.1)] at ih
      exact ih N hN
    · rw [sel_f (fun q => c3 (by rw [e8]; exact q.2.2))] at ih
      exact ih N8 (hN.tr g8.1)
    · rw [sel_t ⟨c1, Int32.not_le.mp c2, by rw [← e8]; exact c3⟩] at ih
      exact ih N8 (hN.tr g8.1)

/-! BetweenLaws$Court.everGoverns(ILBetweenLaws$Piece;)Z -/
abbrev rm_X2_everGoverns : Room := { frames := 4, cells := 0, slots := 0, locals := 100 }
abbrev B_X2_everGoverns (G : GT) (K : Int32 → Mem → Prop) := BT G (Rep G) RX2 "everGoverns" cX2_everGoverns 5 (some .boolean) rm_X2_everGoverns K 0 0
abbrev T_X2_everGoverns (G : GT) (as : List Value) (M : Mem) (K : Int32 → Mem → Prop) : Prop := MT G (Rep G) yX2_everGoverns cX2_everGoverns 5 (some .boolean) rm_X2_everGoverns as M K
theorem e_X2_everGoverns {G : GT} {K : Int32 → Mem → Prop} {M : Mem} {v1 : Int32} {a2 : Nat} (h : B_X2_everGoverns G K 0 [(0, .ref 167), (1, .int v1), (2, .ref a2)] [] M) : T_X2_everGoverns G [.ref 167, .int v1, .ref a2] M K := MT.of (by decide +kernel) rfl rfl (Nat.le_of_ble_eq_true rfl) rfl h
set_option maxRecDepth 4000 in
theorem k_X2_everGoverns_0 {G : GT} {K : Int32 → Mem → Prop} {M : Mem} {v1 : Int32} {a2 : Nat} (ha2 : PieceC a2) (h : B_X2_everGoverns G K 13 [(0, .ref 167), (1, .int v1), (2, .ref a2), (3, .int (c_dayOn M.1 a2 99)), (4, .int (M.1 a2 0))] [] M) : B_X2_everGoverns G K 0 [(0, .ref 167), (1, .int v1), (2, .ref a2)] [] M := by
  refine BT.aload_n dX2_everGoverns_0 rfl 2 rfl ?_
  refine BT.bipush (v := 99) dX2_everGoverns_1 (by decide) ?_
  refine BT.mcV [.int 99] (t_X6_dayOn ha2 ?_) mb_X6_dayOn mv_X6_dayOn lk_X2_88 rfl (by decide) rfl (recvRep ha2 rfl) (Nat.le_of_ble_eq_true rfl) dX2_everGoverns_3
  show B_X2_everGoverns G K 6 [(0, .ref 167), (1, .int v1), (2, .ref a2)] [.int (c_dayOn M.1 a2 99)] M
  refine BT.istore_n (L' := [(3, .int (c_dayOn M.1 a2 99)), (0, .ref 167), (1, .int v1), (2, .ref a2)]) dX2_everGoverns_6 rfl (by decide) rfl ?_
  refine BT.aload_n dX2_everGoverns_7 rfl 3 rfl ?_
  refine BT.getI fl_X2_34 ha2 rfl dX2_everGoverns_8 ?_
  refine BT.istore (L' := [(4, .int (M.1 a2 0)), (3, .int (c_dayOn M.1 a2 99)), (0, .ref 167), (1, .int v1), (2, .ref a2)]) dX2_everGoverns_11 (by decide) rfl ?_
  refine BT.sub [2, 3, 4, 1, 0] rfl ?_
  exact h
set_option maxRecDepth 4000 in
theorem k_X2_everGoverns_13 {G : GT} {K : Int32 → Mem → Prop} {M : Mem} {v1 : Int32} {a2 : Nat} {v3 : Int32} {v4 : Int32} (ha2 : PieceC a2) (h : (v3 < v4 → K 0 M) ∧ (¬ v3 < v4 → (v4 = (M.1 a2 0) → (a2 < 60 ∨ a2 = 174) ∧ (WOk (wv M)) ∧ (∀ r5 : Int32, r5 = (w_gov (wv M) a2 v4) → ∀ N5 : Mem, (Scr M N5 ∧ N5.1 167 1 = (w_gov2 (wv M) a2 v4).2) → (¬ r5 = v1 → B_X2_everGoverns G K 13 [(0, .ref 167), (1, .int v1), (2, .ref a2), (3, .int v3), (4, .int (v4 + 1))] [] N5) ∧ (r5 = v1 → K 1 N5))) ∧ (¬ v4 = (M.1 a2 0) → (WOk (wv M)) ∧ ((w_turns (wv M) v4) → (a2 < 60 ∨ a2 = 174) ∧ (WOk (wv M)) ∧ (∀ r11 : Int32, r11 = (w_gov (wv M) a2 v4) → ∀ N11 : Mem, (Scr M N11 ∧ N11.1 167 1 = (w_gov2 (wv M) a2 v4).2) → (¬ r11 = v1 → B_X2_everGoverns G K 13 [(0, .ref 167), (1, .int v1), (2, .ref a2), (3, .int v3), (4, .int (v4 + 1))] [] N11) ∧ (r11 = v1 → K 1 N11))) ∧ (¬ (w_turns (wv M) v4) → B_X2_everGoverns G K 13 [(0, .ref 167), (1, .int v1), (2, .ref a2), (3, .int v3), (4, .int (v4 + 1))] [] M)))) : B_X2_everGoverns G K 13 [(0, .ref 167), (1, .int v1), (2, .ref a2), (3, .int v3), (4, .int v4)] [] M := by
  refine BT.iload dX2_everGoverns_13 4 rfl ?_
  refine BT.iload_n dX2_everGoverns_15 rfl 3 rfl ?_
  refine BT.icmp_gt (tgt := 62) dX2_everGoverns_16 (by decide) (fun c => ?_) (fun c => ?_)
  · have c1 := c
    refine BT.iconst (v := 0) dX2_everGoverns_62 (by decide) ?_
    exact BT.zret dX2_everGoverns_63 rfl (by decide) (by decide) (nar01 ((Or.inl rfl))) (h.1 c1)
  · have c2 := c
    refine BT.iload dX2_everGoverns_19 4 rfl ?_
    refine BT.aload_n dX2_everGoverns_21 rfl 2 rfl ?_
    refine BT.getI fl_X2_34 ha2 rfl dX2_everGoverns_22 ?_
    refine BT.icmp_eq (tgt := 43) dX2_everGoverns_25 (by decide) (fun c => ?_) (fun c => ?_)
    · have c3 := c
      refine BT.aload_n dX2_everGoverns_43 rfl 0 rfl ?_
      refine BT.aload_n dX2_everGoverns_44 rfl 2 rfl ?_
      refine BT.iload dX2_everGoverns_45 4 rfl ?_
      refine BT.mcVp [.ref a2, .int v4] (t_X2_governor ha2 ((h.2 c2).1 c3).1 ((h.2 c2).1 c3).2.1 (fun N hN => ⟨rfl, hN⟩)) mb_X2_governor mv_X2_governor lk_X2_91 rfl (by decide) rfl (recvRep ho_167 rfl) (Nat.le_of_ble_eq_true rfl) dX2_everGoverns_47 (P := fun N5 => Scr M N5 ∧ N5.1 167 1 = (w_gov2 (wv M) a2 v4).2) (fun r5 e5 N5 g5 => ?_)
      show B_X2_everGoverns G K 50 [(0, .ref 167), (1, .int v1), (2, .ref a2), (3, .int v3), (4, .int v4)] [.int r5] N5
      refine BT.iload_n dX2_everGoverns_50 rfl 1 rfl ?_
      refine BT.icmp_ne (tgt := 56) dX2_everGoverns_51 (by decide) (fun c => ?_) (fun c => ?_)
      · have c6 := c
        refine BT.iinc (j := 4) (v := (v4 + 1)) (L' := [(4, .int (v4 + 1)), (0, .ref 167), (1, .int v1), (2, .ref a2), (3, .int v3)]) dX2_everGoverns_56 rfl rfl (by decide) rfl ?_
        refine BT.goto (tgt := 13) dX2_everGoverns_59 (by decide) ?_
        refine BT.sub [1, 2, 3, 4, 0] rfl ?_
        exact ((((h.2 c2).1 c3).2.2 r5 e5 N5 g5).1 c6)
      · have c7 := c
        refine BT.iconst (v := 1) dX2_everGoverns_54 (by decide) ?_
        exact BT.zret dX2_everGoverns_55 rfl (by decide) (by decide) (nar01 ((Or.inr rfl))) ((((h.2 c2).1 c3).2.2 r5 e5 N5 g5).2 c7)
    · have c4 := c
      refine BT.aload_n dX2_everGoverns_28 rfl 0 rfl ?_
      refine BT.getR (r := 8) fl_X2_9 ho_167 rfl dX2_everGoverns_29 ?_
      refine BT.iload dX2_everGoverns_32 4 rfl ?_
      refine BT.mcV [.int v4] (t_X9_turnsOn ((h.2 c2).2 c4).1 ?_) mb_X9_turnsOn mv_X9_turnsOn lk_X2_122 rfl (by decide) rfl (recvRep ho_8 rfl) (Nat.le_of_ble_eq_true rfl) dX2_everGoverns_34
      show B_X2_everGoverns G K 37 [(0, .ref 167), (1, .int v1), (2, .ref a2), (3, .int v3), (4, .int v4)] [.int (bi (w_turns (wv M) v4))] M
      refine BT.if_ne (tgt := 43) dX2_everGoverns_37 (by decide) (fun c => ?_) (fun c => ?_)
      · have c9 := bi_ne0.mp c
        refine BT.aload_n dX2_everGoverns_43 rfl 0 rfl ?_
        refine BT.aload_n dX2_everGoverns_44 rfl 2 rfl ?_
        refine BT.iload dX2_everGoverns_45 4 rfl ?_
        refine BT.mcVp [.ref a2, .int v4] (t_X2_governor ha2 (((h.2 c2).2 c4).2.1 c9).1 (((h.2 c2).2 c4).2.1 c9).2.1 (fun N hN => ⟨rfl, hN⟩)) mb_X2_governor mv_X2_governor lk_X2_91 rfl (by decide) rfl (recvRep ho_167 rfl) (Nat.le_of_ble_eq_true rfl) dX2_everGoverns_47 (P := fun N11 => Scr M N11 ∧ N11.1 167 1 = (w_gov2 (wv M) a2 v4).2) (fun r11 e11 N11 g11 => ?_)
        show B_X2_everGoverns G K 50 [(0, .ref 167), (1, .int v1), (2, .ref a2), (3, .int v3), (4, .int v4)] [.int r11] N11
        refine BT.iload_n dX2_everGoverns_50 rfl 1 rfl ?_
        refine BT.icmp_ne (tgt := 56) dX2_everGoverns_51 (by decide) (fun c => ?_) (fun c => ?_)
        · have c12 := c
          refine BT.iinc (j := 4) (v := (v4 + 1)) (L' := [(4, .int (v4 + 1)), (0, .ref 167), (1, .int v1), (2, .ref a2), (3, .int v3)]) dX2_everGoverns_56 rfl rfl (by decide) rfl ?_
          refine BT.goto (tgt := 13) dX2_everGoverns_59 (by decide) ?_
          refine BT.sub [1, 2, 3, 4, 0] rfl ?_
          exact (((((h.2 c2).2 c4).2.1 c9).2.2 r11 e11 N11 g11).1 c12)
        · have c13 := c
          refine BT.iconst (v := 1) dX2_everGoverns_54 (by decide) ?_
          exact BT.zret dX2_everGoverns_55 rfl (by decide) (by decide) (nar01 ((Or.inr rfl))) (((((h.2 c2).2 c4).2.1 c9).2.2 r11 e11 N11 g11).2 c13)
      · have c10 := bi_eq0.mp c
        refine BT.goto (tgt := 56) dX2_everGoverns_40 (by decide) ?_
        refine BT.iinc (j := 4) (v := (v4 + 1)) (L' := [(4, .int (v4 + 1)), (0, .ref 167), (1, .int v1), (2, .ref a2), (3, .int v3)]) dX2_everGoverns_56 rfl rfl (by decide) rfl ?_
        refine BT.goto (tgt := 13) dX2_everGoverns_59 (by decide) ?_
        refine BT.sub [1, 2, 3, 4, 0] rfl ?_
        exact (((h.2 c2).2 c4).2.2 c10)

theorem dayOn99 (W : WT) (p : Nat) : c_dayOn W p 99 ≤ 99 := by
  unfold c_dayOn
  by_cases h : W p 2 = -6
  · rw [if_pos h]; exact Int32.le_refl _
  · rw [if_neg h]
    by_cases h2 : W p 2 < 99
    · rw [if_pos h2]; exact Int32.le_of_lt h2
    · rw [if_neg h2]; exact Int32.le_refl _
theorem t_X2_everGoverns {G : GT} {K : Int32 → Mem → Prop} {M : Mem} {v1 : Int32} {a2 : Nat} (ha2 : PieceC a2) (hp : a2 < 60 ∨ a2 = 174) (hw : WOk (wv M)) (hb : BOk (wv M) a2) (h : ∀ N, Scr M N → K (bi (w_ever (wv M) v1 a2)) N) : T_X2_everGoverns G [.ref 167, .int v1, .ref a2] M K := by
  have h1 : w_ever (wv M) v1 a2 → ∀ N, Scr M N → K 1 N := fun q N hN => (bi_K (h N hN)).1 q
  have h0 : ¬ w_ever (wv M) v1 a2 → ∀ N, Scr M N → K 0 N := fun q N hN => (bi_K (h N hN)).2 q
  clear h
  obtain ⟨b, hb1, hb2⟩ := hb
  refine e_X2_everGoverns (k_X2_everGoverns_0 ha2 ?_)
  rw [c_dayOn_wv hp, ← wv_at (M := M) (k := 0) hp, hb2]
  have h99 := dayOn99 (wv M) a2
  refine up_loop (P := fun j => (∀ d, b ≤ d → d < j → ¬ (nI d ≤ c_dayOn (wv M) a2 99 ∧ d < 100 ∧ (nI d = wv M a2 0 ∨ w_turns (wv M) (nI d)) ∧ w_gov (wv M) a2 (nI d) = v1)) → b ≤ j → ∀ N, Scr M N → B_X2_everGoverns G K 13 [(0, .ref 167), (1, .int v1), (2, .ref a2), (3, .int (c_dayOn (wv M) a2 99)), (4, .int (nI j))] [] N) 100 (fun hno _ N hN => ?_) (fun j hj ih hno hbj N hN => ?_) b (by omega) (fun d hd1 hd2 => absurd hd1 (by omega)) (Nat.le_refl b) M Scr.rf
  · refine k_X2_everGoverns_13 ha2 ⟨fun _ => h0 (fun q => ?_) N hN, fun c => absurd (Int32.not_le.mp (fun q => ?_)) c⟩
    · obtain ⟨d, d1, d2, d3, d4, d5⟩ := q
      rw [hb2, nI_leI (by omega) (by omega)] at d1
      exact hno d d1 d3 ⟨d2, d3, d4, d5⟩
    · exact absurd (Int32.le_trans q h99) (by decide)
  · have off : ∀ c k, (c < 60 ∨ c = 174) → N.1 c k = wv M c k := fun c k hc => by rw [hN.1 c (by omega), wv_at hc]
    have step : ∀ N', Scr M N' → ¬ (nI j ≤ c_dayOn (wv M) a2 99 ∧ j < 100 ∧ (nI j = wv M a2 0 ∨ w_turns (wv M) (nI j)) ∧ w_gov (wv M) a2 (nI j) = v1) → B_X2_everGoverns G K 13 [(0, .ref 167), (1, .int v1), (2, .ref a2), (3, .int (c_dayOn (wv M) a2 99)), (4, .int (nI j + 1))] [] N' := by
      intro N' hN' hc
      rw [nI_1]
      refine ih (fun d hd1 hd2 => ?_) (by omega) N' hN'
      rcases Nat.lt_succ_iff_lt_or_eq.mp hd2 with q | rfl
      · exact hno d hd1 q
      · exact hc
    refine k_X2_everGoverns_13 ha2 ?_
    rw [off a2 0 hp, hN.wvE]
    have hit : nI j ≤ c_dayOn (wv M) a2 99 → (nI j = wv M a2 0 ∨ w_turns (wv M) (nI j)) → w_gov (wv M) a2 (nI j) = v1 → ∀ N', Scr M N' → K 1 N' := fun q1 q2 q3 N' hN' =>
      h1 ⟨j, by rw [hb2]; exact nI_le hbj (by omega), q1, hj, q2, q3⟩ N' hN'
    refine ⟨fun c => h0 (fun q => ?_) N hN, fun c => ⟨fun c1 => ⟨hp, hw, fun r5 e5 N5 g5 => ⟨fun c2 => step N5 (hN.tr g5.1) (fun q => c2 (e5.trans q.2.2.2)), fun c2 => hit (Int32.not_lt.mp c) (Or.inl c1) (e5.symm.trans c2) N5 (hN.tr g5.1)⟩⟩,
      fun c1 => ⟨hw, fun c2 => ⟨hp, hw, fun r5 e5 N5 g5 => ⟨fun c3 => step N5 (hN.tr g5.1) (fun q => c3 (e5.trans q.2.2.2)), fun c3 => hit (Int32.not_lt.mp c) (Or.inr c2) (e5.symm.trans c3) N5 (hN.tr g5.1)⟩⟩, fun c2 => step N hN (fun q => q.2.2.1.elim c1 c2)⟩⟩⟩
    obtain ⟨d, d1, d2, d3, d4, d5⟩ := q
    rw [hb2, nI_leI (by omega) (by omega)] at d1
    by_cases hdj : d < j
    · exact hno d d1 hdj ⟨d2, d3, d4, d5⟩
    · exact Int32.not_le.mpr c (Int32.le_trans (nI_le (by omega) (by omega)) d2)

/-! BetweenLaws$Court.caughtBy(I)I -/
abbrev rm_X2_caughtBy : Room := { frames := 5, cells := 0, slots := 0, locals := 124 }
abbrev B_X2_caughtBy (G : GT) (K : Int32 → Mem → Prop) := BT G (Rep G) RX2 "caughtBy" cX2_caughtBy 4 (some .int) rm_X2_caughtBy K 0 0
abbrev T_X2_caughtBy (G : GT) (as : List Value) (M : Mem) (K : Int32 → Mem → Prop) : Prop := MT G (Rep G) yX2_caughtBy cX2_caughtBy 4 (some .int) rm_X2_caughtBy as M K
theorem e_X2_caughtBy {G : GT} {K : Int32 → Mem → Prop} {M : Mem} {v1 : Int32} (h : B_X2_caughtBy G K 0 [(0, .ref 167), (1, .int v1)] [] M) : T_X2_caughtBy G [.ref 167, .int v1] M K := MT.of (by decide +kernel) rfl rfl (Nat.le_of_ble_eq_true rfl) rfl h
set_option maxRecDepth 4000 in
theorem k_X2_caughtBy_0 {G : GT} {K : Int32 → Mem → Prop} {M : Mem} {v1 : Int32} (h : B_X2_caughtBy G K 4 [(0, .ref 167), (1, .int v1), (2, .int 0), (3, .int 0)] [] M) : B_X2_caughtBy G K 0 [(0, .ref 167), (1, .int v1)] [] M := by
  refine BT.iconst (v := 0) dX2_caughtBy_0 (by decide) ?_
  refine BT.istore_n (L' := [(2, .int 0), (0, .ref 167), (1, .int v1)]) dX2_caughtBy_1 rfl (by decide) rfl ?_
  refine BT.iconst (v := 0) dX2_caughtBy_2 (by decide) ?_
  refine BT.istore_n (L' := [(3, .int 0), (2, .int 0), (0, .ref 167), (1, .int v1)]) dX2_caughtBy_3 rfl (by decide) rfl ?_
  refine BT.sub [2, 3, 1, 0] rfl ?_
  exact h
set_option maxRecDepth 4000 in
theorem k_X2_caughtBy_4 {G : GT} {K : Int32 → Mem → Prop} {M : Mem} {v1 : Int32} {v2 : Int32} {v3 : Int32} (h : ((M.1 8 4) ≤ v3 → K v2 M) ∧ (¬ (M.1 8 4) ≤ v3 → (vp_in v3 8) ∧ ((52 + (Int32.toNatClampNeg v3)) < 60 ∨ (52 + (Int32.toNatClampNeg v3)) = 174) ∧ (WOk (wv M)) ∧ (BOk (wv M) (52 + (Int32.toNatClampNeg v3))) ∧ (∀ N3 : Mem, (Scr M N3) → (¬ (w_ever (wv M) v1 (52 + (Int32.toNatClampNeg v3))) → B_X2_caughtBy G K 4 [(0, .ref 167), (1, .int v1), (2, .int v2), (3, .int (v3 + 1))] [] N3) ∧ ((w_ever (wv M) v1 (52 + (Int32.toNatClampNeg v3))) → B_X2_caughtBy G K 4 [(0, .ref 167), (1, .int v1), (2, .int (v2 ||| ((1 : Int32) <<< (v3 &&& 31)))), (3, .int (v3 + 1))] [] N3)))) : B_X2_caughtBy G K 4 [(0, .ref 167), (1, .int v1), (2, .int v2), (3, .int v3)] [] M := by
  refine BT.iload_n dX2_caughtBy_4 rfl 3 rfl ?_
  refine BT.aload_n dX2_caughtBy_5 rfl 0 rfl ?_
  refine BT.getR (r := 8) fl_X2_9 ho_167 rfl dX2_caughtBy_6 ?_
  refine BT.getI fl_X2_108 ho_8 rfl dX2_caughtBy_9 ?_
  refine BT.icmp_ge (tgt := 44) dX2_caughtBy_12 (by decide) (fun c => ?_) (fun c => ?_)
  · have c1 := c
    refine BT.iload_n dX2_caughtBy_44 rfl 2 rfl ?_
    exact BT.iret dX2_caughtBy_45 rfl (by decide) (by decide) (h.1 c1)
  · have c2 := c
    refine BT.aload_n dX2_caughtBy_15 rfl 0 rfl ?_
    refine BT.iload_n dX2_caughtBy_16 rfl 1 rfl ?_
    refine BT.aload_n dX2_caughtBy_17 rfl 0 rfl ?_
    refine BT.getR (r := 8) fl_X2_9 ho_167 rfl dX2_caughtBy_18 ?_
    refine BT.getR (r := 51) fl_X2_111 ho_8 rfl dX2_caughtBy_21 ?_
    refine BT.iload_n dX2_caughtBy_24 rfl 3 rfl ?_
    refine BT.aald1 ha_51 (by decide) (h.2 c2).1 dX2_caughtBy_25 ?_
    refine BT.mcVq [.int v1, .ref (52 + (Int32.toNatClampNeg v3))] (t_X2_everGoverns (pieceC8 (h.2 c2).1) (h.2 c2).2.1 (h.2 c2).2.2.1 (h.2 c2).2.2.2.1 (fun N hN => ⟨rfl, hN⟩)) mb_X2_everGoverns mv_X2_everGoverns lk_X2_118 rfl (by decide) rfl (recvRep ho_167 rfl) (Nat.le_of_ble_eq_true rfl) dX2_caughtBy_26 (P := fun N3 => Scr M N3) (fun N3 g3 => ?_)
    show B_X2_caughtBy G K 29 [(0, .ref 167), (1, .int v1), (2, .int v2), (3, .int v3)] [.int (bi (w_ever (wv M) v1 (52 + (Int32.toNatClampNeg v3))))] N3
    refine BT.if_eq (tgt := 38) dX2_caughtBy_29 (by decide) (fun c => ?_) (fun c => ?_)
    · have c4 := bi_eq0.mp c
      refine BT.iinc (j := 3) (v := (v3 + 1)) (L' := [(3, .int (v3 + 1)), (0, .ref 167), (1, .int v1), (2, .int v2)]) dX2_caughtBy_38 rfl rfl (by decide) rfl ?_
      refine BT.goto (tgt := 4) dX2_caughtBy_41 (by decide) ?_
      refine BT.sub [1, 2, 3, 0] rfl ?_
      exact (((h.2 c2).2.2.2.2 N3 g3).1 c4)
    · have c5 := bi_ne0.mp c
      refine BT.iload_n dX2_caughtBy_32 rfl 2 rfl ?_
      refine BT.iconst (v := 1) dX2_caughtBy_33 (by decide) ?_
      refine BT.iload_n dX2_caughtBy_34 rfl 3 rfl ?_
      refine BT.ishl dX2_caughtBy_35 ?_
      refine BT.ior dX2_caughtBy_36 ?_
      refine BT.istore_n (L' := [(2, .int (v2 ||| ((1 : Int32) <<< (v3 &&& 31)))), (0, .ref 167), (1, .int v1), (3, .int v3)]) dX2_caughtBy_37 rfl (by decide) rfl ?_
      refine BT.iinc (j := 3) (v := (v3 + 1)) (L' := [(3, .int (v3 + 1)), (2, .int (v2 ||| ((1 : Int32) <<< (v3 &&& 31)))), (0, .ref 167), (1, .int v1)]) dX2_caughtBy_38 rfl rfl (by decide) rfl ?_
      refine BT.goto (tgt := 4) dX2_caughtBy_41 (by decide) ?_
      refine BT.sub [2, 3, 1, 0] rfl ?_
      exact (((h.2 c2).2.2.2.2 N3 g3).2 c5)

theorem t_X2_caughtBy {G : GT} {K : Int32 → Mem → Prop} {M : Mem} {v1 : Int32} (hw : WOk (wv M)) (h : ∀ N, Scr M N → K (w_caught (wv M) v1 (w_p (wv M))) N) : T_X2_caughtBy G [.ref 167, .int v1] M K := by
  obtain ⟨⟨hn, h8⟩, ⟨hq, h9⟩, -, hbs⟩ := id hw
  refine e_X2_caughtBy (k_X2_caughtBy_0 ?_)
  refine up_loop (P := fun j => ∀ N, Scr M N → B_X2_caughtBy G K 4 [(0, .ref 167), (1, .int v1), (2, .int (w_caught (wv M) v1 j)), (3, .int (nI j))] [] N) (w_p (wv M)) (fun N hN => ?_) (fun j hj ih N hN => ?_) 0 (Nat.zero_le _) M Scr.rf
  · have e4 : N.1 8 4 = nI (w_p (wv M)) := by rw [hN.1 8 (by decide), ← hq, wv_at (by decide)]
    refine k_X2_caughtBy_4 ⟨fun _ => h N hN, fun c => ?_⟩
    rw [e4] at c
    exact absurd (Int32.le_refl _) c
  · have e4 : N.1 8 4 = nI (w_p (wv M)) := by rw [hN.1 8 (by decide), ← hq, wv_at (by decide)]
    refine k_X2_caughtBy_4 ?_
    rw [e4, hN.wvE]
    simp only [ix_nI (show j < 2 ^ 31 by omega)]
    rw [nI_1]
    unfold w_caught at ih
    refine ⟨fun c => ?_, fun c => ⟨vp_nI (by omega) (by decide), by omega, hw, hbs j hj, fun N5 g5 => ⟨fun c1 => ?_, fun c1 => ?_⟩⟩⟩
    · rw [nI_leI (by omega) (by omega)] at c
      omega
    · rw [sel_f c1] at ih
      exact ih N5 (hN.tr g5)
    · rw [sel_t c1] at ih
      exact ih N5 (hN.tr g5)

