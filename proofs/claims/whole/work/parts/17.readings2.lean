/-! ===== 17.readings2 ===== -/
/-- all scratch cells; what the answers' longs hold is not told -/
def Sc9 (M N : Mem) : Prop := ∀ c, ¬ (166 ≤ c ∧ c ≤ 173) → N.1 c = M.1 c
theorem Sc9.rf {M : Mem} : Sc9 M M := fun _ _ => rfl
theorem Sc9.tr {M N P : Mem} (h : Sc9 M N) (h2 : Sc9 N P) : Sc9 M P := fun c hc => (h2 c hc).trans (h c hc)
theorem Sc9.mi {M N : Mem} {c k : Nat} {v : Int32} (h : Sc9 M N) (hc : 166 ≤ c ∧ c ≤ 173) : Sc9 M (m_i N c k v) :=
  fun i hi => (mi_off (fun e => hi (by omega))).trans (h i hi)
theorem Sc9.wvE {M N : Mem} (h : Sc9 M N) : wv N = wv M := wv_eq (fun c hc => h c (by omega))
theorem Scr.s9 {M N : Mem} (h : Scr M N) : Sc9 M N := fun c hc => h.1 c (by omega)
theorem ScX.s9 {M N : Mem} (h : ScX M N) : Sc9 M N := fun c hc => h.1 c (by omega)
/-- read by another reading, and back -/
theorem rd_back {M N1 N2 N3 : Mem} {r : Int32} (hr : RdOk (wv M)) (h1 : wv N1 = w_rd (wv M) r ∧ (∀ c, ¬ c < 60 → N1.1 c = M.1 c) ∧ N1.2 = M.2) (h2 : Scr N1 N2) (h3 : wv N3 = w_rd (wv N2) 0 ∧ (∀ c, ¬ c < 60 → N3.1 c = N2.1 c) ∧ N3.2 = N2.2) : Scr M N3 := by
  refine ⟨fun c hc => ?_, h3.2.2.trans (h2.2.trans h1.2.2)⟩
  by_cases h : c < 60
  · have e : wv N3 = wv M := by rw [h3.1, h2.wvE, h1.1, w_rd_rd hr]
    funext k
    have e2 := congrFun (congrFun e c) k
    rw [wv_at (Or.inl h), wv_at (Or.inl h)] at e2
    exact e2
  · rw [h3.2.1 c h, h2.1 c hc, h1.2.1 c h]
noncomputable def a_unl (W : WT) (p : Nat) (day times : Int32) : Nat → Int64 × Int64
  | 0 => (0, 0)
  | r + 1 => sel ((nI r &&& (times ^^^ (-1))) = 0) (a_put (a_unl W p day times r) (w_given (w_rd W (nI r)) p day)) (a_unl W p day times r)
noncomputable def w_hangN (W : WT) (r day : Int32) : Nat → Nat
  | 0 => 0
  | p + 1 => w_hangN W r day p + sel (w_given (w_rd W r) (52 + p) day = w_given W (52 + p) day) 0 1
noncomputable def w_wei (W : WT) (day : Int32) : Nat → Int32 × Int32
  | 0 => (-6, 0)
  | i + 1 => sel ((w_wei W day i).1 = -6 ∨ (w_wei W day i).2 < nI (w_hangN W ((1 : Int32) <<< (nI i &&& 31)) day (w_p W))) (nI i, nI (w_hangN W ((1 : Int32) <<< (nI i &&& 31)) day (w_p W))) (w_wei W day i)

/-! BetweenLaws$Readings.givenBy(ILBetweenLaws$Piece;I)I -/
abbrev rm_X7_givenBy : Room := { frames := 5, cells := 0, slots := 0, locals := 126 }
abbrev B_X7_givenBy (G : GT) (K : Int32 → Mem → Prop) := BT G (Rep G) RX7 "givenBy" cX7_givenBy 5 (some .int) rm_X7_givenBy K 0 0
abbrev T_X7_givenBy (G : GT) (as : List Value) (M : Mem) (K : Int32 → Mem → Prop) : Prop := MT G (Rep G) yX7_givenBy cX7_givenBy 5 (some .int) rm_X7_givenBy as M K
theorem e_X7_givenBy {G : GT} {K : Int32 → Mem → Prop} {M : Mem} {v1 : Int32} {a2 : Nat} {v3 : Int32} (h : B_X7_givenBy G K 0 [(0, .ref 170), (1, .int v1), (2, .ref a2), (3, .int v3)] [] M) : T_X7_givenBy G [.ref 170, .int v1, .ref a2, .int v3] M K := MT.of (by decide +kernel) rfl rfl (Nat.le_of_ble_eq_true rfl) rfl h
set_option maxRecDepth 4000 in
theorem k_X7_givenBy_0 {G : GT} {K : Int32 → Mem → Prop} {M : Mem} {v1 : Int32} {a2 : Nat} {v3 : Int32} (ha2 : PieceC a2) (h : (WOk (wv M)) ∧ (∀ N1 : Mem, (wv N1 = w_rd (wv M) v1 ∧ (∀ c, ¬ c < 60 → N1.1 c = M.1 c) ∧ N1.2 = M.2) → (a2 < 60 ∨ a2 = 174) ∧ (WOk (wv N1)) ∧ (∀ r2 : Int32, r2 = (w_given (wv N1) a2 v3) → ∀ N2 : Mem, (Scr N1 N2) → (WOk (wv N2)) ∧ (∀ N3 : Mem, (wv N3 = w_rd (wv N2) 0 ∧ (∀ c, ¬ c < 60 → N3.1 c = N2.1 c) ∧ N3.2 = N2.2) → K r2 N3)))) : B_X7_givenBy G K 0 [(0, .ref 170), (1, .int v1), (2, .ref a2), (3, .int v3)] [] M := by
  refine BT.aload_n dX7_givenBy_0 rfl 0 rfl ?_
  refine BT.iload_n dX7_givenBy_1 rfl 1 rfl ?_
  refine BT.mcVvp [.int v1] (t_X7_readBy h.1 (fun N hN => ⟨rfl, hN⟩)) mb_X7_readBy mv_X7_readBy lk_X7_51 rfl (by decide) rfl (recvRep ho_170 rfl) (Nat.le_of_ble_eq_true rfl) dX7_givenBy_2 (P := fun N1 => wv N1 = w_rd (wv M) v1 ∧ (∀ c, ¬ c < 60 → N1.1 c = M.1 c) ∧ N1.2 = M.2) (fun N1 g1 => ?_)
  show B_X7_givenBy G K 5 [(0, .ref 170), (1, .int v1), (2, .ref a2), (3, .int v3)] [] N1
  refine BT.aload_n dX7_givenBy_5 rfl 0 rfl ?_
  refine BT.getR (r := 167) fl_X7_15 ho_170 rfl dX7_givenBy_6 ?_
  refine BT.aload_n dX7_givenBy_9 rfl 2 rfl ?_
  refine BT.iload_n dX7_givenBy_10 rfl 3 rfl ?_
  refine BT.mcVp [.ref a2, .int v3] (t_X2_given ha2 (h.2 N1 g1).1 (h.2 N1 g1).2.1 (fun N hN => ⟨rfl, hN⟩)) mb_X2_given mv_X2_given lk_X7_55 rfl (by decide) rfl (recvRep ho_167 rfl) (Nat.le_of_ble_eq_true rfl) dX7_givenBy_11 (P := fun N2 => Scr N1 N2) (fun r2 e2 N2 g2 => ?_)
  show B_X7_givenBy G K 14 [(0, .ref 170), (1, .int v1), (2, .ref a2), (3, .int v3)] [.int r2] N2
  refine BT.istore (L' := [(4, .int r2), (0, .ref 170), (1, .int v1), (2, .ref a2), (3, .int v3)]) dX7_givenBy_14 (by decide) rfl ?_
  refine BT.aload_n dX7_givenBy_16 rfl 1 rfl ?_
  refine BT.iconst (v := 0) dX7_givenBy_17 (by decide) ?_
  refine BT.mcVvp [.int 0] (t_X7_readBy ((h.2 N1 g1).2.2 r2 e2 N2 g2).1 (fun N hN => ⟨rfl, hN⟩)) mb_X7_readBy mv_X7_readBy lk_X7_51 rfl (by decide) rfl (recvRep ho_170 rfl) (Nat.le_of_ble_eq_true rfl) dX7_givenBy_18 (P := fun N3 => wv N3 = w_rd (wv N2) 0 ∧ (∀ c, ¬ c < 60 → N3.1 c = N2.1 c) ∧ N3.2 = N2.2) (fun N3 g3 => ?_)
  show B_X7_givenBy G K 21 [(4, .int r2), (0, .ref 170), (1, .int v1), (2, .ref a2), (3, .int v3)] [] N3
  refine BT.iload dX7_givenBy_21 0 rfl ?_
  exact BT.iret dX7_givenBy_23 rfl (by decide) (by decide) (((h.2 N1 g1).2.2 r2 e2 N2 g2).2 N3 g3)

theorem t_X7_givenBy {G : GT} {K : Int32 → Mem → Prop} {M : Mem} {v1 : Int32} {a2 : Nat} {v3 : Int32} (ha2 : PieceC a2) (hp : a2 < 60 ∨ a2 = 174) (hw : WOk (wv M)) (hr : RdOk (wv M)) (h : ∀ N, Scr M N → K (w_given (w_rd (wv M) v1) a2 v3) N) : T_X7_givenBy G [.ref 170, .int v1, .ref a2, .int v3] M K := by
  refine e_X7_givenBy (k_X7_givenBy_0 ha2 ⟨hw, fun N1 g1 => ⟨hp, by rw [g1.1]; exact w_rd_ok hw, fun r2 e2 N2 g2 => ⟨by rw [g2.wvE, g1.1]; exact w_rd_ok hw, fun N3 g3 => ?_⟩⟩⟩)
  rw [e2, g1.1]
  exact h N3 (rd_back hr g1 g2 g3)

/-! BetweenLaws$Readings.unlike(LBetweenLaws$Piece;I)I -/
abbrev rm_X7_unlike : Room := { frames := 6, cells := 0, slots := 0, locals := 150 }
abbrev B_X7_unlike (G : GT) (K : Int32 → Mem → Prop) := BT G (Rep G) RX7 "unlike" cX7_unlike 5 (some .int) rm_X7_unlike K 0 0
abbrev T_X7_unlike (G : GT) (as : List Value) (M : Mem) (K : Int32 → Mem → Prop) : Prop := MT G (Rep G) yX7_unlike cX7_unlike 5 (some .int) rm_X7_unlike as M K
theorem e_X7_unlike {G : GT} {K : Int32 → Mem → Prop} {M : Mem} {a1 : Nat} {v2 : Int32} (h : B_X7_unlike G K 0 [(0, .ref 170), (1, .ref a1), (2, .int v2)] [] M) : T_X7_unlike G [.ref 170, .ref a1, .int v2] M K := MT.of (by decide +kernel) rfl rfl (Nat.le_of_ble_eq_true rfl) rfl h
set_option maxRecDepth 4000 in
theorem k_X7_unlike_0 {G : GT} {K : Int32 → Mem → Prop} {M : Mem} {a1 : Nat} {v2 : Int32} (ha1 : PieceC a1) (h : (WOk (wv M)) ∧ (∀ r1 : Int32, r1 = (w_times (wv M) 8) → (∀ N2 : Mem, (N2.1 = M.1 ∧ c_ans N2 = (0, 0)) → B_X7_unlike G K 15 [(0, .ref 170), (1, .ref a1), (2, .int v2), (3, .int r1), (4, .int 0)] [] N2))) : B_X7_unlike G K 0 [(0, .ref 170), (1, .ref a1), (2, .int v2)] [] M := by
  refine BT.aload_n dX7_unlike_0 rfl 0 rfl ?_
  refine BT.mcVr [] (t_X7_timeWords h.1 ⟨rfl, rfl⟩) mb_X7_timeWords mv_X7_timeWords lk_X7_61 rfl (by decide) rfl (recvRep ho_170 rfl) (Nat.le_of_ble_eq_true rfl) dX7_unlike_1 (fun r1 e1 => ?_)
  show B_X7_unlike G K 4 [(0, .ref 170), (1, .ref a1), (2, .int v2)] [.int r1] M
  refine BT.istore_n (L' := [(3, .int r1), (0, .ref 170), (1, .ref a1), (2, .int v2)]) dX7_unlike_4 rfl (by decide) rfl ?_
  refine BT.aload_n dX7_unlike_5 rfl 1 rfl ?_
  refine BT.getR (r := 166) fl_X7_19 ho_170 rfl dX7_unlike_6 ?_
  refine BT.mcVvp [] (t_X0_clear  (fun N hN => ⟨rfl, hN⟩)) mb_X0_clear mv_X0_clear lk_X7_65 rfl (by decide) rfl (recvRep ho_166 rfl) (Nat.le_of_ble_eq_true rfl) dX7_unlike_9 (P := fun N2 => N2.1 = M.1 ∧ c_ans N2 = (0, 0)) (fun N2 g2 => ?_)
  show B_X7_unlike G K 12 [(3, .int r1), (0, .ref 170), (1, .ref a1), (2, .int v2)] [] N2
  refine BT.iconst (v := 0) dX7_unlike_12 (by decide) ?_
  refine BT.istore (L' := [(4, .int 0), (3, .int r1), (0, .ref 170), (1, .ref a1), (2, .int v2)]) dX7_unlike_13 (by decide) rfl ?_
  refine BT.sub [2, 3, 4, 1, 0] rfl ?_
  exact ((h.2 r1 e1) N2 g2)
set_option maxRecDepth 4000 in
theorem k_X7_unlike_15 {G : GT} {K : Int32 → Mem → Prop} {M : Mem} {a1 : Nat} {v2 : Int32} {v3 : Int32} {v4 : Int32} (ha1 : PieceC a1) (h : (256 ≤ v4 → (∀ r3 : Int32, r3 = (l_bc (c_ans M).1 + l_bc (c_ans M).2) → K r3 M)) ∧ (¬ 256 ≤ v4 → ((v4 &&& (v3 ^^^ (-1))) = 0 → (a1 < 60 ∨ a1 = 174) ∧ (WOk (wv M)) ∧ (RdOk (wv M)) ∧ (∀ r6 : Int32, r6 = (w_given (w_rd (wv M) v4) a1 v2) → ∀ N6 : Mem, (Scr M N6) → (∀ N7 : Mem, (N7.1 = N6.1 ∧ c_ans N7 = a_put (c_ans N6) r6) → B_X7_unlike G K 15 [(0, .ref 170), (1, .ref a1), (2, .int v2), (3, .int v3), (4, .int (v4 + 1))] [] N7))) ∧ (¬ (v4 &&& (v3 ^^^ (-1))) = 0 → B_X7_unlike G K 15 [(0, .ref 170), (1, .ref a1), (2, .int v2), (3, .int v3), (4, .int (v4 + 1))] [] M))) : B_X7_unlike G K 15 [(0, .ref 170), (1, .ref a1), (2, .int v2), (3, .int v3), (4, .int v4)] [] M := by
  refine BT.iload dX7_unlike_15 4 rfl ?_
  refine BT.sipush (v := 256) dX7_unlike_17 (by decide) ?_
  refine BT.icmp_ge (tgt := 56) dX7_unlike_20 (by decide) (fun c => ?_) (fun c => ?_)
  · have c1 := c
    refine BT.aload_n dX7_unlike_56 rfl 0 rfl ?_
    refine BT.getR (r := 166) fl_X7_19 ho_170 rfl dX7_unlike_57 ?_
    refine BT.mcVr [] (t_X0_count  ⟨rfl, rfl⟩) mb_X0_count mv_X0_count lk_X7_77 rfl (by decide) rfl (recvRep ho_166 rfl) (Nat.le_of_ble_eq_true rfl) dX7_unlike_60 (fun r3 e3 => ?_)
    show B_X7_unlike G K 63 [(0, .ref 170), (1, .ref a1), (2, .int v2), (3, .int v3), (4, .int v4)] [.int r3] M
    exact BT.iret dX7_unlike_63 rfl (by decide) (by decide) ((h.1 c1) r3 e3)
  · have c2 := c
    refine BT.iload dX7_unlike_23 4 rfl ?_
    refine BT.iload_n dX7_unlike_25 rfl 3 rfl ?_
    refine BT.iconst (v := (-1)) dX7_unlike_26 (by decide) ?_
    refine BT.ixor dX7_unlike_27 ?_
    refine BT.iand dX7_unlike_28 ?_
    refine BT.if_eq (tgt := 35) dX7_unlike_29 (by decide) (fun c => ?_) (fun c => ?_)
    · have c4 := c
      refine BT.aload_n dX7_unlike_35 rfl 0 rfl ?_
      refine BT.getR (r := 166) fl_X7_19 ho_170 rfl dX7_unlike_36 ?_
      refine BT.aload_n dX7_unlike_39 rfl 0 rfl ?_
      refine BT.iload dX7_unlike_40 4 rfl ?_
      refine BT.aload_n dX7_unlike_42 rfl 1 rfl ?_
      refine BT.iload_n dX7_unlike_43 rfl 2 rfl ?_
      refine BT.mcVp [.int v4, .ref a1, .int v2] (t_X7_givenBy ha1 ((h.2 c2).1 c4).1 ((h.2 c2).1 c4).2.1 ((h.2 c2).1 c4).2.2.1 (fun N hN => ⟨rfl, hN⟩)) mb_X7_givenBy mv_X7_givenBy lk_X7_70 rfl (by decide) rfl (recvRep ho_170 rfl) (Nat.le_of_ble_eq_true rfl) dX7_unlike_44 (P := fun N6 => Scr M N6) (fun r6 e6 N6 g6 => ?_)
      show B_X7_unlike G K 47 [(0, .ref 170), (1, .ref a1), (2, .int v2), (3, .int v3), (4, .int v4)] [.int r6, .ref 166] N6
      refine BT.mcVvp [.int r6] (t_X0_put  (fun N hN => ⟨rfl, hN⟩)) mb_X0_put mv_X0_put lk_X7_74 rfl (by decide) rfl (recvRep ho_166 rfl) (Nat.le_of_ble_eq_true rfl) dX7_unlike_47 (P := fun N7 => N7.1 = N6.1 ∧ c_ans N7 = a_put (c_ans N6) r6) (fun N7 g7 => ?_)
      show B_X7_unlike G K 50 [(0, .ref 170), (1, .ref a1), (2, .int v2), (3, .int v3), (4, .int v4)] [] N7
      refine BT.iinc (j := 4) (v := (v4 + 1)) (L' := [(4, .int (v4 + 1)), (0, .ref 170), (1, .ref a1), (2, .int v2), (3, .int v3)]) dX7_unlike_50 rfl rfl (by decide) rfl ?_
      refine BT.goto (tgt := 15) dX7_unlike_53 (by decide) ?_
      refine BT.sub [1, 2, 3, 4, 0] rfl ?_
      exact ((((h.2 c2).1 c4).2.2.2 r6 e6 N6 g6) N7 g7)
    · have c5 := c
      refine BT.goto (tgt := 50) dX7_unlike_32 (by decide) ?_
      refine BT.iinc (j := 4) (v := (v4 + 1)) (L' := [(4, .int (v4 + 1)), (0, .ref 170), (1, .ref a1), (2, .int v2), (3, .int v3)]) dX7_unlike_50 rfl rfl (by decide) rfl ?_
      refine BT.goto (tgt := 15) dX7_unlike_53 (by decide) ?_
      refine BT.sub [1, 2, 3, 4, 0] rfl ?_
      exact ((h.2 c2).2 c5)

theorem t_X7_unlike {G : GT} {K : Int32 → Mem → Prop} {M : Mem} {a1 : Nat} {v2 : Int32} (ha1 : PieceC a1) (hp : a1 < 60 ∨ a1 = 174) (hw : WOk (wv M)) (hr : RdOk (wv M)) (h : ∀ N, Sc9 M N → K (l_bc (a_unl (wv M) a1 v2 (w_times (wv M) 8) 256).1 + l_bc (a_unl (wv M) a1 v2 (w_times (wv M) 8) 256).2) N) : T_X7_unlike G [.ref 170, .ref a1, .int v2] M K := by
  refine e_X7_unlike (k_X7_unlike_0 ha1 ⟨hw, fun r1 e1 N2 g2 => ?_⟩)
  have s2 : Sc9 M N2 := fun c _ => by rw [g2.1]
  refine up_loop (P := fun j => ∀ N, Sc9 M N → c_ans N = a_unl (wv M) a1 v2 r1 j → B_X7_unlike G K 15 [(0, .ref 170), (1, .ref a1), (2, .int v2), (3, .int r1), (4, .int (nI j))] [] N) 256 (fun N hN hA => ?_) (fun j hj ih N hN hA => ?_) 0 (Nat.zero_le _) N2 s2 g2.2
  · refine k_X7_unlike_15 ha1 ⟨fun _ r3 e3 => ?_, fun c => absurd (Int32.le_refl _) c⟩
    rw [e3, hA, e1]
    exact h N hN
  · refine k_X7_unlike_15 ha1 ⟨fun c => absurd c (Int32.not_le.mpr (nI_lt hj (by decide))), fun _ => ⟨fun c1 => ⟨hp, by rw [hN.wvE]; exact hw, by rw [hN.wvE]; exact hr, fun r6 e6 N6 g6 N7 g7 => ?_⟩, fun c1 => ?_⟩⟩
    · rw [nI_1]
      refine ih N7 (fun c hc => by rw [g7.1, g6.1 c (by omega)]; exact hN c hc) ?_
      rw [g7.2, a_unl, sel_t c1, ← hA, e6, hN.wvE]
      congr 1
      unfold c_ans
      rw [g6.2]
    · rw [nI_1]
      refine ih N hN ?_
      rw [a_unl, sel_f c1, hA]

/-! BetweenLaws$Readings.hanging(II)I -/
abbrev rm_X7_hanging : Room := { frames := 5, cells := 0, slots := 0, locals := 126 }
abbrev B_X7_hanging (G : GT) (K : Int32 → Mem → Prop) := BT G (Rep G) RX7 "hanging" cX7_hanging 7 (some .int) rm_X7_hanging K 0 0
abbrev T_X7_hanging (G : GT) (as : List Value) (M : Mem) (K : Int32 → Mem → Prop) : Prop := MT G (Rep G) yX7_hanging cX7_hanging 7 (some .int) rm_X7_hanging as M K
theorem e_X7_hanging {G : GT} {K : Int32 → Mem → Prop} {M : Mem} {v1 : Int32} {v2 : Int32} (h : B_X7_hanging G K 0 [(0, .ref 170), (1, .int v1), (2, .int v2)] [] M) : T_X7_hanging G [.ref 170, .int v1, .int v2] M K := MT.of (by decide +kernel) rfl rfl (Nat.le_of_ble_eq_true rfl) rfl h
set_option maxRecDepth 4000 in
theorem k_X7_hanging_0 {G : GT} {K : Int32 → Mem → Prop} {M : Mem} {v1 : Int32} {v2 : Int32} (h : B_X7_hanging G K 5 [(0, .ref 170), (1, .int v1), (2, .int v2), (3, .int 0), (4, .int 0)] [] M) : B_X7_hanging G K 0 [(0, .ref 170), (1, .int v1), (2, .int v2)] [] M := by
  refine BT.iconst (v := 0) dX7_hanging_0 (by decide) ?_
  refine BT.istore_n (L' := [(3, .int 0), (0, .ref 170), (1, .int v1), (2, .int v2)]) dX7_hanging_1 rfl (by decide) rfl ?_
  refine BT.iconst (v := 0) dX7_hanging_2 (by decide) ?_
  refine BT.istore (L' := [(4, .int 0), (3, .int 0), (0, .ref 170), (1, .int v1), (2, .int v2)]) dX7_hanging_3 (by decide) rfl ?_
  refine BT.sub [2, 3, 4, 1, 0] rfl ?_
  exact h
set_option maxRecDepth 4000 in
theorem k_X7_hanging_5 {G : GT} {K : Int32 → Mem → Prop} {M : Mem} {v1 : Int32} {v2 : Int32} {v3 : Int32} {v4 : Int32} (h : ((M.1 8 4) ≤ v4 → K v3 M) ∧ (¬ (M.1 8 4) ≤ v4 → (vp_in v4 8) ∧ ((52 + (Int32.toNatClampNeg v4)) < 60 ∨ (52 + (Int32.toNatClampNeg v4)) = 174) ∧ (WOk (wv M)) ∧ (∀ r3 : Int32, r3 = (w_given (wv M) (52 + (Int32.toNatClampNeg v4)) v2) → ∀ N3 : Mem, (Scr M N3) → (WOk (wv N3)) ∧ (∀ N4 : Mem, (wv N4 = w_rd (wv N3) v1 ∧ (∀ c, ¬ c < 60 → N4.1 c = N3.1 c) ∧ N4.2 = N3.2) → ((52 + (Int32.toNatClampNeg v4)) < 60 ∨ (52 + (Int32.toNatClampNeg v4)) = 174) ∧ (WOk (wv N4)) ∧ (∀ r5 : Int32, r5 = (w_given (wv N4) (52 + (Int32.toNatClampNeg v4)) v2) → ∀ N5 : Mem, (Scr N4 N5) → (r5 = r3 → (WOk (wv N5)) ∧ (∀ N8 : Mem, (wv N8 = w_rd (wv N5) 0 ∧ (∀ c, ¬ c < 60 → N8.1 c = N5.1 c) ∧ N8.2 = N5.2) → B_X7_hanging G K 5 [(0, .ref 170), (1, .int v1), (2, .int v2), (3, .int v3), (4, .int (v4 + 1))] [] N8)) ∧ (¬ r5 = r3 → (WOk (wv N5)) ∧ (∀ N9 : Mem, (wv N9 = w_rd (wv N5) 0 ∧ (∀ c, ¬ c < 60 → N9.1 c = N5.1 c) ∧ N9.2 = N5.2) → B_X7_hanging G K 5 [(0, .ref 170), (1, .int v1), (2, .int v2), (3, .int (v3 + 1)), (4, .int (v4 + 1))] [] N9))))))) : B_X7_hanging G K 5 [(0, .ref 170), (1, .int v1), (2, .int v2), (3, .int v3), (4, .int v4)] [] M := by
  refine BT.iload dX7_hanging_5 4 rfl ?_
  refine BT.aload_n dX7_hanging_7 rfl 0 rfl ?_
  refine BT.getR (r := 8) fl_X7_9 ho_170 rfl dX7_hanging_8 ?_
  refine BT.getI fl_X7_96 ho_8 rfl dX7_hanging_11 ?_
  refine BT.icmp_ge (tgt := 75) dX7_hanging_14 (by decide) (fun c => ?_) (fun c => ?_)
  · have c1 := c
    refine BT.iload_n dX7_hanging_75 rfl 3 rfl ?_
    exact BT.iret dX7_hanging_76 rfl (by decide) (by decide) (h.1 c1)
  · have c2 := c
    refine BT.aload_n dX7_hanging_17 rfl 0 rfl ?_
    refine BT.getR (r := 8) fl_X7_9 ho_170 rfl dX7_hanging_18 ?_
    refine BT.getR (r := 51) fl_X7_99 ho_8 rfl dX7_hanging_21 ?_
    refine BT.iload dX7_hanging_24 4 rfl ?_
    refine BT.aald1 ha_51 (by decide) (h.2 c2).1 dX7_hanging_26 ?_
    refine BT.astore (L' := [(5, .ref (52 + (Int32.toNatClampNeg v4))), (0, .ref 170), (1, .int v1), (2, .int v2), (3, .int v3), (4, .int v4)]) dX7_hanging_27 (by decide) rfl ?_
    refine BT.aload_n dX7_hanging_29 rfl 1 rfl ?_
    refine BT.getR (r := 167) fl_X7_15 ho_170 rfl dX7_hanging_30 ?_
    refine BT.aload dX7_hanging_33 0 rfl ?_
    refine BT.iload_n dX7_hanging_35 rfl 3 rfl ?_
    refine BT.mcVp [.ref (52 + (Int32.toNatClampNeg v4)), .int v2] (t_X2_given (pieceC8 (h.2 c2).1) (h.2 c2).2.1 (h.2 c2).2.2.1 (fun N hN => ⟨rfl, hN⟩)) mb_X2_given mv_X2_given lk_X7_55 rfl (by decide) rfl (recvRep ho_167 rfl) (Nat.le_of_ble_eq_true rfl) dX7_hanging_36 (P := fun N3 => Scr M N3) (fun r3 e3 N3 g3 => ?_)
    show B_X7_hanging G K 39 [(5, .ref (52 + (Int32.toNatClampNeg v4))), (0, .ref 170), (1, .int v1), (2, .int v2), (3, .int v3), (4, .int v4)] [.int r3] N3
    refine BT.istore (L' := [(6, .int r3), (5, .ref (52 + (Int32.toNatClampNeg v4))), (0, .ref 170), (1, .int v1), (2, .int v2), (3, .int v3), (4, .int v4)]) dX7_hanging_39 (by decide) rfl ?_
    refine BT.aload_n dX7_hanging_41 rfl 2 rfl ?_
    refine BT.iload_n dX7_hanging_42 rfl 3 rfl ?_
    refine BT.mcVvp [.int v1] (t_X7_readBy ((h.2 c2).2.2.2 r3 e3 N3 g3).1 (fun N hN => ⟨rfl, hN⟩)) mb_X7_readBy mv_X7_readBy lk_X7_51 rfl (by decide) rfl (recvRep ho_170 rfl) (Nat.le_of_ble_eq_true rfl) dX7_hanging_43 (P := fun N4 => wv N4 = w_rd (wv N3) v1 ∧ (∀ c, ¬ c < 60 → N4.1 c = N3.1 c) ∧ N4.2 = N3.2) (fun N4 g4 => ?_)
    show B_X7_hanging G K 46 [(6, .int r3), (5, .ref (52 + (Int32.toNatClampNeg v4))), (0, .ref 170), (1, .int v1), (2, .int v2), (3, .int v3), (4, .int v4)] [] N4
    refine BT.aload_n dX7_hanging_46 rfl 2 rfl ?_
    refine BT.getR (r := 167) fl_X7_15 ho_170 rfl dX7_hanging_47 ?_
    refine BT.aload dX7_hanging_50 1 rfl ?_
    refine BT.iload_n dX7_hanging_52 rfl 4 rfl ?_
    refine BT.mcVp [.ref (52 + (Int32.toNatClampNeg v4)), .int v2] (t_X2_given (pieceC8 (h.2 c2).1) (((h.2 c2).2.2.2 r3 e3 N3 g3).2 N4 g4).1 (((h.2 c2).2.2.2 r3 e3 N3 g3).2 N4 g4).2.1 (fun N hN => ⟨rfl, hN⟩)) mb_X2_given mv_X2_given lk_X7_55 rfl (by decide) rfl (recvRep ho_167 rfl) (Nat.le_of_ble_eq_true rfl) dX7_hanging_53 (P := fun N5 => Scr N4 N5) (fun r5 e5 N5 g5 => ?_)
    show B_X7_hanging G K 56 [(6, .int r3), (5, .ref (52 + (Int32.toNatClampNeg v4))), (0, .ref 170), (1, .int v1), (2, .int v2), (3, .int v3), (4, .int v4)] [.int r5] N5
    refine BT.iload dX7_hanging_56 0 rfl ?_
    refine BT.icmp_eq (tgt := 64) dX7_hanging_58 (by decide) (fun c => ?_) (fun c => ?_)
    · have c6 := c
      refine BT.aload_n dX7_hanging_64 rfl 2 rfl ?_
      refine BT.iconst (v := 0) dX7_hanging_65 (by decide) ?_
      refine BT.mcVvp [.int 0] (t_X7_readBy (((((h.2 c2).2.2.2 r3 e3 N3 g3).2 N4 g4).2.2 r5 e5 N5 g5).1 c6).1 (fun N hN => ⟨rfl, hN⟩)) mb_X7_readBy mv_X7_readBy lk_X7_51 rfl (by decide) rfl (recvRep ho_170 rfl) (Nat.le_of_ble_eq_true rfl) dX7_hanging_66 (P := fun N8 => wv N8 = w_rd (wv N5) 0 ∧ (∀ c, ¬ c < 60 → N8.1 c = N5.1 c) ∧ N8.2 = N5.2) (fun N8 g8 => ?_)
      show B_X7_hanging G K 69 [(6, .int r3), (5, .ref (52 + (Int32.toNatClampNeg v4))), (0, .ref 170), (1, .int v1), (2, .int v2), (3, .int v3), (4, .int v4)] [] N8
      refine BT.iinc (j := 6) (v := (v4 + 1)) (L' := [(4, .int (v4 + 1)), (6, .int r3), (5, .ref (52 + (Int32.toNatClampNeg v4))), (0, .ref 170), (1, .int v1), (2, .int v2), (3, .int v3)]) dX7_hanging_69 rfl rfl (by decide) rfl ?_
      refine BT.goto (tgt := 5) dX7_hanging_72 (by decide) ?_
      refine BT.sub [3, 4, 5, 6, 0] rfl ?_
      exact ((((((h.2 c2).2.2.2 r3 e3 N3 g3).2 N4 g4).2.2 r5 e5 N5 g5).1 c6).2 N8 g8)
    · have c7 := c
      refine BT.iinc (j := 5) (v := (v3 + 1)) (L' := [(3, .int (v3 + 1)), (6, .int r3), (5, .ref (52 + (Int32.toNatClampNeg v4))), (0, .ref 170), (1, .int v1), (2, .int v2), (4, .int v4)]) dX7_hanging_61 rfl rfl (by decide) rfl ?_
      refine BT.aload_n dX7_hanging_64 rfl 3 rfl ?_
      refine BT.iconst (v := 0) dX7_hanging_65 (by decide) ?_
      refine BT.mcVvp [.int 0] (t_X7_readBy (((((h.2 c2).2.2.2 r3 e3 N3 g3).2 N4 g4).2.2 r5 e5 N5 g5).2 c7).1 (fun N hN => ⟨rfl, hN⟩)) mb_X7_readBy mv_X7_readBy lk_X7_51 rfl (by decide) rfl (recvRep ho_170 rfl) (Nat.le_of_ble_eq_true rfl) dX7_hanging_66 (P := fun N9 => wv N9 = w_rd (wv N5) 0 ∧ (∀ c, ¬ c < 60 → N9.1 c = N5.1 c) ∧ N9.2 = N5.2) (fun N9 g9 => ?_)
      show B_X7_hanging G K 69 [(3, .int (v3 + 1)), (6, .int r3), (5, .ref (52 + (Int32.toNatClampNeg v4))), (0, .ref 170), (1, .int v1), (2, .int v2), (4, .int v4)] [] N9
      refine BT.iinc (j := 6) (v := (v4 + 1)) (L' := [(4, .int (v4 + 1)), (3, .int (v3 + 1)), (6, .int r3), (5, .ref (52 + (Int32.toNatClampNeg v4))), (0, .ref 170), (1, .int v1), (2, .int v2)]) dX7_hanging_69 rfl rfl (by decide) rfl ?_
      refine BT.goto (tgt := 5) dX7_hanging_72 (by decide) ?_
      refine BT.sub [4, 5, 6, 1, 0] rfl ?_
      exact ((((((h.2 c2).2.2.2 r3 e3 N3 g3).2 N4 g4).2.2 r5 e5 N5 g5).2 c7).2 N9 g9)

theorem t_X7_hanging {G : GT} {K : Int32 → Mem → Prop} {M : Mem} {v1 v2 : Int32} (hw : WOk (wv M)) (hr : RdOk (wv M)) (h : ∀ N, Scr M N → K (nI (w_hangN (wv M) v1 v2 (w_p (wv M)))) N) : T_X7_hanging G [.ref 170, .int v1, .int v2] M K := by
  obtain ⟨-, ⟨hq, h9⟩, -⟩ := id hw
  refine e_X7_hanging (k_X7_hanging_0 ?_)
  refine up_loop (P := fun j => ∀ N, Scr M N → B_X7_hanging G K 5 [(0, .ref 170), (1, .int v1), (2, .int v2), (3, .int (nI (w_hangN (wv M) v1 v2 j))), (4, .int (nI j))] [] N) (w_p (wv M)) (fun N hN => ?_) (fun j hj ih N hN => ?_) 0 (Nat.zero_le _) M Scr.rf
  · have e4 : N.1 8 4 = nI (w_p (wv M)) := by rw [hN.1 8 (by decide), ← hq, wv_at (by decide)]
    refine k_X7_hanging_5 ⟨fun _ => h N hN, fun c => ?_⟩
    rw [e4] at c
    exact absurd (Int32.le_refl _) c
  · have e4 : N.1 8 4 = nI (w_p (wv M)) := by rw [hN.1 8 (by decide), ← hq, wv_at (by decide)]
    refine k_X7_hanging_5 ?_
    rw [e4]
    simp only [ix_nI (show j < 2 ^ 31 by omega), nI_1]
    unfold w_hangN at ih
    refine ⟨fun c => ?_, fun c => ⟨vp_nI (by omega) (by decide), by omega, by rw [hN.wvE]; exact hw, fun r3 e3 N3 g3 => ⟨by rw [g3.wvE, hN.wvE]; exact hw, fun N4 g4 => ⟨by omega, by rw [g4.1, g3.wvE, hN.wvE]; exact w_rd_ok hw, fun r5 e5 N5 g5 => ?_⟩⟩⟩⟩
    · rw [nI_leI (by omega) (by omega)] at c
      omega
    · have hr3 : RdOk (wv N3) := by rw [g3.wvE, hN.wvE]; exact hr
      rw [hN.wvE] at e3
      rw [g4.1, g3.wvE, hN.wvE] at e5
      refine ⟨fun c1 => ⟨by rw [g5.wvE, g4.1, g3.wvE, hN.wvE]; exact w_rd_ok hw, fun N8 g8 => ?_⟩, fun c1 => ⟨by rw [g5.wvE, g4.1, g3.wvE, hN.wvE]; exact w_rd_ok hw, fun N8 g8 => ?_⟩⟩
      · rw [sel_t (by rw [← e5, ← e3]; exact c1)] at ih
        exact ih N8 (hN.tr (g3.tr (rd_back hr3 g4 g5 g8)))
      · rw [sel_f (by rw [← e5, ← e3]; exact c1)] at ih
        exact ih N8 (hN.tr (g3.tr (rd_back hr3 g4 g5 g8)))

/-! BetweenLaws$Readings.weigh(I)V -/
abbrev rm_X7_weigh : Room := { frames := 6, cells := 0, slots := 0, locals := 152 }
abbrev B_X7_weigh (G : GT) (K : Int32 → Mem → Prop) := BT G (Rep G) RX7 "weigh" cX7_weigh 5 none rm_X7_weigh K 0 0
abbrev T_X7_weigh (G : GT) (as : List Value) (M : Mem) (K : Int32 → Mem → Prop) : Prop := MT G (Rep G) yX7_weigh cX7_weigh 5 none rm_X7_weigh as M K
theorem e_X7_weigh {G : GT} {K : Int32 → Mem → Prop} {M : Mem} {v1 : Int32} (h : B_X7_weigh G K 0 [(0, .ref 170), (1, .int v1)] [] M) : T_X7_weigh G [.ref 170, .int v1] M K := MT.of (by decide +kernel) rfl rfl (Nat.le_of_ble_eq_true rfl) rfl h
set_option maxRecDepth 4000 in
theorem k_X7_weigh_0 {G : GT} {K : Int32 → Mem → Prop} {M : Mem} {v1 : Int32} (h : (WOk (wv M)) ∧ (∀ r1 : Int32, r1 = (nI (w_len (wv M) (w_n (wv M)))) → B_X7_weigh G K 23 [(0, .ref 170), (1, .int v1), (2, .int (if 8 < r1 then 8 else r1)), (3, .int 0)] [] (m_i (m_i M 170 3 (-6)) 170 4 0))) : B_X7_weigh G K 0 [(0, .ref 170), (1, .int v1)] [] M := by
  refine BT.aload_n dX7_weigh_0 rfl 0 rfl ?_
  refine BT.mcVr [] (t_X7_count h.1 ⟨rfl, rfl⟩) mb_X7_count mv_X7_count lk_X7_80 rfl (by decide) rfl (recvRep ho_170 rfl) (Nat.le_of_ble_eq_true rfl) dX7_weigh_1 (fun r1 e1 => ?_)
  show B_X7_weigh G K 4 [(0, .ref 170), (1, .int v1)] [.int r1] M
  refine BT.bipush (v := 8) dX7_weigh_4 (by decide) ?_
  refine BT.mmin lk_X7_81 mm_1 mm_2 mm_3 (Nat.le_of_ble_eq_true rfl) dX7_weigh_6 (by decide) (by decide) (by decide) (by decide) ?_
  refine BT.istore_n (L' := [(2, .int (if 8 < r1 then 8 else r1)), (0, .ref 170), (1, .int v1)]) dX7_weigh_9 rfl (by decide) rfl ?_
  refine BT.aload_n dX7_weigh_10 rfl 1 rfl ?_
  refine BT.bipush (v := (-6)) dX7_weigh_11 (by decide) ?_
  refine BT.putI fl_X7_87 ft_7_3 ho_170 rfl dX7_weigh_13 ?_
  refine BT.aload_n dX7_weigh_16 rfl 1 rfl ?_
  refine BT.iconst (v := 0) dX7_weigh_17 (by decide) ?_
  refine BT.putI fl_X7_90 ft_7_4 ho_170 rfl dX7_weigh_18 ?_
  refine BT.iconst (v := 0) dX7_weigh_21 (by decide) ?_
  refine BT.istore_n (L' := [(3, .int 0), (2, .int (if 8 < r1 then 8 else r1)), (0, .ref 170), (1, .int v1)]) dX7_weigh_22 rfl (by decide) rfl ?_
  refine BT.sub [2, 3, 1, 0] rfl ?_
  exact (h.2 r1 e1)
set_option maxRecDepth 4000 in
theorem k_X7_weigh_23 {G : GT} {K : Int32 → Mem → Prop} {M : Mem} {v1 : Int32} {v2 : Int32} {v3 : Int32} (h : (v2 ≤ v3 → K 0 M) ∧ (¬ v2 ≤ v3 → (WOk (wv M)) ∧ (RdOk (wv M)) ∧ (∀ r3 : Int32, r3 = (nI (w_hangN (wv M) ((1 : Int32) <<< (v3 &&& 31)) v1 (w_p (wv M)))) → ∀ N3 : Mem, (Scr M N3) → ((N3.1 170 3) = (-6) → B_X7_weigh G K 23 [(0, .ref 170), (1, .int v1), (2, .int v2), (3, .int (v3 + 1))] [] (m_i (m_i N3 170 3 v3) 170 4 r3)) ∧ (¬ (N3.1 170 3) = (-6) → (r3 ≤ (N3.1 170 4) → B_X7_weigh G K 23 [(0, .ref 170), (1, .int v1), (2, .int v2), (3, .int (v3 + 1))] [] N3) ∧ (¬ r3 ≤ (N3.1 170 4) → B_X7_weigh G K 23 [(0, .ref 170), (1, .int v1), (2, .int v2), (3, .int (v3 + 1))] [] (m_i (m_i N3 170 3 v3) 170 4 r3)))))) : B_X7_weigh G K 23 [(0, .ref 170), (1, .int v1), (2, .int v2), (3, .int v3)] [] M := by
  refine BT.iload_n dX7_weigh_23 rfl 3 rfl ?_
  refine BT.iload_n dX7_weigh_24 rfl 2 rfl ?_
  refine BT.icmp_ge (tgt := 73) dX7_weigh_25 (by decide) (fun c => ?_) (fun c => ?_)
  · have c1 := c
    exact BT.vret dX7_weigh_73 rfl (by decide) (by decide) (h.1 c1)
  · have c2 := c
    refine BT.aload_n dX7_weigh_28 rfl 0 rfl ?_
    refine BT.iconst (v := 1) dX7_weigh_29 (by decide) ?_
    refine BT.iload_n dX7_weigh_30 rfl 3 rfl ?_
    refine BT.ishl dX7_weigh_31 ?_
    refine BT.iload_n dX7_weigh_32 rfl 1 rfl ?_
    refine BT.mcVp [.int ((1 : Int32) <<< (v3 &&& 31)), .int v1] (t_X7_hanging (h.2 c2).1 (h.2 c2).2.1 (fun N hN => ⟨rfl, hN⟩)) mb_X7_hanging mv_X7_hanging lk_X7_93 rfl (by decide) rfl (recvRep ho_170 rfl) (Nat.le_of_ble_eq_true rfl) dX7_weigh_33 (P := fun N3 => Scr M N3) (fun r3 e3 N3 g3 => ?_)
    show B_X7_weigh G K 36 [(0, .ref 170), (1, .int v1), (2, .int v2), (3, .int v3)] [.int r3] N3
    refine BT.istore (L' := [(4, .int r3), (0, .ref 170), (1, .int v1), (2, .int v2), (3, .int v3)]) dX7_weigh_36 (by decide) rfl ?_
    refine BT.aload_n dX7_weigh_38 rfl 1 rfl ?_
    refine BT.getI fl_X7_87 ho_170 rfl dX7_weigh_39 ?_
    refine BT.bipush (v := (-6)) dX7_weigh_42 (by decide) ?_
    refine BT.icmp_eq (tgt := 56) dX7_weigh_44 (by decide) (fun c => ?_) (fun c => ?_)
    · have c4 := c
      refine BT.aload_n dX7_weigh_56 rfl 1 rfl ?_
      refine BT.iload_n dX7_weigh_57 rfl 4 rfl ?_
      refine BT.putI fl_X7_87 ft_7_3 ho_170 rfl dX7_weigh_58 ?_
      refine BT.aload_n dX7_weigh_61 rfl 1 rfl ?_
      refine BT.iload dX7_weigh_62 0 rfl ?_
      refine BT.putI fl_X7_90 ft_7_4 ho_170 rfl dX7_weigh_64 ?_
      refine BT.iinc (j := 4) (v := (v3 + 1)) (L' := [(3, .int (v3 + 1)), (4, .int r3), (0, .ref 170), (1, .int v1), (2, .int v2)]) dX7_weigh_67 rfl rfl (by decide) rfl ?_
      refine BT.goto (tgt := 23) dX7_weigh_70 (by decide) ?_
      refine BT.sub [2, 3, 4, 0] rfl ?_
      exact (((h.2 c2).2.2 r3 e3 N3 g3).1 c4)
    · have c5 := c
      refine BT.iload dX7_weigh_47 0 rfl ?_
      refine BT.aload_n dX7_weigh_49 rfl 1 rfl ?_
      refine BT.getI fl_X7_90 ho_170 rfl dX7_weigh_50 ?_
      refine BT.icmp_le (tgt := 67) dX7_weigh_53 (by decide) (fun c => ?_) (fun c => ?_)
      · have c6 := c
        refine BT.iinc (j := 4) (v := (v3 + 1)) (L' := [(3, .int (v3 + 1)), (4, .int r3), (0, .ref 170), (1, .int v1), (2, .int v2)]) dX7_weigh_67 rfl rfl (by decide) rfl ?_
        refine BT.goto (tgt := 23) dX7_weigh_70 (by decide) ?_
        refine BT.sub [2, 3, 4, 0] rfl ?_
        exact ((((h.2 c2).2.2 r3 e3 N3 g3).2 c5).1 c6)
      · have c7 := c
        refine BT.aload_n dX7_weigh_56 rfl 1 rfl ?_
        refine BT.iload_n dX7_weigh_57 rfl 4 rfl ?_
        refine BT.putI fl_X7_87 ft_7_3 ho_170 rfl dX7_weigh_58 ?_
        refine BT.aload_n dX7_weigh_61 rfl 1 rfl ?_
        refine BT.iload dX7_weigh_62 0 rfl ?_
        refine BT.putI fl_X7_90 ft_7_4 ho_170 rfl dX7_weigh_64 ?_
        refine BT.iinc (j := 4) (v := (v3 + 1)) (L' := [(3, .int (v3 + 1)), (4, .int r3), (0, .ref 170), (1, .int v1), (2, .int v2)]) dX7_weigh_67 rfl rfl (by decide) rfl ?_
        refine BT.goto (tgt := 23) dX7_weigh_70 (by decide) ?_
        refine BT.sub [2, 3, 4, 0] rfl ?_
        exact ((((h.2 c2).2.2 r3 e3 N3 g3).2 c5).2 c7)

theorem t_X7_weigh {G : GT} {K : Int32 → Mem → Prop} {M : Mem} {v1 : Int32} (hw : WOk (wv M)) (hr : RdOk (wv M)) (h : ∀ N, Sc9 M N ∧ N.1 170 3 = (w_wei (wv M) v1 (min (w_len (wv M) (w_n (wv M))) 8)).1 ∧ N.1 170 4 = (w_wei (wv M) v1 (min (w_len (wv M) (w_n (wv M))) 8)).2 → K 0 N) : T_X7_weigh G [.ref 170, .int v1] M K := by
  have h8 := hw.1.2
  have hle := w_len_le (wv M) (w_n (wv M))
  refine e_X7_weigh (k_X7_weigh_0 ⟨hw, fun r1 e1 => ?_⟩)
  have em : (if (8 : Int32) < r1 then 8 else r1) = nI (min (w_len (wv M) (w_n (wv M))) 8) := by
    rw [e1]
    by_cases hq : (8 : Int32) < nI (w_len (wv M) (w_n (wv M)))
    · rw [if_pos hq]
      have : 8 < w_len (wv M) (w_n (wv M)) := (nI_ltI (show 8 < 2 ^ 31 by decide) (by omega)).mp hq
      rw [Nat.min_eq_right (by omega)]
      rfl
    · rw [if_neg hq]
      have : ¬ 8 < w_len (wv M) (w_n (wv M)) := fun z => hq (nI_lt z (by omega))
      rw [Nat.min_eq_left (by omega)]
  rw [em]
  have hm : min (w_len (wv M) (w_n (wv M))) 8 ≤ 8 := Nat.min_le_right _ _
  generalize min (w_len (wv M) (w_n (wv M))) 8 = m at h hm ⊢
  refine up_loop (P := fun j => ∀ N, (Sc9 M N ∧ N.1 170 3 = (w_wei (wv M) v1 j).1 ∧ N.1 170 4 = (w_wei (wv M) v1 j).2) → B_X7_weigh G K 23 [(0, .ref 170), (1, .int v1), (2, .int (nI m)), (3, .int (nI j))] [] N) m (fun N hN => ?_) (fun j hj ih N hN => ?_) 0 (Nat.zero_le _) _ ⟨(Sc9.rf.mi (by decide)).mi (by decide), by rw [m_i_ne (by decide), m_i_at]; rfl, by rw [m_i_at]; rfl⟩
  · exact k_X7_weigh_23 ⟨fun _ => h N hN, fun c => absurd (Int32.le_refl _) c⟩
  · have hwe : wv N = wv M := hN.1.wvE
    refine k_X7_weigh_23 ⟨fun c => absurd c (Int32.not_le.mpr (nI_lt hj (by omega))), fun _ => ⟨by rw [hwe]; exact hw, by rw [hwe]; exact hr, fun r3 e3 N3 g3 => ?_⟩⟩
    have a3 : N3.1 170 3 = (w_wei (wv M) v1 j).1 := by rw [g3.1 170 (by decide), hN.2.1]
    have a4 : N3.1 170 4 = (w_wei (wv M) v1 j).2 := by rw [g3.1 170 (by decide), hN.2.2]
    have s3 : Sc9 M N3 := hN.1.tr g3.s9
    rw [hwe] at e3
    unfold w_wei at ih
    rw [← e3] at ih
    rw [a3, a4, nI_1]
    refine ⟨fun c => ?_, fun c => ⟨fun c1 => ?_, fun c1 => ?_⟩⟩
    · rw [sel_t (Or.inl c)] at ih
      exact ih _ ⟨(s3.mi (by decide)).mi (by decide), by rw [m_i_ne (by decide), m_i_at], m_i_at⟩
    · rw [sel_f (fun q => q.elim c (fun z => Int32.not_lt.mpr c1 z))] at ih
      exact ih N3 ⟨s3, a3, a4⟩
    · rw [sel_t (Or.inr (Int32.not_le.mp c1))] at ih
      exact ih _ ⟨(s3.mi (by decide)).mi (by decide), by rw [m_i_ne (by decide), m_i_at], m_i_at⟩

