/-! ===== 15.course ===== -/
abbrev CrT : Type := Int32 × Int32 × Int32 × Int32 × Int32
/-- the course's own numbers: passed, passedOn, governor, start, end -/
def c_cr (M : Mem) : CrT := (M.1 169 2, M.1 169 3, M.1 169 4, M.1 169 5, M.1 169 6)
noncomputable def r_carry (s : CrT) (len way day : Int32) : CrT :=
  sel (s.2.2.2.2 = -6 ∨ way = 99) (s.1, s.2.1, s.2.2.1, s.2.2.2.1, s.2.2.2.1 + len)
    (sel (way = 98) (s.1, s.2.1, s.2.2.1, day, day + len) (s.1, s.2.1, s.2.2.1, s.2.2.2.1, if day + len < s.2.2.2.2 then day + len else s.2.2.2.2))
/-- one day's passage, when another law governs -/
noncomputable def r_pass (W : WT) (way : Int32) (s : CrT) (day g : Int32) : CrT :=
  sel (¬ ((0 : Int32) ≤ g ∧ g < W 8 1) ∨ W (10 + 5 * Int32.toNatClampNeg g) 11 = -6) (s.1 + 1, day, g, s.2.2.2.1, -6)
    (r_carry (s.1 + 1, day, g, s.2.2.2.1, s.2.2.2.2) (W (10 + 5 * Int32.toNatClampNeg g) 11) (if way = -6 then W (10 + 5 * Int32.toNatClampNeg g) 12 else way) day)
noncomputable def r_go (W : WT) (p : Nat) (way : Int32) (s : CrT) (day : Int32) : CrT :=
  sel (¬ day = W p 0 ∧ (¬ w_turns W day ∨ w_gov W p day = s.2.2.1)) s (r_pass W way s day (w_gov W p day))
noncomputable def r_begin (W : WT) (p : Nat) : CrT := (0, -6, -6, W p 0, -6)
noncomputable def r_thr (W : WT) (p : Nat) (i : Int32) : Nat → CrT → Int32 × CrT
  | 0, s => (0, s)
  | k + 1, s => sel ((r_go W p (-6) s (nI (99 - k))).1 - 1 = i) (1, r_go W p (-6) s (nI (99 - k))) (r_thr W p i k (r_go W p (-6) s (nI (99 - k))))
noncomputable def r_till (W : WT) (p : Nat) (last : Int32) : Nat → CrT → CrT
  | 0, s => s
  | k + 1, s => sel (nI (99 - k) ≤ last) (r_till W p last k (r_go W p (-6) s (nI (99 - k)))) s
noncomputable def r_who (W : WT) (p : Nat) (way : Int32) : Nat → CrT → Int32
  | 0, _ => -6
  | k + 1, s => sel (¬ (r_go W p way s (nI (99 - k))).2.2.2.2 = -6 ∧ (r_go W p way s (nI (99 - k))).2.2.2.2 ≤ nI (99 - k)) (nI (99 - k)) (r_who W p way k (r_go W p way s (nI (99 - k))))
def w_b (W : WT) (p : Nat) : Nat := (W p 0).toNatClampNeg
theorem BOk.b {W : WT} {p : Nat} (h : BOk W p) : w_b W p < 100 ∧ W p 0 = nI (w_b W p) := by
  obtain ⟨b, h1, h2⟩ := h
  have e : w_b W p = b := by unfold w_b; rw [h2, ix_nI (by omega)]
  rw [e]; exact ⟨h1, h2⟩
/-- what the course may change: the court's, and itself -/
def ScX (M N : Mem) : Prop := (∀ c, ¬ (167 ≤ c ∧ c ≤ 169) → N.1 c = M.1 c) ∧ N.2 = M.2
theorem ScX.rf {M : Mem} : ScX M M := ⟨fun _ _ => rfl, rfl⟩
theorem ScX.tr {M N P : Mem} (h : ScX M N) (h2 : ScX N P) : ScX M P := ⟨fun c hc => (h2.1 c hc).trans (h.1 c hc), h2.2.trans h.2⟩
theorem ScX.mi {M N : Mem} {c k : Nat} {v : Int32} (h : ScX M N) (hc : 167 ≤ c ∧ c ≤ 169) : ScX M (m_i N c k v) :=
  ⟨fun i hi => (mi_off (fun e => hi (by omega))).trans (h.1 i hi), h.2⟩
theorem ScX.wvE {M N : Mem} (h : ScX M N) : wv N = wv M := wv_eq (fun c hc => h.1 c (by omega))
theorem Scr.x {M N : Mem} (h : Scr M N) : ScX M N := ⟨fun c hc => h.1 c (by omega), h.2⟩
theorem Scr.cr {M N : Mem} (h : Scr M N) : c_cr N = c_cr M := by
  unfold c_cr
  rw [h.1 169 (by decide)]

/-! BetweenLaws$Course.begin(LBetweenLaws$Piece;)V -/
abbrev rm_X1_begin : Room := { frames := 0, cells := 0, slots := 0, locals := 0 }
abbrev B_X1_begin (G : GT) (K : Int32 → Mem → Prop) := BT G (Rep G) RX1 "begin" cX1_begin 2 none rm_X1_begin K 0 0
abbrev T_X1_begin (G : GT) (as : List Value) (M : Mem) (K : Int32 → Mem → Prop) : Prop := MT G (Rep G) yX1_begin cX1_begin 2 none rm_X1_begin as M K
theorem e_X1_begin {G : GT} {K : Int32 → Mem → Prop} {M : Mem} {a1 : Nat} (h : B_X1_begin G K 0 [(0, .ref 169), (1, .ref a1)] [] M) : T_X1_begin G [.ref 169, .ref a1] M K := MT.of (by decide +kernel) rfl rfl (Nat.le_of_ble_eq_true rfl) rfl h
set_option maxRecDepth 4000 in
theorem k_X1_begin_0 {G : GT} {K : Int32 → Mem → Prop} {M : Mem} {a1 : Nat} (ha1 : PieceC a1) (h : K 0 (m_i (m_i (m_i (m_i (m_i M 169 2 0) 169 3 (-6)) 169 4 (-6)) 169 5 ((m_i (m_i (m_i M 169 2 0) 169 3 (-6)) 169 4 (-6)).1 a1 0)) 169 6 (-6))) : B_X1_begin G K 0 [(0, .ref 169), (1, .ref a1)] [] M := by
  refine BT.aload_n dX1_begin_0 rfl 0 rfl ?_
  refine BT.iconst (v := 0) dX1_begin_1 (by decide) ?_
  refine BT.putI fl_X1_19 ft_1_2 ho_169 rfl dX1_begin_2 ?_
  refine BT.aload_n dX1_begin_5 rfl 0 rfl ?_
  refine BT.bipush (v := (-6)) dX1_begin_6 (by decide) ?_
  refine BT.putI fl_X1_23 ft_1_3 ho_169 rfl dX1_begin_8 ?_
  refine BT.aload_n dX1_begin_11 rfl 0 rfl ?_
  refine BT.bipush (v := (-6)) dX1_begin_12 (by decide) ?_
  refine BT.putI fl_X1_26 ft_1_4 ho_169 rfl dX1_begin_14 ?_
  refine BT.aload_n dX1_begin_17 rfl 0 rfl ?_
  refine BT.aload_n dX1_begin_18 rfl 1 rfl ?_
  refine BT.getI fl_X1_29 ha1 rfl dX1_begin_19 ?_
  refine BT.putI fl_X1_34 ft_1_5 ho_169 rfl dX1_begin_22 ?_
  refine BT.aload_n dX1_begin_25 rfl 0 rfl ?_
  refine BT.bipush (v := (-6)) dX1_begin_26 (by decide) ?_
  refine BT.putI fl_X1_37 ft_1_6 ho_169 rfl dX1_begin_28 ?_
  exact BT.vret dX1_begin_31 rfl (by decide) (by decide) h

theorem t_X1_begin {G : GT} {K : Int32 → Mem → Prop} {M : Mem} {a1 : Nat} (ha1 : PieceC a1) (hp : a1 < 60 ∨ a1 = 174) (h : ∀ N, ScX M N ∧ c_cr N = r_begin (wv M) a1 → K 0 N) : T_X1_begin G [.ref 169, .ref a1] M K := by
  refine e_X1_begin (k_X1_begin_0 ha1 ?_)
  refine h _ ⟨((((ScX.rf.mi (by decide)).mi (by decide)).mi (by decide)).mi (by decide)).mi (by decide), ?_⟩
  have ea : ¬ a1 = 169 := by omega
  simp [c_cr, r_begin, m_i, ea, wv_at hp]

/-! BetweenLaws$Course.carryTerm(III)V -/
abbrev rm_X1_carryTerm : Room := { frames := 1, cells := 0, slots := 0, locals := 21 }
abbrev B_X1_carryTerm (G : GT) (K : Int32 → Mem → Prop) := BT G (Rep G) RX1 "carryTerm" cX1_carryTerm 4 none rm_X1_carryTerm K 0 0
abbrev T_X1_carryTerm (G : GT) (as : List Value) (M : Mem) (K : Int32 → Mem → Prop) : Prop := MT G (Rep G) yX1_carryTerm cX1_carryTerm 4 none rm_X1_carryTerm as M K
theorem e_X1_carryTerm {G : GT} {K : Int32 → Mem → Prop} {M : Mem} {v1 : Int32} {v2 : Int32} {v3 : Int32} (h : B_X1_carryTerm G K 0 [(0, .ref 169), (1, .int v1), (2, .int v2), (3, .int v3)] [] M) : T_X1_carryTerm G [.ref 169, .int v1, .int v2, .int v3] M K := MT.of (by decide +kernel) rfl rfl (Nat.le_of_ble_eq_true rfl) rfl h
set_option maxRecDepth 4000 in
theorem k_X1_carryTerm_0 {G : GT} {K : Int32 → Mem → Prop} {M : Mem} {v1 : Int32} {v2 : Int32} {v3 : Int32} (h : ((M.1 169 6) = (-6) → K 0 (m_i M 169 6 ((M.1 169 5) + v1))) ∧ (¬ (M.1 169 6) = (-6) → (¬ v2 = 99 → (¬ v2 = 98 → K 0 (m_i M 169 6 (if (v3 + v1) < (M.1 169 6) then (v3 + v1) else (M.1 169 6)))) ∧ (v2 = 98 → K 0 (m_i (m_i M 169 5 v3) 169 6 (v3 + v1)))) ∧ (v2 = 99 → K 0 (m_i M 169 6 ((M.1 169 5) + v1))))) : B_X1_carryTerm G K 0 [(0, .ref 169), (1, .int v1), (2, .int v2), (3, .int v3)] [] M := by
  refine BT.aload_n dX1_carryTerm_0 rfl 0 rfl ?_
  refine BT.getI fl_X1_37 ho_169 rfl dX1_carryTerm_1 ?_
  refine BT.bipush (v := (-6)) dX1_carryTerm_4 (by decide) ?_
  refine BT.icmp_eq (tgt := 15) dX1_carryTerm_6 (by decide) (fun c => ?_) (fun c => ?_)
  · have c1 := c
    refine BT.aload_n dX1_carryTerm_15 rfl 0 rfl ?_
    refine BT.aload_n dX1_carryTerm_16 rfl 0 rfl ?_
    refine BT.getI fl_X1_34 ho_169 rfl dX1_carryTerm_17 ?_
    refine BT.iload_n dX1_carryTerm_20 rfl 1 rfl ?_
    refine BT.iadd dX1_carryTerm_21 ?_
    refine BT.putI fl_X1_37 ft_1_6 ho_169 rfl dX1_carryTerm_22 ?_
    refine BT.goto (tgt := 63) dX1_carryTerm_25 (by decide) ?_
    exact BT.vret dX1_carryTerm_63 rfl (by decide) (by decide) (h.1 c1)
  · have c2 := c
    refine BT.iload_n dX1_carryTerm_9 rfl 2 rfl ?_
    refine BT.bipush (v := 99) dX1_carryTerm_10 (by decide) ?_
    refine BT.icmp_ne (tgt := 28) dX1_carryTerm_12 (by decide) (fun c => ?_) (fun c => ?_)
    · have c3 := c
      refine BT.iload_n dX1_carryTerm_28 rfl 2 rfl ?_
      refine BT.bipush (v := 98) dX1_carryTerm_29 (by decide) ?_
      refine BT.icmp_ne (tgt := 49) dX1_carryTerm_31 (by decide) (fun c => ?_) (fun c => ?_)
      · have c5 := c
        refine BT.aload_n dX1_carryTerm_49 rfl 0 rfl ?_
        refine BT.aload_n dX1_carryTerm_50 rfl 0 rfl ?_
        refine BT.getI fl_X1_37 ho_169 rfl dX1_carryTerm_51 ?_
        refine BT.iload_n dX1_carryTerm_54 rfl 3 rfl ?_
        refine BT.iload_n dX1_carryTerm_55 rfl 1 rfl ?_
        refine BT.iadd dX1_carryTerm_56 ?_
        refine BT.mmin lk_X1_78 mm_1 mm_2 mm_3 (Nat.le_of_ble_eq_true rfl) dX1_carryTerm_57 (by decide) (by decide) (by decide) (by decide) ?_
        refine BT.putI fl_X1_37 ft_1_6 ho_169 rfl dX1_carryTerm_60 ?_
        exact BT.vret dX1_carryTerm_63 rfl (by decide) (by decide) (((h.2 c2).1 c3).1 c5)
      · have c6 := c
        refine BT.aload_n dX1_carryTerm_34 rfl 0 rfl ?_
        refine BT.iload_n dX1_carryTerm_35 rfl 3 rfl ?_
        refine BT.putI fl_X1_34 ft_1_5 ho_169 rfl dX1_carryTerm_36 ?_
        refine BT.aload_n dX1_carryTerm_39 rfl 0 rfl ?_
        refine BT.iload_n dX1_carryTerm_40 rfl 3 rfl ?_
        refine BT.iload_n dX1_carryTerm_41 rfl 1 rfl ?_
        refine BT.iadd dX1_carryTerm_42 ?_
        refine BT.putI fl_X1_37 ft_1_6 ho_169 rfl dX1_carryTerm_43 ?_
        refine BT.goto (tgt := 63) dX1_carryTerm_46 (by decide) ?_
        exact BT.vret dX1_carryTerm_63 rfl (by decide) (by decide) (((h.2 c2).1 c3).2 c6)
    · have c4 := c
      refine BT.aload_n dX1_carryTerm_15 rfl 0 rfl ?_
      refine BT.aload_n dX1_carryTerm_16 rfl 0 rfl ?_
      refine BT.getI fl_X1_34 ho_169 rfl dX1_carryTerm_17 ?_
      refine BT.iload_n dX1_carryTerm_20 rfl 1 rfl ?_
      refine BT.iadd dX1_carryTerm_21 ?_
      refine BT.putI fl_X1_37 ft_1_6 ho_169 rfl dX1_carryTerm_22 ?_
      refine BT.goto (tgt := 63) dX1_carryTerm_25 (by decide) ?_
      exact BT.vret dX1_carryTerm_63 rfl (by decide) (by decide) ((h.2 c2).2 c4)

theorem t_X1_carryTerm {G : GT} {K : Int32 → Mem → Prop} {M : Mem} {v1 v2 v3 : Int32} (h : ∀ N, ScX M N ∧ c_cr N = r_carry (c_cr M) v1 v2 v3 → K 0 N) : T_X1_carryTerm G [.ref 169, .int v1, .int v2, .int v3] M K := by
  refine e_X1_carryTerm (k_X1_carryTerm_0 ⟨fun c => ?_, fun c => ⟨fun c1 => ⟨fun c2 => ?_, fun c2 => ?_⟩, fun c1 => ?_⟩⟩)
  · exact h _ ⟨ScX.rf.mi (by decide), by rw [r_carry, sel_t (Or.inl (show (c_cr M).2.2.2.2 = -6 from c))]; simp [c_cr, m_i]⟩
  · exact h _ ⟨ScX.rf.mi (by decide), by rw [r_carry, sel_f (fun q => q.elim c c1), sel_f c2]; simp [c_cr, m_i]; rfl⟩
  · exact h _ ⟨(ScX.rf.mi (by decide)).mi (by decide), by rw [r_carry, sel_f (fun q => q.elim c c1), sel_t c2]; simp [c_cr, m_i]⟩
  · exact h _ ⟨ScX.rf.mi (by decide), by rw [r_carry, sel_t (Or.inr c1)]; simp [c_cr, m_i]⟩

/-! BetweenLaws$Course.goOn(LBetweenLaws$Piece;II)V -/
abbrev rm_X1_goOn : Room := { frames := 4, cells := 0, slots := 0, locals := 100 }
abbrev B_X1_goOn (G : GT) (K : Int32 → Mem → Prop) := BT G (Rep G) RX1 "goOn" cX1_goOn 7 none rm_X1_goOn K 0 0
abbrev T_X1_goOn (G : GT) (as : List Value) (M : Mem) (K : Int32 → Mem → Prop) : Prop := MT G (Rep G) yX1_goOn cX1_goOn 7 none rm_X1_goOn as M K
theorem e_X1_goOn {G : GT} {K : Int32 → Mem → Prop} {M : Mem} {a1 : Nat} {v2 : Int32} {v3 : Int32} (h : B_X1_goOn G K 0 [(0, .ref 169), (1, .ref a1), (2, .int v2), (3, .int v3)] [] M) : T_X1_goOn G [.ref 169, .ref a1, .int v2, .int v3] M K := MT.of (by decide +kernel) rfl rfl (Nat.le_of_ble_eq_true rfl) rfl h
set_option maxRecDepth 4000 in
theorem k_X1_goOn_0 {G : GT} {K : Int32 → Mem → Prop} {M : Mem} {a1 : Nat} {v2 : Int32} {v3 : Int32} (ha1 : PieceC a1) (h : (¬ v2 = (M.1 a1 0) → (WOk (wv M)) ∧ ((w_turns (wv M) v2) → B_X1_goOn G K 32 [(0, .ref 169), (1, .ref a1), (2, .int v2), (3, .int v3), (4, .int 0)] [] M) ∧ (¬ (w_turns (wv M) v2) → K 0 M)) ∧ (v2 = (M.1 a1 0) → B_X1_goOn G K 32 [(0, .ref 169), (1, .ref a1), (2, .int v2), (3, .int v3), (4, .int 1)] [] M)) : B_X1_goOn G K 0 [(0, .ref 169), (1, .ref a1), (2, .int v2), (3, .int v3)] [] M := by
  refine BT.iload_n dX1_goOn_0 rfl 2 rfl ?_
  refine BT.aload_n dX1_goOn_1 rfl 1 rfl ?_
  refine BT.getI fl_X1_29 ha1 rfl dX1_goOn_2 ?_
  refine BT.icmp_ne (tgt := 12) dX1_goOn_5 (by decide) (fun c => ?_) (fun c => ?_)
  · have c1 := c
    refine BT.iconst (v := 0) dX1_goOn_12 (by decide) ?_
    refine BT.istore (L' := [(4, .int 0), (0, .ref 169), (1, .ref a1), (2, .int v2), (3, .int v3)]) dX1_goOn_13 (by decide) rfl ?_
    refine BT.iload dX1_goOn_15 0 rfl ?_
    refine BT.if_ne (tgt := 32) dX1_goOn_17 (by decide) (fun c => absurd c (by decide)) (fun _ => ?_)
    refine BT.aload_n dX1_goOn_20 rfl 1 rfl ?_
    refine BT.getR (r := 8) fl_X1_9 ho_169 rfl dX1_goOn_21 ?_
    refine BT.iload_n dX1_goOn_24 rfl 3 rfl ?_
    refine BT.mcV [.int v2] (t_X9_turnsOn (h.1 c1).1 ?_) mb_X9_turnsOn mv_X9_turnsOn lk_X1_48 rfl (by decide) rfl (recvRep ho_8 rfl) (Nat.le_of_ble_eq_true rfl) dX1_goOn_25
    show B_X1_goOn G K 28 [(4, .int 0), (0, .ref 169), (1, .ref a1), (2, .int v2), (3, .int v3)] [.int (bi (w_turns (wv M) v2))] M
    refine BT.if_ne (tgt := 32) dX1_goOn_28 (by decide) (fun c => ?_) (fun c => ?_)
    · have c4 := bi_ne0.mp c
      refine BT.sub [1, 2, 3, 4, 0] rfl ?_
      exact ((h.1 c1).2.1 c4)
    · have c5 := bi_eq0.mp c
      exact BT.vret dX1_goOn_31 rfl (by decide) (by decide) ((h.1 c1).2.2 c5)
  · have c2 := c
    refine BT.iconst (v := 1) dX1_goOn_8 (by decide) ?_
    refine BT.goto (tgt := 13) dX1_goOn_9 (by decide) ?_
    refine BT.istore (L' := [(4, .int 1), (0, .ref 169), (1, .ref a1), (2, .int v2), (3, .int v3)]) dX1_goOn_13 (by decide) rfl ?_
    refine BT.iload dX1_goOn_15 0 rfl ?_
    refine BT.if_ne (tgt := 32) dX1_goOn_17 (by decide) (fun _ => ?_) (fun c => absurd c (by decide))
    refine BT.sub [1, 2, 3, 4, 0] rfl ?_
    exact (h.2 c2)
set_option maxRecDepth 4000 in
theorem k_X1_goOn_32 {G : GT} {K : Int32 → Mem → Prop} {M : Mem} {a1 : Nat} {v2 : Int32} {v3 : Int32} {v4 : Int32} (ha1 : PieceC a1) (h : (a1 < 60 ∨ a1 = 174) ∧ (WOk (wv M)) ∧ (∀ r1 : Int32, r1 = (w_gov (wv M) a1 v2) → ∀ N1 : Mem, (Scr M N1 ∧ N1.1 167 1 = (w_gov2 (wv M) a1 v2).2) → (¬ v4 = 0 → B_X1_goOn G K 58 [(0, .ref 169), (2, .int v2), (3, .int v3), (5, .int r1)] [] N1) ∧ (v4 = 0 → (¬ r1 = (N1.1 169 4) → B_X1_goOn G K 58 [(0, .ref 169), (2, .int v2), (3, .int v3), (5, .int r1)] [] N1) ∧ (r1 = (N1.1 169 4) → K 0 N1)))) : B_X1_goOn G K 32 [(0, .ref 169), (1, .ref a1), (2, .int v2), (3, .int v3), (4, .int v4)] [] M := by
  refine BT.aload_n dX1_goOn_32 rfl 0 rfl ?_
  refine BT.getR (r := 167) fl_X1_15 ho_169 rfl dX1_goOn_33 ?_
  refine BT.aload_n dX1_goOn_36 rfl 1 rfl ?_
  refine BT.iload_n dX1_goOn_37 rfl 2 rfl ?_
  refine BT.mcVp [.ref a1, .int v2] (t_X2_governor ha1 h.1 h.2.1 (fun N hN => ⟨rfl, hN⟩)) mb_X2_governor mv_X2_governor lk_X1_54 rfl (by decide) rfl (recvRep ho_167 rfl) (Nat.le_of_ble_eq_true rfl) dX1_goOn_38 (P := fun N1 => Scr M N1 ∧ N1.1 167 1 = (w_gov2 (wv M) a1 v2).2) (fun r1 e1 N1 g1 => ?_)
  show B_X1_goOn G K 41 [(0, .ref 169), (1, .ref a1), (2, .int v2), (3, .int v3), (4, .int v4)] [.int r1] N1
  refine BT.istore (L' := [(5, .int r1), (0, .ref 169), (1, .ref a1), (2, .int v2), (3, .int v3), (4, .int v4)]) dX1_goOn_41 (by decide) rfl ?_
  refine BT.iload dX1_goOn_43 5 rfl ?_
  refine BT.if_ne (tgt := 58) dX1_goOn_45 (by decide) (fun c => ?_) (fun c => ?_)
  · have c2 := c
    refine BT.sub [1, 3, 4, 0] rfl ?_
    exact ((h.2.2 r1 e1 N1 g1).1 c2)
  · have c3 := c
    refine BT.iload dX1_goOn_48 0 rfl ?_
    refine BT.aload_n dX1_goOn_50 rfl 1 rfl ?_
    refine BT.getI fl_X1_26 ho_169 rfl dX1_goOn_51 ?_
    refine BT.icmp_ne (tgt := 58) dX1_goOn_54 (by decide) (fun c => ?_) (fun c => ?_)
    · have c4 := c
      refine BT.sub [1, 3, 4, 0] rfl ?_
      exact (((h.2.2 r1 e1 N1 g1).2 c3).1 c4)
    · have c5 := c
      exact BT.vret dX1_goOn_57 rfl (by decide) (by decide) (((h.2.2 r1 e1 N1 g1).2 c3).2 c5)
set_option maxRecDepth 4000 in
theorem k_X1_goOn_58 {G : GT} {K : Int32 → Mem → Prop} {M : Mem} {v2 : Int32} {v3 : Int32} {v5 : Int32} (h : (¬ ((0 : Int32) ≤ v5 ∧ v5 < ((m_i (m_i (m_i M 169 2 ((M.1 169 2) + 1)) 169 3 v2) 169 4 v5).1 8 1)) → B_X1_goOn G K 109 [(0, .ref 169)] [] (m_i (m_i (m_i M 169 2 ((M.1 169 2) + 1)) 169 3 v2) 169 4 v5)) ∧ (((0 : Int32) ≤ v5 ∧ v5 < ((m_i (m_i (m_i M 169 2 ((M.1 169 2) + 1)) 169 3 v2) 169 4 v5).1 8 1)) → (vp_in v5 8) ∧ (¬ ((m_i (m_i (m_i M 169 2 ((M.1 169 2) + 1)) 169 3 v2) 169 4 v5).1 (10 + 5 * (Int32.toNatClampNeg v5)) 11) = (-6) → (vp_in v5 8) ∧ (¬ v3 = (-6) → (∀ N8 : Mem, (ScX (m_i (m_i (m_i M 169 2 ((M.1 169 2) + 1)) 169 3 v2) 169 4 v5) N8 ∧ c_cr N8 = r_carry (c_cr (m_i (m_i (m_i M 169 2 ((M.1 169 2) + 1)) 169 3 v2) 169 4 v5)) ((m_i (m_i (m_i M 169 2 ((M.1 169 2) + 1)) 169 3 v2) 169 4 v5).1 (10 + 5 * (Int32.toNatClampNeg v5)) 11) v3 v2) → K 0 N8)) ∧ (v3 = (-6) → (∀ N9 : Mem, (ScX (m_i (m_i (m_i M 169 2 ((M.1 169 2) + 1)) 169 3 v2) 169 4 v5) N9 ∧ c_cr N9 = r_carry (c_cr (m_i (m_i (m_i M 169 2 ((M.1 169 2) + 1)) 169 3 v2) 169 4 v5)) ((m_i (m_i (m_i M 169 2 ((M.1 169 2) + 1)) 169 3 v2) 169 4 v5).1 (10 + 5 * (Int32.toNatClampNeg v5)) 11) ((m_i (m_i (m_i M 169 2 ((M.1 169 2) + 1)) 169 3 v2) 169 4 v5).1 (10 + 5 * (Int32.toNatClampNeg v5)) 12) v2) → K 0 N9))) ∧ (((m_i (m_i (m_i M 169 2 ((M.1 169 2) + 1)) 169 3 v2) 169 4 v5).1 (10 + 5 * (Int32.toNatClampNeg v5)) 11) = (-6) → B_X1_goOn G K 109 [(0, .ref 169)] [] (m_i (m_i (m_i M 169 2 ((M.1 169 2) + 1)) 169 3 v2) 169 4 v5)))) : B_X1_goOn G K 58 [(0, .ref 169), (2, .int v2), (3, .int v3), (5, .int v5)] [] M := by
  refine BT.aload_n dX1_goOn_58 rfl 0 rfl ?_
  refine BT.dup dX1_goOn_59 rfl ?_
  refine BT.getI fl_X1_19 ho_169 rfl dX1_goOn_60 ?_
  refine BT.iconst (v := 1) dX1_goOn_63 (by decide) ?_
  refine BT.iadd dX1_goOn_64 ?_
  refine BT.putI fl_X1_19 ft_1_2 ho_169 rfl dX1_goOn_65 ?_
  refine BT.aload_n dX1_goOn_68 rfl 0 rfl ?_
  refine BT.iload_n dX1_goOn_69 rfl 1 rfl ?_
  refine BT.putI fl_X1_23 ft_1_3 ho_169 rfl dX1_goOn_70 ?_
  refine BT.aload_n dX1_goOn_73 rfl 0 rfl ?_
  refine BT.iload dX1_goOn_74 3 rfl ?_
  refine BT.putI fl_X1_26 ft_1_4 ho_169 rfl dX1_goOn_76 ?_
  refine BT.aload_n dX1_goOn_79 rfl 0 rfl ?_
  refine BT.getR (r := 8) fl_X1_9 ho_169 rfl dX1_goOn_80 ?_
  refine BT.iload dX1_goOn_83 3 rfl ?_
  refine BT.mcV [.int v5] (t_X9_hasLaw  ?_) mb_X9_hasLaw mv_X9_hasLaw lk_X1_59 rfl (by decide) rfl (recvRep ho_8 rfl) (Nat.le_of_ble_eq_true rfl) dX1_goOn_85
  show B_X1_goOn G K 88 [(0, .ref 169), (2, .int v2), (3, .int v3), (5, .int v5)] [.int (bi ((0 : Int32) ≤ v5 ∧ v5 < ((m_i (m_i (m_i M 169 2 ((M.1 169 2) + 1)) 169 3 v2) 169 4 v5).1 8 1)))] (m_i (m_i (m_i M 169 2 ((M.1 169 2) + 1)) 169 3 v2) 169 4 v5)
  refine BT.if_eq (tgt := 109) dX1_goOn_88 (by decide) (fun c => ?_) (fun c => ?_)
  · have c2 := bi_eq0.mp c
    refine BT.sub [0] rfl ?_
    exact (h.1 c2)
  · have c3 := bi_ne0.mp c
    refine BT.aload_n dX1_goOn_91 rfl 0 rfl ?_
    refine BT.getR (r := 8) fl_X1_9 ho_169 rfl dX1_goOn_92 ?_
    refine BT.getR (r := 9) fl_X1_62 ho_8 rfl dX1_goOn_95 ?_
    refine BT.iload dX1_goOn_98 3 rfl ?_
    refine BT.aald ha_9 (by decide) (h.2 c3).1 dX1_goOn_100 ?_
    refine BT.getI fl_X1_66 (lawC8 (h.2 c3).1).1 rfl dX1_goOn_101 ?_
    refine BT.bipush (v := (-6)) dX1_goOn_104 (by decide) ?_
    refine BT.icmp_ne (tgt := 116) dX1_goOn_106 (by decide) (fun c => ?_) (fun c => ?_)
    · have c4 := c
      refine BT.aload_n dX1_goOn_116 rfl 0 rfl ?_
      refine BT.getR (r := 8) fl_X1_9 ho_169 rfl dX1_goOn_117 ?_
      refine BT.getR (r := 9) fl_X1_62 ho_8 rfl dX1_goOn_120 ?_
      refine BT.iload dX1_goOn_123 3 rfl ?_
      refine BT.aald ha_9 (by decide) ((h.2 c3).2.1 c4).1 dX1_goOn_125 ?_
      refine BT.astore (L' := [(6, .ref (10 + 5 * (Int32.toNatClampNeg v5))), (0, .ref 169), (2, .int v2), (3, .int v3), (5, .int v5)]) dX1_goOn_126 (by decide) rfl ?_
      refine BT.aload_n dX1_goOn_128 rfl 1 rfl ?_
      refine BT.aload dX1_goOn_129 0 rfl ?_
      refine BT.getI fl_X1_66 (lawC8 ((h.2 c3).2.1 c4).1).1 rfl dX1_goOn_131 ?_
      refine BT.iload_n dX1_goOn_134 rfl 3 rfl ?_
      refine BT.bipush (v := (-6)) dX1_goOn_135 (by decide) ?_
      refine BT.icmp_ne (tgt := 148) dX1_goOn_137 (by decide) (fun c => ?_) (fun c => ?_)
      · have c6 := c
        refine BT.iload_n dX1_goOn_148 rfl 3 rfl ?_
        refine BT.iload_n dX1_goOn_149 rfl 2 rfl ?_
        refine BT.mcVvp [.int ((m_i (m_i (m_i M 169 2 ((M.1 169 2) + 1)) 169 3 v2) 169 4 v5).1 (10 + 5 * (Int32.toNatClampNeg v5)) 11), .int v3, .int v2] (t_X1_carryTerm  (fun N hN => ⟨rfl, hN⟩)) mb_X1_carryTerm mv_X1_carryTerm lk_X1_74 rfl (by decide) rfl (recvRep ho_169 rfl) (Nat.le_of_ble_eq_true rfl) dX1_goOn_150 (P := fun N8 => ScX (m_i (m_i (m_i M 169 2 ((M.1 169 2) + 1)) 169 3 v2) 169 4 v5) N8 ∧ c_cr N8 = r_carry (c_cr (m_i (m_i (m_i M 169 2 ((M.1 169 2) + 1)) 169 3 v2) 169 4 v5)) ((m_i (m_i (m_i M 169 2 ((M.1 169 2) + 1)) 169 3 v2) 169 4 v5).1 (10 + 5 * (Int32.toNatClampNeg v5)) 11) v3 v2) (fun N8 g8 => ?_)
        show B_X1_goOn G K 153 [(6, .ref (10 + 5 * (Int32.toNatClampNeg v5))), (0, .ref 169), (2, .int v2), (3, .int v3), (5, .int v5)] [] N8
        exact BT.vret dX1_goOn_153 rfl (by decide) (by decide) ((((h.2 c3).2.1 c4).2.1 c6) N8 g8)
      · have c7 := c
        refine BT.aload dX1_goOn_140 0 rfl ?_
        refine BT.getI fl_X1_71 (lawC8 ((h.2 c3).2.1 c4).1).1 rfl dX1_goOn_142 ?_
        refine BT.goto (tgt := 149) dX1_goOn_145 (by decide) ?_
        refine BT.iload_n dX1_goOn_149 rfl 2 rfl ?_
        refine BT.mcVvp [.int ((m_i (m_i (m_i M 169 2 ((M.1 169 2) + 1)) 169 3 v2) 169 4 v5).1 (10 + 5 * (Int32.toNatClampNeg v5)) 11), .int ((m_i (m_i (m_i M 169 2 ((M.1 169 2) + 1)) 169 3 v2) 169 4 v5).1 (10 + 5 * (Int32.toNatClampNeg v5)) 12), .int v2] (t_X1_carryTerm  (fun N hN => ⟨rfl, hN⟩)) mb_X1_carryTerm mv_X1_carryTerm lk_X1_74 rfl (by decide) rfl (recvRep ho_169 rfl) (Nat.le_of_ble_eq_true rfl) dX1_goOn_150 (P := fun N9 => ScX (m_i (m_i (m_i M 169 2 ((M.1 169 2) + 1)) 169 3 v2) 169 4 v5) N9 ∧ c_cr N9 = r_carry (c_cr (m_i (m_i (m_i M 169 2 ((M.1 169 2) + 1)) 169 3 v2) 169 4 v5)) ((m_i (m_i (m_i M 169 2 ((M.1 169 2) + 1)) 169 3 v2) 169 4 v5).1 (10 + 5 * (Int32.toNatClampNeg v5)) 11) ((m_i (m_i (m_i M 169 2 ((M.1 169 2) + 1)) 169 3 v2) 169 4 v5).1 (10 + 5 * (Int32.toNatClampNeg v5)) 12) v2) (fun N9 g9 => ?_)
        show B_X1_goOn G K 153 [(6, .ref (10 + 5 * (Int32.toNatClampNeg v5))), (0, .ref 169), (2, .int v2), (3, .int v3), (5, .int v5)] [] N9
        exact BT.vret dX1_goOn_153 rfl (by decide) (by decide) ((((h.2 c3).2.1 c4).2.2 c7) N9 g9)
    · have c5 := c
      refine BT.sub [0] rfl ?_
      exact ((h.2 c3).2.2 c5)
set_option maxRecDepth 4000 in
theorem k_X1_goOn_109 {G : GT} {K : Int32 → Mem → Prop} {M : Mem}  (h : K 0 (m_i M 169 6 (-6))) : B_X1_goOn G K 109 [(0, .ref 169)] [] M := by
  refine BT.aload_n dX1_goOn_109 rfl 0 rfl ?_
  refine BT.bipush (v := (-6)) dX1_goOn_110 (by decide) ?_
  refine BT.putI fl_X1_37 ft_1_6 ho_169 rfl dX1_goOn_112 ?_
  exact BT.vret dX1_goOn_115 rfl (by decide) (by decide) h

theorem t_X1_goOn {G : GT} {K : Int32 → Mem → Prop} {M : Mem} {a1 : Nat} {v2 v3 : Int32} (ha1 : PieceC a1) (hp : a1 < 60 ∨ a1 = 174) (hw : WOk (wv M)) (h : ∀ N, ScX M N ∧ c_cr N = r_go (wv M) a1 v3 (c_cr M) v2 → K 0 N) : T_X1_goOn G [.ref 169, .ref a1, .int v2, .int v3] M K := by
  obtain ⟨⟨hn, h8⟩, -⟩ := id hw
  have tail : ∀ (r : Int32) (N : Mem), r = w_gov (wv M) a1 v2 → Scr M N → ¬ (¬ v2 = wv M a1 0 ∧ (¬ w_turns (wv M) v2 ∨ w_gov (wv M) a1 v2 = (c_cr M).2.2.1)) → B_X1_goOn G K 58 [(0, .ref 169), (2, .int v2), (3, .int v3), (5, .int r)] [] N := by
    intro r N er hN hc
    unfold r_go at h
    rw [sel_f hc, ← er] at h
    unfold r_pass at h
    have hS : ScX M (m_i (m_i (m_i N 169 2 (N.1 169 2 + 1)) 169 3 v2) 169 4 r) := ((hN.x.mi (by decide)).mi (by decide)).mi (by decide)
    have hC : c_cr (m_i (m_i (m_i N 169 2 (N.1 169 2 + 1)) 169 3 v2) 169 4 r) = ((c_cr M).1 + 1, v2, r, (c_cr M).2.2.2.1, (c_cr M).2.2.2.2) := by
      rw [← hN.cr]
      simp [c_cr, m_i]
    have k58 := @k_X1_goOn_58 G K N v2 v3 r
    revert k58
    generalize m_i (m_i (m_i N 169 2 (N.1 169 2 + 1)) 169 3 v2) 169 4 r = N2 at hS hC ⊢
    intro k58
    have off : ∀ c k, (c < 60 ∨ c = 174) → N2.1 c k = wv M c k := fun c k hc => by rw [hS.1 c (by omega), wv_at hc]
    have t109 : (¬ ((0 : Int32) ≤ r ∧ r < wv M 8 1) ∨ wv M (10 + 5 * Int32.toNatClampNeg r) 11 = -6) → B_X1_goOn G K 109 [(0, .ref 169)] [] N2 := by
      intro hq
      refine k_X1_goOn_109 ?_
      rw [sel_t hq] at h
      refine h _ ⟨hS.mi (by decide), ?_⟩
      have e : c_cr (m_i N2 169 6 (-6)) = ((c_cr N2).1, (c_cr N2).2.1, (c_cr N2).2.2.1, (c_cr N2).2.2.2.1, -6) := by simp [c_cr, m_i]
      rw [e, hC]
    refine k58 ?_
    rw [off 8 1 (by decide)]
    refine ⟨fun c => t109 (Or.inl c), fun c => ?_⟩
    obtain ⟨j, hj, rfl⟩ := i_nat (show w_n (wv M) < 2 ^ 31 by omega) c.1 (by rw [← hn]; exact c.2)
    rw [ix_nI (by omega)] at h t109
    simp only [ix_nI (show j < 2 ^ 31 by omega)]
    rw [off (10 + 5 * j) 11 (by omega), off (10 + 5 * j) 12 (by omega), hC]
    refine ⟨vp_nI (by omega) (by decide), fun c1 => ⟨vp_nI (by omega) (by decide), fun c2 N8 g8 => ?_, fun c2 N9 g9 => ?_⟩, fun c1 => t109 (Or.inr c1)⟩
    · rw [sel_f (fun q => q.elim (fun q => q c) c1), if_neg c2] at h
      exact h N8 ⟨hS.tr g8.1, g8.2⟩
    · rw [sel_f (fun q => q.elim (fun q => q c) c1), if_pos c2] at h
      exact h N9 ⟨hS.tr g9.1, g9.2⟩
  have stay : (¬ v2 = wv M a1 0 ∧ (¬ w_turns (wv M) v2 ∨ w_gov (wv M) a1 v2 = (c_cr M).2.2.1)) → ∀ N, Scr M N → K 0 N := by
    intro hq N hN
    unfold r_go at h
    rw [sel_t hq] at h
    exact h N ⟨hN.x, hN.cr⟩
  refine e_X1_goOn (k_X1_goOn_0 ha1 ?_)
  rw [← wv_at (M := M) (k := 0) hp]
  refine ⟨fun c => ⟨hw, fun c1 => k_X1_goOn_32 ha1 ⟨hp, hw, fun r1 e1 N1 g1 => ⟨fun c2 => absurd rfl c2, fun _ => ⟨fun c2 => ?_, fun c2 => ?_⟩⟩⟩, fun c1 => stay ⟨c, Or.inl c1⟩ M Scr.rf⟩, fun c => k_X1_goOn_32 ha1 ⟨hp, hw, fun r1 e1 N1 g1 => ⟨fun _ => tail r1 N1 e1 g1.1 (fun q => q.1 c), fun c2 => absurd c2 (by decide)⟩⟩⟩
  · refine tail r1 N1 e1 g1.1 (fun q => q.2.elim (fun z => z c1) (fun z => c2 ?_))
    rw [e1, z, g1.1.1 169 (by decide)]
    rfl
  · refine stay ⟨c, Or.inr ?_⟩ N1 g1.1
    rw [← e1, c2, g1.1.1 169 (by decide)]
    rfl

/-! BetweenLaws$Course.goThrough(LBetweenLaws$Piece;I)Z -/
abbrev rm_X1_goThrough : Room := { frames := 5, cells := 0, slots := 0, locals := 126 }
abbrev B_X1_goThrough (G : GT) (K : Int32 → Mem → Prop) := BT G (Rep G) RX1 "goThrough" cX1_goThrough 4 (some .boolean) rm_X1_goThrough K 0 0
abbrev T_X1_goThrough (G : GT) (as : List Value) (M : Mem) (K : Int32 → Mem → Prop) : Prop := MT G (Rep G) yX1_goThrough cX1_goThrough 4 (some .boolean) rm_X1_goThrough as M K
theorem e_X1_goThrough {G : GT} {K : Int32 → Mem → Prop} {M : Mem} {a1 : Nat} {v2 : Int32} (h : B_X1_goThrough G K 0 [(0, .ref 169), (1, .ref a1), (2, .int v2)] [] M) : T_X1_goThrough G [.ref 169, .ref a1, .int v2] M K := MT.of (by decide +kernel) rfl rfl (Nat.le_of_ble_eq_true rfl) rfl h
set_option maxRecDepth 4000 in
theorem k_X1_goThrough_0 {G : GT} {K : Int32 → Mem → Prop} {M : Mem} {a1 : Nat} {v2 : Int32} (ha1 : PieceC a1) (h : (a1 < 60 ∨ a1 = 174) ∧ (∀ N1 : Mem, (ScX M N1 ∧ c_cr N1 = r_begin (wv M) a1) → B_X1_goThrough G K 10 [(0, .ref 169), (1, .ref a1), (2, .int v2), (3, .int (N1.1 a1 0))] [] N1)) : B_X1_goThrough G K 0 [(0, .ref 169), (1, .ref a1), (2, .int v2)] [] M := by
  refine BT.aload_n dX1_goThrough_0 rfl 0 rfl ?_
  refine BT.aload_n dX1_goThrough_1 rfl 1 rfl ?_
  refine BT.mcVvp [.ref a1] (t_X1_begin ha1 h.1 (fun N hN => ⟨rfl, hN⟩)) mb_X1_begin mv_X1_begin lk_X1_40 rfl (by decide) rfl (recvRep ho_169 rfl) (Nat.le_of_ble_eq_true rfl) dX1_goThrough_2 (P := fun N1 => ScX M N1 ∧ c_cr N1 = r_begin (wv M) a1) (fun N1 g1 => ?_)
  show B_X1_goThrough G K 5 [(0, .ref 169), (1, .ref a1), (2, .int v2)] [] N1
  refine BT.aload_n dX1_goThrough_5 rfl 1 rfl ?_
  refine BT.getI fl_X1_29 ha1 rfl dX1_goThrough_6 ?_
  refine BT.istore_n (L' := [(3, .int (N1.1 a1 0)), (0, .ref 169), (1, .ref a1), (2, .int v2)]) dX1_goThrough_9 rfl (by decide) rfl ?_
  refine BT.sub [1, 2, 3, 0] rfl ?_
  exact (h.2 N1 g1)
set_option maxRecDepth 4000 in
theorem k_X1_goThrough_10 {G : GT} {K : Int32 → Mem → Prop} {M : Mem} {a1 : Nat} {v2 : Int32} {v3 : Int32} (ha1 : PieceC a1) (h : (100 ≤ v3 → K 0 M) ∧ (¬ 100 ≤ v3 → (a1 < 60 ∨ a1 = 174) ∧ (WOk (wv M)) ∧ (∀ N3 : Mem, (ScX M N3 ∧ c_cr N3 = r_go (wv M) a1 (-6) (c_cr M) v3) → (¬ ((N3.1 169 2) - 1) = v2 → B_X1_goThrough G K 10 [(0, .ref 169), (1, .ref a1), (2, .int v2), (3, .int (v3 + 1))] [] N3) ∧ (((N3.1 169 2) - 1) = v2 → K 1 N3)))) : B_X1_goThrough G K 10 [(0, .ref 169), (1, .ref a1), (2, .int v2), (3, .int v3)] [] M := by
  refine BT.iload_n dX1_goThrough_10 rfl 3 rfl ?_
  refine BT.bipush (v := 100) dX1_goThrough_11 (by decide) ?_
  refine BT.icmp_ge (tgt := 42) dX1_goThrough_13 (by decide) (fun c => ?_) (fun c => ?_)
  · have c1 := c
    refine BT.iconst (v := 0) dX1_goThrough_42 (by decide) ?_
    exact BT.zret dX1_goThrough_43 rfl (by decide) (by decide) (nar01 ((Or.inl rfl))) (h.1 c1)
  · have c2 := c
    refine BT.aload_n dX1_goThrough_16 rfl 0 rfl ?_
    refine BT.aload_n dX1_goThrough_17 rfl 1 rfl ?_
    refine BT.iload_n dX1_goThrough_18 rfl 3 rfl ?_
    refine BT.bipush (v := (-6)) dX1_goThrough_19 (by decide) ?_
    refine BT.mcVvp [.ref a1, .int v3, .int (-6)] (t_X1_goOn ha1 (h.2 c2).1 (h.2 c2).2.1 (fun N hN => ⟨rfl, hN⟩)) mb_X1_goOn mv_X1_goOn lk_X1_44 rfl (by decide) rfl (recvRep ho_169 rfl) (Nat.le_of_ble_eq_true rfl) dX1_goThrough_21 (P := fun N3 => ScX M N3 ∧ c_cr N3 = r_go (wv M) a1 (-6) (c_cr M) v3) (fun N3 g3 => ?_)
    show B_X1_goThrough G K 24 [(0, .ref 169), (1, .ref a1), (2, .int v2), (3, .int v3)] [] N3
    refine BT.aload_n dX1_goThrough_24 rfl 0 rfl ?_
    refine BT.getI fl_X1_19 ho_169 rfl dX1_goThrough_25 ?_
    refine BT.iconst (v := 1) dX1_goThrough_28 (by decide) ?_
    refine BT.isub dX1_goThrough_29 ?_
    refine BT.iload_n dX1_goThrough_30 rfl 2 rfl ?_
    refine BT.icmp_ne (tgt := 36) dX1_goThrough_31 (by decide) (fun c => ?_) (fun c => ?_)
    · have c4 := c
      refine BT.iinc (j := 3) (v := (v3 + 1)) (L' := [(3, .int (v3 + 1)), (0, .ref 169), (1, .ref a1), (2, .int v2)]) dX1_goThrough_36 rfl rfl (by decide) rfl ?_
      refine BT.goto (tgt := 10) dX1_goThrough_39 (by decide) ?_
      refine BT.sub [1, 2, 3, 0] rfl ?_
      exact (((h.2 c2).2.2 N3 g3).1 c4)
    · have c5 := c
      refine BT.iconst (v := 1) dX1_goThrough_34 (by decide) ?_
      exact BT.zret dX1_goThrough_35 rfl (by decide) (by decide) (nar01 ((Or.inr rfl))) (((h.2 c2).2.2 N3 g3).2 c5)

theorem t_X1_goThrough {G : GT} {K : Int32 → Mem → Prop} {M : Mem} {a1 : Nat} {v2 : Int32} (ha1 : PieceC a1) (hp : a1 < 60 ∨ a1 = 174) (hw : WOk (wv M)) (hb : BOk (wv M) a1) (h : ∀ N, ScX M N ∧ c_cr N = (r_thr (wv M) a1 v2 (100 - w_b (wv M) a1) (r_begin (wv M) a1)).2 → K (bi ((r_thr (wv M) a1 v2 (100 - w_b (wv M) a1) (r_begin (wv M) a1)).1 = 1)) N) : T_X1_goThrough G [.ref 169, .ref a1, .int v2] M K := by
  obtain ⟨hb1, hb2⟩ := hb.b
  have key : ∀ (k : Nat) (s : CrT) (N : Mem), k ≤ 100 → ScX M N → c_cr N = s → (∀ N, ScX M N ∧ c_cr N = (r_thr (wv M) a1 v2 k s).2 → K (bi ((r_thr (wv M) a1 v2 k s).1 = 1)) N) → B_X1_goThrough G K 10 [(0, .ref 169), (1, .ref a1), (2, .int v2), (3, .int (nI (100 - k)))] [] N := by
    intro k
    induction k with
    | zero =>
      intro s N _ hN hs hk
      refine k_X1_goThrough_10 ha1 ⟨fun _ => ?_, fun c => absurd (Int32.le_refl _) c⟩
      have := hk N ⟨hN, hs⟩
      rwa [bi_f (show ¬ (r_thr (wv M) a1 v2 0 s).1 = 1 from by show ¬ (0 : Int32) = 1; decide)] at this
    | succ k ih =>
      intro s N hk8 hN hs hk
      unfold r_thr at hk
      refine k_X1_goThrough_10 ha1 ⟨fun c => absurd c ?_, fun c => ⟨hp, by rw [hN.wvE]; exact hw, fun N3 g3 => ⟨fun c1 => ?_, fun c1 => ?_⟩⟩⟩
      · exact Int32.not_le.mpr (nI_lt (show 100 - (k + 1) < 100 by omega) (by decide))
      · rw [hN.wvE, hs, show 100 - (k + 1) = 99 - k by omega] at g3
        rw [show (N3.1 169 2) = (c_cr N3).1 from rfl, g3.2] at c1
        rw [sel_f c1] at hk
        rw [nI_1, show 100 - (k + 1) + 1 = 100 - k by omega]
        exact ih _ N3 (by omega) (hN.tr g3.1) g3.2 hk
      · rw [hN.wvE, hs, show 100 - (k + 1) = 99 - k by omega] at g3
        rw [show (N3.1 169 2) = (c_cr N3).1 from rfl, g3.2] at c1
        rw [sel_t c1] at hk
        have := hk N3 ⟨hN.tr g3.1, g3.2⟩
        rwa [bi_t rfl] at this
  refine e_X1_goThrough (k_X1_goThrough_0 ha1 ⟨hp, fun N1 g1 => ?_⟩)
  have := key (100 - w_b (wv M) a1) _ N1 (by omega) g1.1 g1.2 h
  rw [show 100 - (100 - w_b (wv M) a1) = w_b (wv M) a1 by omega, ← hb2] at this
  rw [g1.1.1 a1 (by omega), ← wv_at (M := M) (k := 0) hp]
  exact this

/-! BetweenLaws$Course.goTill(LBetweenLaws$Piece;I)V -/
abbrev rm_X1_goTill : Room := { frames := 5, cells := 0, slots := 0, locals := 126 }
abbrev B_X1_goTill (G : GT) (K : Int32 → Mem → Prop) := BT G (Rep G) RX1 "goTill" cX1_goTill 4 none rm_X1_goTill K 0 0
abbrev T_X1_goTill (G : GT) (as : List Value) (M : Mem) (K : Int32 → Mem → Prop) : Prop := MT G (Rep G) yX1_goTill cX1_goTill 4 none rm_X1_goTill as M K
theorem e_X1_goTill {G : GT} {K : Int32 → Mem → Prop} {M : Mem} {a1 : Nat} {v2 : Int32} (h : B_X1_goTill G K 0 [(0, .ref 169), (1, .ref a1), (2, .int v2)] [] M) : T_X1_goTill G [.ref 169, .ref a1, .int v2] M K := MT.of (by decide +kernel) rfl rfl (Nat.le_of_ble_eq_true rfl) rfl h
set_option maxRecDepth 4000 in
theorem k_X1_goTill_0 {G : GT} {K : Int32 → Mem → Prop} {M : Mem} {a1 : Nat} {v2 : Int32} (ha1 : PieceC a1) (h : (a1 < 60 ∨ a1 = 174) ∧ (∀ N1 : Mem, (ScX M N1 ∧ c_cr N1 = r_begin (wv M) a1) → B_X1_goTill G K 10 [(0, .ref 169), (1, .ref a1), (2, .int v2), (3, .int (N1.1 a1 0))] [] N1)) : B_X1_goTill G K 0 [(0, .ref 169), (1, .ref a1), (2, .int v2)] [] M := by
  refine BT.aload_n dX1_goTill_0 rfl 0 rfl ?_
  refine BT.aload_n dX1_goTill_1 rfl 1 rfl ?_
  refine BT.mcVvp [.ref a1] (t_X1_begin ha1 h.1 (fun N hN => ⟨rfl, hN⟩)) mb_X1_begin mv_X1_begin lk_X1_40 rfl (by decide) rfl (recvRep ho_169 rfl) (Nat.le_of_ble_eq_true rfl) dX1_goTill_2 (P := fun N1 => ScX M N1 ∧ c_cr N1 = r_begin (wv M) a1) (fun N1 g1 => ?_)
  show B_X1_goTill G K 5 [(0, .ref 169), (1, .ref a1), (2, .int v2)] [] N1
  refine BT.aload_n dX1_goTill_5 rfl 1 rfl ?_
  refine BT.getI fl_X1_29 ha1 rfl dX1_goTill_6 ?_
  refine BT.istore_n (L' := [(3, .int (N1.1 a1 0)), (0, .ref 169), (1, .ref a1), (2, .int v2)]) dX1_goTill_9 rfl (by decide) rfl ?_
  refine BT.sub [1, 2, 3, 0] rfl ?_
  exact (h.2 N1 g1)
set_option maxRecDepth 4000 in
theorem k_X1_goTill_10 {G : GT} {K : Int32 → Mem → Prop} {M : Mem} {a1 : Nat} {v2 : Int32} {v3 : Int32} (ha1 : PieceC a1) (h : (v2 < v3 → K 0 M) ∧ (¬ v2 < v3 → (100 ≤ v3 → K 0 M) ∧ (¬ 100 ≤ v3 → (a1 < 60 ∨ a1 = 174) ∧ (WOk (wv M)) ∧ (∀ N5 : Mem, (ScX M N5 ∧ c_cr N5 = r_go (wv M) a1 (-6) (c_cr M) v3) → B_X1_goTill G K 10 [(0, .ref 169), (1, .ref a1), (2, .int v2), (3, .int (v3 + 1))] [] N5)))) : B_X1_goTill G K 10 [(0, .ref 169), (1, .ref a1), (2, .int v2), (3, .int v3)] [] M := by
  refine BT.iload_n dX1_goTill_10 rfl 3 rfl ?_
  refine BT.iload_n dX1_goTill_11 rfl 2 rfl ?_
  refine BT.icmp_gt (tgt := 35) dX1_goTill_12 (by decide) (fun c => ?_) (fun c => ?_)
  · have c1 := c
    exact BT.vret dX1_goTill_35 rfl (by decide) (by decide) (h.1 c1)
  · have c2 := c
    refine BT.iload_n dX1_goTill_15 rfl 3 rfl ?_
    refine BT.bipush (v := 100) dX1_goTill_16 (by decide) ?_
    refine BT.icmp_ge (tgt := 35) dX1_goTill_18 (by decide) (fun c => ?_) (fun c => ?_)
    · have c3 := c
      exact BT.vret dX1_goTill_35 rfl (by decide) (by decide) ((h.2 c2).1 c3)
    · have c4 := c
      refine BT.aload_n dX1_goTill_21 rfl 0 rfl ?_
      refine BT.aload_n dX1_goTill_22 rfl 1 rfl ?_
      refine BT.iload_n dX1_goTill_23 rfl 3 rfl ?_
      refine BT.bipush (v := (-6)) dX1_goTill_24 (by decide) ?_
      refine BT.mcVvp [.ref a1, .int v3, .int (-6)] (t_X1_goOn ha1 ((h.2 c2).2 c4).1 ((h.2 c2).2 c4).2.1 (fun N hN => ⟨rfl, hN⟩)) mb_X1_goOn mv_X1_goOn lk_X1_44 rfl (by decide) rfl (recvRep ho_169 rfl) (Nat.le_of_ble_eq_true rfl) dX1_goTill_26 (P := fun N5 => ScX M N5 ∧ c_cr N5 = r_go (wv M) a1 (-6) (c_cr M) v3) (fun N5 g5 => ?_)
      show B_X1_goTill G K 29 [(0, .ref 169), (1, .ref a1), (2, .int v2), (3, .int v3)] [] N5
      refine BT.iinc (j := 3) (v := (v3 + 1)) (L' := [(3, .int (v3 + 1)), (0, .ref 169), (1, .ref a1), (2, .int v2)]) dX1_goTill_29 rfl rfl (by decide) rfl ?_
      refine BT.goto (tgt := 10) dX1_goTill_32 (by decide) ?_
      refine BT.sub [1, 2, 3, 0] rfl ?_
      exact (((h.2 c2).2 c4).2.2 N5 g5)

theorem t_X1_goTill {G : GT} {K : Int32 → Mem → Prop} {M : Mem} {a1 : Nat} {v2 : Int32} (ha1 : PieceC a1) (hp : a1 < 60 ∨ a1 = 174) (hw : WOk (wv M)) (hb : BOk (wv M) a1) (h : ∀ N, ScX M N ∧ c_cr N = r_till (wv M) a1 v2 (100 - w_b (wv M) a1) (r_begin (wv M) a1) → K 0 N) : T_X1_goTill G [.ref 169, .ref a1, .int v2] M K := by
  obtain ⟨hb1, hb2⟩ := hb.b
  have key : ∀ (k : Nat) (s : CrT) (N : Mem), k ≤ 100 → ScX M N → c_cr N = s → (∀ N, ScX M N ∧ c_cr N = r_till (wv M) a1 v2 k s → K 0 N) → B_X1_goTill G K 10 [(0, .ref 169), (1, .ref a1), (2, .int v2), (3, .int (nI (100 - k)))] [] N := by
    intro k
    induction k with
    | zero =>
      intro s N _ hN hs hk
      exact k_X1_goTill_10 ha1 ⟨fun _ => hk N ⟨hN, hs⟩, fun _ => ⟨fun _ => hk N ⟨hN, hs⟩, fun c => absurd (Int32.le_refl _) c⟩⟩
    | succ k ih =>
      intro s N hk8 hN hs hk
      unfold r_till at hk
      refine k_X1_goTill_10 ha1 ⟨fun c => ?_, fun c0 => ⟨fun c => absurd c ?_, fun c => ⟨hp, by rw [hN.wvE]; exact hw, fun N3 g3 => ?_⟩⟩⟩
      · rw [show 100 - (k + 1) = 99 - k by omega] at c
        rw [sel_f (Int32.not_le.mpr c)] at hk
        exact hk N ⟨hN, hs⟩
      · exact Int32.not_le.mpr (nI_lt (show 100 - (k + 1) < 100 by omega) (by decide))
      · rw [hN.wvE, hs] at g3
        rw [show 100 - (k + 1) = 99 - k by omega] at g3 c0
        rw [sel_t (Int32.not_lt.mp c0)] at hk
        rw [nI_1, show 100 - (k + 1) + 1 = 100 - k by omega]
        exact ih _ N3 (by omega) (hN.tr g3.1) g3.2 hk
  refine e_X1_goTill (k_X1_goTill_0 ha1 ⟨hp, fun N1 g1 => ?_⟩)
  have := key (100 - w_b (wv M) a1) _ N1 (by omega) g1.1 g1.2 h
  rw [show 100 - (100 - w_b (wv M) a1) = w_b (wv M) a1 by omega, ← hb2] at this
  rw [g1.1.1 a1 (by omega), ← wv_at (M := M) (k := 0) hp]
  exact this

/-! BetweenLaws$Course.wholeFrom(LBetweenLaws$Piece;I)I -/
abbrev rm_X1_wholeFrom : Room := { frames := 5, cells := 0, slots := 0, locals := 126 }
abbrev B_X1_wholeFrom (G : GT) (K : Int32 → Mem → Prop) := BT G (Rep G) RX1 "wholeFrom" cX1_wholeFrom 4 (some .int) rm_X1_wholeFrom K 0 0
abbrev T_X1_wholeFrom (G : GT) (as : List Value) (M : Mem) (K : Int32 → Mem → Prop) : Prop := MT G (Rep G) yX1_wholeFrom cX1_wholeFrom 4 (some .int) rm_X1_wholeFrom as M K
theorem e_X1_wholeFrom {G : GT} {K : Int32 → Mem → Prop} {M : Mem} {a1 : Nat} {v2 : Int32} (h : B_X1_wholeFrom G K 0 [(0, .ref 169), (1, .ref a1), (2, .int v2)] [] M) : T_X1_wholeFrom G [.ref 169, .ref a1, .int v2] M K := MT.of (by decide +kernel) rfl rfl (Nat.le_of_ble_eq_true rfl) rfl h
set_option maxRecDepth 4000 in
theorem k_X1_wholeFrom_0 {G : GT} {K : Int32 → Mem → Prop} {M : Mem} {a1 : Nat} {v2 : Int32} (ha1 : PieceC a1) (h : (a1 < 60 ∨ a1 = 174) ∧ (∀ N1 : Mem, (ScX M N1 ∧ c_cr N1 = r_begin (wv M) a1) → B_X1_wholeFrom G K 10 [(0, .ref 169), (1, .ref a1), (2, .int v2), (3, .int (N1.1 a1 0))] [] N1)) : B_X1_wholeFrom G K 0 [(0, .ref 169), (1, .ref a1), (2, .int v2)] [] M := by
  refine BT.aload_n dX1_wholeFrom_0 rfl 0 rfl ?_
  refine BT.aload_n dX1_wholeFrom_1 rfl 1 rfl ?_
  refine BT.mcVvp [.ref a1] (t_X1_begin ha1 h.1 (fun N hN => ⟨rfl, hN⟩)) mb_X1_begin mv_X1_begin lk_X1_40 rfl (by decide) rfl (recvRep ho_169 rfl) (Nat.le_of_ble_eq_true rfl) dX1_wholeFrom_2 (P := fun N1 => ScX M N1 ∧ c_cr N1 = r_begin (wv M) a1) (fun N1 g1 => ?_)
  show B_X1_wholeFrom G K 5 [(0, .ref 169), (1, .ref a1), (2, .int v2)] [] N1
  refine BT.aload_n dX1_wholeFrom_5 rfl 1 rfl ?_
  refine BT.getI fl_X1_29 ha1 rfl dX1_wholeFrom_6 ?_
  refine BT.istore_n (L' := [(3, .int (N1.1 a1 0)), (0, .ref 169), (1, .ref a1), (2, .int v2)]) dX1_wholeFrom_9 rfl (by decide) rfl ?_
  refine BT.sub [1, 2, 3, 0] rfl ?_
  exact (h.2 N1 g1)
set_option maxRecDepth 4000 in
theorem k_X1_wholeFrom_10 {G : GT} {K : Int32 → Mem → Prop} {M : Mem} {a1 : Nat} {v2 : Int32} {v3 : Int32} (ha1 : PieceC a1) (h : (100 ≤ v3 → K (-6) M) ∧ (¬ 100 ≤ v3 → (a1 < 60 ∨ a1 = 174) ∧ (WOk (wv M)) ∧ (∀ N3 : Mem, (ScX M N3 ∧ c_cr N3 = r_go (wv M) a1 v2 (c_cr M) v3) → ((N3.1 169 6) = (-6) → B_X1_wholeFrom G K 10 [(0, .ref 169), (1, .ref a1), (2, .int v2), (3, .int (v3 + 1))] [] N3) ∧ (¬ (N3.1 169 6) = (-6) → (v3 < (N3.1 169 6) → B_X1_wholeFrom G K 10 [(0, .ref 169), (1, .ref a1), (2, .int v2), (3, .int (v3 + 1))] [] N3) ∧ (¬ v3 < (N3.1 169 6) → K v3 N3))))) : B_X1_wholeFrom G K 10 [(0, .ref 169), (1, .ref a1), (2, .int v2), (3, .int v3)] [] M := by
  refine BT.iload_n dX1_wholeFrom_10 rfl 3 rfl ?_
  refine BT.bipush (v := 100) dX1_wholeFrom_11 (by decide) ?_
  refine BT.icmp_ge (tgt := 48) dX1_wholeFrom_13 (by decide) (fun c => ?_) (fun c => ?_)
  · have c1 := c
    refine BT.bipush (v := (-6)) dX1_wholeFrom_48 (by decide) ?_
    exact BT.iret dX1_wholeFrom_50 rfl (by decide) (by decide) (h.1 c1)
  · have c2 := c
    refine BT.aload_n dX1_wholeFrom_16 rfl 0 rfl ?_
    refine BT.aload_n dX1_wholeFrom_17 rfl 1 rfl ?_
    refine BT.iload_n dX1_wholeFrom_18 rfl 3 rfl ?_
    refine BT.iload_n dX1_wholeFrom_19 rfl 2 rfl ?_
    refine BT.mcVvp [.ref a1, .int v3, .int v2] (t_X1_goOn ha1 (h.2 c2).1 (h.2 c2).2.1 (fun N hN => ⟨rfl, hN⟩)) mb_X1_goOn mv_X1_goOn lk_X1_44 rfl (by decide) rfl (recvRep ho_169 rfl) (Nat.le_of_ble_eq_true rfl) dX1_wholeFrom_20 (P := fun N3 => ScX M N3 ∧ c_cr N3 = r_go (wv M) a1 v2 (c_cr M) v3) (fun N3 g3 => ?_)
    show B_X1_wholeFrom G K 23 [(0, .ref 169), (1, .ref a1), (2, .int v2), (3, .int v3)] [] N3
    refine BT.aload_n dX1_wholeFrom_23 rfl 0 rfl ?_
    refine BT.getI fl_X1_37 ho_169 rfl dX1_wholeFrom_24 ?_
    refine BT.bipush (v := (-6)) dX1_wholeFrom_27 (by decide) ?_
    refine BT.icmp_eq (tgt := 42) dX1_wholeFrom_29 (by decide) (fun c => ?_) (fun c => ?_)
    · have c4 := c
      refine BT.iinc (j := 3) (v := (v3 + 1)) (L' := [(3, .int (v3 + 1)), (0, .ref 169), (1, .ref a1), (2, .int v2)]) dX1_wholeFrom_42 rfl rfl (by decide) rfl ?_
      refine BT.goto (tgt := 10) dX1_wholeFrom_45 (by decide) ?_
      refine BT.sub [1, 2, 3, 0] rfl ?_
      exact (((h.2 c2).2.2 N3 g3).1 c4)
    · have c5 := c
      refine BT.iload_n dX1_wholeFrom_32 rfl 3 rfl ?_
      refine BT.aload_n dX1_wholeFrom_33 rfl 0 rfl ?_
      refine BT.getI fl_X1_37 ho_169 rfl dX1_wholeFrom_34 ?_
      refine BT.icmp_lt (tgt := 42) dX1_wholeFrom_37 (by decide) (fun c => ?_) (fun c => ?_)
      · have c6 := c
        refine BT.iinc (j := 3) (v := (v3 + 1)) (L' := [(3, .int (v3 + 1)), (0, .ref 169), (1, .ref a1), (2, .int v2)]) dX1_wholeFrom_42 rfl rfl (by decide) rfl ?_
        refine BT.goto (tgt := 10) dX1_wholeFrom_45 (by decide) ?_
        refine BT.sub [1, 2, 3, 0] rfl ?_
        exact ((((h.2 c2).2.2 N3 g3).2 c5).1 c6)
      · have c7 := c
        refine BT.iload_n dX1_wholeFrom_40 rfl 3 rfl ?_
        exact BT.iret dX1_wholeFrom_41 rfl (by decide) (by decide) ((((h.2 c2).2.2 N3 g3).2 c5).2 c7)

theorem t_X1_wholeFrom {G : GT} {K : Int32 → Mem → Prop} {M : Mem} {a1 : Nat} {v2 : Int32} (ha1 : PieceC a1) (hp : a1 < 60 ∨ a1 = 174) (hw : WOk (wv M)) (hb : BOk (wv M) a1) (h : ∀ N, ScX M N → K (r_who (wv M) a1 v2 (100 - w_b (wv M) a1) (r_begin (wv M) a1)) N) : T_X1_wholeFrom G [.ref 169, .ref a1, .int v2] M K := by
  obtain ⟨hb1, hb2⟩ := hb.b
  have key : ∀ (k : Nat) (s : CrT) (N : Mem), k ≤ 100 → ScX M N → c_cr N = s → (∀ N, ScX M N → K (r_who (wv M) a1 v2 k s) N) → B_X1_wholeFrom G K 10 [(0, .ref 169), (1, .ref a1), (2, .int v2), (3, .int (nI (100 - k)))] [] N := by
    intro k
    induction k with
    | zero =>
      intro s N _ hN hs hk
      exact k_X1_wholeFrom_10 ha1 ⟨fun _ => hk N hN, fun c => absurd (Int32.le_refl _) c⟩
    | succ k ih =>
      intro s N hk8 hN hs hk
      unfold r_who at hk
      refine k_X1_wholeFrom_10 ha1 ⟨fun c => absurd c ?_, fun c => ⟨hp, by rw [hN.wvE]; exact hw, fun N3 g3 => ?_⟩⟩
      · exact Int32.not_le.mpr (nI_lt (show 100 - (k + 1) < 100 by omega) (by decide))
      · rw [hN.wvE, hs] at g3
        rw [show 100 - (k + 1) = 99 - k by omega] at g3
        rw [nI_1, show 100 - (k + 1) + 1 = 100 - k by omega, show (N3.1 169 6) = (c_cr N3).2.2.2.2 from rfl, g3.2, show 100 - (k + 1) = 99 - k by omega]
        refine ⟨fun c1 => ?_, fun c1 => ⟨fun c2 => ?_, fun c2 => ?_⟩⟩
        · rw [sel_f (fun q => q.1 c1)] at hk
          exact ih _ N3 (by omega) (hN.tr g3.1) g3.2 hk
        · rw [sel_f (fun q => Int32.not_lt.mpr q.2 c2)] at hk
          exact ih _ N3 (by omega) (hN.tr g3.1) g3.2 hk
        · rw [sel_t ⟨c1, Int32.not_lt.mp c2⟩] at hk
          exact hk N3 (hN.tr g3.1)
  refine e_X1_wholeFrom (k_X1_wholeFrom_0 ha1 ⟨hp, fun N1 g1 => ?_⟩)
  have := key (100 - w_b (wv M) a1) _ N1 (by omega) g1.1 g1.2 h
  rw [show 100 - (100 - w_b (wv M) a1) = w_b (wv M) a1 by omega, ← hb2] at this
  rw [g1.1.1 a1 (by omega), ← wv_at (M := M) (k := 0) hp]
  exact this

