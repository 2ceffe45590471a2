/-! ===== 60.ztext ===== -/
/-! ===== the model's automaton ===== -/
def z_q4 (M : Mem) : Int32 × Int32 × Int32 × Int32 := (M.1 175 2, M.1 175 3, M.1 175 4, M.1 175 5)
def z_q (M : Mem) (s : Int32) : QT := (s, z_q4 M)
/-- the model's notes of a text may change -/
def ZFr (M N : Mem) : Prop := (∀ c, ¬ c = 175 → N.1 c = M.1 c) ∧ (∀ k, ¬ (k = 2 ∨ k = 3 ∨ k = 4 ∨ k = 5) → N.1 175 k = M.1 175 k) ∧ N.2 = M.2
def ZQ (M N : Mem) (q : QT) : Prop := ZFr M N ∧ z_q4 N = q.2
def ZBg (M N : Mem) : Prop := ZQ M N (0, 1, -1, M.1 175 4, 0)
theorem ZFr.rf {M : Mem} : ZFr M M := ⟨fun _ _ => rfl, fun _ _ => rfl, rfl⟩
theorem ZFr.tr {M N P : Mem} (h : ZFr M N) (g : ZFr N P) : ZFr M P := ⟨fun c hc => (g.1 c hc).trans (h.1 c hc), fun k hk => (g.2.1 k hk).trans (h.2.1 k hk), g.2.2.trans h.2.2⟩
theorem ZFr.mi {M N : Mem} {k : Nat} {v : Int32} (h : ZFr M N) (hk : k = 2 ∨ k = 3 ∨ k = 4 ∨ k = 5) : ZFr M (m_i N 175 k v) := ⟨fun c hc => (mi_off hc).trans (h.1 c hc), fun j hj => (m_i_ne (by omega)).trans (h.2.1 j hj), h.2.2⟩
theorem ZQ.rf {M : Mem} {s : Int32} : ZQ M M (s, z_q4 M) := ⟨ZFr.rf, rfl⟩
def FltR (sg : Nat → Int32) (l0 : Int32) (n : Nat) (r : Int32) : Prop := (r = -6 ∧ (∀ j, j ≤ n → 0 ≤ (q_at sg l0 j).1) ∧ q_whole (q_at sg l0 n).1) ∨ ∃ i, r = nI i ∧ (∀ j, j ≤ i → 0 ≤ (q_at sg l0 j).1) ∧ i ≤ n ∧ ((i < n ∧ (q_at sg l0 (i + 1)).1 < 0) ∨ (i = n ∧ ¬ q_whole (q_at sg l0 i).1))

/-! BetweenLawsModel.beginText()V -/
abbrev rm_X11_beginText : Room := { frames := 0, cells := 0, slots := 0, locals := 0 }
abbrev B_X11_beginText (G : GT) (K : Int32 → Mem → Prop) := BT G (Rep G) RX11 "beginText" cX11_beginText 1 none rm_X11_beginText K 0 0
abbrev T_X11_beginText (G : GT) (as : List Value) (M : Mem) (K : Int32 → Mem → Prop) : Prop := MT G (Rep G) yX11_beginText cX11_beginText 1 none rm_X11_beginText as M K
theorem e_X11_beginText {G : GT} {K : Int32 → Mem → Prop} {M : Mem}  (h : B_X11_beginText G K 0 [(0, .ref 175)] [] M) : T_X11_beginText G [.ref 175] M K := MT.of (by decide +kernel) rfl rfl (Nat.le_of_ble_eq_true rfl) rfl h
set_option maxRecDepth 4000 in
theorem k_X11_beginText_0 {G : GT} {K : Int32 → Mem → Prop} {M : Mem}  (h : K 0 (m_i (m_i (m_i M 175 2 1) 175 3 (-1)) 175 5 0)) : B_X11_beginText G K 0 [(0, .ref 175)] [] M := by
  refine BT.aload_n dX11_beginText_0 rfl 0 rfl ?_
  refine BT.iconst (v := 1) dX11_beginText_1 (by decide) ?_
  refine BT.putI fl_X11_101 ft_11_2 ho_175 rfl dX11_beginText_2 ?_
  refine BT.aload_n dX11_beginText_5 rfl 0 rfl ?_
  refine BT.iconst (v := (-1)) dX11_beginText_6 (by decide) ?_
  refine BT.putI fl_X11_104 ft_11_3 ho_175 rfl dX11_beginText_7 ?_
  refine BT.aload_n dX11_beginText_10 rfl 0 rfl ?_
  refine BT.iconst (v := 0) dX11_beginText_11 (by decide) ?_
  refine BT.putI fl_X11_107 ft_11_5 ho_175 rfl dX11_beginText_12 ?_
  exact BT.vret dX11_beginText_15 rfl (by decide) (by decide) h

theorem t_X11_beginText {G : GT} {K : Int32 → Mem → Prop} {M : Mem} (h : ∀ N, ZBg M N → K 0 N) : T_X11_beginText G [.ref 175] M K := by
  refine e_X11_beginText (k_X11_beginText_0 (h _ ⟨((ZFr.rf.mi (by decide)).mi (by decide)).mi (by decide), ?_⟩))
  unfold z_q4
  rw [m_i_ne (by omega), m_i_ne (by omega), m_i_at, m_i_ne (by omega), m_i_at, m_i_ne (by omega), m_i_ne (by omega), m_i_ne (by omega), m_i_at]

/-! BetweenLawsModel.behindGift(I)I -/
abbrev rm_X11_behindGift : Room := { frames := 0, cells := 0, slots := 0, locals := 0 }
abbrev B_X11_behindGift (G : GT) (K : Int32 → Mem → Prop) := BT G (Rep G) RX11 "behindGift" cX11_behindGift 2 (some .int) rm_X11_behindGift K 0 0
abbrev T_X11_behindGift (G : GT) (as : List Value) (M : Mem) (K : Int32 → Mem → Prop) : Prop := MT G (Rep G) yX11_behindGift cX11_behindGift 2 (some .int) rm_X11_behindGift as M K
theorem e_X11_behindGift {G : GT} {K : Int32 → Mem → Prop} {M : Mem} {v1 : Int32} (h : B_X11_behindGift G K 0 [(0, .ref 175), (1, .int v1)] [] M) : T_X11_behindGift G [.ref 175, .int v1] M K := MT.of (by decide +kernel) rfl rfl (Nat.le_of_ble_eq_true rfl) rfl h
set_option maxRecDepth 4000 in
theorem k_X11_behindGift_0 {G : GT} {K : Int32 → Mem → Prop} {M : Mem} {v1 : Int32} (h : (¬ v1 = 124 → (¬ v1 = 47 → K (-1) M) ∧ (v1 = 47 → K 8 M)) ∧ (v1 = 124 → (6 ≤ (M.1 175 2) → (¬ v1 = 47 → K (-1) M) ∧ (v1 = 47 → K 8 M)) ∧ (¬ 6 ≤ (M.1 175 2) → K 0 (m_i (m_i M 175 2 ((M.1 175 2) + 1)) 175 3 (-1))))) : B_X11_behindGift G K 0 [(0, .ref 175), (1, .int v1)] [] M := by
  refine BT.iload_n dX11_behindGift_0 rfl 1 rfl ?_
  refine BT.bipush (v := 124) dX11_behindGift_1 (by decide) ?_
  refine BT.icmp_ne (tgt := 32) dX11_behindGift_3 (by decide) (fun c => ?_) (fun c => ?_)
  · have c1 := c
    refine BT.iload_n dX11_behindGift_32 rfl 1 rfl ?_
    refine BT.bipush (v := 47) dX11_behindGift_33 (by decide) ?_
    refine BT.icmp_ne (tgt := 43) dX11_behindGift_35 (by decide) (fun c => ?_) (fun c => ?_)
    · have c3 := c
      refine BT.iconst (v := (-1)) dX11_behindGift_43 (by decide) ?_
      exact BT.iret dX11_behindGift_44 rfl (by decide) (by decide) ((h.1 c1).1 c3)
    · have c4 := c
      refine BT.bipush (v := 8) dX11_behindGift_38 (by decide) ?_
      refine BT.goto (tgt := 44) dX11_behindGift_40 (by decide) ?_
      exact BT.iret dX11_behindGift_44 rfl (by decide) (by decide) ((h.1 c1).2 c4)
  · have c2 := c
    refine BT.aload_n dX11_behindGift_6 rfl 0 rfl ?_
    refine BT.getI fl_X11_101 ho_175 rfl dX11_behindGift_7 ?_
    refine BT.bipush (v := 6) dX11_behindGift_10 (by decide) ?_
    refine BT.icmp_ge (tgt := 32) dX11_behindGift_12 (by decide) (fun c => ?_) (fun c => ?_)
    · have c5 := c
      refine BT.iload_n dX11_behindGift_32 rfl 1 rfl ?_
      refine BT.bipush (v := 47) dX11_behindGift_33 (by decide) ?_
      refine BT.icmp_ne (tgt := 43) dX11_behindGift_35 (by decide) (fun c => ?_) (fun c => ?_)
      · have c7 := c
        refine BT.iconst (v := (-1)) dX11_behindGift_43 (by decide) ?_
        exact BT.iret dX11_behindGift_44 rfl (by decide) (by decide) (((h.2 c2).1 c5).1 c7)
      · have c8 := c
        refine BT.bipush (v := 8) dX11_behindGift_38 (by decide) ?_
        refine BT.goto (tgt := 44) dX11_behindGift_40 (by decide) ?_
        exact BT.iret dX11_behindGift_44 rfl (by decide) (by decide) (((h.2 c2).1 c5).2 c8)
    · have c6 := c
      refine BT.aload_n dX11_behindGift_15 rfl 0 rfl ?_
      refine BT.dup dX11_behindGift_16 rfl ?_
      refine BT.getI fl_X11_101 ho_175 rfl dX11_behindGift_17 ?_
      refine BT.iconst (v := 1) dX11_behindGift_20 (by decide) ?_
      refine BT.iadd dX11_behindGift_21 ?_
      refine BT.putI fl_X11_101 ft_11_2 ho_175 rfl dX11_behindGift_22 ?_
      refine BT.aload_n dX11_behindGift_25 rfl 0 rfl ?_
      refine BT.iconst (v := (-1)) dX11_behindGift_26 (by decide) ?_
      refine BT.putI fl_X11_104 ft_11_3 ho_175 rfl dX11_behindGift_27 ?_
      refine BT.iconst (v := 0) dX11_behindGift_30 (by decide) ?_
      exact BT.iret dX11_behindGift_31 rfl (by decide) (by decide) ((h.2 c2).2 c6)

theorem t_X11_behindGift {G : GT} {K : Int32 → Mem → Prop} {M : Mem} {v1 : Int32} (h : ∀ (r : Int32) (N : Mem), (r = (q_gift v1 (z_q M 0)).1 ∧ ZQ M N (q_gift v1 (z_q M 0))) → K r N) : T_X11_behindGift G [.ref 175, .int v1] M K := by
  have hq : ∀ q, q_gift v1 (z_q M 0) = q → ∀ N, ZQ M N q → K q.1 N := fun q e N z => h _ _ ⟨by rw [e], by rw [e]; exact z⟩
  have tail : ¬ (v1 = 124 ∧ M.1 175 2 < 6) → (¬ v1 = 47 → K (-1) M) ∧ (v1 = 47 → K 8 M) := by
    intro n1
    refine ⟨fun c => hq (-1, z_q4 M) ?_ M ZQ.rf, fun c => hq (8, z_q4 M) ?_ M ZQ.rf⟩
    · unfold q_gift
      rw [if_neg (show ¬ (v1 = 124 ∧ (z_q M 0).2.1 < 6) from n1), if_neg c]; rfl
    · unfold q_gift
      rw [if_neg (show ¬ (v1 = 124 ∧ (z_q M 0).2.1 < 6) from n1), if_pos c]; rfl
  refine e_X11_behindGift (k_X11_behindGift_0 ⟨fun c => tail (fun z => c z.1), fun c => ⟨fun c2 => tail (fun z => absurd c2 (Int32.not_le.mpr z.2)), fun c2 => hq (0, M.1 175 2 + 1, -1, M.1 175 4, M.1 175 5) ?_ _ ⟨(ZFr.rf.mi (by decide)).mi (by decide), ?_⟩⟩⟩)
  · unfold q_gift
    rw [if_pos (show v1 = 124 ∧ (z_q M 0).2.1 < 6 from ⟨c, Int32.not_le.mp c2⟩)]; rfl
  · unfold z_q4
    rw [m_i_ne (by omega), m_i_at, m_i_at, m_i_ne (by omega), m_i_ne (by omega), m_i_ne (by omega), m_i_ne (by omega)]

/-! BetweenLawsModel.beginWord(I)I -/
abbrev rm_X11_beginWord : Room := { frames := 1, cells := 0, slots := 0, locals := 20 }
abbrev B_X11_beginWord (G : GT) (K : Int32 → Mem → Prop) := BT G (Rep G) RX11 "beginWord" cX11_beginWord 2 (some .int) rm_X11_beginWord K 0 0
abbrev T_X11_beginWord (G : GT) (as : List Value) (M : Mem) (K : Int32 → Mem → Prop) : Prop := MT G (Rep G) yX11_beginWord cX11_beginWord 2 (some .int) rm_X11_beginWord as M K
theorem e_X11_beginWord {G : GT} {K : Int32 → Mem → Prop} {M : Mem} {v1 : Int32} (h : B_X11_beginWord G K 0 [(0, .ref 175), (1, .int v1)] [] M) : T_X11_beginWord G [.ref 175, .int v1] M K := MT.of (by decide +kernel) rfl rfl (Nat.le_of_ble_eq_true rfl) rfl h
set_option maxRecDepth 4000 in
theorem k_X11_beginWord_0 {G : GT} {K : Int32 → Mem → Prop} {M : Mem} {v1 : Int32} (h : (¬ (v1 = 110 ∨ v1 = 104 ∨ v1 = 97) → B_X11_beginWord G K 28 [(0, .ref 175), (1, .int v1)] [] M) ∧ ((v1 = 110 ∨ v1 = 104 ∨ v1 = 97) → (1 ≤ (M.1 175 5) → B_X11_beginWord G K 28 [(0, .ref 175), (1, .int v1)] [] M) ∧ (¬ 1 ≤ (M.1 175 5) → K 9 (m_i (m_i M 175 5 1) 175 4 v1)))) : B_X11_beginWord G K 0 [(0, .ref 175), (1, .int v1)] [] M := by
  refine BT.iload_n dX11_beginWord_0 rfl 1 rfl ?_
  refine BT.mcS [.int v1] (t_X11_isTime  ?_) mb_X11_isTime ms_X11_isTime lk_X11_110 rfl (by decide) rfl (Nat.le_of_ble_eq_true rfl) dX11_beginWord_1
  show B_X11_beginWord G K 4 [(0, .ref 175), (1, .int v1)] [.int (bi (v1 = 110 ∨ v1 = 104 ∨ v1 = 97))] M
  refine BT.if_eq (tgt := 28) dX11_beginWord_4 (by decide) (fun c => ?_) (fun c => ?_)
  · have c2 := bi_eq0.mp c
    exact (h.1 c2)
  · have c3 := bi_ne0.mp c
    refine BT.aload_n dX11_beginWord_7 rfl 0 rfl ?_
    refine BT.getI fl_X11_107 ho_175 rfl dX11_beginWord_8 ?_
    refine BT.iconst (v := 1) dX11_beginWord_11 (by decide) ?_
    refine BT.icmp_ge (tgt := 28) dX11_beginWord_12 (by decide) (fun c => ?_) (fun c => ?_)
    · have c4 := c
      exact ((h.2 c3).1 c4)
    · have c5 := c
      refine BT.aload_n dX11_beginWord_15 rfl 0 rfl ?_
      refine BT.iconst (v := 1) dX11_beginWord_16 (by decide) ?_
      refine BT.putI fl_X11_107 ft_11_5 ho_175 rfl dX11_beginWord_17 ?_
      refine BT.aload_n dX11_beginWord_20 rfl 0 rfl ?_
      refine BT.iload_n dX11_beginWord_21 rfl 1 rfl ?_
      refine BT.putI fl_X11_114 ft_11_4 ho_175 rfl dX11_beginWord_22 ?_
      refine BT.bipush (v := 9) dX11_beginWord_25 (by decide) ?_
      exact BT.iret dX11_beginWord_27 rfl (by decide) (by decide) ((h.2 c3).2 c5)
set_option maxRecDepth 4000 in
theorem k_X11_beginWord_28 {G : GT} {K : Int32 → Mem → Prop} {M : Mem} {v1 : Int32} (h : (¬ v1 = 119 → B_X11_beginWord G K 50 [(0, .ref 175), (1, .int v1)] [] M) ∧ (v1 = 119 → (2 ≤ (M.1 175 5) → B_X11_beginWord G K 50 [(0, .ref 175), (1, .int v1)] [] M) ∧ (¬ 2 ≤ (M.1 175 5) → K 12 (m_i M 175 5 2)))) : B_X11_beginWord G K 28 [(0, .ref 175), (1, .int v1)] [] M := by
  refine BT.iload_n dX11_beginWord_28 rfl 1 rfl ?_
  refine BT.bipush (v := 119) dX11_beginWord_29 (by decide) ?_
  refine BT.icmp_ne (tgt := 50) dX11_beginWord_31 (by decide) (fun c => ?_) (fun c => ?_)
  · have c1 := c
    exact (h.1 c1)
  · have c2 := c
    refine BT.aload_n dX11_beginWord_34 rfl 0 rfl ?_
    refine BT.getI fl_X11_107 ho_175 rfl dX11_beginWord_35 ?_
    refine BT.iconst (v := 2) dX11_beginWord_38 (by decide) ?_
    refine BT.icmp_ge (tgt := 50) dX11_beginWord_39 (by decide) (fun c => ?_) (fun c => ?_)
    · have c3 := c
      exact ((h.2 c2).1 c3)
    · have c4 := c
      refine BT.aload_n dX11_beginWord_42 rfl 0 rfl ?_
      refine BT.iconst (v := 2) dX11_beginWord_43 (by decide) ?_
      refine BT.putI fl_X11_107 ft_11_5 ho_175 rfl dX11_beginWord_44 ?_
      refine BT.bipush (v := 12) dX11_beginWord_47 (by decide) ?_
      exact BT.iret dX11_beginWord_49 rfl (by decide) (by decide) ((h.2 c2).2 c4)
set_option maxRecDepth 4000 in
theorem k_X11_beginWord_50 {G : GT} {K : Int32 → Mem → Prop} {M : Mem} {v1 : Int32} (h : (¬ v1 = 116 → B_X11_beginWord G K 72 [(0, .ref 175), (1, .int v1)] [] M) ∧ (v1 = 116 → (3 ≤ (M.1 175 5) → B_X11_beginWord G K 72 [(0, .ref 175), (1, .int v1)] [] M) ∧ (¬ 3 ≤ (M.1 175 5) → K 13 (m_i M 175 5 3)))) : B_X11_beginWord G K 50 [(0, .ref 175), (1, .int v1)] [] M := by
  refine BT.iload_n dX11_beginWord_50 rfl 1 rfl ?_
  refine BT.bipush (v := 116) dX11_beginWord_51 (by decide) ?_
  refine BT.icmp_ne (tgt := 72) dX11_beginWord_53 (by decide) (fun c => ?_) (fun c => ?_)
  · have c1 := c
    exact (h.1 c1)
  · have c2 := c
    refine BT.aload_n dX11_beginWord_56 rfl 0 rfl ?_
    refine BT.getI fl_X11_107 ho_175 rfl dX11_beginWord_57 ?_
    refine BT.iconst (v := 3) dX11_beginWord_60 (by decide) ?_
    refine BT.icmp_ge (tgt := 72) dX11_beginWord_61 (by decide) (fun c => ?_) (fun c => ?_)
    · have c3 := c
      exact ((h.2 c2).1 c3)
    · have c4 := c
      refine BT.aload_n dX11_beginWord_64 rfl 0 rfl ?_
      refine BT.iconst (v := 3) dX11_beginWord_65 (by decide) ?_
      refine BT.putI fl_X11_107 ft_11_5 ho_175 rfl dX11_beginWord_66 ?_
      refine BT.bipush (v := 13) dX11_beginWord_69 (by decide) ?_
      exact BT.iret dX11_beginWord_71 rfl (by decide) (by decide) ((h.2 c2).2 c4)
set_option maxRecDepth 4000 in
theorem k_X11_beginWord_72 {G : GT} {K : Int32 → Mem → Prop} {M : Mem} {v1 : Int32} (h : (¬ v1 = 117 → K (-1) M) ∧ (v1 = 117 → K 18 (m_i M 175 5 3))) : B_X11_beginWord G K 72 [(0, .ref 175), (1, .int v1)] [] M := by
  refine BT.iload_n dX11_beginWord_72 rfl 1 rfl ?_
  refine BT.bipush (v := 117) dX11_beginWord_73 (by decide) ?_
  refine BT.icmp_ne (tgt := 86) dX11_beginWord_75 (by decide) (fun c => ?_) (fun c => ?_)
  · have c1 := c
    refine BT.iconst (v := (-1)) dX11_beginWord_86 (by decide) ?_
    exact BT.iret dX11_beginWord_87 rfl (by decide) (by decide) (h.1 c1)
  · have c2 := c
    refine BT.aload_n dX11_beginWord_78 rfl 0 rfl ?_
    refine BT.iconst (v := 3) dX11_beginWord_79 (by decide) ?_
    refine BT.putI fl_X11_107 ft_11_5 ho_175 rfl dX11_beginWord_80 ?_
    refine BT.bipush (v := 18) dX11_beginWord_83 (by decide) ?_
    exact BT.iret dX11_beginWord_85 rfl (by decide) (by decide) (h.2 c2)

theorem t_X11_beginWord {G : GT} {K : Int32 → Mem → Prop} {M : Mem} {v1 : Int32} (h : ∀ (r : Int32) (N : Mem), (r = (q_word v1 (z_q M 0)).1 ∧ ZQ M N (q_word v1 (z_q M 0))) → K r N) : T_X11_beginWord G [.ref 175, .int v1] M K := by
  have hq : ∀ q, q_word v1 (z_q M 0) = q → ∀ N, ZQ M N q → K q.1 N := fun q e N z => h _ _ ⟨by rw [e], by rw [e]; exact z⟩
  have w5 : ∀ v, ZQ M (m_i M 175 5 v) (18, M.1 175 2, M.1 175 3, M.1 175 4, v) := fun v => ⟨ZFr.rf.mi (by decide), by
    unfold z_q4
    rw [m_i_ne (by omega), m_i_ne (by omega), m_i_ne (by omega), m_i_at]⟩
  have e5 : (z_q M 0).2.2.2.2 = M.1 175 5 := rfl
  have b72 : ¬ (tmB v1 ∧ M.1 175 5 < 1) → ¬ (v1 = 119 ∧ M.1 175 5 < 2) → ¬ (v1 = 116 ∧ M.1 175 5 < 3) → B_X11_beginWord G K 72 [(0, .ref 175), (1, .int v1)] [] M := by
    intro n1 n2 n3
    refine k_X11_beginWord_72 ⟨fun c => hq (-1, z_q4 M) ?_ M ZQ.rf, fun c => hq (18, M.1 175 2, M.1 175 3, M.1 175 4, 3) ?_ _ (w5 3)⟩
    · unfold q_word
      rw [e5, if_neg n1, if_neg n2, if_neg n3, if_neg c]; rfl
    · unfold q_word
      rw [e5, if_neg n1, if_neg n2, if_neg n3, if_pos c]; rfl
  have b50 : ¬ (tmB v1 ∧ M.1 175 5 < 1) → ¬ (v1 = 119 ∧ M.1 175 5 < 2) → B_X11_beginWord G K 50 [(0, .ref 175), (1, .int v1)] [] M := by
    intro n1 n2
    refine k_X11_beginWord_50 ⟨fun c => b72 n1 n2 (fun z => c z.1), fun c => ⟨fun c2 => b72 n1 n2 (fun z => absurd c2 (Int32.not_le.mpr z.2)), fun c2 => hq (13, M.1 175 2, M.1 175 3, M.1 175 4, 3) ?_ _ (w5 3)⟩⟩
    unfold q_word
    rw [e5, if_neg n1, if_neg n2, if_pos ⟨c, Int32.not_le.mp c2⟩]; rfl
  have b28 : ¬ (tmB v1 ∧ M.1 175 5 < 1) → B_X11_beginWord G K 28 [(0, .ref 175), (1, .int v1)] [] M := by
    intro n1
    refine k_X11_beginWord_28 ⟨fun c => b50 n1 (fun z => c z.1), fun c => ⟨fun c2 => b50 n1 (fun z => absurd c2 (Int32.not_le.mpr z.2)), fun c2 => hq (12, M.1 175 2, M.1 175 3, M.1 175 4, 2) ?_ _ (w5 2)⟩⟩
    unfold q_word
    rw [e5, if_neg n1, if_pos ⟨c, Int32.not_le.mp c2⟩]; rfl
  refine e_X11_beginWord (k_X11_beginWord_0 ⟨fun c => b28 (fun z => c z.1), fun c => ⟨fun c2 => b28 (fun z => absurd c2 (Int32.not_le.mpr z.2)), fun c2 => hq (9, M.1 175 2, M.1 175 3, v1, 1) ?_ _ ⟨(ZFr.rf.mi (by decide)).mi (by decide), ?_⟩⟩⟩)
  · unfold q_word
    rw [e5, if_pos ⟨c, Int32.not_le.mp c2⟩]; rfl
  · unfold z_q4
    rw [m_i_ne (by omega), m_i_ne (by omega), m_i_ne (by omega), m_i_ne (by omega), m_i_at, m_i_ne (by omega), m_i_at]

/-! BetweenLawsModel.stepWord(II)I -/
abbrev rm_X11_stepWord : Room := { frames := 2, cells := 0, slots := 0, locals := 45 }
abbrev B_X11_stepWord (G : GT) (K : Int32 → Mem → Prop) := BT G (Rep G) RX11 "stepWord" cX11_stepWord 3 (some .int) rm_X11_stepWord K 0 0
abbrev T_X11_stepWord (G : GT) (as : List Value) (M : Mem) (K : Int32 → Mem → Prop) : Prop := MT G (Rep G) yX11_stepWord cX11_stepWord 3 (some .int) rm_X11_stepWord as M K
theorem e_X11_stepWord {G : GT} {K : Int32 → Mem → Prop} {M : Mem} {v1 : Int32} {v2 : Int32} (h : B_X11_stepWord G K 0 [(0, .ref 175), (1, .int v1), (2, .int v2)] [] M) : T_X11_stepWord G [.ref 175, .int v1, .int v2] M K := MT.of (by decide +kernel) rfl rfl (Nat.le_of_ble_eq_true rfl) rfl h
set_option maxRecDepth 4000 in
theorem k_X11_stepWord_0 {G : GT} {K : Int32 → Mem → Prop} {M : Mem} {v1 : Int32} {v2 : Int32} (h : ((v1.toInt < 9 ∨ 18 < v1.toInt) ∨ v1 = 11 ∨ v1 = 12 → (¬ v2 = 44 → K (-1) M) ∧ (v2 = 44 → K 8 M)) ∧ (v1 = 9 → (¬ v2 = 63 → (¬ v2 = 44 → K (-1) M) ∧ (v2 = 44 → K 8 M)) ∧ (v2 = 63 → K 10 M)) ∧ (v1 = 10 → (¬ (v2 = 110 ∨ v2 = 104 ∨ v2 = 97) → K (-1) M) ∧ ((v2 = 110 ∨ v2 = 104 ∨ v2 = 97) → (v2 = (M.1 175 4) → K (-1) M) ∧ (¬ v2 = (M.1 175 4) → K 11 M))) ∧ (v1 = 13 → (¬ ((48 : Int32) ≤ v2 ∧ v2 ≤ 57) → K (-1) M) ∧ (((48 : Int32) ≤ v2 ∧ v2 ≤ 57) → K 14 M)) ∧ (v1 = 14 → (¬ ((48 : Int32) ≤ v2 ∧ v2 ≤ 57) → (¬ (v2 = 99 ∨ v2 = 98 ∨ v2 = 108) → K (-1) (m_i M 175 4 v2)) ∧ ((v2 = 99 ∨ v2 = 98 ∨ v2 = 108) → K 16 (m_i M 175 4 v2))) ∧ (((48 : Int32) ≤ v2 ∧ v2 ≤ 57) → K 15 M)) ∧ (v1 = 15 → (¬ (v2 = 99 ∨ v2 = 98 ∨ v2 = 108) → K (-1) (m_i M 175 4 v2)) ∧ ((v2 = 99 ∨ v2 = 98 ∨ v2 = 108) → K 16 (m_i M 175 4 v2))) ∧ (v1 = 16 → (¬ v2 = 63 → (¬ v2 = 44 → K (-1) M) ∧ (v2 = 44 → K 8 M)) ∧ (v2 = 63 → K 17 M)) ∧ (v1 = 17 → (¬ (v2 = 99 ∨ v2 = 98 ∨ v2 = 108) → K (-1) M) ∧ ((v2 = 99 ∨ v2 = 98 ∨ v2 = 108) → (v2 = (M.1 175 4) → K (-1) M) ∧ (¬ v2 = (M.1 175 4) → K 19 M))) ∧ (v1 = 18 → (¬ ((48 : Int32) ≤ v2 ∧ v2 ≤ (55 : Int32)) → K (-1) M) ∧ (((48 : Int32) ≤ v2 ∧ v2 ≤ (55 : Int32)) → K 20 M))) : B_X11_stepWord G K 0 [(0, .ref 175), (1, .int v1), (2, .int v2)] [] M := by
  refine BT.iload_n dX11_stepWord_0 rfl 1 rfl ?_
  refine BT.tsw (td := 231) dX11_stepWord_1 (by decide) (fun c => ?_) (fun j c cj => ?_)
  · have c1 : (v1.toInt < 9 ∨ 18 < v1.toInt) ∨ v1 = 11 ∨ v1 = 12 := Or.inl c
    refine BT.iload_n dX11_stepWord_231 rfl 2 rfl ?_
    refine BT.bipush (v := 44) dX11_stepWord_232 (by decide) ?_
    refine BT.icmp_ne (tgt := 242) dX11_stepWord_234 (by decide) (fun c => ?_) (fun c => ?_)
    · have c2 := c
      refine BT.iconst (v := (-1)) dX11_stepWord_242 (by decide) ?_
      exact BT.iret dX11_stepWord_243 rfl (by decide) (by decide) ((h.1 c1).1 c2)
    · have c3 := c
      refine BT.bipush (v := 8) dX11_stepWord_237 (by decide) ?_
      refine BT.goto (tgt := 243) dX11_stepWord_239 (by decide) ?_
      exact BT.iret dX11_stepWord_243 rfl (by decide) (by decide) ((h.1 c1).2 c3)
  · match j, c, cj with
    | 0, c, _ =>
      have c : v1 = 9 := Int32.toInt_inj.mp (by rw [c]; rfl)
      refine ⟨56, 55, rfl, by decide, ?_⟩
      have c4 : v1 = 9 := c
      refine BT.iload_n dX11_stepWord_56 rfl 2 rfl ?_
      refine BT.bipush (v := 63) dX11_stepWord_57 (by decide) ?_
      refine BT.icmp_ne (tgt := 67) dX11_stepWord_59 (by decide) (fun c => ?_) (fun c => ?_)
      · have c5 := c
        refine BT.iload_n dX11_stepWord_67 rfl 2 rfl ?_
        refine BT.bipush (v := 44) dX11_stepWord_68 (by decide) ?_
        refine BT.icmp_ne (tgt := 78) dX11_stepWord_70 (by decide) (fun c => ?_) (fun c => ?_)
        · have c7 := c
          refine BT.iconst (v := (-1)) dX11_stepWord_78 (by decide) ?_
          exact BT.iret dX11_stepWord_79 rfl (by decide) (by decide) (((h.2.1 c4).1 c5).1 c7)
        · have c8 := c
          refine BT.bipush (v := 8) dX11_stepWord_73 (by decide) ?_
          refine BT.goto (tgt := 79) dX11_stepWord_75 (by decide) ?_
          exact BT.iret dX11_stepWord_79 rfl (by decide) (by decide) (((h.2.1 c4).1 c5).2 c8)
      · have c6 := c
        refine BT.bipush (v := 10) dX11_stepWord_62 (by decide) ?_
        refine BT.goto (tgt := 79) dX11_stepWord_64 (by decide) ?_
        exact BT.iret dX11_stepWord_79 rfl (by decide) (by decide) ((h.2.1 c4).2 c6)
    | 1, c, _ =>
      have c : v1 = 10 := Int32.toInt_inj.mp (by rw [c]; rfl)
      refine ⟨80, 79, rfl, by decide, ?_⟩
      have c9 : v1 = 10 := c
      refine BT.iload_n dX11_stepWord_80 rfl 2 rfl ?_
      refine BT.mcS [.int v2] (t_X11_isTime  ?_) mb_X11_isTime ms_X11_isTime lk_X11_110 rfl (by decide) rfl (Nat.le_of_ble_eq_true rfl) dX11_stepWord_81
      show B_X11_stepWord G K 84 [(0, .ref 175), (1, .int v1), (2, .int v2)] [.int (bi (v2 = 110 ∨ v2 = 104 ∨ v2 = 97))] M
      refine BT.if_eq (tgt := 100) dX11_stepWord_84 (by decide) (fun c => ?_) (fun c => ?_)
      · have c11 := bi_eq0.mp c
        refine BT.iconst (v := (-1)) dX11_stepWord_100 (by decide) ?_
        exact BT.iret dX11_stepWord_101 rfl (by decide) (by decide) ((h.2.2.1 c9).1 c11)
      · have c12 := bi_ne0.mp c
        refine BT.iload_n dX11_stepWord_87 rfl 2 rfl ?_
        refine BT.aload_n dX11_stepWord_88 rfl 0 rfl ?_
        refine BT.getI fl_X11_114 ho_175 rfl dX11_stepWord_89 ?_
        refine BT.icmp_eq (tgt := 100) dX11_stepWord_92 (by decide) (fun c => ?_) (fun c => ?_)
        · have c13 := c
          refine BT.iconst (v := (-1)) dX11_stepWord_100 (by decide) ?_
          exact BT.iret dX11_stepWord_101 rfl (by decide) (by decide) (((h.2.2.1 c9).2 c12).1 c13)
        · have c14 := c
          refine BT.bipush (v := 11) dX11_stepWord_95 (by decide) ?_
          refine BT.goto (tgt := 101) dX11_stepWord_97 (by decide) ?_
          exact BT.iret dX11_stepWord_101 rfl (by decide) (by decide) (((h.2.2.1 c9).2 c12).2 c14)
    | 2, c, _ =>
      have c : v1 = 11 := Int32.toInt_inj.mp (by rw [c]; rfl)
      refine ⟨231, 230, rfl, by decide, ?_⟩
      have c1 : (v1.toInt < 9 ∨ 18 < v1.toInt) ∨ v1 = 11 ∨ v1 = 12 := Or.inr (Or.inl c)
      refine BT.iload_n dX11_stepWord_231 rfl 2 rfl ?_
      refine BT.bipush (v := 44) dX11_stepWord_232 (by decide) ?_
      refine BT.icmp_ne (tgt := 242) dX11_stepWord_234 (by decide) (fun c => ?_) (fun c => ?_)
      · have c44 := c
        refine BT.iconst (v := (-1)) dX11_stepWord_242 (by decide) ?_
        exact BT.iret dX11_stepWord_243 rfl (by decide) (by decide) ((h.1 c1).1 c44)
      · have c45 := c
        refine BT.bipush (v := 8) dX11_stepWord_237 (by decide) ?_
        refine BT.goto (tgt := 243) dX11_stepWord_239 (by decide) ?_
        exact BT.iret dX11_stepWord_243 rfl (by decide) (by decide) ((h.1 c1).2 c45)
    | 3, c, _ =>
      have c : v1 = 12 := Int32.toInt_inj.mp (by rw [c]; rfl)
      refine ⟨231, 230, rfl, by decide, ?_⟩
      have c1 : (v1.toInt < 9 ∨ 18 < v1.toInt) ∨ v1 = 11 ∨ v1 = 12 := Or.inr (Or.inr (c))
      refine BT.iload_n dX11_stepWord_231 rfl 2 rfl ?_
      refine BT.bipush (v := 44) dX11_stepWord_232 (by decide) ?_
      refine BT.icmp_ne (tgt := 242) dX11_stepWord_234 (by decide) (fun c => ?_) (fun c => ?_)
      · have c46 := c
        refine BT.iconst (v := (-1)) dX11_stepWord_242 (by decide) ?_
        exact BT.iret dX11_stepWord_243 rfl (by decide) (by decide) ((h.1 c1).1 c46)
      · have c47 := c
        refine BT.bipush (v := 8) dX11_stepWord_237 (by decide) ?_
        refine BT.goto (tgt := 243) dX11_stepWord_239 (by decide) ?_
        exact BT.iret dX11_stepWord_243 rfl (by decide) (by decide) ((h.1 c1).2 c47)
    | 4, c, _ =>
      have c : v1 = 13 := Int32.toInt_inj.mp (by rw [c]; rfl)
      refine ⟨102, 101, rfl, by decide, ?_⟩
      have c15 : v1 = 13 := c
      refine BT.iload_n dX11_stepWord_102 rfl 2 rfl ?_
      refine BT.mcS [.int v2] (t_X11_isDigit  ?_) mb_X11_isDigit ms_X11_isDigit lk_X11_121 rfl (by decide) rfl (Nat.le_of_ble_eq_true rfl) dX11_stepWord_103
      show B_X11_stepWord G K 106 [(0, .ref 175), (1, .int v1), (2, .int v2)] [.int (bi ((48 : Int32) ≤ v2 ∧ v2 ≤ 57))] M
      refine BT.if_eq (tgt := 114) dX11_stepWord_106 (by decide) (fun c => ?_) (fun c => ?_)
      · have c17 := bi_eq0.mp c
        refine BT.iconst (v := (-1)) dX11_stepWord_114 (by decide) ?_
        exact BT.iret dX11_stepWord_115 rfl (by decide) (by decide) ((h.2.2.2.1 c15).1 c17)
      · have c18 := bi_ne0.mp c
        refine BT.bipush (v := 14) dX11_stepWord_109 (by decide) ?_
        refine BT.goto (tgt := 115) dX11_stepWord_111 (by decide) ?_
        exact BT.iret dX11_stepWord_115 rfl (by decide) (by decide) ((h.2.2.2.1 c15).2 c18)
    | 5, c, _ =>
      have c : v1 = 14 := Int32.toInt_inj.mp (by rw [c]; rfl)
      refine ⟨116, 115, rfl, by decide, ?_⟩
      have c19 : v1 = 14 := c
      refine BT.iload_n dX11_stepWord_116 rfl 2 rfl ?_
      refine BT.mcS [.int v2] (t_X11_isDigit  ?_) mb_X11_isDigit ms_X11_isDigit lk_X11_121 rfl (by decide) rfl (Nat.le_of_ble_eq_true rfl) dX11_stepWord_117
      show B_X11_stepWord G K 120 [(0, .ref 175), (1, .int v1), (2, .int v2)] [.int (bi ((48 : Int32) ≤ v2 ∧ v2 ≤ 57))] M
      refine BT.if_eq (tgt := 126) dX11_stepWord_120 (by decide) (fun c => ?_) (fun c => ?_)
      · have c21 := bi_eq0.mp c
        refine BT.aload_n dX11_stepWord_126 rfl 0 rfl ?_
        refine BT.iload_n dX11_stepWord_127 rfl 2 rfl ?_
        refine BT.putI fl_X11_114 ft_11_4 ho_175 rfl dX11_stepWord_128 ?_
        refine BT.iload_n dX11_stepWord_131 rfl 2 rfl ?_
        refine BT.mcS [.int v2] (t_X11_isWay  ?_) mb_X11_isWay ms_X11_isWay lk_X11_137 rfl (by decide) rfl (Nat.le_of_ble_eq_true rfl) dX11_stepWord_132
        show B_X11_stepWord G K 135 [(0, .ref 175), (1, .int v1), (2, .int v2)] [.int (bi (v2 = 99 ∨ v2 = 98 ∨ v2 = 108))] (m_i M 175 4 v2)
        refine BT.if_eq (tgt := 143) dX11_stepWord_135 (by decide) (fun c => ?_) (fun c => ?_)
        · have c24 := bi_eq0.mp c
          refine BT.iconst (v := (-1)) dX11_stepWord_143 (by decide) ?_
          exact BT.iret dX11_stepWord_144 rfl (by decide) (by decide) (((h.2.2.2.2.1 c19).1 c21).1 c24)
        · have c25 := bi_ne0.mp c
          refine BT.bipush (v := 16) dX11_stepWord_138 (by decide) ?_
          refine BT.goto (tgt := 144) dX11_stepWord_140 (by decide) ?_
          exact BT.iret dX11_stepWord_144 rfl (by decide) (by decide) (((h.2.2.2.2.1 c19).1 c21).2 c25)
      · have c22 := bi_ne0.mp c
        refine BT.bipush (v := 15) dX11_stepWord_123 (by decide) ?_
        exact BT.iret dX11_stepWord_125 rfl (by decide) (by decide) ((h.2.2.2.2.1 c19).2 c22)
    | 6, c, _ =>
      have c : v1 = 15 := Int32.toInt_inj.mp (by rw [c]; rfl)
      refine ⟨145, 144, rfl, by decide, ?_⟩
      have c26 : v1 = 15 := c
      refine BT.aload_n dX11_stepWord_145 rfl 0 rfl ?_
      refine BT.iload_n dX11_stepWord_146 rfl 2 rfl ?_
      refine BT.putI fl_X11_114 ft_11_4 ho_175 rfl dX11_stepWord_147 ?_
      refine BT.iload_n dX11_stepWord_150 rfl 2 rfl ?_
      refine BT.mcS [.int v2] (t_X11_isWay  ?_) mb_X11_isWay ms_X11_isWay lk_X11_137 rfl (by decide) rfl (Nat.le_of_ble_eq_true rfl) dX11_stepWord_151
      show B_X11_stepWord G K 154 [(0, .ref 175), (1, .int v1), (2, .int v2)] [.int (bi (v2 = 99 ∨ v2 = 98 ∨ v2 = 108))] (m_i M 175 4 v2)
      refine BT.if_eq (tgt := 162) dX11_stepWord_154 (by decide) (fun c => ?_) (fun c => ?_)
      · have c28 := bi_eq0.mp c
        refine BT.iconst (v := (-1)) dX11_stepWord_162 (by decide) ?_
        exact BT.iret dX11_stepWord_163 rfl (by decide) (by decide) ((h.2.2.2.2.2.1 c26).1 c28)
      · have c29 := bi_ne0.mp c
        refine BT.bipush (v := 16) dX11_stepWord_157 (by decide) ?_
        refine BT.goto (tgt := 163) dX11_stepWord_159 (by decide) ?_
        exact BT.iret dX11_stepWord_163 rfl (by decide) (by decide) ((h.2.2.2.2.2.1 c26).2 c29)
    | 7, c, _ =>
      have c : v1 = 16 := Int32.toInt_inj.mp (by rw [c]; rfl)
      refine ⟨164, 163, rfl, by decide, ?_⟩
      have c30 : v1 = 16 := c
      refine BT.iload_n dX11_stepWord_164 rfl 2 rfl ?_
      refine BT.bipush (v := 63) dX11_stepWord_165 (by decide) ?_
      refine BT.icmp_ne (tgt := 175) dX11_stepWord_167 (by decide) (fun c => ?_) (fun c => ?_)
      · have c31 := c
        refine BT.iload_n dX11_stepWord_175 rfl 2 rfl ?_
        refine BT.bipush (v := 44) dX11_stepWord_176 (by decide) ?_
        refine BT.icmp_ne (tgt := 186) dX11_stepWord_178 (by decide) (fun c => ?_) (fun c => ?_)
        · have c33 := c
          refine BT.iconst (v := (-1)) dX11_stepWord_186 (by decide) ?_
          exact BT.iret dX11_stepWord_187 rfl (by decide) (by decide) (((h.2.2.2.2.2.2.1 c30).1 c31).1 c33)
        · have c34 := c
          refine BT.bipush (v := 8) dX11_stepWord_181 (by decide) ?_
          refine BT.goto (tgt := 187) dX11_stepWord_183 (by decide) ?_
          exact BT.iret dX11_stepWord_187 rfl (by decide) (by decide) (((h.2.2.2.2.2.2.1 c30).1 c31).2 c34)
      · have c32 := c
        refine BT.bipush (v := 17) dX11_stepWord_170 (by decide) ?_
        refine BT.goto (tgt := 187) dX11_stepWord_172 (by decide) ?_
        exact BT.iret dX11_stepWord_187 rfl (by decide) (by decide) ((h.2.2.2.2.2.2.1 c30).2 c32)
    | 8, c, _ =>
      have c : v1 = 17 := Int32.toInt_inj.mp (by rw [c]; rfl)
      refine ⟨188, 187, rfl, by decide, ?_⟩
      have c35 : v1 = 17 := c
      refine BT.iload_n dX11_stepWord_188 rfl 2 rfl ?_
      refine BT.mcS [.int v2] (t_X11_isWay  ?_) mb_X11_isWay ms_X11_isWay lk_X11_137 rfl (by decide) rfl (Nat.le_of_ble_eq_true rfl) dX11_stepWord_189
      show B_X11_stepWord G K 192 [(0, .ref 175), (1, .int v1), (2, .int v2)] [.int (bi (v2 = 99 ∨ v2 = 98 ∨ v2 = 108))] M
      refine BT.if_eq (tgt := 208) dX11_stepWord_192 (by decide) (fun c => ?_) (fun c => ?_)
      · have c37 := bi_eq0.mp c
        refine BT.iconst (v := (-1)) dX11_stepWord_208 (by decide) ?_
        exact BT.iret dX11_stepWord_209 rfl (by decide) (by decide) ((h.2.2.2.2.2.2.2.1 c35).1 c37)
      · have c38 := bi_ne0.mp c
        refine BT.iload_n dX11_stepWord_195 rfl 2 rfl ?_
        refine BT.aload_n dX11_stepWord_196 rfl 0 rfl ?_
        refine BT.getI fl_X11_114 ho_175 rfl dX11_stepWord_197 ?_
        refine BT.icmp_eq (tgt := 208) dX11_stepWord_200 (by decide) (fun c => ?_) (fun c => ?_)
        · have c39 := c
          refine BT.iconst (v := (-1)) dX11_stepWord_208 (by decide) ?_
          exact BT.iret dX11_stepWord_209 rfl (by decide) (by decide) (((h.2.2.2.2.2.2.2.1 c35).2 c38).1 c39)
        · have c40 := c
          refine BT.bipush (v := 19) dX11_stepWord_203 (by decide) ?_
          refine BT.goto (tgt := 209) dX11_stepWord_205 (by decide) ?_
          exact BT.iret dX11_stepWord_209 rfl (by decide) (by decide) (((h.2.2.2.2.2.2.2.1 c35).2 c38).2 c40)
    | 9, c, _ =>
      have c : v1 = 18 := Int32.toInt_inj.mp (by rw [c]; rfl)
      refine ⟨210, 209, rfl, by decide, ?_⟩
      have c41 : v1 = 18 := c
      refine BT.iload_n dX11_stepWord_210 rfl 2 rfl ?_
      refine BT.i2l dX11_stepWord_211 ?_
      refine BT.ldc2 dX11_stepWord_212 kc_X11_97 ?_
      refine BT.ldc2 dX11_stepWord_215 kc_X11_128 ?_
      refine BT.mcS [.long (Int32.toInt64 v2), .long 48, .long 55] (t_X11_in (x := v2) (y := (48 : Int32)) (z := (55 : Int32)) rfl (by decide) (by decide) ?_) mb_X11_in ms_X11_in lk_X11_86 rfl (by decide) rfl (Nat.le_of_ble_eq_true rfl) dX11_stepWord_218
      show B_X11_stepWord G K 221 [(0, .ref 175), (1, .int v1), (2, .int v2)] [.int (bi ((48 : Int32) ≤ v2 ∧ v2 ≤ (55 : Int32)))] M
      refine BT.if_eq (tgt := 229) dX11_stepWord_221 (by decide) (fun c => ?_) (fun c => ?_)
      · have c42 := bi_eq0.mp c
        refine BT.iconst (v := (-1)) dX11_stepWord_229 (by decide) ?_
        exact BT.iret dX11_stepWord_230 rfl (by decide) (by decide) ((h.2.2.2.2.2.2.2.2 c41).1 c42)
      · have c43 := bi_ne0.mp c
        refine BT.bipush (v := 20) dX11_stepWord_224 (by decide) ?_
        refine BT.goto (tgt := 230) dX11_stepWord_226 (by decide) ?_
        exact BT.iret dX11_stepWord_230 rfl (by decide) (by decide) ((h.2.2.2.2.2.2.2.2 c41).2 c43)
    | k + 10, _, h => exact absurd h (by omega)

theorem q_def {p : Int32 × Int32 × Int32 × Int32} {s c : Int32} (h : ¬ (s = 0 ∨ s = 1 ∨ s = 2 ∨ s = 3 ∨ s = 4 ∨ s = 5 ∨ s = 6 ∨ s = 8 ∨ s = 9 ∨ s = 10 ∨ s = 13 ∨ s = 14 ∨ s = 15 ∨ s = 16 ∨ s = 17 ∨ s = 18)) : q_step (s, p) c = if c = 44 then (8, p) else (-1, p) := by
  simp only [not_or] at h
  obtain ⟨h0, h1, h2, h3, h4, h5, h6, h8, h9, h10, h13, h14, h15, h16, h17, h18⟩ := h
  unfold q_step
  simp only [if_neg h0, if_neg h1, if_neg h2, if_neg h3, if_neg h4, if_neg h5, if_neg h6, if_neg h8, if_neg h9, if_neg h10, if_neg h13, if_neg h14, if_neg h15, if_neg h16, if_neg h17, if_neg h18]
theorem t_X11_stepWord {G : GT} {K : Int32 → Mem → Prop} {M : Mem} {v1 v2 : Int32} (hs : ¬ (v1 = 0 ∨ v1 = 1 ∨ v1 = 2 ∨ v1 = 3 ∨ v1 = 4 ∨ v1 = 5 ∨ v1 = 6 ∨ v1 = 8)) (h : ∀ (r : Int32) (N : Mem), (r = (q_step (z_q M v1) v2).1 ∧ ZQ M N (q_step (z_q M v1) v2)) → K r N) : T_X11_stepWord G [.ref 175, .int v1, .int v2] M K := by
  have hq : ∀ q, q_step (z_q M v1) v2 = q → ∀ N, ZQ M N q → K q.1 N := fun q e N z => h _ _ ⟨by rw [e], by rw [e]; exact z⟩
  have w4 : ∀ s v, ZQ M (m_i M 175 4 v) (s, M.1 175 2, M.1 175 3, v, M.1 175 5) := fun s v => ⟨ZFr.rf.mi (by decide), by
    unfold z_q4
    rw [m_i_ne (by omega), m_i_ne (by omega), m_i_at, m_i_ne (by omega)]⟩
  refine e_X11_stepWord (k_X11_stepWord_0 ⟨fun c => ?_, fun c => ?_, fun c => ?_, fun c => ?_, fun c => ?_, fun c => ?_, fun c => ?_, fun c => ?_, fun c => ?_⟩)
  · have n : ¬ (v1 = 0 ∨ v1 = 1 ∨ v1 = 2 ∨ v1 = 3 ∨ v1 = 4 ∨ v1 = 5 ∨ v1 = 6 ∨ v1 = 8 ∨ v1 = 9 ∨ v1 = 10 ∨ v1 = 13 ∨ v1 = 14 ∨ v1 = 15 ∨ v1 = 16 ∨ v1 = 17 ∨ v1 = 18) := by
      intro z
      have z2 : v1 = 9 ∨ v1 = 10 ∨ v1 = 13 ∨ v1 = 14 ∨ v1 = 15 ∨ v1 = 16 ∨ v1 = 17 ∨ v1 = 18 := by
        rcases z with z | z | z | z | z | z | z | z | z
        · exact absurd (Or.inl z) hs
        · exact absurd (Or.inr (Or.inl z)) hs
        · exact absurd (Or.inr (Or.inr (Or.inl z))) hs
        · exact absurd (Or.inr (Or.inr (Or.inr (Or.inl z)))) hs
        · exact absurd (Or.inr (Or.inr (Or.inr (Or.inr (Or.inl z))))) hs
        · exact absurd (Or.inr (Or.inr (Or.inr (Or.inr (Or.inr (Or.inl z)))))) hs
        · exact absurd (Or.inr (Or.inr (Or.inr (Or.inr (Or.inr (Or.inr (Or.inl z))))))) hs
        · exact absurd (Or.inr (Or.inr (Or.inr (Or.inr (Or.inr (Or.inr (Or.inr z))))))) hs
        · exact z
      rcases z2 with rfl | rfl | rfl | rfl | rfl | rfl | rfl | rfl <;> exact absurd c (by decide)
    refine ⟨fun c2 => hq (-1, z_q4 M) ?_ M ZQ.rf, fun c2 => hq (8, z_q4 M) ?_ M ZQ.rf⟩
    · unfold z_q; rw [q_def n, if_neg c2]
    · unfold z_q; rw [q_def n, if_pos c2]
  · subst c
    refine ⟨fun c2 => ⟨fun c3 => hq (-1, z_q4 M) ?_ M ZQ.rf, fun c3 => hq (8, z_q4 M) ?_ M ZQ.rf⟩, fun c2 => hq (10, z_q4 M) ?_ M ZQ.rf⟩
    · unfold z_q; rw [q_s9, if_neg c2, if_neg c3]
    · unfold z_q; rw [q_s9, if_neg c2, if_pos c3]
    · unfold z_q; rw [q_s9, if_pos c2]
  · subst c
    refine ⟨fun c2 => hq (-1, z_q4 M) ?_ M ZQ.rf, fun c2 => ⟨fun c3 => hq (-1, z_q4 M) ?_ M ZQ.rf, fun c3 => hq (11, z_q4 M) ?_ M ZQ.rf⟩⟩
    · unfold z_q; rw [q_s10, if_neg (fun z => c2 z.1)]
    · unfold z_q; rw [q_s10, if_neg (fun z => z.2 c3)]
    · unfold z_q; rw [q_s10, if_pos ⟨c2, c3⟩]
  · subst c
    refine ⟨fun c2 => hq (-1, z_q4 M) ?_ M ZQ.rf, fun c2 => hq (14, z_q4 M) ?_ M ZQ.rf⟩
    · unfold z_q; rw [q_s13, if_neg c2]
    · unfold z_q; rw [q_s13, if_pos c2]
  · subst c
    refine ⟨fun c2 => ⟨fun c3 => hq (-1, M.1 175 2, M.1 175 3, v2, M.1 175 5) ?_ _ (w4 _ v2), fun c3 => hq (16, M.1 175 2, M.1 175 3, v2, M.1 175 5) ?_ _ (w4 _ v2)⟩, fun c2 => hq (15, z_q4 M) ?_ M ZQ.rf⟩
    · unfold z_q; rw [q_s14, if_neg c2, if_neg c3]; rfl
    · unfold z_q; rw [q_s14, if_neg c2, if_pos c3]; rfl
    · unfold z_q; rw [q_s14, if_pos c2]
  · subst c
    refine ⟨fun c3 => hq (-1, M.1 175 2, M.1 175 3, v2, M.1 175 5) ?_ _ (w4 _ v2), fun c3 => hq (16, M.1 175 2, M.1 175 3, v2, M.1 175 5) ?_ _ (w4 _ v2)⟩
    · unfold z_q; rw [q_s15, if_neg c3]; rfl
    · unfold z_q; rw [q_s15, if_pos c3]; rfl
  · subst c
    refine ⟨fun c2 => ⟨fun c3 => hq (-1, z_q4 M) ?_ M ZQ.rf, fun c3 => hq (8, z_q4 M) ?_ M ZQ.rf⟩, fun c2 => hq (17, z_q4 M) ?_ M ZQ.rf⟩
    · unfold z_q; rw [q_s16, if_neg c2, if_neg c3]
    · unfold z_q; rw [q_s16, if_neg c2, if_pos c3]
    · unfold z_q; rw [q_s16, if_pos c2]
  · subst c
    refine ⟨fun c2 => hq (-1, z_q4 M) ?_ M ZQ.rf, fun c2 => ⟨fun c3 => hq (-1, z_q4 M) ?_ M ZQ.rf, fun c3 => hq (19, z_q4 M) ?_ M ZQ.rf⟩⟩
    · unfold z_q; rw [q_s17, if_neg (fun z => c2 z.1)]
    · unfold z_q; rw [q_s17, if_neg (fun z => z.2 c3)]
    · unfold z_q; rw [q_s17, if_pos ⟨c2, c3⟩]
  · subst c
    refine ⟨fun c2 => hq (-1, z_q4 M) ?_ M ZQ.rf, fun c2 => hq (20, z_q4 M) ?_ M ZQ.rf⟩
    · unfold z_q; rw [q_s18, if_neg c2]
    · unfold z_q; rw [q_s18, if_pos c2]

/-! BetweenLawsModel.stepOf(II)I -/
abbrev rm_X11_stepOf : Room := { frames := 3, cells := 0, slots := 0, locals := 67 }
abbrev B_X11_stepOf (G : GT) (K : Int32 → Mem → Prop) := BT G (Rep G) RX11 "stepOf" cX11_stepOf 3 (some .int) rm_X11_stepOf K 0 0
abbrev T_X11_stepOf (G : GT) (as : List Value) (M : Mem) (K : Int32 → Mem → Prop) : Prop := MT G (Rep G) yX11_stepOf cX11_stepOf 3 (some .int) rm_X11_stepOf as M K
theorem e_X11_stepOf {G : GT} {K : Int32 → Mem → Prop} {M : Mem} {v1 : Int32} {v2 : Int32} (h : B_X11_stepOf G K 0 [(0, .ref 175), (1, .int v1), (2, .int v2)] [] M) : T_X11_stepOf G [.ref 175, .int v1, .int v2] M K := MT.of (by decide +kernel) rfl rfl (Nat.le_of_ble_eq_true rfl) rfl h
set_option maxRecDepth 4000 in
theorem k_X11_stepOf_0 {G : GT} {K : Int32 → Mem → Prop} {M : Mem} {v1 : Int32} {v2 : Int32} (h : ((v1.toInt < 0 ∨ 8 < v1.toInt) ∨ v1 = 7 → (¬ (v1 = 0 ∨ v1 = 1 ∨ v1 = 2 ∨ v1 = 3 ∨ v1 = 4 ∨ v1 = 5 ∨ v1 = 6 ∨ v1 = 8)) ∧ (∀ (r2 : Int32) (N2 : Mem), (r2 = (q_step (z_q M v1) v2).1 ∧ ZQ M N2 (q_step (z_q M v1) v2)) → K r2 N2)) ∧ (v1 = 0 ∨ v1 = 1 → (¬ ((97 : Int32) ≤ v2 ∧ v2 ≤ (101 : Int32)) → (¬ v1 = 0 → (¬ v1 = 1 → K (-1) M) ∧ (v1 = 1 → (¬ v2 = 58 → K (-1) M) ∧ (v2 = 58 → K 3 M))) ∧ (v1 = 0 → (¬ v2 = 42 → (¬ v1 = 1 → K (-1) M) ∧ (v1 = 1 → (¬ v2 = 58 → K (-1) M) ∧ (v2 = 58 → K 3 M))) ∧ (v2 = 42 → K 2 M))) ∧ (((97 : Int32) ≤ v2 ∧ v2 ≤ (101 : Int32)) → ((v2 - 97) ≤ (M.1 175 3) → (¬ v1 = 0 → (¬ v1 = 1 → K (-1) M) ∧ (v1 = 1 → (¬ v2 = 58 → K (-1) M) ∧ (v2 = 58 → K 3 M))) ∧ (v1 = 0 → (¬ v2 = 42 → (¬ v1 = 1 → K (-1) M) ∧ (v1 = 1 → (¬ v2 = 58 → K (-1) M) ∧ (v2 = 58 → K 3 M))) ∧ (v2 = 42 → K 2 M))) ∧ (¬ (v2 - 97) ≤ (M.1 175 3) → K 1 (m_i M 175 3 (v2 - 97))))) ∧ (v1 = 2 → (¬ v2 = 58 → K (-1) M) ∧ (v2 = 58 → K 3 M)) ∧ (v1 = 3 → (¬ ((48 : Int32) ≤ v2 ∧ v2 ≤ 57) → (¬ v2 = 64 → K (-1) M) ∧ (v2 = 64 → K 6 M)) ∧ (((48 : Int32) ≤ v2 ∧ v2 ≤ 57) → K 4 M)) ∧ (v1 = 4 → (¬ ((48 : Int32) ≤ v2 ∧ v2 ≤ 57) → (∀ (r45 : Int32) (N45 : Mem), (r45 = (q_gift v2 (z_q M 0)).1 ∧ ZQ M N45 (q_gift v2 (z_q M 0))) → K r45 N45)) ∧ (((48 : Int32) ≤ v2 ∧ v2 ≤ 57) → K 5 M)) ∧ (v1 = 5 → (∀ (r47 : Int32) (N47 : Mem), (r47 = (q_gift v2 (z_q M 0)).1 ∧ ZQ M N47 (q_gift v2 (z_q M 0))) → K r47 N47)) ∧ (v1 = 6 → (¬ ((48 : Int32) ≤ v2 ∧ v2 ≤ (55 : Int32)) → K (-1) M) ∧ (((48 : Int32) ≤ v2 ∧ v2 ≤ (55 : Int32)) → K 5 M)) ∧ (v1 = 8 → (∀ (r52 : Int32) (N52 : Mem), (r52 = (q_word v2 (z_q M 0)).1 ∧ ZQ M N52 (q_word v2 (z_q M 0))) → K r52 N52))) : B_X11_stepOf G K 0 [(0, .ref 175), (1, .int v1), (2, .int v2)] [] M := by
  refine BT.iload_n dX11_stepOf_0 rfl 1 rfl ?_
  refine BT.tsw (td := 203) dX11_stepOf_1 (by decide) (fun c => ?_) (fun j c cj => ?_)
  · have c1 : (v1.toInt < 0 ∨ 8 < v1.toInt) ∨ v1 = 7 := Or.inl c
    refine BT.aload_n dX11_stepOf_203 rfl 0 rfl ?_
    refine BT.iload_n dX11_stepOf_204 rfl 1 rfl ?_
    refine BT.iload_n dX11_stepOf_205 rfl 2 rfl ?_
    refine BT.mcV [.int v1, .int v2] (t_X11_stepWord (h.1 c1).1 (fun r2 N2 g2 => ?_)) mb_X11_stepWord mv_X11_stepWord lk_X11_133 rfl (by decide) rfl (recvRep ho_175 rfl) (Nat.le_of_ble_eq_true rfl) dX11_stepOf_206
    show B_X11_stepOf G K 209 [(0, .ref 175), (1, .int v1), (2, .int v2)] [.int r2] N2
    exact BT.iret dX11_stepOf_209 rfl (by decide) (by decide) ((h.1 c1).2 r2 N2 g2)
  · match j, c, cj with
    | 0, c, _ =>
      have c : v1 = 0 := Int32.toInt_inj.mp (by rw [c]; rfl)
      refine ⟨52, 51, rfl, by decide, ?_⟩
      have c3 : v1 = 0 ∨ v1 = 1 := Or.inl c
      refine BT.iload_n dX11_stepOf_52 rfl 2 rfl ?_
      refine BT.i2l dX11_stepOf_53 ?_
      refine BT.ldc2 dX11_stepOf_54 kc_X11_117 ?_
      refine BT.ldc2 dX11_stepOf_57 kc_X11_119 ?_
      refine BT.mcS [.long (Int32.toInt64 v2), .long 97, .long 101] (t_X11_in (x := v2) (y := (97 : Int32)) (z := (101 : Int32)) rfl (by decide) (by decide) ?_) mb_X11_in ms_X11_in lk_X11_86 rfl (by decide) rfl (Nat.le_of_ble_eq_true rfl) dX11_stepOf_60
      show B_X11_stepOf G K 63 [(0, .ref 175), (1, .int v1), (2, .int v2)] [.int (bi ((97 : Int32) ≤ v2 ∧ v2 ≤ (101 : Int32)))] M
      refine BT.if_eq (tgt := 87) dX11_stepOf_63 (by decide) (fun c => ?_) (fun c => ?_)
      · have c4 := bi_eq0.mp c
        refine BT.iload_n dX11_stepOf_87 rfl 1 rfl ?_
        refine BT.if_ne (tgt := 101) dX11_stepOf_88 (by decide) (fun c => ?_) (fun c => ?_)
        · have c6 := c
          refine BT.iload_n dX11_stepOf_101 rfl 1 rfl ?_
          refine BT.iconst (v := 1) dX11_stepOf_102 (by decide) ?_
          refine BT.icmp_ne (tgt := 116) dX11_stepOf_103 (by decide) (fun c => ?_) (fun c => ?_)
          · have c8 := c
            refine BT.iconst (v := (-1)) dX11_stepOf_116 (by decide) ?_
            exact BT.iret dX11_stepOf_117 rfl (by decide) (by decide) ((((h.2.1 c3).1 c4).1 c6).1 c8)
          · have c9 := c
            refine BT.iload_n dX11_stepOf_106 rfl 2 rfl ?_
            refine BT.bipush (v := 58) dX11_stepOf_107 (by decide) ?_
            refine BT.icmp_ne (tgt := 116) dX11_stepOf_109 (by decide) (fun c => ?_) (fun c => ?_)
            · have c10 := c
              refine BT.iconst (v := (-1)) dX11_stepOf_116 (by decide) ?_
              exact BT.iret dX11_stepOf_117 rfl (by decide) (by decide) (((((h.2.1 c3).1 c4).1 c6).2 c9).1 c10)
            · have c11 := c
              refine BT.iconst (v := 3) dX11_stepOf_112 (by decide) ?_
              refine BT.goto (tgt := 117) dX11_stepOf_113 (by decide) ?_
              exact BT.iret dX11_stepOf_117 rfl (by decide) (by decide) (((((h.2.1 c3).1 c4).1 c6).2 c9).2 c11)
        · have c7 := c
          refine BT.iload_n dX11_stepOf_91 rfl 2 rfl ?_
          refine BT.bipush (v := 42) dX11_stepOf_92 (by decide) ?_
          refine BT.icmp_ne (tgt := 101) dX11_stepOf_94 (by decide) (fun c => ?_) (fun c => ?_)
          · have c12 := c
            refine BT.iload_n dX11_stepOf_101 rfl 1 rfl ?_
            refine BT.iconst (v := 1) dX11_stepOf_102 (by decide) ?_
            refine BT.icmp_ne (tgt := 116) dX11_stepOf_103 (by decide) (fun c => ?_) (fun c => ?_)
            · have c14 := c
              refine BT.iconst (v := (-1)) dX11_stepOf_116 (by decide) ?_
              exact BT.iret dX11_stepOf_117 rfl (by decide) (by decide) (((((h.2.1 c3).1 c4).2 c7).1 c12).1 c14)
            · have c15 := c
              refine BT.iload_n dX11_stepOf_106 rfl 2 rfl ?_
              refine BT.bipush (v := 58) dX11_stepOf_107 (by decide) ?_
              refine BT.icmp_ne (tgt := 116) dX11_stepOf_109 (by decide) (fun c => ?_) (fun c => ?_)
              · have c16 := c
                refine BT.iconst (v := (-1)) dX11_stepOf_116 (by decide) ?_
                exact BT.iret dX11_stepOf_117 rfl (by decide) (by decide) ((((((h.2.1 c3).1 c4).2 c7).1 c12).2 c15).1 c16)
              · have c17 := c
                refine BT.iconst (v := 3) dX11_stepOf_112 (by decide) ?_
                refine BT.goto (tgt := 117) dX11_stepOf_113 (by decide) ?_
                exact BT.iret dX11_stepOf_117 rfl (by decide) (by decide) ((((((h.2.1 c3).1 c4).2 c7).1 c12).2 c15).2 c17)
          · have c13 := c
            refine BT.iconst (v := 2) dX11_stepOf_97 (by decide) ?_
            refine BT.goto (tgt := 117) dX11_stepOf_98 (by decide) ?_
            exact BT.iret dX11_stepOf_117 rfl (by decide) (by decide) ((((h.2.1 c3).1 c4).2 c7).2 c13)
      · have c5 := bi_ne0.mp c
        refine BT.iload_n dX11_stepOf_66 rfl 2 rfl ?_
        refine BT.bipush (v := 97) dX11_stepOf_67 (by decide) ?_
        refine BT.isub dX11_stepOf_69 ?_
        refine BT.aload_n dX11_stepOf_70 rfl 0 rfl ?_
        refine BT.getI fl_X11_104 ho_175 rfl dX11_stepOf_71 ?_
        refine BT.icmp_le (tgt := 87) dX11_stepOf_74 (by decide) (fun c => ?_) (fun c => ?_)
        · have c18 := c
          refine BT.iload_n dX11_stepOf_87 rfl 1 rfl ?_
          refine BT.if_ne (tgt := 101) dX11_stepOf_88 (by decide) (fun c => ?_) (fun c => ?_)
          · have c20 := c
            refine BT.iload_n dX11_stepOf_101 rfl 1 rfl ?_
            refine BT.iconst (v := 1) dX11_stepOf_102 (by decide) ?_
            refine BT.icmp_ne (tgt := 116) dX11_stepOf_103 (by decide) (fun c => ?_) (fun c => ?_)
            · have c22 := c
              refine BT.iconst (v := (-1)) dX11_stepOf_116 (by decide) ?_
              exact BT.iret dX11_stepOf_117 rfl (by decide) (by decide) (((((h.2.1 c3).2 c5).1 c18).1 c20).1 c22)
            · have c23 := c
              refine BT.iload_n dX11_stepOf_106 rfl 2 rfl ?_
              refine BT.bipush (v := 58) dX11_stepOf_107 (by decide) ?_
              refine BT.icmp_ne (tgt := 116) dX11_stepOf_109 (by decide) (fun c => ?_) (fun c => ?_)
              · have c24 := c
                refine BT.iconst (v := (-1)) dX11_stepOf_116 (by decide) ?_
                exact BT.iret dX11_stepOf_117 rfl (by decide) (by decide) ((((((h.2.1 c3).2 c5).1 c18).1 c20).2 c23).1 c24)
              · have c25 := c
                refine BT.iconst (v := 3) dX11_stepOf_112 (by decide) ?_
                refine BT.goto (tgt := 117) dX11_stepOf_113 (by decide) ?_
                exact BT.iret dX11_stepOf_117 rfl (by decide) (by decide) ((((((h.2.1 c3).2 c5).1 c18).1 c20).2 c23).2 c25)
          · have c21 := c
            refine BT.iload_n dX11_stepOf_91 rfl 2 rfl ?_
            refine BT.bipush (v := 42) dX11_stepOf_92 (by decide) ?_
            refine BT.icmp_ne (tgt := 101) dX11_stepOf_94 (by decide) (fun c => ?_) (fun c => ?_)
            · have c26 := c
              refine BT.iload_n dX11_stepOf_101 rfl 1 rfl ?_
              refine BT.iconst (v := 1) dX11_stepOf_102 (by decide) ?_
              refine BT.icmp_ne (tgt := 116) dX11_stepOf_103 (by decide) (fun c => ?_) (fun c => ?_)
              · have c28 := c
                refine BT.iconst (v := (-1)) dX11_stepOf_116 (by decide) ?_
                exact BT.iret dX11_stepOf_117 rfl (by decide) (by decide) ((((((h.2.1 c3).2 c5).1 c18).2 c21).1 c26).1 c28)
              · have c29 := c
                refine BT.iload_n dX11_stepOf_106 rfl 2 rfl ?_
                refine BT.bipush (v := 58) dX11_stepOf_107 (by decide) ?_
                refine BT.icmp_ne (tgt := 116) dX11_stepOf_109 (by decide) (fun c => ?_) (fun c => ?_)
                · have c30 := c
                  refine BT.iconst (v := (-1)) dX11_stepOf_116 (by decide) ?_
                  exact BT.iret dX11_stepOf_117 rfl (by decide) (by decide) (((((((h.2.1 c3).2 c5).1 c18).2 c21).1 c26).2 c29).1 c30)
                · have c31 := c
                  refine BT.iconst (v := 3) dX11_stepOf_112 (by decide) ?_
                  refine BT.goto (tgt := 117) dX11_stepOf_113 (by decide) ?_
                  exact BT.iret dX11_stepOf_117 rfl (by decide) (by decide) (((((((h.2.1 c3).2 c5).1 c18).2 c21).1 c26).2 c29).2 c31)
            · have c27 := c
              refine BT.iconst (v := 2) dX11_stepOf_97 (by decide) ?_
              refine BT.goto (tgt := 117) dX11_stepOf_98 (by decide) ?_
              exact BT.iret dX11_stepOf_117 rfl (by decide) (by decide) (((((h.2.1 c3).2 c5).1 c18).2 c21).2 c27)
        · have c19 := c
          refine BT.aload_n dX11_stepOf_77 rfl 0 rfl ?_
          refine BT.iload_n dX11_stepOf_78 rfl 2 rfl ?_
          refine BT.bipush (v := 97) dX11_stepOf_79 (by decide) ?_
          refine BT.isub dX11_stepOf_81 ?_
          refine BT.putI fl_X11_104 ft_11_3 ho_175 rfl dX11_stepOf_82 ?_
          refine BT.iconst (v := 1) dX11_stepOf_85 (by decide) ?_
          exact BT.iret dX11_stepOf_86 rfl (by decide) (by decide) (((h.2.1 c3).2 c5).2 c19)
    | 1, c, _ =>
      have c : v1 = 1 := Int32.toInt_inj.mp (by rw [c]; rfl)
      refine ⟨52, 51, rfl, by decide, ?_⟩
      have c3 : v1 = 0 ∨ v1 = 1 := Or.inr (c)
      refine BT.iload_n dX11_stepOf_52 rfl 2 rfl ?_
      refine BT.i2l dX11_stepOf_53 ?_
      refine BT.ldc2 dX11_stepOf_54 kc_X11_117 ?_
      refine BT.ldc2 dX11_stepOf_57 kc_X11_119 ?_
      refine BT.mcS [.long (Int32.toInt64 v2), .long 97, .long 101] (t_X11_in (x := v2) (y := (97 : Int32)) (z := (101 : Int32)) rfl (by decide) (by decide) ?_) mb_X11_in ms_X11_in lk_X11_86 rfl (by decide) rfl (Nat.le_of_ble_eq_true rfl) dX11_stepOf_60
      show B_X11_stepOf G K 63 [(0, .ref 175), (1, .int v1), (2, .int v2)] [.int (bi ((97 : Int32) ≤ v2 ∧ v2 ≤ (101 : Int32)))] M
      refine BT.if_eq (tgt := 87) dX11_stepOf_63 (by decide) (fun c => ?_) (fun c => ?_)
      · have c4 := bi_eq0.mp c
        refine BT.iload_n dX11_stepOf_87 rfl 1 rfl ?_
        refine BT.if_ne (tgt := 101) dX11_stepOf_88 (by decide) (fun c => ?_) (fun c => ?_)
        · have c6 := c
          refine BT.iload_n dX11_stepOf_101 rfl 1 rfl ?_
          refine BT.iconst (v := 1) dX11_stepOf_102 (by decide) ?_
          refine BT.icmp_ne (tgt := 116) dX11_stepOf_103 (by decide) (fun c => ?_) (fun c => ?_)
          · have c8 := c
            refine BT.iconst (v := (-1)) dX11_stepOf_116 (by decide) ?_
            exact BT.iret dX11_stepOf_117 rfl (by decide) (by decide) ((((h.2.1 c3).1 c4).1 c6).1 c8)
          · have c9 := c
            refine BT.iload_n dX11_stepOf_106 rfl 2 rfl ?_
            refine BT.bipush (v := 58) dX11_stepOf_107 (by decide) ?_
            refine BT.icmp_ne (tgt := 116) dX11_stepOf_109 (by decide) (fun c => ?_) (fun c => ?_)
            · have c10 := c
              refine BT.iconst (v := (-1)) dX11_stepOf_116 (by decide) ?_
              exact BT.iret dX11_stepOf_117 rfl (by decide) (by decide) (((((h.2.1 c3).1 c4).1 c6).2 c9).1 c10)
            · have c11 := c
              refine BT.iconst (v := 3) dX11_stepOf_112 (by decide) ?_
              refine BT.goto (tgt := 117) dX11_stepOf_113 (by decide) ?_
              exact BT.iret dX11_stepOf_117 rfl (by decide) (by decide) (((((h.2.1 c3).1 c4).1 c6).2 c9).2 c11)
        · have c7 := c
          refine BT.iload_n dX11_stepOf_91 rfl 2 rfl ?_
          refine BT.bipush (v := 42) dX11_stepOf_92 (by decide) ?_
          refine BT.icmp_ne (tgt := 101) dX11_stepOf_94 (by decide) (fun c => ?_) (fun c => ?_)
          · have c12 := c
            refine BT.iload_n dX11_stepOf_101 rfl 1 rfl ?_
            refine BT.iconst (v := 1) dX11_stepOf_102 (by decide) ?_
            refine BT.icmp_ne (tgt := 116) dX11_stepOf_103 (by decide) (fun c => ?_) (fun c => ?_)
            · have c14 := c
              refine BT.iconst (v := (-1)) dX11_stepOf_116 (by decide) ?_
              exact BT.iret dX11_stepOf_117 rfl (by decide) (by decide) (((((h.2.1 c3).1 c4).2 c7).1 c12).1 c14)
            · have c15 := c
              refine BT.iload_n dX11_stepOf_106 rfl 2 rfl ?_
              refine BT.bipush (v := 58) dX11_stepOf_107 (by decide) ?_
              refine BT.icmp_ne (tgt := 116) dX11_stepOf_109 (by decide) (fun c => ?_) (fun c => ?_)
              · have c16 := c
                refine BT.iconst (v := (-1)) dX11_stepOf_116 (by decide) ?_
                exact BT.iret dX11_stepOf_117 rfl (by decide) (by decide) ((((((h.2.1 c3).1 c4).2 c7).1 c12).2 c15).1 c16)
              · have c17 := c
                refine BT.iconst (v := 3) dX11_stepOf_112 (by decide) ?_
                refine BT.goto (tgt := 117) dX11_stepOf_113 (by decide) ?_
                exact BT.iret dX11_stepOf_117 rfl (by decide) (by decide) ((((((h.2.1 c3).1 c4).2 c7).1 c12).2 c15).2 c17)
          · have c13 := c
            refine BT.iconst (v := 2) dX11_stepOf_97 (by decide) ?_
            refine BT.goto (tgt := 117) dX11_stepOf_98 (by decide) ?_
            exact BT.iret dX11_stepOf_117 rfl (by decide) (by decide) ((((h.2.1 c3).1 c4).2 c7).2 c13)
      · have c5 := bi_ne0.mp c
        refine BT.iload_n dX11_stepOf_66 rfl 2 rfl ?_
        refine BT.bipush (v := 97) dX11_stepOf_67 (by decide) ?_
        refine BT.isub dX11_stepOf_69 ?_
        refine BT.aload_n dX11_stepOf_70 rfl 0 rfl ?_
        refine BT.getI fl_X11_104 ho_175 rfl dX11_stepOf_71 ?_
        refine BT.icmp_le (tgt := 87) dX11_stepOf_74 (by decide) (fun c => ?_) (fun c => ?_)
        · have c18 := c
          refine BT.iload_n dX11_stepOf_87 rfl 1 rfl ?_
          refine BT.if_ne (tgt := 101) dX11_stepOf_88 (by decide) (fun c => ?_) (fun c => ?_)
          · have c20 := c
            refine BT.iload_n dX11_stepOf_101 rfl 1 rfl ?_
            refine BT.iconst (v := 1) dX11_stepOf_102 (by decide) ?_
            refine BT.icmp_ne (tgt := 116) dX11_stepOf_103 (by decide) (fun c => ?_) (fun c => ?_)
            · have c22 := c
              refine BT.iconst (v := (-1)) dX11_stepOf_116 (by decide) ?_
              exact BT.iret dX11_stepOf_117 rfl (by decide) (by decide) (((((h.2.1 c3).2 c5).1 c18).1 c20).1 c22)
            · have c23 := c
              refine BT.iload_n dX11_stepOf_106 rfl 2 rfl ?_
              refine BT.bipush (v := 58) dX11_stepOf_107 (by decide) ?_
              refine BT.icmp_ne (tgt := 116) dX11_stepOf_109 (by decide) (fun c => ?_) (fun c => ?_)
              · have c24 := c
                refine BT.iconst (v := (-1)) dX11_stepOf_116 (by decide) ?_
                exact BT.iret dX11_stepOf_117 rfl (by decide) (by decide) ((((((h.2.1 c3).2 c5).1 c18).1 c20).2 c23).1 c24)
              · have c25 := c
                refine BT.iconst (v := 3) dX11_stepOf_112 (by decide) ?_
                refine BT.goto (tgt := 117) dX11_stepOf_113 (by decide) ?_
                exact BT.iret dX11_stepOf_117 rfl (by decide) (by decide) ((((((h.2.1 c3).2 c5).1 c18).1 c20).2 c23).2 c25)
          · have c21 := c
            refine BT.iload_n dX11_stepOf_91 rfl 2 rfl ?_
            refine BT.bipush (v := 42) dX11_stepOf_92 (by decide) ?_
            refine BT.icmp_ne (tgt := 101) dX11_stepOf_94 (by decide) (fun c => ?_) (fun c => ?_)
            · have c26 := c
              refine BT.iload_n dX11_stepOf_101 rfl 1 rfl ?_
              refine BT.iconst (v := 1) dX11_stepOf_102 (by decide) ?_
              refine BT.icmp_ne (tgt := 116) dX11_stepOf_103 (by decide) (fun c => ?_) (fun c => ?_)
              · have c28 := c
                refine BT.iconst (v := (-1)) dX11_stepOf_116 (by decide) ?_
                exact BT.iret dX11_stepOf_117 rfl (by decide) (by decide) ((((((h.2.1 c3).2 c5).1 c18).2 c21).1 c26).1 c28)
              · have c29 := c
                refine BT.iload_n dX11_stepOf_106 rfl 2 rfl ?_
                refine BT.bipush (v := 58) dX11_stepOf_107 (by decide) ?_
                refine BT.icmp_ne (tgt := 116) dX11_stepOf_109 (by decide) (fun c => ?_) (fun c => ?_)
                · have c30 := c
                  refine BT.iconst (v := (-1)) dX11_stepOf_116 (by decide) ?_
                  exact BT.iret dX11_stepOf_117 rfl (by decide) (by decide) (((((((h.2.1 c3).2 c5).1 c18).2 c21).1 c26).2 c29).1 c30)
                · have c31 := c
                  refine BT.iconst (v := 3) dX11_stepOf_112 (by decide) ?_
                  refine BT.goto (tgt := 117) dX11_stepOf_113 (by decide) ?_
                  exact BT.iret dX11_stepOf_117 rfl (by decide) (by decide) (((((((h.2.1 c3).2 c5).1 c18).2 c21).1 c26).2 c29).2 c31)
            · have c27 := c
              refine BT.iconst (v := 2) dX11_stepOf_97 (by decide) ?_
              refine BT.goto (tgt := 117) dX11_stepOf_98 (by decide) ?_
              exact BT.iret dX11_stepOf_117 rfl (by decide) (by decide) (((((h.2.1 c3).2 c5).1 c18).2 c21).2 c27)
        · have c19 := c
          refine BT.aload_n dX11_stepOf_77 rfl 0 rfl ?_
          refine BT.iload_n dX11_stepOf_78 rfl 2 rfl ?_
          refine BT.bipush (v := 97) dX11_stepOf_79 (by decide) ?_
          refine BT.isub dX11_stepOf_81 ?_
          refine BT.putI fl_X11_104 ft_11_3 ho_175 rfl dX11_stepOf_82 ?_
          refine BT.iconst (v := 1) dX11_stepOf_85 (by decide) ?_
          exact BT.iret dX11_stepOf_86 rfl (by decide) (by decide) (((h.2.1 c3).2 c5).2 c19)
    | 2, c, _ =>
      have c : v1 = 2 := Int32.toInt_inj.mp (by rw [c]; rfl)
      refine ⟨118, 117, rfl, by decide, ?_⟩
      have c32 : v1 = 2 := c
      refine BT.iload_n dX11_stepOf_118 rfl 2 rfl ?_
      refine BT.bipush (v := 58) dX11_stepOf_119 (by decide) ?_
      refine BT.icmp_ne (tgt := 128) dX11_stepOf_121 (by decide) (fun c => ?_) (fun c => ?_)
      · have c33 := c
        refine BT.iconst (v := (-1)) dX11_stepOf_128 (by decide) ?_
        exact BT.iret dX11_stepOf_129 rfl (by decide) (by decide) ((h.2.2.1 c32).1 c33)
      · have c34 := c
        refine BT.iconst (v := 3) dX11_stepOf_124 (by decide) ?_
        refine BT.goto (tgt := 129) dX11_stepOf_125 (by decide) ?_
        exact BT.iret dX11_stepOf_129 rfl (by decide) (by decide) ((h.2.2.1 c32).2 c34)
    | 3, c, _ =>
      have c : v1 = 3 := Int32.toInt_inj.mp (by rw [c]; rfl)
      refine ⟨130, 129, rfl, by decide, ?_⟩
      have c35 : v1 = 3 := c
      refine BT.iload_n dX11_stepOf_130 rfl 2 rfl ?_
      refine BT.mcS [.int v2] (t_X11_isDigit  ?_) mb_X11_isDigit ms_X11_isDigit lk_X11_121 rfl (by decide) rfl (Nat.le_of_ble_eq_true rfl) dX11_stepOf_131
      show B_X11_stepOf G K 134 [(0, .ref 175), (1, .int v1), (2, .int v2)] [.int (bi ((48 : Int32) ≤ v2 ∧ v2 ≤ 57))] M
      refine BT.if_eq (tgt := 141) dX11_stepOf_134 (by decide) (fun c => ?_) (fun c => ?_)
      · have c37 := bi_eq0.mp c
        refine BT.iload_n dX11_stepOf_141 rfl 2 rfl ?_
        refine BT.bipush (v := 64) dX11_stepOf_142 (by decide) ?_
        refine BT.icmp_ne (tgt := 152) dX11_stepOf_144 (by decide) (fun c => ?_) (fun c => ?_)
        · have c39 := c
          refine BT.iconst (v := (-1)) dX11_stepOf_152 (by decide) ?_
          exact BT.iret dX11_stepOf_153 rfl (by decide) (by decide) (((h.2.2.2.1 c35).1 c37).1 c39)
        · have c40 := c
          refine BT.bipush (v := 6) dX11_stepOf_147 (by decide) ?_
          refine BT.goto (tgt := 153) dX11_stepOf_149 (by decide) ?_
          exact BT.iret dX11_stepOf_153 rfl (by decide) (by decide) (((h.2.2.2.1 c35).1 c37).2 c40)
      · have c38 := bi_ne0.mp c
        refine BT.iconst (v := 4) dX11_stepOf_137 (by decide) ?_
        refine BT.goto (tgt := 153) dX11_stepOf_138 (by decide) ?_
        exact BT.iret dX11_stepOf_153 rfl (by decide) (by decide) ((h.2.2.2.1 c35).2 c38)
    | 4, c, _ =>
      have c : v1 = 4 := Int32.toInt_inj.mp (by rw [c]; rfl)
      refine ⟨154, 153, rfl, by decide, ?_⟩
      have c41 : v1 = 4 := c
      refine BT.iload_n dX11_stepOf_154 rfl 2 rfl ?_
      refine BT.mcS [.int v2] (t_X11_isDigit  ?_) mb_X11_isDigit ms_X11_isDigit lk_X11_121 rfl (by decide) rfl (Nat.le_of_ble_eq_true rfl) dX11_stepOf_155
      show B_X11_stepOf G K 158 [(0, .ref 175), (1, .int v1), (2, .int v2)] [.int (bi ((48 : Int32) ≤ v2 ∧ v2 ≤ 57))] M
      refine BT.if_eq (tgt := 165) dX11_stepOf_158 (by decide) (fun c => ?_) (fun c => ?_)
      · have c43 := bi_eq0.mp c
        refine BT.aload_n dX11_stepOf_165 rfl 0 rfl ?_
        refine BT.iload_n dX11_stepOf_166 rfl 2 rfl ?_
        refine BT.mcV [.int v2] (t_X11_behindGift  (fun r45 N45 g45 => ?_)) mb_X11_behindGift mv_X11_behindGift lk_X11_124 rfl (by decide) rfl (recvRep ho_175 rfl) (Nat.le_of_ble_eq_true rfl) dX11_stepOf_167
        show B_X11_stepOf G K 170 [(0, .ref 175), (1, .int v1), (2, .int v2)] [.int r45] N45
        exact BT.iret dX11_stepOf_170 rfl (by decide) (by decide) (((h.2.2.2.2.1 c41).1 c43) r45 N45 g45)
      · have c44 := bi_ne0.mp c
        refine BT.iconst (v := 5) dX11_stepOf_161 (by decide) ?_
        refine BT.goto (tgt := 170) dX11_stepOf_162 (by decide) ?_
        exact BT.iret dX11_stepOf_170 rfl (by decide) (by decide) ((h.2.2.2.2.1 c41).2 c44)
    | 5, c, _ =>
      have c : v1 = 5 := Int32.toInt_inj.mp (by rw [c]; rfl)
      refine ⟨171, 170, rfl, by decide, ?_⟩
      have c46 : v1 = 5 := c
      refine BT.aload_n dX11_stepOf_171 rfl 0 rfl ?_
      refine BT.iload_n dX11_stepOf_172 rfl 2 rfl ?_
      refine BT.mcV [.int v2] (t_X11_behindGift  (fun r47 N47 g47 => ?_)) mb_X11_behindGift mv_X11_behindGift lk_X11_124 rfl (by decide) rfl (recvRep ho_175 rfl) (Nat.le_of_ble_eq_true rfl) dX11_stepOf_173
      show B_X11_stepOf G K 176 [(0, .ref 175), (1, .int v1), (2, .int v2)] [.int r47] N47
      exact BT.iret dX11_stepOf_176 rfl (by decide) (by decide) ((h.2.2.2.2.2.1 c46) r47 N47 g47)
    | 6, c, _ =>
      have c : v1 = 6 := Int32.toInt_inj.mp (by rw [c]; rfl)
      refine ⟨177, 176, rfl, by decide, ?_⟩
      have c48 : v1 = 6 := c
      refine BT.iload_n dX11_stepOf_177 rfl 2 rfl ?_
      refine BT.i2l dX11_stepOf_178 ?_
      refine BT.ldc2 dX11_stepOf_179 kc_X11_97 ?_
      refine BT.ldc2 dX11_stepOf_182 kc_X11_128 ?_
      refine BT.mcS [.long (Int32.toInt64 v2), .long 48, .long 55] (t_X11_in (x := v2) (y := (48 : Int32)) (z := (55 : Int32)) rfl (by decide) (by decide) ?_) mb_X11_in ms_X11_in lk_X11_86 rfl (by decide) rfl (Nat.le_of_ble_eq_true rfl) dX11_stepOf_185
      show B_X11_stepOf G K 188 [(0, .ref 175), (1, .int v1), (2, .int v2)] [.int (bi ((48 : Int32) ≤ v2 ∧ v2 ≤ (55 : Int32)))] M
      refine BT.if_eq (tgt := 195) dX11_stepOf_188 (by decide) (fun c => ?_) (fun c => ?_)
      · have c49 := bi_eq0.mp c
        refine BT.iconst (v := (-1)) dX11_stepOf_195 (by decide) ?_
        exact BT.iret dX11_stepOf_196 rfl (by decide) (by decide) ((h.2.2.2.2.2.2.1 c48).1 c49)
      · have c50 := bi_ne0.mp c
        refine BT.iconst (v := 5) dX11_stepOf_191 (by decide) ?_
        refine BT.goto (tgt := 196) dX11_stepOf_192 (by decide) ?_
        exact BT.iret dX11_stepOf_196 rfl (by decide) (by decide) ((h.2.2.2.2.2.2.1 c48).2 c50)
    | 7, c, _ =>
      have c : v1 = 7 := Int32.toInt_inj.mp (by rw [c]; rfl)
      refine ⟨203, 202, rfl, by decide, ?_⟩
      have c1 : (v1.toInt < 0 ∨ 8 < v1.toInt) ∨ v1 = 7 := Or.inr (c)
      refine BT.aload_n dX11_stepOf_203 rfl 0 rfl ?_
      refine BT.iload_n dX11_stepOf_204 rfl 1 rfl ?_
      refine BT.iload_n dX11_stepOf_205 rfl 2 rfl ?_
      refine BT.mcV [.int v1, .int v2] (t_X11_stepWord (h.1 c1).1 (fun r53 N53 g53 => ?_)) mb_X11_stepWord mv_X11_stepWord lk_X11_133 rfl (by decide) rfl (recvRep ho_175 rfl) (Nat.le_of_ble_eq_true rfl) dX11_stepOf_206
      show B_X11_stepOf G K 209 [(0, .ref 175), (1, .int v1), (2, .int v2)] [.int r53] N53
      exact BT.iret dX11_stepOf_209 rfl (by decide) (by decide) ((h.1 c1).2 r53 N53 g53)
    | 8, c, _ =>
      have c : v1 = 8 := Int32.toInt_inj.mp (by rw [c]; rfl)
      refine ⟨197, 196, rfl, by decide, ?_⟩
      have c51 : v1 = 8 := c
      refine BT.aload_n dX11_stepOf_197 rfl 0 rfl ?_
      refine BT.iload_n dX11_stepOf_198 rfl 2 rfl ?_
      refine BT.mcV [.int v2] (t_X11_beginWord  (fun r52 N52 g52 => ?_)) mb_X11_beginWord mv_X11_beginWord lk_X11_130 rfl (by decide) rfl (recvRep ho_175 rfl) (Nat.le_of_ble_eq_true rfl) dX11_stepOf_199
      show B_X11_stepOf G K 202 [(0, .ref 175), (1, .int v1), (2, .int v2)] [.int r52] N52
      exact BT.iret dX11_stepOf_202 rfl (by decide) (by decide) ((h.2.2.2.2.2.2.2 c51) r52 N52 g52)
    | k + 9, _, h => exact absurd h (by omega)

theorem t_X11_stepOf {G : GT} {K : Int32 → Mem → Prop} {M : Mem} {v1 v2 : Int32} (h : ∀ (r : Int32) (N : Mem), (r = (q_step (z_q M v1) v2).1 ∧ ZQ M N (q_step (z_q M v1) v2)) → K r N) : T_X11_stepOf G [.ref 175, .int v1, .int v2] M K := by
  have hq : ∀ q, q_step (z_q M v1) v2 = q → ∀ N, ZQ M N q → K q.1 N := fun q e N z => h _ _ ⟨by rw [e], by rw [e]; exact z⟩
  have up : ∀ (q : QT) (r : Int32) (N : Mem), q_step (z_q M v1) v2 = q → (r = q.1 ∧ ZQ M N q) → K r N := fun q r N e z => by
    rw [z.1]; exact hq q e N z.2
  refine e_X11_stepOf (k_X11_stepOf_0 ⟨fun c => ⟨?_, fun r2 N2 g2 => h _ _ g2⟩, fun c => ?_, fun c => ?_, fun c => ?_, fun c => ?_, fun c => ?_, fun c => ?_, fun c => ?_⟩)
  · rintro (z | z | z | z | z | z | z | z) <;> (subst z; exact absurd c (by decide))
  · -- marks
    have two : ¬ (mkB v2 ∧ M.1 175 3 < v2 - 97) → (¬ v1 = 0 → (¬ v1 = 1 → K (-1) M) ∧ (v1 = 1 → (¬ v2 = 58 → K (-1) M) ∧ (v2 = 58 → K 3 M))) ∧ (v1 = 0 → (¬ v2 = 42 → (¬ v1 = 1 → K (-1) M) ∧ (v1 = 1 → (¬ v2 = 58 → K (-1) M) ∧ (v2 = 58 → K 3 M))) ∧ (v2 = 42 → K 2 M)) := by
      intro n
      refine ⟨fun c0 => ⟨fun c1 => absurd c (fun z => z.elim c0 c1), fun c1 => ?_⟩, fun c0 => ⟨fun c2 => ⟨fun c1 => ?_, fun c1 => absurd (c0.symm.trans c1) (by decide)⟩, fun c2 => ?_⟩⟩
      · subst c1
        refine ⟨fun c2 => hq (-1, z_q4 M) ?_ M ZQ.rf, fun c2 => hq (3, z_q4 M) ?_ M ZQ.rf⟩
        · unfold z_q; rw [q_s1, if_neg (show ¬ (mkB v2 ∧ (z_q4 M).2.1 < v2 - 97) from n), if_neg c2]
        · unfold z_q; rw [q_s1, if_neg (show ¬ (mkB v2 ∧ (z_q4 M).2.1 < v2 - 97) from n), if_pos c2]
      · subst c0
        exact hq (-1, z_q4 M) (by unfold z_q; rw [q_s0, if_neg (show ¬ (mkB v2 ∧ (z_q4 M).2.1 < v2 - 97) from n), if_neg c2]) M ZQ.rf
      · subst c0
        exact hq (2, z_q4 M) (by unfold z_q; rw [q_s0, if_neg (show ¬ (mkB v2 ∧ (z_q4 M).2.1 < v2 - 97) from n), if_pos c2]) M ZQ.rf
    refine ⟨fun c2 => two (fun z => c2 z.1), fun c2 => ⟨fun c3 => two (fun z => absurd c3 (Int32.not_le.mpr z.2)), fun c3 => hq (1, M.1 175 2, v2 - 97, M.1 175 4, M.1 175 5) ?_ _ ⟨ZFr.rf.mi (by decide), ?_⟩⟩⟩
    · have y : mkB v2 ∧ (z_q4 M).2.1 < v2 - 97 := ⟨c2, Int32.not_le.mp c3⟩
      rcases c with rfl | rfl
      · unfold z_q; rw [q_s0, if_pos y]; rfl
      · unfold z_q; rw [q_s1, if_pos y]; rfl
    · unfold z_q4
      rw [m_i_ne (by omega), m_i_at, m_i_ne (by omega), m_i_ne (by omega)]
  · subst c
    refine ⟨fun c2 => hq (-1, z_q4 M) ?_ M ZQ.rf, fun c2 => hq (3, z_q4 M) ?_ M ZQ.rf⟩
    · unfold z_q; rw [q_s2, if_neg c2]
    · unfold z_q; rw [q_s2, if_pos c2]
  · subst c
    refine ⟨fun c2 => ⟨fun c3 => hq (-1, z_q4 M) ?_ M ZQ.rf, fun c3 => hq (6, z_q4 M) ?_ M ZQ.rf⟩, fun c2 => hq (4, z_q4 M) ?_ M ZQ.rf⟩
    · unfold z_q; rw [q_s3, if_neg c2, if_neg c3]
    · unfold z_q; rw [q_s3, if_neg c2, if_pos c3]
    · unfold z_q; rw [q_s3, if_pos c2]
  · subst c
    refine ⟨fun c2 r N g => up _ r N ?_ g, fun c2 => hq (5, z_q4 M) ?_ M ZQ.rf⟩
    · unfold z_q; rw [q_s4, if_neg c2]; rfl
    · unfold z_q; rw [q_s4, if_pos c2]
  · subst c
    exact fun r N g => up _ r N (by unfold z_q; rw [q_s5]; rfl) g
  · subst c
    refine ⟨fun c2 => hq (-1, z_q4 M) ?_ M ZQ.rf, fun c2 => hq (5, z_q4 M) ?_ M ZQ.rf⟩
    · unfold z_q; rw [q_s6, if_neg c2]
    · unfold z_q; rw [q_s6, if_pos c2]
  · subst c
    exact fun r N g => up _ r N (by unfold z_q; rw [q_s8]; rfl) g

/-! BetweenLawsModel.isWhole(I)Z -/
abbrev rm_X11_isWhole : Room := { frames := 0, cells := 0, slots := 0, locals := 0 }
abbrev B_X11_isWhole (G : GT) (K : Int32 → Mem → Prop) := BT G (Rep G) RX11 "isWhole" cX11_isWhole 1 (some .boolean) rm_X11_isWhole K 0 0
abbrev T_X11_isWhole (G : GT) (as : List Value) (M : Mem) (K : Int32 → Mem → Prop) : Prop := MT G (Rep G) yX11_isWhole cX11_isWhole 1 (some .boolean) rm_X11_isWhole as M K
theorem e_X11_isWhole {G : GT} {K : Int32 → Mem → Prop} {M : Mem} {v0 : Int32} (h : B_X11_isWhole G K 0 [(0, .int v0)] [] M) : T_X11_isWhole G [.int v0] M K := MT.of (by decide +kernel) rfl rfl (Nat.le_of_ble_eq_true rfl) rfl h
set_option maxRecDepth 4000 in
theorem k_X11_isWhole_0 {G : GT} {K : Int32 → Mem → Prop} {M : Mem} {v0 : Int32} (h : (v0 = 4 → K 1 M) ∧ (¬ v0 = 4 → (v0 = 5 → K 1 M) ∧ (¬ v0 = 5 → (v0 = 9 → K 1 M) ∧ (¬ v0 = 9 → (v0 = 11 → K 1 M) ∧ (¬ v0 = 11 → (v0 = 12 → K 1 M) ∧ (¬ v0 = 12 → (v0 = 16 → K 1 M) ∧ (¬ v0 = 16 → (v0 = 19 → K 1 M) ∧ (¬ v0 = 19 → (¬ v0 = 20 → K 0 M) ∧ (v0 = 20 → K 1 M))))))))) : B_X11_isWhole G K 0 [(0, .int v0)] [] M := by
  refine BT.iload_n dX11_isWhole_0 rfl 0 rfl ?_
  refine BT.iconst (v := 4) dX11_isWhole_1 (by decide) ?_
  refine BT.icmp_eq (tgt := 46) dX11_isWhole_2 (by decide) (fun c => ?_) (fun c => ?_)
  · have c1 := c
    refine BT.iconst (v := 1) dX11_isWhole_46 (by decide) ?_
    refine BT.goto (tgt := 51) dX11_isWhole_47 (by decide) ?_
    exact BT.zret dX11_isWhole_51 rfl (by decide) (by decide) (nar01 ((Or.inr rfl))) (h.1 c1)
  · have c2 := c
    refine BT.iload_n dX11_isWhole_5 rfl 0 rfl ?_
    refine BT.iconst (v := 5) dX11_isWhole_6 (by decide) ?_
    refine BT.icmp_eq (tgt := 46) dX11_isWhole_7 (by decide) (fun c => ?_) (fun c => ?_)
    · have c3 := c
      refine BT.iconst (v := 1) dX11_isWhole_46 (by decide) ?_
      refine BT.goto (tgt := 51) dX11_isWhole_47 (by decide) ?_
      exact BT.zret dX11_isWhole_51 rfl (by decide) (by decide) (nar01 ((Or.inr rfl))) ((h.2 c2).1 c3)
    · have c4 := c
      refine BT.iload_n dX11_isWhole_10 rfl 0 rfl ?_
      refine BT.bipush (v := 9) dX11_isWhole_11 (by decide) ?_
      refine BT.icmp_eq (tgt := 46) dX11_isWhole_13 (by decide) (fun c => ?_) (fun c => ?_)
      · have c5 := c
        refine BT.iconst (v := 1) dX11_isWhole_46 (by decide) ?_
        refine BT.goto (tgt := 51) dX11_isWhole_47 (by decide) ?_
        exact BT.zret dX11_isWhole_51 rfl (by decide) (by decide) (nar01 ((Or.inr rfl))) (((h.2 c2).2 c4).1 c5)
      · have c6 := c
        refine BT.iload_n dX11_isWhole_16 rfl 0 rfl ?_
        refine BT.bipush (v := 11) dX11_isWhole_17 (by decide) ?_
        refine BT.icmp_eq (tgt := 46) dX11_isWhole_19 (by decide) (fun c => ?_) (fun c => ?_)
        · have c7 := c
          refine BT.iconst (v := 1) dX11_isWhole_46 (by decide) ?_
          refine BT.goto (tgt := 51) dX11_isWhole_47 (by decide) ?_
          exact BT.zret dX11_isWhole_51 rfl (by decide) (by decide) (nar01 ((Or.inr rfl))) ((((h.2 c2).2 c4).2 c6).1 c7)
        · have c8 := c
          refine BT.iload_n dX11_isWhole_22 rfl 0 rfl ?_
          refine BT.bipush (v := 12) dX11_isWhole_23 (by decide) ?_
          refine BT.icmp_eq (tgt := 46) dX11_isWhole_25 (by decide) (fun c => ?_) (fun c => ?_)
          · have c9 := c
            refine BT.iconst (v := 1) dX11_isWhole_46 (by decide) ?_
            refine BT.goto (tgt := 51) dX11_isWhole_47 (by decide) ?_
            exact BT.zret dX11_isWhole_51 rfl (by decide) (by decide) (nar01 ((Or.inr rfl))) (((((h.2 c2).2 c4).2 c6).2 c8).1 c9)
          · have c10 := c
            refine BT.iload_n dX11_isWhole_28 rfl 0 rfl ?_
            refine BT.bipush (v := 16) dX11_isWhole_29 (by decide) ?_
            refine BT.icmp_eq (tgt := 46) dX11_isWhole_31 (by decide) (fun c => ?_) (fun c => ?_)
            · have c11 := c
              refine BT.iconst (v := 1) dX11_isWhole_46 (by decide) ?_
              refine BT.goto (tgt := 51) dX11_isWhole_47 (by decide) ?_
              exact BT.zret dX11_isWhole_51 rfl (by decide) (by decide) (nar01 ((Or.inr rfl))) ((((((h.2 c2).2 c4).2 c6).2 c8).2 c10).1 c11)
            · have c12 := c
              refine BT.iload_n dX11_isWhole_34 rfl 0 rfl ?_
              refine BT.bipush (v := 19) dX11_isWhole_35 (by decide) ?_
              refine BT.icmp_eq (tgt := 46) dX11_isWhole_37 (by decide) (fun c => ?_) (fun c => ?_)
              · have c13 := c
                refine BT.iconst (v := 1) dX11_isWhole_46 (by decide) ?_
                refine BT.goto (tgt := 51) dX11_isWhole_47 (by decide) ?_
                exact BT.zret dX11_isWhole_51 rfl (by decide) (by decide) (nar01 ((Or.inr rfl))) (((((((h.2 c2).2 c4).2 c6).2 c8).2 c10).2 c12).1 c13)
              · have c14 := c
                refine BT.iload_n dX11_isWhole_40 rfl 0 rfl ?_
                refine BT.bipush (v := 20) dX11_isWhole_41 (by decide) ?_
                refine BT.icmp_ne (tgt := 50) dX11_isWhole_43 (by decide) (fun c => ?_) (fun c => ?_)
                · have c15 := c
                  refine BT.iconst (v := 0) dX11_isWhole_50 (by decide) ?_
                  exact BT.zret dX11_isWhole_51 rfl (by decide) (by decide) (nar01 ((Or.inl rfl))) ((((((((h.2 c2).2 c4).2 c6).2 c8).2 c10).2 c12).2 c14).1 c15)
                · have c16 := c
                  refine BT.iconst (v := 1) dX11_isWhole_46 (by decide) ?_
                  refine BT.goto (tgt := 51) dX11_isWhole_47 (by decide) ?_
                  exact BT.zret dX11_isWhole_51 rfl (by decide) (by decide) (nar01 ((Or.inr rfl))) ((((((((h.2 c2).2 c4).2 c6).2 c8).2 c10).2 c12).2 c14).2 c16)

theorem t_X11_isWhole {G : GT} {K : Int32 → Mem → Prop} {M : Mem} {v0 : Int32} (h : K (bi (q_whole v0)) M) : T_X11_isWhole G [.int v0] M K := by
  obtain ⟨h1, h0⟩ := bi_K h
  unfold q_whole at h1 h0
  refine e_X11_isWhole (k_X11_isWhole_0 ?_)
  grind

/-! BetweenLawsModel.fault()I -/
abbrev rm_X11_fault : Room := { frames := 4, cells := 0, slots := 0, locals := 89 }
abbrev B_X11_fault (G : GT) (K : Int32 → Mem → Prop) := BT G (Rep G) RX11 "fault" cX11_fault 3 (some .int) rm_X11_fault K 0 0
abbrev T_X11_fault (G : GT) (as : List Value) (M : Mem) (K : Int32 → Mem → Prop) : Prop := MT G (Rep G) yX11_fault cX11_fault 3 (some .int) rm_X11_fault as M K
theorem e_X11_fault {G : GT} {K : Int32 → Mem → Prop} {M : Mem}  (h : B_X11_fault G K 0 [(0, .ref 175)] [] M) : T_X11_fault G [.ref 175] M K := MT.of (by decide +kernel) rfl rfl (Nat.le_of_ble_eq_true rfl) rfl h
set_option maxRecDepth 4000 in
theorem k_X11_fault_0 {G : GT} {K : Int32 → Mem → Prop} {M : Mem}  (h : (∀ N1 : Mem, (ZBg M N1) → B_X11_fault G K 8 [(0, .ref 175), (1, .int 0), (2, .int 0)] [] N1)) : B_X11_fault G K 0 [(0, .ref 175)] [] M := by
  refine BT.aload_n dX11_fault_0 rfl 0 rfl ?_
  refine BT.mcVvp [] (t_X11_beginText  (fun N hN => ⟨rfl, hN⟩)) mb_X11_beginText mv_X11_beginText lk_X11_140 rfl (by decide) rfl (recvRep ho_175 rfl) (Nat.le_of_ble_eq_true rfl) dX11_fault_1 (P := fun N1 => ZBg M N1) (fun N1 g1 => ?_)
  show B_X11_fault G K 4 [(0, .ref 175)] [] N1
  refine BT.iconst (v := 0) dX11_fault_4 (by decide) ?_
  refine BT.istore_n (L' := [(1, .int 0), (0, .ref 175)]) dX11_fault_5 rfl (by decide) rfl ?_
  refine BT.iconst (v := 0) dX11_fault_6 (by decide) ?_
  refine BT.istore_n (L' := [(2, .int 0), (1, .int 0), (0, .ref 175)]) dX11_fault_7 rfl (by decide) rfl ?_
  refine BT.sub [2, 1, 0] rfl ?_
  exact (h N1 g1)
set_option maxRecDepth 4000 in
theorem k_X11_fault_8 {G : GT} {K : Int32 → Mem → Prop} {M : Mem} {v1 : Int32} {v2 : Int32} (h : ((M.1 175 1) ≤ v2 → (¬ (q_whole v1) → K (M.1 175 1) M) ∧ ((q_whole v1) → K (-6) M)) ∧ (¬ (M.1 175 1) ≤ v2 → (vp_in v2 60) ∧ (∀ (r6 : Int32) (N6 : Mem), (r6 = (q_step (z_q M v1) (M.1 176 (Int32.toNatClampNeg v2))).1 ∧ ZQ M N6 (q_step (z_q M v1) (M.1 176 (Int32.toNatClampNeg v2)))) → (0 ≤ r6 → B_X11_fault G K 8 [(0, .ref 175), (1, .int r6), (2, .int (v2 + 1))] [] N6) ∧ (¬ 0 ≤ r6 → K v2 N6)))) : B_X11_fault G K 8 [(0, .ref 175), (1, .int v1), (2, .int v2)] [] M := by
  refine BT.iload_n dX11_fault_8 rfl 2 rfl ?_
  refine BT.aload_n dX11_fault_9 rfl 0 rfl ?_
  refine BT.getI fl_X11_94 ho_175 rfl dX11_fault_10 ?_
  refine BT.icmp_ge (tgt := 40) dX11_fault_13 (by decide) (fun c => ?_) (fun c => ?_)
  · have c1 := c
    refine BT.iload_n dX11_fault_40 rfl 1 rfl ?_
    refine BT.mcS [.int v1] (t_X11_isWhole  ?_) mb_X11_isWhole ms_X11_isWhole lk_X11_146 rfl (by decide) rfl (Nat.le_of_ble_eq_true rfl) dX11_fault_41
    show B_X11_fault G K 44 [(0, .ref 175), (1, .int v1), (2, .int v2)] [.int (bi (q_whole v1))] M
    refine BT.if_eq (tgt := 52) dX11_fault_44 (by decide) (fun c => ?_) (fun c => ?_)
    · have c4 := bi_eq0.mp c
      refine BT.aload_n dX11_fault_52 rfl 0 rfl ?_
      refine BT.getI fl_X11_94 ho_175 rfl dX11_fault_53 ?_
      exact BT.iret dX11_fault_56 rfl (by decide) (by decide) ((h.1 c1).1 c4)
    · have c5 := bi_ne0.mp c
      refine BT.bipush (v := (-6)) dX11_fault_47 (by decide) ?_
      refine BT.goto (tgt := 56) dX11_fault_49 (by decide) ?_
      exact BT.iret dX11_fault_56 rfl (by decide) (by decide) ((h.1 c1).2 c5)
  · have c2 := c
    refine BT.aload_n dX11_fault_16 rfl 0 rfl ?_
    refine BT.iload_n dX11_fault_17 rfl 1 rfl ?_
    refine BT.aload_n dX11_fault_18 rfl 0 rfl ?_
    refine BT.getR (r := 176) fl_X11_7 ho_175 rfl dX11_fault_19 ?_
    refine BT.iload_n dX11_fault_22 rfl 2 rfl ?_
    refine BT.iald ha_176 (h.2 c2).1 dX11_fault_23 ?_
    refine BT.mcV [.int v1, .int (M.1 176 (Int32.toNatClampNeg v2))] (t_X11_stepOf  (fun r6 N6 g6 => ?_)) mb_X11_stepOf mv_X11_stepOf lk_X11_143 rfl (by decide) rfl (recvRep ho_175 rfl) (Nat.le_of_ble_eq_true rfl) dX11_fault_24
    show B_X11_fault G K 27 [(0, .ref 175), (1, .int v1), (2, .int v2)] [.int r6] N6
    refine BT.istore_n (L' := [(1, .int r6), (0, .ref 175), (2, .int v2)]) dX11_fault_27 rfl (by decide) rfl ?_
    refine BT.iload_n dX11_fault_28 rfl 0 rfl ?_
    refine BT.if_ge (tgt := 34) dX11_fault_29 (by decide) (fun c => ?_) (fun c => ?_)
    · have c7 := c
      refine BT.iinc (j := 2) (v := (v2 + 1)) (L' := [(2, .int (v2 + 1)), (1, .int r6), (0, .ref 175)]) dX11_fault_34 rfl rfl (by decide) rfl ?_
      refine BT.goto (tgt := 8) dX11_fault_37 (by decide) ?_
      refine BT.sub [2, 1, 0] rfl ?_
      exact (((h.2 c2).2 r6 N6 g6).1 c7)
    · have c8 := c
      refine BT.iload_n dX11_fault_32 rfl 2 rfl ?_
      exact BT.iret dX11_fault_33 rfl (by decide) (by decide) (((h.2 c2).2 r6 N6 g6).2 c8)

theorem t_X11_fault {G : GT} {K : Int32 → Mem → Prop} {M : Mem} (hn : ∃ n, n ≤ 60 ∧ M.1 175 1 = nI n) (h : ∀ (r : Int32) (N : Mem), (ZFr M N ∧ FltR (M.1 176) (M.1 175 4) (Int32.toNatClampNeg (M.1 175 1)) r) → K r N) : T_X11_fault G [.ref 175] M K := by
  obtain ⟨n, hn60, en⟩ := hn
  rw [en, ix_nI (by omega)] at h
  refine e_X11_fault (k_X11_fault_0 (fun N1 g1 => ?_))
  refine up_loop (P := fun i => ∀ N, ZFr M N → z_q4 N = (q_at (M.1 176) (M.1 175 4) i).2 → (∀ j, j ≤ i → 0 ≤ (q_at (M.1 176) (M.1 175 4) j).1) → B_X11_fault G K 8 [(0, .ref 175), (1, .int (q_at (M.1 176) (M.1 175 4) i).1), (2, .int (nI i))] [] N) n (fun N hF hq hok => ?_) (fun i hi ih N hF hq hok => ?_) 0 (Nat.zero_le _) N1 g1.1 g1.2 (fun j hj => ?_)
  · have e1 : N.1 175 1 = nI n := by rw [hF.2.1 1 (by decide), en]
    refine k_X11_fault_8 ⟨fun _ => ⟨fun c => h _ _ ⟨hF, ?_⟩, fun c => h _ _ ⟨hF, Or.inl ⟨rfl, hok, c⟩⟩⟩, fun c => absurd (by rw [e1]; exact Int32.le_refl _) c⟩
    exact Or.inr ⟨n, e1, hok, Nat.le_refl _, Or.inr ⟨rfl, c⟩⟩
  · have e1 : N.1 175 1 = nI n := by rw [hF.2.1 1 (by decide), en]
    have ez : z_q N (q_at (M.1 176) (M.1 175 4) i).1 = q_at (M.1 176) (M.1 175 4) i := by
      unfold z_q; rw [hq]
    refine k_X11_fault_8 ⟨fun c => ?_, fun _ => ⟨vp_nI (by omega) (by decide), fun r6 N6 g6 => ?_⟩⟩
    · rw [e1, nI_leI (by omega) (by omega)] at c; omega
    · rw [ix_nI (by omega), ez, hF.1 176 (by decide)] at g6
      obtain ⟨er, hF6, hq6⟩ := g6
      have er : r6 = (q_at (M.1 176) (M.1 175 4) (i + 1)).1 := er
      have hq6 : z_q4 N6 = (q_at (M.1 176) (M.1 175 4) (i + 1)).2 := hq6
      subst er
      rw [nI_1]
      refine ⟨fun c => ih N6 (hF.tr hF6) hq6 (fun j hj => ?_), fun c => h _ _ ⟨hF.tr hF6, Or.inr ⟨i, rfl, hok, by omega, Or.inl ⟨hi, Int32.not_le.mp c⟩⟩⟩⟩
      by_cases z : j = i + 1
      · rw [z]; exact c
      · exact hok j (by omega)
  · have : j = 0 := by omega
    subst this
    exact (by decide : (0 : Int32) ≤ 0)

