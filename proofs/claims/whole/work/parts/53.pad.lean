/-! ===== 53.pad ===== -/
/-! BetweenLaws$Pad.add(I)Z -/
abbrev rm_X5_add : Room := { frames := 0, cells := 0, slots := 0, locals := 0 }
abbrev B_X5_add (G : GT) (K : Int32 → Mem → Prop) := BT G (Rep G) RX5 "add" cX5_add 2 (some .boolean) rm_X5_add K 0 0
abbrev T_X5_add (G : GT) (as : List Value) (M : Mem) (K : Int32 → Mem → Prop) : Prop := MT G (Rep G) yX5_add cX5_add 2 (some .boolean) rm_X5_add as M K
theorem e_X5_add {G : GT} {K : Int32 → Mem → Prop} {M : Mem} {v1 : Int32} (h : B_X5_add G K 0 [(0, .ref 1), (1, .int v1)] [] M) : T_X5_add G [.ref 1, .int v1] M K := MT.of (by decide +kernel) rfl rfl (Nat.le_of_ble_eq_true rfl) rfl h
set_option maxRecDepth 4000 in
theorem k_X5_add_0 {G : GT} {K : Int32 → Mem → Prop} {M : Mem} {v1 : Int32} (h : ((M.1 1 1) < 60 → (vp_in (M.1 1 1) 60) ∧ K 1 (m_i (m_i M 2 (Int32.toNatClampNeg (M.1 1 1)) v1) 1 1 (((m_i M 2 (Int32.toNatClampNeg (M.1 1 1)) v1).1 1 1) + 1))) ∧ (¬ (M.1 1 1) < 60 → K 0 M)) : B_X5_add G K 0 [(0, .ref 1), (1, .int v1)] [] M := by
  refine BT.aload_n dX5_add_0 rfl 0 rfl ?_
  refine BT.getI fl_X5_15 ho_1 rfl dX5_add_1 ?_
  refine BT.aload_n dX5_add_4 rfl 0 rfl ?_
  refine BT.getR (r := 2) fl_X5_9 ho_1 rfl dX5_add_5 ?_
  refine BT.alen (v := 60) ha_2 (by decide) rfl dX5_add_8 ?_
  refine BT.icmp_lt (tgt := 14) dX5_add_9 (by decide) (fun c => ?_) (fun c => ?_)
  · have c1 := c
    refine BT.aload_n dX5_add_14 rfl 0 rfl ?_
    refine BT.getR (r := 2) fl_X5_9 ho_1 rfl dX5_add_15 ?_
    refine BT.aload_n dX5_add_18 rfl 0 rfl ?_
    refine BT.getI fl_X5_15 ho_1 rfl dX5_add_19 ?_
    refine BT.iload_n dX5_add_22 rfl 1 rfl ?_
    refine BT.iast ha_2 (h.1 c1).1 dX5_add_23 ?_
    refine BT.aload_n dX5_add_24 rfl 0 rfl ?_
    refine BT.dup dX5_add_25 rfl ?_
    refine BT.getI fl_X5_15 ho_1 rfl dX5_add_26 ?_
    refine BT.iconst (v := 1) dX5_add_29 (by decide) ?_
    refine BT.iadd dX5_add_30 ?_
    refine BT.putI fl_X5_15 ft_5_1 ho_1 rfl dX5_add_31 ?_
    refine BT.iconst (v := 1) dX5_add_34 (by decide) ?_
    exact BT.zret dX5_add_35 rfl (by decide) (by decide) (nar01 ((Or.inr rfl))) (h.1 c1).2
  · have c2 := c
    refine BT.iconst (v := 0) dX5_add_12 (by decide) ?_
    exact BT.zret dX5_add_13 rfl (by decide) (by decide) (nar01 ((Or.inl rfl))) (h.2 c2)

def pd_add (M : Mem) (v : Int32) : Mem := if M.1 1 1 < 60 then m_i (m_i M 2 (Int32.toNatClampNeg (M.1 1 1)) v) 1 1 (M.1 1 1 + 1) else M
theorem t_X5_add {G : GT} {K : Int32 → Mem → Prop} {M : Mem} {v1 : Int32} (hn : ∃ n, n ≤ 60 ∧ M.1 1 1 = nI n) (h : K (bi (M.1 1 1 < 60)) (pd_add M v1)) : T_X5_add G [.ref 1, .int v1] M K := by
  obtain ⟨n, hn6, en⟩ := hn
  unfold pd_add at h
  refine e_X5_add (k_X5_add_0 ⟨fun c => ⟨?_, ?_⟩, fun c => ?_⟩)
  · rw [en]
    rw [en] at c
    exact vp_nI ((nI_ltI (b := 60) (by omega) (by decide)).mp c) (by decide)
  · rw [bi_t c, if_pos c] at h
    rw [m_i_ne (by omega)]; exact h
  · rw [bi_f c, if_neg c] at h; exact h

/-! BetweenLaws$Pad.clear()V -/
abbrev rm_X5_clear : Room := { frames := 0, cells := 0, slots := 0, locals := 0 }
abbrev B_X5_clear (G : GT) (K : Int32 → Mem → Prop) := BT G (Rep G) RX5 "clear" cX5_clear 1 none rm_X5_clear K 0 0
abbrev T_X5_clear (G : GT) (as : List Value) (M : Mem) (K : Int32 → Mem → Prop) : Prop := MT G (Rep G) yX5_clear cX5_clear 1 none rm_X5_clear as M K
theorem e_X5_clear {G : GT} {K : Int32 → Mem → Prop} {M : Mem}  (h : B_X5_clear G K 0 [(0, .ref 1)] [] M) : T_X5_clear G [.ref 1] M K := MT.of (by decide +kernel) rfl rfl (Nat.le_of_ble_eq_true rfl) rfl h
set_option maxRecDepth 4000 in
theorem k_X5_clear_0 {G : GT} {K : Int32 → Mem → Prop} {M : Mem}  (h : K 0 (m_i M 1 1 0)) : B_X5_clear G K 0 [(0, .ref 1)] [] M := by
  refine BT.aload_n dX5_clear_0 rfl 0 rfl ?_
  refine BT.iconst (v := 0) dX5_clear_1 (by decide) ?_
  refine BT.putI fl_X5_15 ft_5_1 ho_1 rfl dX5_clear_2 ?_
  exact BT.vret dX5_clear_5 rfl (by decide) (by decide) h

theorem t_X5_clear {G : GT} {K : Int32 → Mem → Prop} {M : Mem} (h : K 0 (m_i M 1 1 0)) : T_X5_clear G [.ref 1] M K := e_X5_clear (k_X5_clear_0 h)

/-! BetweenLawsModel.say(I)I -/
abbrev rm_X11_say : Room := { frames := 1, cells := 0, slots := 0, locals := 25 }
abbrev B_X11_say (G : GT) (K : Int32 → Mem → Prop) := BT G (Rep G) RX11 "say" cX11_say 2 (some .int) rm_X11_say K 0 0
abbrev T_X11_say (G : GT) (as : List Value) (M : Mem) (K : Int32 → Mem → Prop) : Prop := MT G (Rep G) yX11_say cX11_say 2 (some .int) rm_X11_say as M K
theorem e_X11_say {G : GT} {K : Int32 → Mem → Prop} {M : Mem} {v1 : Int32} (h : B_X11_say G K 0 [(0, .ref 175), (1, .int v1)] [] M) : T_X11_say G [.ref 175, .int v1] M K := MT.of (by decide +kernel) rfl rfl (Nat.le_of_ble_eq_true rfl) rfl h
set_option maxRecDepth 4000 in
theorem k_X11_say_0 {G : GT} {K : Int32 → Mem → Prop} {M : Mem} {v1 : Int32} (h : (((33 : Int32) ≤ v1 ∧ v1 ≤ (126 : Int32)) → (¬ (M.1 175 1) = 60 → (vp_in (M.1 175 1) 60) ∧ K ((m_i (m_i M 176 (Int32.toNatClampNeg (M.1 175 1)) v1) 175 1 (((m_i M 176 (Int32.toNatClampNeg (M.1 175 1)) v1).1 175 1) + 1)).1 175 1) (m_i (m_i M 176 (Int32.toNatClampNeg (M.1 175 1)) v1) 175 1 (((m_i M 176 (Int32.toNatClampNeg (M.1 175 1)) v1).1 175 1) + 1))) ∧ ((M.1 175 1) = 60 → K (-4) M)) ∧ (¬ ((33 : Int32) ≤ v1 ∧ v1 ≤ (126 : Int32)) → K (-2) M)) : B_X11_say G K 0 [(0, .ref 175), (1, .int v1)] [] M := by
  refine BT.iload_n dX11_say_0 rfl 1 rfl ?_
  refine BT.i2l dX11_say_1 ?_
  refine BT.ldc2 dX11_say_2 kc_X11_90 ?_
  refine BT.ldc2 dX11_say_5 kc_X11_92 ?_
  refine BT.mcS [.long (Int32.toInt64 v1), .long 33, .long 126] (t_X11_in (x := v1) (y := (33 : Int32)) (z := (126 : Int32)) rfl (by decide) (by decide) ?_) mb_X11_in ms_X11_in lk_X11_86 rfl (by decide) rfl (Nat.le_of_ble_eq_true rfl) dX11_say_8
  show B_X11_say G K 11 [(0, .ref 175), (1, .int v1)] [.int (bi ((33 : Int32) ≤ v1 ∧ v1 ≤ (126 : Int32)))] M
  refine BT.if_ne (tgt := 17) dX11_say_11 (by decide) (fun c => ?_) (fun c => ?_)
  · have c1 := bi_ne0.mp c
    refine BT.aload_n dX11_say_17 rfl 0 rfl ?_
    refine BT.getI fl_X11_94 ho_175 rfl dX11_say_18 ?_
    refine BT.bipush (v := 60) dX11_say_21 (by decide) ?_
    refine BT.icmp_ne (tgt := 29) dX11_say_23 (by decide) (fun c => ?_) (fun c => ?_)
    · have c3 := c
      refine BT.aload_n dX11_say_29 rfl 0 rfl ?_
      refine BT.getR (r := 176) fl_X11_7 ho_175 rfl dX11_say_30 ?_
      refine BT.aload_n dX11_say_33 rfl 0 rfl ?_
      refine BT.getI fl_X11_94 ho_175 rfl dX11_say_34 ?_
      refine BT.iload_n dX11_say_37 rfl 1 rfl ?_
      refine BT.iast ha_176 ((h.1 c1).1 c3).1 dX11_say_38 ?_
      refine BT.aload_n dX11_say_39 rfl 0 rfl ?_
      refine BT.dup dX11_say_40 rfl ?_
      refine BT.getI fl_X11_94 ho_175 rfl dX11_say_41 ?_
      refine BT.iconst (v := 1) dX11_say_44 (by decide) ?_
      refine BT.iadd dX11_say_45 ?_
      refine BT.putI fl_X11_94 ft_11_1 ho_175 rfl dX11_say_46 ?_
      refine BT.aload_n dX11_say_49 rfl 0 rfl ?_
      refine BT.getI fl_X11_94 ho_175 rfl dX11_say_50 ?_
      exact BT.iret dX11_say_53 rfl (by decide) (by decide) ((h.1 c1).1 c3).2
    · have c4 := c
      refine BT.bipush (v := (-4)) dX11_say_26 (by decide) ?_
      exact BT.iret dX11_say_28 rfl (by decide) (by decide) ((h.1 c1).2 c4)
  · have c2 := bi_eq0.mp c
    refine BT.bipush (v := (-2)) dX11_say_14 (by decide) ?_
    exact BT.iret dX11_say_16 rfl (by decide) (by decide) (h.2 c2)

theorem t_X11_say {G : GT} {K : Int32 → Mem → Prop} {M : Mem} {n : Nat} {v1 : Int32} (hn : n ≤ 60 ∧ M.1 175 1 = nI n) (h1 : ¬ ((33 : Int32) ≤ v1 ∧ v1 ≤ 126) → K (-2) M) (h2 : ((33 : Int32) ≤ v1 ∧ v1 ≤ 126) → n = 60 → K (-4) M) (hok : ((33 : Int32) ≤ v1 ∧ v1 ≤ 126) → n < 60 → K (nI (n + 1)) (m_i (m_i M 176 n v1) 175 1 (nI (n + 1)))) : T_X11_say G [.ref 175, .int v1] M K := by
  obtain ⟨hn6, en⟩ := hn
  refine e_X11_say (k_X11_say_0 ⟨fun c => ⟨fun c2 => ?_, fun c2 => ?_⟩, fun c => h1 c⟩)
  · have n60 : ¬ n = 60 := fun q => c2 (by rw [en, q]; rfl)
    rw [en, ix_nI (by omega)]
    refine ⟨vp_nI (by omega) (by decide), ?_⟩
    rw [m_i_at, m_i_ne (by omega), en, nI_1]
    exact hok c (by omega)
  · rw [en] at c2
    exact h2 c ((nI_eq (b := 60) (by omega) (by decide)).mp c2)

/-! BetweenLawsModel.wipe()I -/
abbrev rm_X11_wipe : Room := { frames := 0, cells := 0, slots := 0, locals := 0 }
abbrev B_X11_wipe (G : GT) (K : Int32 → Mem → Prop) := BT G (Rep G) RX11 "wipe" cX11_wipe 2 (some .int) rm_X11_wipe K 0 0
abbrev T_X11_wipe (G : GT) (as : List Value) (M : Mem) (K : Int32 → Mem → Prop) : Prop := MT G (Rep G) yX11_wipe cX11_wipe 2 (some .int) rm_X11_wipe as M K
theorem e_X11_wipe {G : GT} {K : Int32 → Mem → Prop} {M : Mem}  (h : B_X11_wipe G K 0 [(0, .ref 175)] [] M) : T_X11_wipe G [.ref 175] M K := MT.of (by decide +kernel) rfl rfl (Nat.le_of_ble_eq_true rfl) rfl h
set_option maxRecDepth 4000 in
theorem k_X11_wipe_0 {G : GT} {K : Int32 → Mem → Prop} {M : Mem}  (h : K (M.1 175 1) (m_i M 175 1 0)) : B_X11_wipe G K 0 [(0, .ref 175)] [] M := by
  refine BT.aload_n dX11_wipe_0 rfl 0 rfl ?_
  refine BT.getI fl_X11_94 ho_175 rfl dX11_wipe_1 ?_
  refine BT.istore_n (L' := [(1, .int (M.1 175 1)), (0, .ref 175)]) dX11_wipe_4 rfl (by decide) rfl ?_
  refine BT.aload_n dX11_wipe_5 rfl 1 rfl ?_
  refine BT.iconst (v := 0) dX11_wipe_6 (by decide) ?_
  refine BT.putI fl_X11_94 ft_11_1 ho_175 rfl dX11_wipe_7 ?_
  refine BT.iload_n dX11_wipe_10 rfl 0 rfl ?_
  exact BT.iret dX11_wipe_11 rfl (by decide) (by decide) h

theorem t_X11_wipe {G : GT} {K : Int32 → Mem → Prop} {M : Mem} (h : K (M.1 175 1) (m_i M 175 1 0)) : T_X11_wipe G [.ref 175] M K := e_X11_wipe (k_X11_wipe_0 h)

/-! BetweenLaws.say(I)I -/
abbrev rm_X10_say : Room := { frames := 1, cells := 0, slots := 0, locals := 22 }
abbrev B_X10_say (G : GT) (K : Int32 → Mem → Prop) := BT G (Rep G) RX10 "say" cX10_say 2 (some .int) rm_X10_say K 0 0
abbrev T_X10_say (G : GT) (as : List Value) (M : Mem) (K : Int32 → Mem → Prop) : Prop := MT G (Rep G) yX10_say cX10_say 2 (some .int) rm_X10_say as M K
theorem e_X10_say {G : GT} {K : Int32 → Mem → Prop} {M : Mem} {v1 : Int32} (h : B_X10_say G K 0 [(0, .ref 0), (1, .int v1)] [] M) : T_X10_say G [.ref 0, .int v1] M K := MT.of (by decide +kernel) rfl rfl (Nat.le_of_ble_eq_true rfl) rfl h
set_option maxRecDepth 4000 in
theorem k_X10_say_0 {G : GT} {K : Int32 → Mem → Prop} {M : Mem} {v1 : Int32} (h : ((33 ≤ v1 ∧ v1 ≤ 126) → (∃ n, n ≤ 60 ∧ M.1 1 1 = nI n) ∧ (∀ r4 : Int32, r4 = (bi (M.1 1 1 < 60)) → ∀ N4 : Mem, N4 = (pd_add M v1) → (r4 = 0 → K (-4) N4) ∧ (¬ r4 = 0 → K (N4.1 1 1) N4))) ∧ (¬ (33 ≤ v1 ∧ v1 ≤ 126) → K (-2) M)) : B_X10_say G K 0 [(0, .ref 0), (1, .int v1)] [] M := by
  refine BT.iload_n dX10_say_0 rfl 1 rfl ?_
  refine BT.bipush (v := 33) dX10_say_1 (by decide) ?_
  refine BT.bipush (v := 126) dX10_say_3 (by decide) ?_
  refine BT.mcS [.int v1, .int 33, .int 126] (t_X10_within  ?_) mb_X10_within ms_X10_within lk_X10_82 rfl (by decide) rfl (Nat.le_of_ble_eq_true rfl) dX10_say_5
  show B_X10_say G K 8 [(0, .ref 0), (1, .int v1)] [.int (bi (33 ≤ v1 ∧ v1 ≤ 126))] M
  refine BT.if_ne (tgt := 14) dX10_say_8 (by decide) (fun c => ?_) (fun c => ?_)
  · have c2 := bi_ne0.mp c
    refine BT.aload_n dX10_say_14 rfl 0 rfl ?_
    refine BT.getR (r := 1) fl_X10_10 ho_0 rfl dX10_say_15 ?_
    refine BT.iload_n dX10_say_18 rfl 1 rfl ?_
    refine BT.mcVn [.int v1] (t_X5_add (h.1 c2).1 ⟨rfl, rfl⟩) mb_X5_add mv_X5_add lk_X10_86 rfl (by decide) rfl (recvRep ho_1 rfl) (Nat.le_of_ble_eq_true rfl) dX10_say_19 (fun r4 e4 N4 g4 => ?_)
    show B_X10_say G K 22 [(0, .ref 0), (1, .int v1)] [.int r4] N4
    refine BT.if_eq (tgt := 35) dX10_say_22 (by decide) (fun c => ?_) (fun c => ?_)
    · have c5 := c
      refine BT.bipush (v := (-4)) dX10_say_35 (by decide) ?_
      exact BT.iret dX10_say_37 rfl (by decide) (by decide) (((h.1 c2).2 r4 e4 N4 g4).1 c5)
    · have c6 := c
      refine BT.aload_n dX10_say_25 rfl 0 rfl ?_
      refine BT.getR (r := 1) fl_X10_10 ho_0 rfl dX10_say_26 ?_
      refine BT.getI fl_X10_90 ho_1 rfl dX10_say_29 ?_
      refine BT.goto (tgt := 37) dX10_say_32 (by decide) ?_
      exact BT.iret dX10_say_37 rfl (by decide) (by decide) (((h.1 c2).2 r4 e4 N4 g4).2 c6)
  · have c3 := bi_eq0.mp c
    refine BT.bipush (v := (-2)) dX10_say_11 (by decide) ?_
    exact BT.iret dX10_say_13 rfl (by decide) (by decide) (h.2 c3)

theorem t_X10_say {G : GT} {K : Int32 → Mem → Prop} {M : Mem} {n : Nat} {v1 : Int32} (hn : n ≤ 60 ∧ M.1 1 1 = nI n) (h1 : ¬ ((33 : Int32) ≤ v1 ∧ v1 ≤ 126) → K (-2) M) (h2 : ((33 : Int32) ≤ v1 ∧ v1 ≤ 126) → n = 60 → K (-4) M) (hok : ((33 : Int32) ≤ v1 ∧ v1 ≤ 126) → n < 60 → K (nI (n + 1)) (m_i (m_i M 2 n v1) 1 1 (nI (n + 1)))) : T_X10_say G [.ref 0, .int v1] M K := by
  obtain ⟨hn6, en⟩ := hn
  refine e_X10_say (k_X10_say_0 ⟨fun c => ⟨⟨n, hn6, en⟩, fun r4 e4 N4 g4 => ?_⟩, fun c => h1 c⟩)
  unfold pd_add at g4
  rw [en] at e4 g4
  by_cases c2 : nI n < 60
  · have hlt : n < 60 := (nI_ltI (b := 60) (by omega) (by decide)).mp c2
    rw [bi_t c2] at e4
    rw [if_pos c2, ix_nI (by omega), nI_1] at g4
    refine ⟨fun z => absurd (e4.symm.trans z) (by decide), fun _ => ?_⟩
    rw [g4, m_i_at]
    exact hok c hlt
  · have hlt : ¬ n < 60 := fun q => c2 (nI_lt (b := 60) q (by decide))
    rw [bi_f c2] at e4
    rw [if_neg c2] at g4
    refine ⟨fun _ => ?_, fun z => absurd e4 z⟩
    rw [g4]
    exact h2 c (by omega)

/-! BetweenLaws.wipe()I -/
abbrev rm_X10_wipe : Room := { frames := 1, cells := 0, slots := 0, locals := 20 }
abbrev B_X10_wipe (G : GT) (K : Int32 → Mem → Prop) := BT G (Rep G) RX10 "wipe" cX10_wipe 2 (some .int) rm_X10_wipe K 0 0
abbrev T_X10_wipe (G : GT) (as : List Value) (M : Mem) (K : Int32 → Mem → Prop) : Prop := MT G (Rep G) yX10_wipe cX10_wipe 2 (some .int) rm_X10_wipe as M K
theorem e_X10_wipe {G : GT} {K : Int32 → Mem → Prop} {M : Mem}  (h : B_X10_wipe G K 0 [(0, .ref 0)] [] M) : T_X10_wipe G [.ref 0] M K := MT.of (by decide +kernel) rfl rfl (Nat.le_of_ble_eq_true rfl) rfl h
set_option maxRecDepth 4000 in
theorem k_X10_wipe_0 {G : GT} {K : Int32 → Mem → Prop} {M : Mem}  (h : (∀ N1 : Mem, N1 = (m_i M 1 1 0) → K (M.1 1 1) N1)) : B_X10_wipe G K 0 [(0, .ref 0)] [] M := by
  refine BT.aload_n dX10_wipe_0 rfl 0 rfl ?_
  refine BT.getR (r := 1) fl_X10_10 ho_0 rfl dX10_wipe_1 ?_
  refine BT.getI fl_X10_90 ho_1 rfl dX10_wipe_4 ?_
  refine BT.istore_n (L' := [(1, .int (M.1 1 1)), (0, .ref 0)]) dX10_wipe_7 rfl (by decide) rfl ?_
  refine BT.aload_n dX10_wipe_8 rfl 1 rfl ?_
  refine BT.getR (r := 1) fl_X10_10 ho_0 rfl dX10_wipe_9 ?_
  refine BT.mcVvm [] (t_X5_clear  ⟨rfl, rfl⟩) mb_X5_clear mv_X5_clear lk_X10_94 rfl (by decide) rfl (recvRep ho_1 rfl) (Nat.le_of_ble_eq_true rfl) dX10_wipe_12 (fun N1 g1 => ?_)
  show B_X10_wipe G K 15 [(1, .int (M.1 1 1)), (0, .ref 0)] [] N1
  refine BT.iload_n dX10_wipe_15 rfl 0 rfl ?_
  exact BT.iret dX10_wipe_16 rfl (by decide) (by decide) (h N1 g1)

theorem t_X10_wipe {G : GT} {K : Int32 → Mem → Prop} {M : Mem} (h : K (M.1 1 1) (m_i M 1 1 0)) : T_X10_wipe G [.ref 0] M K := e_X10_wipe (k_X10_wipe_0 (fun N1 g1 => by rw [g1]; exact h))

