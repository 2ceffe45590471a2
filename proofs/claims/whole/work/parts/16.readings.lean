/-! ===== 16.readings ===== -/
/-- Long.bitCount, Integer.bitCount: what they compute -/
def l_b1 (x : Int64) : Int64 := x - (((Int64.toUInt64 x >>> (Int64.toUInt64 (Int32.toInt64 1) &&& Int64.toUInt64 63)).toInt64) &&& 6148914691236517205)
def l_b2 (x : Int64) : Int64 := (x &&& 3689348814741910323) + (((Int64.toUInt64 x >>> (Int64.toUInt64 (Int32.toInt64 2) &&& Int64.toUInt64 63)).toInt64) &&& 3689348814741910323)
def l_b3 (x : Int64) : Int64 := (x + ((Int64.toUInt64 x >>> (Int64.toUInt64 (Int32.toInt64 4) &&& Int64.toUInt64 63)).toInt64)) &&& 1085102592571150095
def l_b4 (x : Int64) : Int64 := x + ((Int64.toUInt64 x >>> (Int64.toUInt64 (Int32.toInt64 8) &&& Int64.toUInt64 63)).toInt64)
def l_b5 (x : Int64) : Int64 := x + ((Int64.toUInt64 x >>> (Int64.toUInt64 (Int32.toInt64 16) &&& Int64.toUInt64 63)).toInt64)
def l_b6 (x : Int64) : Int64 := x + ((Int64.toUInt64 x >>> (Int64.toUInt64 (Int32.toInt64 32) &&& Int64.toUInt64 63)).toInt64)
def l_bc (x : Int64) : Int32 := (Int64.toInt32 (l_b6 (l_b5 (l_b4 (l_b3 (l_b2 (l_b1 x))))))) &&& 127

/-! java/lang/Long.bitCount(J)I -/
abbrev rm_J13_bitCount_95d88 : Room := { frames := 0, cells := 0, slots := 0, locals := 0 }
abbrev B_J13_bitCount_95d88 (G : GT) (K : Int32 → Mem → Prop) := BT G (Rep G) RJ13 "bitCount" cJ13_bitCount_95d88 2 (some .int) rm_J13_bitCount_95d88 K 0 0
abbrev T_J13_bitCount_95d88 (G : GT) (as : List Value) (M : Mem) (K : Int32 → Mem → Prop) : Prop := MT G (Rep G) yJ13_bitCount_95d88 cJ13_bitCount_95d88 2 (some .int) rm_J13_bitCount_95d88 as M K
theorem e_J13_bitCount_95d88 {G : GT} {K : Int32 → Mem → Prop} {M : Mem} {w0 : Int64} (h : B_J13_bitCount_95d88 G K 0 [(0, .long w0)] [] M) : T_J13_bitCount_95d88 G [.long w0] M K := MT.of (by decide +kernel) rfl rfl (Nat.le_of_ble_eq_true rfl) rfl h
set_option maxRecDepth 4000 in
theorem k_J13_bitCount_95d88_0 {G : GT} {K : Int32 → Mem → Prop} {M : Mem} {w0 : Int64} (h : (∀ y1 : Int64, y1 = (w0 - (((Int64.toUInt64 w0 >>> (Int64.toUInt64 (Int32.toInt64 1) &&& Int64.toUInt64 63)).toInt64) &&& 6148914691236517205)) → (∀ y2 : Int64, y2 = ((y1 &&& 3689348814741910323) + (((Int64.toUInt64 y1 >>> (Int64.toUInt64 (Int32.toInt64 2) &&& Int64.toUInt64 63)).toInt64) &&& 3689348814741910323)) → (∀ y3 : Int64, y3 = ((y2 + ((Int64.toUInt64 y2 >>> (Int64.toUInt64 (Int32.toInt64 4) &&& Int64.toUInt64 63)).toInt64)) &&& 1085102592571150095) → (∀ y4 : Int64, y4 = (y3 + ((Int64.toUInt64 y3 >>> (Int64.toUInt64 (Int32.toInt64 8) &&& Int64.toUInt64 63)).toInt64)) → (∀ y5 : Int64, y5 = (y4 + ((Int64.toUInt64 y4 >>> (Int64.toUInt64 (Int32.toInt64 16) &&& Int64.toUInt64 63)).toInt64)) → (∀ y6 : Int64, y6 = (y5 + ((Int64.toUInt64 y5 >>> (Int64.toUInt64 (Int32.toInt64 32) &&& Int64.toUInt64 63)).toInt64)) → K ((Int64.toInt32 y6) &&& 127) M))))))) : B_J13_bitCount_95d88 G K 0 [(0, .long w0)] [] M := by
  refine BT.lload_n dJ13_bitCount_95d88_0 rfl 0 rfl ?_
  refine BT.lload_n dJ13_bitCount_95d88_1 rfl 0 rfl ?_
  refine BT.iconst (v := 1) dJ13_bitCount_95d88_2 (by decide) ?_
  refine BT.lushr dJ13_bitCount_95d88_3 ?_
  refine BT.ldc2 dJ13_bitCount_95d88_4 kc_J13_314 ?_
  refine BT.land dJ13_bitCount_95d88_7 ?_
  refine BT.lsub dJ13_bitCount_95d88_8 ?_
  refine BT.topl (fun y1 f1 => ?_)
  refine BT.lstore_n (L' := [(0, .long y1)]) dJ13_bitCount_95d88_9 rfl (by decide) rfl ?_
  refine BT.lload_n dJ13_bitCount_95d88_10 rfl 0 rfl ?_
  refine BT.ldc2 dJ13_bitCount_95d88_11 kc_J13_316 ?_
  refine BT.land dJ13_bitCount_95d88_14 ?_
  refine BT.lload_n dJ13_bitCount_95d88_15 rfl 0 rfl ?_
  refine BT.iconst (v := 2) dJ13_bitCount_95d88_16 (by decide) ?_
  refine BT.lushr dJ13_bitCount_95d88_17 ?_
  refine BT.ldc2 dJ13_bitCount_95d88_18 kc_J13_316 ?_
  refine BT.land dJ13_bitCount_95d88_21 ?_
  refine BT.ladd dJ13_bitCount_95d88_22 ?_
  refine BT.topl (fun y2 f2 => ?_)
  refine BT.lstore_n (L' := [(0, .long y2)]) dJ13_bitCount_95d88_23 rfl (by decide) rfl ?_
  refine BT.lload_n dJ13_bitCount_95d88_24 rfl 0 rfl ?_
  refine BT.lload_n dJ13_bitCount_95d88_25 rfl 0 rfl ?_
  refine BT.iconst (v := 4) dJ13_bitCount_95d88_26 (by decide) ?_
  refine BT.lushr dJ13_bitCount_95d88_27 ?_
  refine BT.ladd dJ13_bitCount_95d88_28 ?_
  refine BT.ldc2 dJ13_bitCount_95d88_29 kc_J13_318 ?_
  refine BT.land dJ13_bitCount_95d88_32 ?_
  refine BT.topl (fun y3 f3 => ?_)
  refine BT.lstore_n (L' := [(0, .long y3)]) dJ13_bitCount_95d88_33 rfl (by decide) rfl ?_
  refine BT.lload_n dJ13_bitCount_95d88_34 rfl 0 rfl ?_
  refine BT.lload_n dJ13_bitCount_95d88_35 rfl 0 rfl ?_
  refine BT.bipush (v := 8) dJ13_bitCount_95d88_36 (by decide) ?_
  refine BT.lushr dJ13_bitCount_95d88_38 ?_
  refine BT.ladd dJ13_bitCount_95d88_39 ?_
  refine BT.topl (fun y4 f4 => ?_)
  refine BT.lstore_n (L' := [(0, .long y4)]) dJ13_bitCount_95d88_40 rfl (by decide) rfl ?_
  refine BT.lload_n dJ13_bitCount_95d88_41 rfl 0 rfl ?_
  refine BT.lload_n dJ13_bitCount_95d88_42 rfl 0 rfl ?_
  refine BT.bipush (v := 16) dJ13_bitCount_95d88_43 (by decide) ?_
  refine BT.lushr dJ13_bitCount_95d88_45 ?_
  refine BT.ladd dJ13_bitCount_95d88_46 ?_
  refine BT.topl (fun y5 f5 => ?_)
  refine BT.lstore_n (L' := [(0, .long y5)]) dJ13_bitCount_95d88_47 rfl (by decide) rfl ?_
  refine BT.lload_n dJ13_bitCount_95d88_48 rfl 0 rfl ?_
  refine BT.lload_n dJ13_bitCount_95d88_49 rfl 0 rfl ?_
  refine BT.bipush (v := 32) dJ13_bitCount_95d88_50 (by decide) ?_
  refine BT.lushr dJ13_bitCount_95d88_52 ?_
  refine BT.ladd dJ13_bitCount_95d88_53 ?_
  refine BT.topl (fun y6 f6 => ?_)
  refine BT.lstore_n (L' := [(0, .long y6)]) dJ13_bitCount_95d88_54 rfl (by decide) rfl ?_
  refine BT.lload_n dJ13_bitCount_95d88_55 rfl 0 rfl ?_
  refine BT.l2i dJ13_bitCount_95d88_56 ?_
  refine BT.bipush (v := 127) dJ13_bitCount_95d88_57 (by decide) ?_
  refine BT.iand dJ13_bitCount_95d88_59 ?_
  exact BT.iret dJ13_bitCount_95d88_60 rfl (by decide) (by decide) ((((((h y1 f1) y2 f2) y3 f3) y4 f4) y5 f5) y6 f6)

theorem t_J13_bitCount_95d88 {G : GT} {K : Int32 → Mem → Prop} {M : Mem} {w0 : Int64} (h : K (l_bc w0) M) : T_J13_bitCount_95d88 G [.long w0] M K := by
  refine e_J13_bitCount_95d88 (k_J13_bitCount_95d88_0 ?_)
  intro y1 e1 y2 e2 y3 e3 y4 e4 y5 e5 y6 e6
  subst e1 e2 e3 e4 e5 e6
  exact h

def c_ans (M : Mem) : Int64 × Int64 := (M.2 166 0, M.2 166 1)
noncomputable def a_put (s : Int64 × Int64) (v : Int32) : Int64 × Int64 :=
  sel (v = -6) (s.1 ||| ((1 : Int64) <<< (Int32.toInt64 0 &&& 63)), s.2)
    (sel (v = -3) (s.1 ||| ((1 : Int64) <<< (Int32.toInt64 1 &&& 63)), s.2)
      (sel (64 ≤ v + 2) (s.1, s.2 ||| ((1 : Int64) <<< (Int32.toInt64 ((v + 2) - 64) &&& 63))) (s.1 ||| ((1 : Int64) <<< (Int32.toInt64 (v + 2) &&& 63)), s.2)))

/-! BetweenLaws$Answers.clear()V -/
abbrev rm_X0_clear : Room := { frames := 0, cells := 0, slots := 0, locals := 0 }
abbrev B_X0_clear (G : GT) (K : Int32 → Mem → Prop) := BT G (Rep G) RX0 "clear" cX0_clear 1 none rm_X0_clear K 0 0
abbrev T_X0_clear (G : GT) (as : List Value) (M : Mem) (K : Int32 → Mem → Prop) : Prop := MT G (Rep G) yX0_clear cX0_clear 1 none rm_X0_clear as M K
theorem e_X0_clear {G : GT} {K : Int32 → Mem → Prop} {M : Mem}  (h : B_X0_clear G K 0 [(0, .ref 166)] [] M) : T_X0_clear G [.ref 166] M K := MT.of (by decide +kernel) rfl rfl (Nat.le_of_ble_eq_true rfl) rfl h
set_option maxRecDepth 4000 in
theorem k_X0_clear_0 {G : GT} {K : Int32 → Mem → Prop} {M : Mem}  (h : K 0 (m_l (m_l M 166 0 0) 166 1 0)) : B_X0_clear G K 0 [(0, .ref 166)] [] M := by
  refine BT.aload_n dX0_clear_0 rfl 0 rfl ?_
  refine BT.lconst (v := 0) dX0_clear_1 (by decide) ?_
  refine BT.putL fl_X0_9 ft_0_0 ho_166 rfl dX0_clear_2 ?_
  refine BT.aload_n dX0_clear_5 rfl 0 rfl ?_
  refine BT.lconst (v := 0) dX0_clear_6 (by decide) ?_
  refine BT.putL fl_X0_15 ft_0_1 ho_166 rfl dX0_clear_7 ?_
  exact BT.vret dX0_clear_10 rfl (by decide) (by decide) h

theorem t_X0_clear {G : GT} {K : Int32 → Mem → Prop} {M : Mem} (h : ∀ N, N.1 = M.1 ∧ c_ans N = (0, 0) → K 0 N) : T_X0_clear G [.ref 166] M K :=
  e_X0_clear (k_X0_clear_0 (h _ ⟨rfl, by simp [c_ans, m_l]⟩))

/-! BetweenLaws$Answers.put(I)V -/
abbrev rm_X0_put : Room := { frames := 0, cells := 0, slots := 0, locals := 0 }
abbrev B_X0_put (G : GT) (K : Int32 → Mem → Prop) := BT G (Rep G) RX0 "put" cX0_put 3 none rm_X0_put K 0 0
abbrev T_X0_put (G : GT) (as : List Value) (M : Mem) (K : Int32 → Mem → Prop) : Prop := MT G (Rep G) yX0_put cX0_put 3 none rm_X0_put as M K
theorem e_X0_put {G : GT} {K : Int32 → Mem → Prop} {M : Mem} {v1 : Int32} (h : B_X0_put G K 0 [(0, .ref 166), (1, .int v1)] [] M) : T_X0_put G [.ref 166, .int v1] M K := MT.of (by decide +kernel) rfl rfl (Nat.le_of_ble_eq_true rfl) rfl h
set_option maxRecDepth 4000 in
theorem k_X0_put_0 {G : GT} {K : Int32 → Mem → Prop} {M : Mem} {v1 : Int32} (h : (¬ v1 = (-6) → (¬ v1 = (-3) → (64 ≤ (v1 + 2) → K 0 (m_l M 166 1 ((M.2 166 1) ||| ((1 : Int64) <<< (Int32.toInt64 ((v1 + 2) - 64) &&& 63))))) ∧ (¬ 64 ≤ (v1 + 2) → K 0 (m_l M 166 0 ((M.2 166 0) ||| ((1 : Int64) <<< (Int32.toInt64 (v1 + 2) &&& 63)))))) ∧ (v1 = (-3) → K 0 (m_l M 166 0 ((M.2 166 0) ||| ((1 : Int64) <<< (Int32.toInt64 1 &&& 63)))))) ∧ (v1 = (-6) → K 0 (m_l M 166 0 ((M.2 166 0) ||| ((1 : Int64) <<< (Int32.toInt64 0 &&& 63)))))) : B_X0_put G K 0 [(0, .ref 166), (1, .int v1)] [] M := by
  refine BT.iload_n dX0_put_0 rfl 1 rfl ?_
  refine BT.bipush (v := (-6)) dX0_put_1 (by decide) ?_
  refine BT.icmp_ne (tgt := 10) dX0_put_3 (by decide) (fun c => ?_) (fun c => ?_)
  · have c1 := c
    refine BT.iload_n dX0_put_10 rfl 1 rfl ?_
    refine BT.bipush (v := (-3)) dX0_put_11 (by decide) ?_
    refine BT.icmp_ne (tgt := 20) dX0_put_13 (by decide) (fun c => ?_) (fun c => ?_)
    · have c3 := c
      refine BT.iload_n dX0_put_20 rfl 1 rfl ?_
      refine BT.iconst (v := 2) dX0_put_21 (by decide) ?_
      refine BT.iadd dX0_put_22 ?_
      refine BT.istore_n (L' := [(2, .int (v1 + 2)), (0, .ref 166), (1, .int v1)]) dX0_put_23 rfl (by decide) rfl ?_
      refine BT.iload_n dX0_put_24 rfl 0 rfl ?_
      refine BT.bipush (v := 64) dX0_put_25 (by decide) ?_
      refine BT.icmp_ge (tgt := 45) dX0_put_27 (by decide) (fun c => ?_) (fun c => ?_)
      · have c5 := c
        refine BT.aload_n dX0_put_45 rfl 1 rfl ?_
        refine BT.dup dX0_put_46 rfl ?_
        refine BT.getL fl_X0_15 ho_166 rfl dX0_put_47 ?_
        refine BT.lconst (v := 1) dX0_put_50 (by decide) ?_
        refine BT.iload_n dX0_put_51 rfl 0 rfl ?_
        refine BT.bipush (v := 64) dX0_put_52 (by decide) ?_
        refine BT.isub dX0_put_54 ?_
        refine BT.lshl dX0_put_55 ?_
        refine BT.lor dX0_put_56 ?_
        refine BT.putL fl_X0_15 ft_0_1 ho_166 rfl dX0_put_57 ?_
        exact BT.vret dX0_put_60 rfl (by decide) (by decide) (((h.1 c1).1 c3).1 c5)
      · have c6 := c
        refine BT.aload_n dX0_put_30 rfl 1 rfl ?_
        refine BT.dup dX0_put_31 rfl ?_
        refine BT.getL fl_X0_9 ho_166 rfl dX0_put_32 ?_
        refine BT.lconst (v := 1) dX0_put_35 (by decide) ?_
        refine BT.iload_n dX0_put_36 rfl 0 rfl ?_
        refine BT.lshl dX0_put_37 ?_
        refine BT.lor dX0_put_38 ?_
        refine BT.putL fl_X0_9 ft_0_0 ho_166 rfl dX0_put_39 ?_
        refine BT.goto (tgt := 60) dX0_put_42 (by decide) ?_
        exact BT.vret dX0_put_60 rfl (by decide) (by decide) (((h.1 c1).1 c3).2 c6)
    · have c4 := c
      refine BT.iconst (v := 1) dX0_put_16 (by decide) ?_
      refine BT.goto (tgt := 23) dX0_put_17 (by decide) ?_
      refine BT.istore_n (L' := [(2, .int 1), (0, .ref 166), (1, .int v1)]) dX0_put_23 rfl (by decide) rfl ?_
      refine BT.iload_n dX0_put_24 rfl 0 rfl ?_
      refine BT.bipush (v := 64) dX0_put_25 (by decide) ?_
      refine BT.icmp_ge (tgt := 45) dX0_put_27 (by decide) (fun c => absurd c (by decide)) (fun _ => ?_)
      refine BT.aload_n dX0_put_30 rfl 1 rfl ?_
      refine BT.dup dX0_put_31 rfl ?_
      refine BT.getL fl_X0_9 ho_166 rfl dX0_put_32 ?_
      refine BT.lconst (v := 1) dX0_put_35 (by decide) ?_
      refine BT.iload_n dX0_put_36 rfl 0 rfl ?_
      refine BT.lshl dX0_put_37 ?_
      refine BT.lor dX0_put_38 ?_
      refine BT.putL fl_X0_9 ft_0_0 ho_166 rfl dX0_put_39 ?_
      refine BT.goto (tgt := 60) dX0_put_42 (by decide) ?_
      exact BT.vret dX0_put_60 rfl (by decide) (by decide) ((h.1 c1).2 c4)
  · have c2 := c
    refine BT.iconst (v := 0) dX0_put_6 (by decide) ?_
    refine BT.goto (tgt := 23) dX0_put_7 (by decide) ?_
    refine BT.istore_n (L' := [(2, .int 0), (0, .ref 166), (1, .int v1)]) dX0_put_23 rfl (by decide) rfl ?_
    refine BT.iload_n dX0_put_24 rfl 0 rfl ?_
    refine BT.bipush (v := 64) dX0_put_25 (by decide) ?_
    refine BT.icmp_ge (tgt := 45) dX0_put_27 (by decide) (fun c => absurd c (by decide)) (fun _ => ?_)
    refine BT.aload_n dX0_put_30 rfl 1 rfl ?_
    refine BT.dup dX0_put_31 rfl ?_
    refine BT.getL fl_X0_9 ho_166 rfl dX0_put_32 ?_
    refine BT.lconst (v := 1) dX0_put_35 (by decide) ?_
    refine BT.iload_n dX0_put_36 rfl 0 rfl ?_
    refine BT.lshl dX0_put_37 ?_
    refine BT.lor dX0_put_38 ?_
    refine BT.putL fl_X0_9 ft_0_0 ho_166 rfl dX0_put_39 ?_
    refine BT.goto (tgt := 60) dX0_put_42 (by decide) ?_
    exact BT.vret dX0_put_60 rfl (by decide) (by decide) (h.2 c2)

theorem t_X0_put {G : GT} {K : Int32 → Mem → Prop} {M : Mem} {v1 : Int32} (h : ∀ N, N.1 = M.1 ∧ c_ans N = a_put (c_ans M) v1 → K 0 N) : T_X0_put G [.ref 166, .int v1] M K := by
  refine e_X0_put (k_X0_put_0 ⟨fun c => ⟨fun c1 => ⟨fun c2 => ?_, fun c2 => ?_⟩, fun c1 => ?_⟩, fun c => ?_⟩)
  · exact h _ ⟨rfl, by rw [a_put, sel_f c, sel_f c1, sel_t c2]; simp [c_ans, m_l]⟩
  · exact h _ ⟨rfl, by rw [a_put, sel_f c, sel_f c1, sel_f c2]; simp [c_ans, m_l]⟩
  · exact h _ ⟨rfl, by rw [a_put, sel_f c, sel_t c1]; simp [c_ans, m_l]⟩
  · exact h _ ⟨rfl, by rw [a_put, sel_t c]; simp [c_ans, m_l]⟩

/-! BetweenLaws$Answers.count()I -/
abbrev rm_X0_count : Room := { frames := 1, cells := 0, slots := 0, locals := 21 }
abbrev B_X0_count (G : GT) (K : Int32 → Mem → Prop) := BT G (Rep G) RX0 "count" cX0_count 1 (some .int) rm_X0_count K 0 0
abbrev T_X0_count (G : GT) (as : List Value) (M : Mem) (K : Int32 → Mem → Prop) : Prop := MT G (Rep G) yX0_count cX0_count 1 (some .int) rm_X0_count as M K
theorem e_X0_count {G : GT} {K : Int32 → Mem → Prop} {M : Mem}  (h : B_X0_count G K 0 [(0, .ref 166)] [] M) : T_X0_count G [.ref 166] M K := MT.of (by decide +kernel) rfl rfl (Nat.le_of_ble_eq_true rfl) rfl h
set_option maxRecDepth 4000 in
theorem k_X0_count_0 {G : GT} {K : Int32 → Mem → Prop} {M : Mem}  (h : (∀ r1 : Int32, r1 = (l_bc (M.2 166 0)) → (∀ r2 : Int32, r2 = (l_bc (M.2 166 1)) → K (r1 + r2) M))) : B_X0_count G K 0 [(0, .ref 166)] [] M := by
  refine BT.aload_n dX0_count_0 rfl 0 rfl ?_
  refine BT.getL fl_X0_9 ho_166 rfl dX0_count_1 ?_
  refine BT.mcSr [.long (M.2 166 0)] (t_J13_bitCount_95d88  ⟨rfl, rfl⟩) mb_J13_bitCount_95d88 ms_J13_bitCount_95d88 lk_X0_18 rfl (by decide) rfl (Nat.le_of_ble_eq_true rfl) dX0_count_4 (fun r1 e1 => ?_)
  show B_X0_count G K 7 [(0, .ref 166)] [.int r1] M
  refine BT.aload_n dX0_count_7 rfl 0 rfl ?_
  refine BT.getL fl_X0_15 ho_166 rfl dX0_count_8 ?_
  refine BT.mcSr [.long (M.2 166 1)] (t_J13_bitCount_95d88  ⟨rfl, rfl⟩) mb_J13_bitCount_95d88 ms_J13_bitCount_95d88 lk_X0_18 rfl (by decide) rfl (Nat.le_of_ble_eq_true rfl) dX0_count_11 (fun r2 e2 => ?_)
  show B_X0_count G K 14 [(0, .ref 166)] [.int r2, .int r1] M
  refine BT.iadd dX0_count_14 ?_
  exact BT.iret dX0_count_15 rfl (by decide) (by decide) ((h r1 e1) r2 e2)

theorem t_X0_count {G : GT} {K : Int32 → Mem → Prop} {M : Mem} (h : K (l_bc (c_ans M).1 + l_bc (c_ans M).2) M) : T_X0_count G [.ref 166] M K :=
  e_X0_count (k_X0_count_0 (fun r1 e1 r2 e2 => by subst e1 e2; exact h))

/-- the open words of the first laws, in their order -/
noncomputable def w_wl (W : WT) : Nat → List Int32
  | 0 => []
  | l + 1 => w_wl W l ++ (sel (W (10 + 5 * l) 8 = -6) [] [10 * nI l] ++ sel (W (10 + 5 * l) 13 = -6) [] [10 * nI l + 1])
noncomputable abbrev w_len (W : WT) (l : Nat) : Nat := (w_wl W l).length
theorem sel_len {p : Prop} {x : Int32} : (sel p [] [x]).length = sel p 0 1 := by
  by_cases h : p
  · rw [sel_t h, sel_t h]; rfl
  · rw [sel_f h, sel_f h]; rfl
theorem w_len_succ (W : WT) (l : Nat) : w_len W (l + 1) = w_len W l + (sel (W (10 + 5 * l) 8 = -6) 0 1 + sel (W (10 + 5 * l) 13 = -6) 0 1) := by
  show (w_wl W (l + 1)).length = _
  rw [w_wl, List.length_append, List.length_append, sel_len, sel_len]
theorem w_len_le (W : WT) : ∀ l, w_len W l ≤ 2 * l
  | 0 => Nat.le_refl 0
  | l + 1 => by
    have ih := w_len_le W l
    rw [w_len_succ]
    have h1 : sel (W (10 + 5 * l) 8 = -6) 0 1 ≤ 1 := by
      by_cases h : W (10 + 5 * l) 8 = -6
      · rw [sel_t h]; exact Nat.zero_le 1
      · rw [sel_f h]; exact Nat.le_refl 1
    have h2 : sel (W (10 + 5 * l) 13 = -6) 0 1 ≤ 1 := by
      by_cases h : W (10 + 5 * l) 13 = -6
      · rw [sel_t h]; exact Nat.zero_le 1
      · rw [sel_f h]; exact Nat.le_refl 1
    omega
noncomputable def w_wordAt (W : WT) (i : Int32) : Int32 := sel ((0 : Int32) ≤ i ∧ i < nI (w_len W (w_n W))) ((w_wl W (w_n W)).getD (Int32.toNatClampNeg i) 0) (-6)
noncomputable def w_times (W : WT) : Nat → Int32
  | 0 => 0
  | i + 1 => sel (¬ w_wordAt W (nI i) = -6 ∧ w_wordAt W (nI i) - w_wordAt W (nI i) / 10 * 10 = 0) (w_times W i ||| ((1 : Int32) <<< (nI i &&& 31))) (w_times W i)
/-- the letter of time by which a law is read -/
noncomputable def w_tr (W : WT) (r : Int32) (l : Nat) : Int32 := sel (¬ W (10 + 5 * l) 8 = -6 ∧ w_len W l < 8 ∧ ¬ bitO r (nI (w_len W l))) (W (10 + 5 * l) 8) (W (10 + 5 * l) 7)
noncomputable def w_rdn (W : WT) (r : Int32) (m : Nat) : WT := fun c k => sel (k = 9 ∧ ∃ l, l < m ∧ c = 10 + 5 * l) (w_tr W r ((c - 10) / 5)) (W c k)
noncomputable abbrev w_rd (W : WT) (r : Int32) : WT := w_rdn W r (w_n W)
theorem w_rdn_off {W : WT} {r : Int32} {m c k : Nat} (h : ¬ (k = 9 ∧ ∃ l, l < m ∧ c = 10 + 5 * l)) : w_rdn W r m c k = W c k := sel_f h
theorem w_rdn_at {W : WT} {r : Int32} {m l : Nat} (h : l < m) : w_rdn W r m (10 + 5 * l) 9 = w_tr W r l := by
  unfold w_rdn
  rw [sel_t ⟨rfl, l, h, rfl⟩, show (10 + 5 * l - 10) / 5 = l by omega]
theorem w_rdn_k {W : WT} {r : Int32} {m c k : Nat} (h : ¬ k = 9) : w_rdn W r m c k = W c k := w_rdn_off (fun q => h q.1)
theorem w_wl_congr {W V : WT} (n : Nat) (h : ∀ l, l < n → W (10 + 5 * l) 8 = V (10 + 5 * l) 8 ∧ W (10 + 5 * l) 13 = V (10 + 5 * l) 13) : w_wl W n = w_wl V n := by
  induction n with
  | zero => rfl
  | succ n ih =>
    rw [w_wl, w_wl, ih (fun l hl => h l (by omega)), (h n (by omega)).1, (h n (by omega)).2]
theorem w_rd_n {W : WT} {r : Int32} {m : Nat} : w_n (w_rdn W r m) = w_n W := by unfold w_n; rw [w_rdn_k (by decide)]
theorem w_rd_wl {W : WT} {r : Int32} {m n : Nat} : w_wl (w_rdn W r m) n = w_wl W n := w_wl_congr n (fun l _ => ⟨w_rdn_k (by decide), w_rdn_k (by decide)⟩)
theorem w_rd_tr {W : WT} {r r2 : Int32} {m l : Nat} : w_tr (w_rdn W r m) r2 l = w_tr W r2 l := by
  unfold w_tr w_len
  rw [w_rd_wl, w_rdn_k (by decide), w_rdn_k (by decide)]
/-- all laws are read by their first letter -/
def RdOk (W : WT) : Prop := ∀ l, l < w_n W → W (10 + 5 * l) 9 = W (10 + 5 * l) 7
theorem bitO_0 (i : Int32) : bitO 0 i := by
  unfold bitO
  rw [show (0 : Int32) >>> (i &&& 31) = 0 by
    apply Int32.toBitVec_inj.mp
    simp]
  rfl
theorem w_rd_rd {W : WT} (hr : RdOk W) {r : Int32} : w_rd (w_rd W r) 0 = W := by
  funext c k
  by_cases h : k = 9 ∧ ∃ l, l < w_n W ∧ c = 10 + 5 * l
  · obtain ⟨rfl, l, hl, rfl⟩ := h
    show w_rdn (w_rd W r) 0 (w_n (w_rd W r)) _ _ = _
    rw [w_rd_n, w_rdn_at hl, w_rd_tr, w_tr, sel_f (fun q => q.2.2 (bitO_0 _)), hr l hl]
  · show w_rdn (w_rd W r) 0 (w_n (w_rd W r)) _ _ = _
    rw [w_rd_n, w_rdn_off h]
    exact w_rdn_off h
theorem w_rd_ok {W : WT} {r : Int32} {m : Nat} (h : WOk W) : WOk (w_rdn W r m) := by
  unfold WOk BOk w_p at *
  rw [w_rd_n]
  simp only [w_rdn_k (show ¬ 1 = 9 by decide), w_rdn_k (show ¬ 4 = 9 by decide), w_rdn_k (show ¬ 0 = 9 by decide)]
  refine ⟨h.1, h.2.1, fun i hi => ?_, h.2.2.2⟩
  rw [w_rdn_off (fun q => ?_)]
  · exact h.2.2.1 i hi
  · have := h.1.2
    omega

/-! BetweenLaws$Readings.count()I -/
abbrev rm_X7_count : Room := { frames := 0, cells := 0, slots := 0, locals := 0 }
abbrev B_X7_count (G : GT) (K : Int32 → Mem → Prop) := BT G (Rep G) RX7 "count" cX7_count 3 (some .int) rm_X7_count K 0 0
abbrev T_X7_count (G : GT) (as : List Value) (M : Mem) (K : Int32 → Mem → Prop) : Prop := MT G (Rep G) yX7_count cX7_count 3 (some .int) rm_X7_count as M K
theorem e_X7_count {G : GT} {K : Int32 → Mem → Prop} {M : Mem}  (h : B_X7_count G K 0 [(0, .ref 170)] [] M) : T_X7_count G [.ref 170] M K := MT.of (by decide +kernel) rfl rfl (Nat.le_of_ble_eq_true rfl) rfl h
set_option maxRecDepth 4000 in
theorem k_X7_count_0 {G : GT} {K : Int32 → Mem → Prop} {M : Mem}  (h : B_X7_count G K 4 [(0, .ref 170), (1, .int 0), (2, .int 0)] [] M) : B_X7_count G K 0 [(0, .ref 170)] [] M := by
  refine BT.iconst (v := 0) dX7_count_0 (by decide) ?_
  refine BT.istore_n (L' := [(1, .int 0), (0, .ref 170)]) dX7_count_1 rfl (by decide) rfl ?_
  refine BT.iconst (v := 0) dX7_count_2 (by decide) ?_
  refine BT.istore_n (L' := [(2, .int 0), (1, .int 0), (0, .ref 170)]) dX7_count_3 rfl (by decide) rfl ?_
  refine BT.sub [2, 1, 0] rfl ?_
  exact h
set_option maxRecDepth 4000 in
theorem k_X7_count_4 {G : GT} {K : Int32 → Mem → Prop} {M : Mem} {v1 : Int32} {v2 : Int32} (h : ((M.1 8 1) ≤ v2 → K v1 M) ∧ (¬ (M.1 8 1) ≤ v2 → (vp_in v2 8) ∧ ((M.1 (10 + 5 * (Int32.toNatClampNeg v2)) 8) = (-6) → (vp_in v2 8) ∧ ((M.1 (10 + 5 * (Int32.toNatClampNeg v2)) 13) = (-6) → B_X7_count G K 4 [(0, .ref 170), (1, .int v1), (2, .int (v2 + 1))] [] M) ∧ (¬ (M.1 (10 + 5 * (Int32.toNatClampNeg v2)) 13) = (-6) → B_X7_count G K 4 [(0, .ref 170), (1, .int (v1 + 1)), (2, .int (v2 + 1))] [] M)) ∧ (¬ (M.1 (10 + 5 * (Int32.toNatClampNeg v2)) 8) = (-6) → (vp_in v2 8) ∧ ((M.1 (10 + 5 * (Int32.toNatClampNeg v2)) 13) = (-6) → B_X7_count G K 4 [(0, .ref 170), (1, .int (v1 + 1)), (2, .int (v2 + 1))] [] M) ∧ (¬ (M.1 (10 + 5 * (Int32.toNatClampNeg v2)) 13) = (-6) → B_X7_count G K 4 [(0, .ref 170), (1, .int ((v1 + 1) + 1)), (2, .int (v2 + 1))] [] M)))) : B_X7_count G K 4 [(0, .ref 170), (1, .int v1), (2, .int v2)] [] M := by
  refine BT.iload_n dX7_count_4 rfl 2 rfl ?_
  refine BT.aload_n dX7_count_5 rfl 0 rfl ?_
  refine BT.getR (r := 8) fl_X7_9 ho_170 rfl dX7_count_6 ?_
  refine BT.getI fl_X7_23 ho_8 rfl dX7_count_9 ?_
  refine BT.icmp_ge (tgt := 61) dX7_count_12 (by decide) (fun c => ?_) (fun c => ?_)
  · have c1 := c
    refine BT.iload_n dX7_count_61 rfl 1 rfl ?_
    exact BT.iret dX7_count_62 rfl (by decide) (by decide) (h.1 c1)
  · have c2 := c
    refine BT.aload_n dX7_count_15 rfl 0 rfl ?_
    refine BT.getR (r := 8) fl_X7_9 ho_170 rfl dX7_count_16 ?_
    refine BT.getR (r := 9) fl_X7_29 ho_8 rfl dX7_count_19 ?_
    refine BT.iload_n dX7_count_22 rfl 2 rfl ?_
    refine BT.aald ha_9 (by decide) (h.2 c2).1 dX7_count_23 ?_
    refine BT.getI fl_X7_33 (lawC8 (h.2 c2).1).1 rfl dX7_count_24 ?_
    refine BT.bipush (v := (-6)) dX7_count_27 (by decide) ?_
    refine BT.icmp_eq (tgt := 35) dX7_count_29 (by decide) (fun c => ?_) (fun c => ?_)
    · have c3 := c
      refine BT.aload_n dX7_count_35 rfl 0 rfl ?_
      refine BT.getR (r := 8) fl_X7_9 ho_170 rfl dX7_count_36 ?_
      refine BT.getR (r := 9) fl_X7_29 ho_8 rfl dX7_count_39 ?_
      refine BT.iload_n dX7_count_42 rfl 2 rfl ?_
      refine BT.aald ha_9 (by decide) ((h.2 c2).2.1 c3).1 dX7_count_43 ?_
      refine BT.getI fl_X7_38 (lawC8 ((h.2 c2).2.1 c3).1).1 rfl dX7_count_44 ?_
      refine BT.bipush (v := (-6)) dX7_count_47 (by decide) ?_
      refine BT.icmp_eq (tgt := 55) dX7_count_49 (by decide) (fun c => ?_) (fun c => ?_)
      · have c5 := c
        refine BT.iinc (j := 2) (v := (v2 + 1)) (L' := [(2, .int (v2 + 1)), (0, .ref 170), (1, .int v1)]) dX7_count_55 rfl rfl (by decide) rfl ?_
        refine BT.goto (tgt := 4) dX7_count_58 (by decide) ?_
        refine BT.sub [1, 2, 0] rfl ?_
        exact (((h.2 c2).2.1 c3).2.1 c5)
      · have c6 := c
        refine BT.iinc (j := 1) (v := (v1 + 1)) (L' := [(1, .int (v1 + 1)), (0, .ref 170), (2, .int v2)]) dX7_count_52 rfl rfl (by decide) rfl ?_
        refine BT.iinc (j := 2) (v := (v2 + 1)) (L' := [(2, .int (v2 + 1)), (1, .int (v1 + 1)), (0, .ref 170)]) dX7_count_55 rfl rfl (by decide) rfl ?_
        refine BT.goto (tgt := 4) dX7_count_58 (by decide) ?_
        refine BT.sub [2, 1, 0] rfl ?_
        exact (((h.2 c2).2.1 c3).2.2 c6)
    · have c4 := c
      refine BT.iinc (j := 1) (v := (v1 + 1)) (L' := [(1, .int (v1 + 1)), (0, .ref 170), (2, .int v2)]) dX7_count_32 rfl rfl (by decide) rfl ?_
      refine BT.aload_n dX7_count_35 rfl 1 rfl ?_
      refine BT.getR (r := 8) fl_X7_9 ho_170 rfl dX7_count_36 ?_
      refine BT.getR (r := 9) fl_X7_29 ho_8 rfl dX7_count_39 ?_
      refine BT.iload_n dX7_count_42 rfl 2 rfl ?_
      refine BT.aald ha_9 (by decide) ((h.2 c2).2.2 c4).1 dX7_count_43 ?_
      refine BT.getI fl_X7_38 (lawC8 ((h.2 c2).2.2 c4).1).1 rfl dX7_count_44 ?_
      refine BT.bipush (v := (-6)) dX7_count_47 (by decide) ?_
      refine BT.icmp_eq (tgt := 55) dX7_count_49 (by decide) (fun c => ?_) (fun c => ?_)
      · have c7 := c
        refine BT.iinc (j := 2) (v := (v2 + 1)) (L' := [(2, .int (v2 + 1)), (1, .int (v1 + 1)), (0, .ref 170)]) dX7_count_55 rfl rfl (by decide) rfl ?_
        refine BT.goto (tgt := 4) dX7_count_58 (by decide) ?_
        refine BT.sub [2, 1, 0] rfl ?_
        exact (((h.2 c2).2.2 c4).2.1 c7)
      · have c8 := c
        refine BT.iinc (j := 0) (v := ((v1 + 1) + 1)) (L' := [(1, .int ((v1 + 1) + 1)), (0, .ref 170), (2, .int v2)]) dX7_count_52 rfl rfl (by decide) rfl ?_
        refine BT.iinc (j := 2) (v := (v2 + 1)) (L' := [(2, .int (v2 + 1)), (1, .int ((v1 + 1) + 1)), (0, .ref 170)]) dX7_count_55 rfl rfl (by decide) rfl ?_
        refine BT.goto (tgt := 4) dX7_count_58 (by decide) ?_
        refine BT.sub [2, 1, 0] rfl ?_
        exact (((h.2 c2).2.2 c4).2.2 c8)

theorem t_X7_count {G : GT} {K : Int32 → Mem → Prop} {M : Mem} (hw : WOk (wv M)) (h : K (nI (w_len (wv M) (w_n (wv M)))) M) : T_X7_count G [.ref 170] M K := by
  obtain ⟨⟨hn, h8⟩, -⟩ := hw
  rw [wv_at (by decide)] at hn
  refine e_X7_count (k_X7_count_0 ?_)
  refine up_loop (P := fun j => B_X7_count G K 4 [(0, .ref 170), (1, .int (nI (w_len (wv M) j))), (2, .int (nI j))] [] M) (w_n (wv M)) ?_ (fun j hj ih => ?_) 0 (Nat.zero_le _)
  · refine k_X7_count_4 ⟨fun _ => h, fun c => ?_⟩
    rw [hn] at c
    exact absurd (Int32.le_refl _) c
  · have e1 : ∀ k, wv M (10 + 5 * j) k = M.1 (10 + 5 * j) k := fun k => wv_at (by omega)
    refine k_X7_count_4 ?_
    rw [w_len_succ] at ih
    simp only [ix_nI (show j < 2 ^ 31 by omega), nI_1, ← e1, hn]
    refine ⟨fun c => ?_, fun c => ⟨vp_nI (by omega) (by decide), fun d => ⟨vp_nI (by omega) (by decide), fun f => ?_, fun f => ?_⟩, fun d => ⟨vp_nI (by omega) (by decide), fun f => ?_, fun f => ?_⟩⟩⟩
    · rw [nI_leI (by omega) (by omega)] at c
      omega
    · rw [sel_t d, sel_t f] at ih
      exact ih
    · rw [sel_t d, sel_f f] at ih
      exact ih
    · rw [sel_f d, sel_t f] at ih
      exact ih
    · rw [sel_f d, sel_f f] at ih
      exact ih

/-! BetweenLaws$Readings.word(I)I -/
abbrev rm_X7_word : Room := { frames := 0, cells := 0, slots := 0, locals := 0 }
abbrev B_X7_word (G : GT) (K : Int32 → Mem → Prop) := BT G (Rep G) RX7 "word" cX7_word 4 (some .int) rm_X7_word K 0 0
abbrev T_X7_word (G : GT) (as : List Value) (M : Mem) (K : Int32 → Mem → Prop) : Prop := MT G (Rep G) yX7_word cX7_word 4 (some .int) rm_X7_word as M K
theorem e_X7_word {G : GT} {K : Int32 → Mem → Prop} {M : Mem} {v1 : Int32} (h : B_X7_word G K 0 [(0, .ref 170), (1, .int v1)] [] M) : T_X7_word G [.ref 170, .int v1] M K := MT.of (by decide +kernel) rfl rfl (Nat.le_of_ble_eq_true rfl) rfl h
set_option maxRecDepth 4000 in
theorem k_X7_word_0 {G : GT} {K : Int32 → Mem → Prop} {M : Mem} {v1 : Int32} (h : B_X7_word G K 4 [(0, .ref 170), (1, .int v1), (2, .int 0), (3, .int 0)] [] M) : B_X7_word G K 0 [(0, .ref 170), (1, .int v1)] [] M := by
  refine BT.iconst (v := 0) dX7_word_0 (by decide) ?_
  refine BT.istore_n (L' := [(2, .int 0), (0, .ref 170), (1, .int v1)]) dX7_word_1 rfl (by decide) rfl ?_
  refine BT.iconst (v := 0) dX7_word_2 (by decide) ?_
  refine BT.istore_n (L' := [(3, .int 0), (2, .int 0), (0, .ref 170), (1, .int v1)]) dX7_word_3 rfl (by decide) rfl ?_
  refine BT.sub [2, 3, 1, 0] rfl ?_
  exact h
set_option maxRecDepth 4000 in
theorem k_X7_word_4 {G : GT} {K : Int32 → Mem → Prop} {M : Mem} {v1 : Int32} {v2 : Int32} {v3 : Int32} (h : ((M.1 8 1) ≤ v3 → K (-6) M) ∧ (¬ (M.1 8 1) ≤ v3 → (vp_in v3 8) ∧ ((M.1 (10 + 5 * (Int32.toNatClampNeg v3)) 8) = (-6) → (vp_in v3 8) ∧ ((M.1 (10 + 5 * (Int32.toNatClampNeg v3)) 13) = (-6) → B_X7_word G K 4 [(0, .ref 170), (1, .int v1), (2, .int v2), (3, .int (v3 + 1))] [] M) ∧ (¬ (M.1 (10 + 5 * (Int32.toNatClampNeg v3)) 13) = (-6) → (¬ v2 = v1 → B_X7_word G K 4 [(0, .ref 170), (1, .int v1), (2, .int (v2 + 1)), (3, .int (v3 + 1))] [] M) ∧ (v2 = v1 → K (((10 : Int32) * v3) + 1) M))) ∧ (¬ (M.1 (10 + 5 * (Int32.toNatClampNeg v3)) 8) = (-6) → (¬ v2 = v1 → (vp_in v3 8) ∧ ((M.1 (10 + 5 * (Int32.toNatClampNeg v3)) 13) = (-6) → B_X7_word G K 4 [(0, .ref 170), (1, .int v1), (2, .int (v2 + 1)), (3, .int (v3 + 1))] [] M) ∧ (¬ (M.1 (10 + 5 * (Int32.toNatClampNeg v3)) 13) = (-6) → (¬ (v2 + 1) = v1 → B_X7_word G K 4 [(0, .ref 170), (1, .int v1), (2, .int ((v2 + 1) + 1)), (3, .int (v3 + 1))] [] M) ∧ ((v2 + 1) = v1 → K (((10 : Int32) * v3) + 1) M))) ∧ (v2 = v1 → K ((10 : Int32) * v3) M)))) : B_X7_word G K 4 [(0, .ref 170), (1, .int v1), (2, .int v2), (3, .int v3)] [] M := by
  refine BT.iload_n dX7_word_4 rfl 3 rfl ?_
  refine BT.aload_n dX7_word_5 rfl 0 rfl ?_
  refine BT.getR (r := 8) fl_X7_9 ho_170 rfl dX7_word_6 ?_
  refine BT.getI fl_X7_23 ho_8 rfl dX7_word_9 ?_
  refine BT.icmp_ge (tgt := 83) dX7_word_12 (by decide) (fun c => ?_) (fun c => ?_)
  · have c1 := c
    refine BT.bipush (v := (-6)) dX7_word_83 (by decide) ?_
    exact BT.iret dX7_word_85 rfl (by decide) (by decide) (h.1 c1)
  · have c2 := c
    refine BT.aload_n dX7_word_15 rfl 0 rfl ?_
    refine BT.getR (r := 8) fl_X7_9 ho_170 rfl dX7_word_16 ?_
    refine BT.getR (r := 9) fl_X7_29 ho_8 rfl dX7_word_19 ?_
    refine BT.iload_n dX7_word_22 rfl 3 rfl ?_
    refine BT.aald ha_9 (by decide) (h.2 c2).1 dX7_word_23 ?_
    refine BT.getI fl_X7_33 (lawC8 (h.2 c2).1).1 rfl dX7_word_24 ?_
    refine BT.bipush (v := (-6)) dX7_word_27 (by decide) ?_
    refine BT.icmp_eq (tgt := 45) dX7_word_29 (by decide) (fun c => ?_) (fun c => ?_)
    · have c3 := c
      refine BT.aload_n dX7_word_45 rfl 0 rfl ?_
      refine BT.getR (r := 8) fl_X7_9 ho_170 rfl dX7_word_46 ?_
      refine BT.getR (r := 9) fl_X7_29 ho_8 rfl dX7_word_49 ?_
      refine BT.iload_n dX7_word_52 rfl 3 rfl ?_
      refine BT.aald ha_9 (by decide) ((h.2 c2).2.1 c3).1 dX7_word_53 ?_
      refine BT.getI fl_X7_38 (lawC8 ((h.2 c2).2.1 c3).1).1 rfl dX7_word_54 ?_
      refine BT.bipush (v := (-6)) dX7_word_57 (by decide) ?_
      refine BT.icmp_eq (tgt := 77) dX7_word_59 (by decide) (fun c => ?_) (fun c => ?_)
      · have c5 := c
        refine BT.iinc (j := 3) (v := (v3 + 1)) (L' := [(3, .int (v3 + 1)), (0, .ref 170), (1, .int v1), (2, .int v2)]) dX7_word_77 rfl rfl (by decide) rfl ?_
        refine BT.goto (tgt := 4) dX7_word_80 (by decide) ?_
        refine BT.sub [1, 2, 3, 0] rfl ?_
        exact (((h.2 c2).2.1 c3).2.1 c5)
      · have c6 := c
        refine BT.iload_n dX7_word_62 rfl 2 rfl ?_
        refine BT.iload_n dX7_word_63 rfl 1 rfl ?_
        refine BT.icmp_ne (tgt := 74) dX7_word_64 (by decide) (fun c => ?_) (fun c => ?_)
        · have c7 := c
          refine BT.iinc (j := 2) (v := (v2 + 1)) (L' := [(2, .int (v2 + 1)), (0, .ref 170), (1, .int v1), (3, .int v3)]) dX7_word_74 rfl rfl (by decide) rfl ?_
          refine BT.iinc (j := 3) (v := (v3 + 1)) (L' := [(3, .int (v3 + 1)), (2, .int (v2 + 1)), (0, .ref 170), (1, .int v1)]) dX7_word_77 rfl rfl (by decide) rfl ?_
          refine BT.goto (tgt := 4) dX7_word_80 (by decide) ?_
          refine BT.sub [2, 3, 1, 0] rfl ?_
          exact ((((h.2 c2).2.1 c3).2.2 c6).1 c7)
        · have c8 := c
          refine BT.bipush (v := 10) dX7_word_67 (by decide) ?_
          refine BT.iload_n dX7_word_69 rfl 3 rfl ?_
          refine BT.imul dX7_word_70 ?_
          refine BT.iconst (v := 1) dX7_word_71 (by decide) ?_
          refine BT.iadd dX7_word_72 ?_
          exact BT.iret dX7_word_73 rfl (by decide) (by decide) ((((h.2 c2).2.1 c3).2.2 c6).2 c8)
    · have c4 := c
      refine BT.iload_n dX7_word_32 rfl 2 rfl ?_
      refine BT.iload_n dX7_word_33 rfl 1 rfl ?_
      refine BT.icmp_ne (tgt := 42) dX7_word_34 (by decide) (fun c => ?_) (fun c => ?_)
      · have c9 := c
        refine BT.iinc (j := 2) (v := (v2 + 1)) (L' := [(2, .int (v2 + 1)), (0, .ref 170), (1, .int v1), (3, .int v3)]) dX7_word_42 rfl rfl (by decide) rfl ?_
        refine BT.aload_n dX7_word_45 rfl 1 rfl ?_
        refine BT.getR (r := 8) fl_X7_9 ho_170 rfl dX7_word_46 ?_
        refine BT.getR (r := 9) fl_X7_29 ho_8 rfl dX7_word_49 ?_
        refine BT.iload_n dX7_word_52 rfl 3 rfl ?_
        refine BT.aald ha_9 (by decide) (((h.2 c2).2.2 c4).1 c9).1 dX7_word_53 ?_
        refine BT.getI fl_X7_38 (lawC8 (((h.2 c2).2.2 c4).1 c9).1).1 rfl dX7_word_54 ?_
        refine BT.bipush (v := (-6)) dX7_word_57 (by decide) ?_
        refine BT.icmp_eq (tgt := 77) dX7_word_59 (by decide) (fun c => ?_) (fun c => ?_)
        · have c11 := c
          refine BT.iinc (j := 3) (v := (v3 + 1)) (L' := [(3, .int (v3 + 1)), (2, .int (v2 + 1)), (0, .ref 170), (1, .int v1)]) dX7_word_77 rfl rfl (by decide) rfl ?_
          refine BT.goto (tgt := 4) dX7_word_80 (by decide) ?_
          refine BT.sub [2, 3, 1, 0] rfl ?_
          exact ((((h.2 c2).2.2 c4).1 c9).2.1 c11)
        · have c12 := c
          refine BT.iload_n dX7_word_62 rfl 0 rfl ?_
          refine BT.iload_n dX7_word_63 rfl 2 rfl ?_
          refine BT.icmp_ne (tgt := 74) dX7_word_64 (by decide) (fun c => ?_) (fun c => ?_)
          · have c13 := c
            refine BT.iinc (j := 0) (v := ((v2 + 1) + 1)) (L' := [(2, .int ((v2 + 1) + 1)), (0, .ref 170), (1, .int v1), (3, .int v3)]) dX7_word_74 rfl rfl (by decide) rfl ?_
            refine BT.iinc (j := 3) (v := (v3 + 1)) (L' := [(3, .int (v3 + 1)), (2, .int ((v2 + 1) + 1)), (0, .ref 170), (1, .int v1)]) dX7_word_77 rfl rfl (by decide) rfl ?_
            refine BT.goto (tgt := 4) dX7_word_80 (by decide) ?_
            refine BT.sub [2, 3, 1, 0] rfl ?_
            exact (((((h.2 c2).2.2 c4).1 c9).2.2 c12).1 c13)
          · have c14 := c
            refine BT.bipush (v := 10) dX7_word_67 (by decide) ?_
            refine BT.iload_n dX7_word_69 rfl 3 rfl ?_
            refine BT.imul dX7_word_70 ?_
            refine BT.iconst (v := 1) dX7_word_71 (by decide) ?_
            refine BT.iadd dX7_word_72 ?_
            exact BT.iret dX7_word_73 rfl (by decide) (by decide) (((((h.2 c2).2.2 c4).1 c9).2.2 c12).2 c14)
      · have c10 := c
        refine BT.bipush (v := 10) dX7_word_37 (by decide) ?_
        refine BT.iload_n dX7_word_39 rfl 3 rfl ?_
        refine BT.imul dX7_word_40 ?_
        exact BT.iret dX7_word_41 rfl (by decide) (by decide) (((h.2 c2).2.2 c4).2 c10)

theorem t_X7_word {G : GT} {K : Int32 → Mem → Prop} {M : Mem} {v1 : Int32} (hw : WOk (wv M)) (h : K (w_wordAt (wv M) v1) M) : T_X7_word G [.ref 170, .int v1] M K := by
  obtain ⟨⟨hn, h8⟩, -⟩ := hw
  rw [wv_at (by decide)] at hn
  have hle := w_len_le (wv M)
  -- what a hit says
  have hit : ∀ q x, q < w_len (wv M) (w_n (wv M)) → v1 = nI q → (w_wl (wv M) (w_n (wv M))).getD q 0 = x → K x M := by
    intro q x hq e hx
    have h9 := hle (w_n (wv M))
    unfold w_wordAt at h
    rw [sel_t ⟨by rw [e]; exact nI_pos' (by omega), by rw [e]; exact nI_lt hq (by omega)⟩, e, ix_nI (by omega), hx] at h
    exact h
  have pre : ∀ m n, n ≤ m → w_wl (wv M) n <+: w_wl (wv M) m := by
    intro m
    induction m with
    | zero => intro n hn; rw [Nat.le_zero.mp hn]; exact List.prefix_refl _
    | succ m ih =>
      intro n hn
      rcases Nat.lt_or_ge m n with q | q
      · rw [show n = m + 1 by omega]; exact List.prefix_refl _
      · exact (ih n q).trans (by rw [w_wl]; exact List.prefix_append _ _)
  have getp : ∀ m q x, m ≤ w_n (wv M) → (w_wl (wv M) m)[q]? = some x → q < w_len (wv M) (w_n (wv M)) ∧ (w_wl (wv M) (w_n (wv M))).getD q 0 = x := by
    intro m q x hm hx
    obtain ⟨t, ht⟩ := pre (w_n (wv M)) m hm
    have hq := (List.getElem?_eq_some_iff.mp hx).1
    have e : (w_wl (wv M) (w_n (wv M)))[q]? = some x := by rw [← ht, List.getElem?_append_left hq]; exact hx
    exact ⟨(List.getElem?_eq_some_iff.mp e).1, by rw [List.getD_eq_getElem?_getD, e]; rfl⟩
  refine e_X7_word (k_X7_word_0 ?_)
  refine up_loop (P := fun j => (∀ q, q < w_len (wv M) j → ¬ v1 = nI q) → B_X7_word G K 4 [(0, .ref 170), (1, .int v1), (2, .int (nI (w_len (wv M) j))), (3, .int (nI j))] [] M) (w_n (wv M)) (fun hno => ?_) (fun j hj ih hno => ?_) 0 (Nat.zero_le _) (fun q hq => absurd hq (Nat.not_lt_zero q))
  · refine k_X7_word_4 ⟨fun _ => ?_, fun c => ?_⟩
    · unfold w_wordAt at h
      rwa [sel_f (fun z => ?_)] at h
      have h9 := hle (w_n (wv M))
      obtain ⟨q, hq, eq⟩ := i_nat (show w_len (wv M) (w_n (wv M)) < 2 ^ 31 by omega) z.1 z.2
      exact hno q hq eq
    · rw [hn] at c
      exact absurd (Int32.le_refl _) c
  · have e1 : ∀ k, wv M (10 + 5 * j) k = M.1 (10 + 5 * j) k := fun k => wv_at (by omega)
    have h9 := hle j
    have hs := w_len_succ (wv M) j
    refine k_X7_word_4 ?_
    rw [hs] at ih
    simp only [ix_nI (show j < 2 ^ 31 by omega), nI_1, ← e1, hn]
    have g1 : ¬ wv M (10 + 5 * j) 8 = -6 → (w_wl (wv M) (j + 1))[w_len (wv M) j]? = some (10 * nI j) := by
      intro d
      rw [w_wl, List.getElem?_append_right (Nat.le_refl _), Nat.sub_self, sel_f d]
      rfl
    have g2 : ¬ wv M (10 + 5 * j) 13 = -6 → (w_wl (wv M) (j + 1))[w_len (wv M) j + sel (wv M (10 + 5 * j) 8 = -6) 0 1]? = some (10 * nI j + 1) := by
      intro f
      rw [w_wl, List.getElem?_append_right (Nat.le_add_right _ _), Nat.add_sub_cancel_left, sel_f f]
      by_cases d : wv M (10 + 5 * j) 8 = -6
      · rw [sel_t d, sel_t d]; rfl
      · rw [sel_f d, sel_f d]; rfl
    have up : ∀ (a : Nat), (∀ q, w_len (wv M) j ≤ q → q < w_len (wv M) j + a → ¬ v1 = nI q) → ∀ q, q < w_len (wv M) j + a → ¬ v1 = nI q := by
      intro a ha q hq
      by_cases hlt : q < w_len (wv M) j
      · exact hno q hlt
      · exact ha q (by omega) hq
    refine ⟨fun c => ?_, fun c => ⟨vp_nI (by omega) (by decide), fun d => ⟨vp_nI (by omega) (by decide), fun f => ?_, fun f => ⟨fun g => ?_, fun g => ?_⟩⟩, fun d => ⟨fun g => ⟨vp_nI (by omega) (by decide), fun f => ?_, fun f => ⟨fun k => ?_, fun k => ?_⟩⟩, fun g => ?_⟩⟩⟩
    · rw [nI_leI (by omega) (by omega)] at c
      omega
    · rw [sel_t d, sel_t f] at ih
      exact ih (fun q hq => hno q hq)
    · rw [sel_t d, sel_f f] at ih
      exact ih (up 1 (fun q hq1 hq2 e => g (by rw [e, show q = w_len (wv M) j by omega])))
    · have := g2 f
      rw [sel_t d, Nat.add_zero] at this
      obtain ⟨a1, a2⟩ := getp (j + 1) _ _ (by omega) this
      exact hit _ _ a1 g.symm a2
    · rw [sel_f d, sel_t f] at ih
      exact ih (up 1 (fun q hq1 hq2 e => g (by rw [e, show q = w_len (wv M) j by omega])))
    · rw [sel_f d, sel_f f] at ih
      exact ih (up 2 (fun q hq1 hq2 e => by
        rcases (show q = w_len (wv M) j ∨ q = w_len (wv M) j + 1 by omega) with z | z
        · exact g (by rw [e, z])
        · exact k (by rw [e, z])))
    · have := g2 f
      rw [sel_f d] at this
      obtain ⟨a1, a2⟩ := getp (j + 1) _ _ (by omega) this
      exact hit _ _ a1 k.symm a2
    · obtain ⟨a1, a2⟩ := getp (j + 1) _ _ (by omega) (g1 d)
      exact hit _ _ a1 g.symm a2

/-! BetweenLaws$Readings.timeWords()I -/
abbrev rm_X7_timeWords : Room := { frames := 1, cells := 0, slots := 0, locals := 23 }
abbrev B_X7_timeWords (G : GT) (K : Int32 → Mem → Prop) := BT G (Rep G) RX7 "timeWords" cX7_timeWords 4 (some .int) rm_X7_timeWords K 0 0
abbrev T_X7_timeWords (G : GT) (as : List Value) (M : Mem) (K : Int32 → Mem → Prop) : Prop := MT G (Rep G) yX7_timeWords cX7_timeWords 4 (some .int) rm_X7_timeWords as M K
theorem e_X7_timeWords {G : GT} {K : Int32 → Mem → Prop} {M : Mem}  (h : B_X7_timeWords G K 0 [(0, .ref 170)] [] M) : T_X7_timeWords G [.ref 170] M K := MT.of (by decide +kernel) rfl rfl (Nat.le_of_ble_eq_true rfl) rfl h
set_option maxRecDepth 4000 in
theorem k_X7_timeWords_0 {G : GT} {K : Int32 → Mem → Prop} {M : Mem}  (h : B_X7_timeWords G K 4 [(0, .ref 170), (1, .int 0), (2, .int 0)] [] M) : B_X7_timeWords G K 0 [(0, .ref 170)] [] M := by
  refine BT.iconst (v := 0) dX7_timeWords_0 (by decide) ?_
  refine BT.istore_n (L' := [(1, .int 0), (0, .ref 170)]) dX7_timeWords_1 rfl (by decide) rfl ?_
  refine BT.iconst (v := 0) dX7_timeWords_2 (by decide) ?_
  refine BT.istore_n (L' := [(2, .int 0), (1, .int 0), (0, .ref 170)]) dX7_timeWords_3 rfl (by decide) rfl ?_
  refine BT.sub [2, 1, 0] rfl ?_
  exact h
set_option maxRecDepth 4000 in
theorem k_X7_timeWords_4 {G : GT} {K : Int32 → Mem → Prop} {M : Mem} {v1 : Int32} {v2 : Int32} (h : (8 ≤ v2 → K v1 M) ∧ (¬ 8 ≤ v2 → (WOk (wv M)) ∧ (∀ r3 : Int32, r3 = (w_wordAt (wv M) v2) → (r3 = (-6) → B_X7_timeWords G K 4 [(0, .ref 170), (1, .int v1), (2, .int (v2 + 1))] [] M) ∧ (¬ r3 = (-6) → (¬ (r3 - r3 / 10 * 10) = 0 → B_X7_timeWords G K 4 [(0, .ref 170), (1, .int v1), (2, .int (v2 + 1))] [] M) ∧ ((r3 - r3 / 10 * 10) = 0 → B_X7_timeWords G K 4 [(0, .ref 170), (1, .int (v1 ||| ((1 : Int32) <<< (v2 &&& 31)))), (2, .int (v2 + 1))] [] M))))) : B_X7_timeWords G K 4 [(0, .ref 170), (1, .int v1), (2, .int v2)] [] M := by
  refine BT.iload_n dX7_timeWords_4 rfl 2 rfl ?_
  refine BT.bipush (v := 8) dX7_timeWords_5 (by decide) ?_
  refine BT.icmp_ge (tgt := 41) dX7_timeWords_7 (by decide) (fun c => ?_) (fun c => ?_)
  · have c1 := c
    refine BT.iload_n dX7_timeWords_41 rfl 1 rfl ?_
    exact BT.iret dX7_timeWords_42 rfl (by decide) (by decide) (h.1 c1)
  · have c2 := c
    refine BT.aload_n dX7_timeWords_10 rfl 0 rfl ?_
    refine BT.iload_n dX7_timeWords_11 rfl 2 rfl ?_
    refine BT.mcVr [.int v2] (t_X7_word (h.2 c2).1 ⟨rfl, rfl⟩) mb_X7_word mv_X7_word lk_X7_41 rfl (by decide) rfl (recvRep ho_170 rfl) (Nat.le_of_ble_eq_true rfl) dX7_timeWords_12 (fun r3 e3 => ?_)
    show B_X7_timeWords G K 15 [(0, .ref 170), (1, .int v1), (2, .int v2)] [.int r3] M
    refine BT.istore_n (L' := [(3, .int r3), (0, .ref 170), (1, .int v1), (2, .int v2)]) dX7_timeWords_15 rfl (by decide) rfl ?_
    refine BT.iload_n dX7_timeWords_16 rfl 0 rfl ?_
    refine BT.bipush (v := (-6)) dX7_timeWords_17 (by decide) ?_
    refine BT.icmp_eq (tgt := 35) dX7_timeWords_19 (by decide) (fun c => ?_) (fun c => ?_)
    · have c4 := c
      refine BT.iinc (j := 3) (v := (v2 + 1)) (L' := [(2, .int (v2 + 1)), (3, .int r3), (0, .ref 170), (1, .int v1)]) dX7_timeWords_35 rfl rfl (by decide) rfl ?_
      refine BT.goto (tgt := 4) dX7_timeWords_38 (by decide) ?_
      refine BT.sub [2, 3, 0] rfl ?_
      exact (((h.2 c2).2 r3 e3).1 c4)
    · have c5 := c
      refine BT.iload_n dX7_timeWords_22 rfl 0 rfl ?_
      refine BT.bipush (v := 10) dX7_timeWords_23 (by decide) ?_
      refine BT.irem dX7_timeWords_25 (by decide) ?_
      refine BT.if_ne (tgt := 35) dX7_timeWords_26 (by decide) (fun c => ?_) (fun c => ?_)
      · have c6 := c
        refine BT.iinc (j := 3) (v := (v2 + 1)) (L' := [(2, .int (v2 + 1)), (3, .int r3), (0, .ref 170), (1, .int v1)]) dX7_timeWords_35 rfl rfl (by decide) rfl ?_
        refine BT.goto (tgt := 4) dX7_timeWords_38 (by decide) ?_
        refine BT.sub [2, 3, 0] rfl ?_
        exact ((((h.2 c2).2 r3 e3).2 c5).1 c6)
      · have c7 := c
        refine BT.iload_n dX7_timeWords_29 rfl 2 rfl ?_
        refine BT.iconst (v := 1) dX7_timeWords_30 (by decide) ?_
        refine BT.iload_n dX7_timeWords_31 rfl 3 rfl ?_
        refine BT.ishl dX7_timeWords_32 ?_
        refine BT.ior dX7_timeWords_33 ?_
        refine BT.istore_n (L' := [(1, .int (v1 ||| ((1 : Int32) <<< (v2 &&& 31)))), (3, .int r3), (0, .ref 170), (2, .int v2)]) dX7_timeWords_34 rfl (by decide) rfl ?_
        refine BT.iinc (j := 3) (v := (v2 + 1)) (L' := [(2, .int (v2 + 1)), (1, .int (v1 ||| ((1 : Int32) <<< (v2 &&& 31)))), (3, .int r3), (0, .ref 170)]) dX7_timeWords_35 rfl rfl (by decide) rfl ?_
        refine BT.goto (tgt := 4) dX7_timeWords_38 (by decide) ?_
        refine BT.sub [3, 1, 0] rfl ?_
        exact ((((h.2 c2).2 r3 e3).2 c5).2 c7)

theorem t_X7_timeWords {G : GT} {K : Int32 → Mem → Prop} {M : Mem} (hw : WOk (wv M)) (h : K (w_times (wv M) 8) M) : T_X7_timeWords G [.ref 170] M K := by
  refine e_X7_timeWords (k_X7_timeWords_0 ?_)
  refine up_loop (P := fun j => B_X7_timeWords G K 4 [(0, .ref 170), (1, .int (w_times (wv M) j)), (2, .int (nI j))] [] M) 8 ?_ (fun j hj ih => ?_) 0 (Nat.zero_le _)
  · exact k_X7_timeWords_4 ⟨fun _ => h, fun c => absurd (Int32.le_refl _) c⟩
  · unfold w_times at ih
    refine k_X7_timeWords_4 ⟨fun c => absurd c (Int32.not_le.mpr (nI_lt hj (by decide))), fun _ => ⟨hw, fun r3 e3 => ⟨fun c1 => ?_, fun c1 => ⟨fun c2 => ?_, fun c2 => ?_⟩⟩⟩⟩
    · rw [sel_f (fun q => q.1 (by rw [← e3]; exact c1))] at ih
      rw [nI_1]; exact ih
    · rw [sel_f (fun q => c2 (by rw [e3]; exact q.2))] at ih
      rw [nI_1]; exact ih
    · rw [sel_t ⟨by rw [← e3]; exact c1, by rw [← e3]; exact c2⟩] at ih
      rw [nI_1]; exact ih

/-! BetweenLaws$Readings.readBy(I)V -/
abbrev rm_X7_readBy : Room := { frames := 0, cells := 0, slots := 0, locals := 0 }
abbrev B_X7_readBy (G : GT) (K : Int32 → Mem → Prop) := BT G (Rep G) RX7 "readBy" cX7_readBy 5 none rm_X7_readBy K 0 0
abbrev T_X7_readBy (G : GT) (as : List Value) (M : Mem) (K : Int32 → Mem → Prop) : Prop := MT G (Rep G) yX7_readBy cX7_readBy 5 none rm_X7_readBy as M K
theorem e_X7_readBy {G : GT} {K : Int32 → Mem → Prop} {M : Mem} {v1 : Int32} (h : B_X7_readBy G K 0 [(0, .ref 170), (1, .int v1)] [] M) : T_X7_readBy G [.ref 170, .int v1] M K := MT.of (by decide +kernel) rfl rfl (Nat.le_of_ble_eq_true rfl) rfl h
set_option maxRecDepth 4000 in
theorem k_X7_readBy_0 {G : GT} {K : Int32 → Mem → Prop} {M : Mem} {v1 : Int32} (h : B_X7_readBy G K 4 [(0, .ref 170), (1, .int v1), (2, .int 0), (3, .int 0)] [] M) : B_X7_readBy G K 0 [(0, .ref 170), (1, .int v1)] [] M := by
  refine BT.iconst (v := 0) dX7_readBy_0 (by decide) ?_
  refine BT.istore_n (L' := [(2, .int 0), (0, .ref 170), (1, .int v1)]) dX7_readBy_1 rfl (by decide) rfl ?_
  refine BT.iconst (v := 0) dX7_readBy_2 (by decide) ?_
  refine BT.istore_n (L' := [(3, .int 0), (2, .int 0), (0, .ref 170), (1, .int v1)]) dX7_readBy_3 rfl (by decide) rfl ?_
  refine BT.sub [2, 3, 1, 0] rfl ?_
  exact h
set_option maxRecDepth 4000 in
theorem k_X7_readBy_4 {G : GT} {K : Int32 → Mem → Prop} {M : Mem} {v1 : Int32} {v2 : Int32} {v3 : Int32} (h : ((M.1 8 1) ≤ v3 → K 0 M) ∧ (¬ (M.1 8 1) ≤ v3 → (vp_in v3 8) ∧ (∀ N3 : Mem, N3 = (m_i M (10 + 5 * (Int32.toNatClampNeg v3)) 9 (M.1 (10 + 5 * (Int32.toNatClampNeg v3)) 7)) → ((N3.1 (10 + 5 * (Int32.toNatClampNeg v3)) 8) = (-6) → ((N3.1 (10 + 5 * (Int32.toNatClampNeg v3)) 13) = (-6) → B_X7_readBy G K 4 [(0, .ref 170), (1, .int v1), (2, .int v2), (3, .int (v3 + 1))] [] N3) ∧ (¬ (N3.1 (10 + 5 * (Int32.toNatClampNeg v3)) 13) = (-6) → B_X7_readBy G K 4 [(0, .ref 170), (1, .int v1), (2, .int (v2 + 1)), (3, .int (v3 + 1))] [] N3)) ∧ (¬ (N3.1 (10 + 5 * (Int32.toNatClampNeg v3)) 8) = (-6) → (8 ≤ v2 → ((N3.1 (10 + 5 * (Int32.toNatClampNeg v3)) 13) = (-6) → B_X7_readBy G K 4 [(0, .ref 170), (1, .int v1), (2, .int (v2 + 1)), (3, .int (v3 + 1))] [] N3) ∧ (¬ (N3.1 (10 + 5 * (Int32.toNatClampNeg v3)) 13) = (-6) → B_X7_readBy G K 4 [(0, .ref 170), (1, .int v1), (2, .int ((v2 + 1) + 1)), (3, .int (v3 + 1))] [] N3)) ∧ (¬ 8 ≤ v2 → (((v1 >>> (v2 &&& 31)) &&& 1) = 0 → ((N3.1 (10 + 5 * (Int32.toNatClampNeg v3)) 13) = (-6) → B_X7_readBy G K 4 [(0, .ref 170), (1, .int v1), (2, .int (v2 + 1)), (3, .int (v3 + 1))] [] N3) ∧ (¬ (N3.1 (10 + 5 * (Int32.toNatClampNeg v3)) 13) = (-6) → B_X7_readBy G K 4 [(0, .ref 170), (1, .int v1), (2, .int ((v2 + 1) + 1)), (3, .int (v3 + 1))] [] N3)) ∧ (¬ ((v1 >>> (v2 &&& 31)) &&& 1) = 0 → (∀ N16 : Mem, N16 = (m_i N3 (10 + 5 * (Int32.toNatClampNeg v3)) 9 (N3.1 (10 + 5 * (Int32.toNatClampNeg v3)) 8)) → ((N16.1 (10 + 5 * (Int32.toNatClampNeg v3)) 13) = (-6) → B_X7_readBy G K 4 [(0, .ref 170), (1, .int v1), (2, .int (v2 + 1)), (3, .int (v3 + 1))] [] N16) ∧ (¬ (N16.1 (10 + 5 * (Int32.toNatClampNeg v3)) 13) = (-6) → B_X7_readBy G K 4 [(0, .ref 170), (1, .int v1), (2, .int ((v2 + 1) + 1)), (3, .int (v3 + 1))] [] N16)))))))) : B_X7_readBy G K 4 [(0, .ref 170), (1, .int v1), (2, .int v2), (3, .int v3)] [] M := by
  refine BT.iload_n dX7_readBy_4 rfl 3 rfl ?_
  refine BT.aload_n dX7_readBy_5 rfl 0 rfl ?_
  refine BT.getR (r := 8) fl_X7_9 ho_170 rfl dX7_readBy_6 ?_
  refine BT.getI fl_X7_23 ho_8 rfl dX7_readBy_9 ?_
  refine BT.icmp_ge (tgt := 92) dX7_readBy_12 (by decide) (fun c => ?_) (fun c => ?_)
  · have c1 := c
    exact BT.vret dX7_readBy_92 rfl (by decide) (by decide) (h.1 c1)
  · have c2 := c
    refine BT.aload_n dX7_readBy_15 rfl 0 rfl ?_
    refine BT.getR (r := 8) fl_X7_9 ho_170 rfl dX7_readBy_16 ?_
    refine BT.getR (r := 9) fl_X7_29 ho_8 rfl dX7_readBy_19 ?_
    refine BT.iload_n dX7_readBy_22 rfl 3 rfl ?_
    refine BT.aald ha_9 (by decide) (h.2 c2).1 dX7_readBy_23 ?_
    refine BT.astore (L' := [(4, .ref (10 + 5 * (Int32.toNatClampNeg v3))), (0, .ref 170), (1, .int v1), (2, .int v2), (3, .int v3)]) dX7_readBy_24 (by decide) rfl ?_
    refine BT.aload dX7_readBy_26 0 rfl ?_
    refine BT.aload dX7_readBy_28 0 rfl ?_
    refine BT.getI fl_X7_45 (lawC8 (h.2 c2).1).1 rfl dX7_readBy_30 ?_
    refine BT.putI fl_X7_48 ft_3_9 (lawC8 (h.2 c2).1).1 rfl dX7_readBy_33 ?_
    refine BT.topm (fun N3 f3 => ?_)
    refine BT.aload dX7_readBy_36 0 rfl ?_
    refine BT.getI fl_X7_33 (lawC8 (h.2 c2).1).1 rfl dX7_readBy_38 ?_
    refine BT.bipush (v := (-6)) dX7_readBy_41 (by decide) ?_
    refine BT.icmp_eq (tgt := 73) dX7_readBy_43 (by decide) (fun c => ?_) (fun c => ?_)
    · have c4 := c
      refine BT.aload dX7_readBy_73 0 rfl ?_
      refine BT.getI fl_X7_38 (lawC8 (h.2 c2).1).1 rfl dX7_readBy_75 ?_
      refine BT.bipush (v := (-6)) dX7_readBy_78 (by decide) ?_
      refine BT.icmp_eq (tgt := 86) dX7_readBy_80 (by decide) (fun c => ?_) (fun c => ?_)
      · have c6 := c
        refine BT.iinc (j := 4) (v := (v3 + 1)) (L' := [(3, .int (v3 + 1)), (4, .ref (10 + 5 * (Int32.toNatClampNeg v3))), (0, .ref 170), (1, .int v1), (2, .int v2)]) dX7_readBy_86 rfl rfl (by decide) rfl ?_
        refine BT.goto (tgt := 4) dX7_readBy_89 (by decide) ?_
        refine BT.sub [2, 3, 4, 0] rfl ?_
        exact ((((h.2 c2).2 N3 f3).1 c4).1 c6)
      · have c7 := c
        refine BT.iinc (j := 3) (v := (v2 + 1)) (L' := [(2, .int (v2 + 1)), (4, .ref (10 + 5 * (Int32.toNatClampNeg v3))), (0, .ref 170), (1, .int v1), (3, .int v3)]) dX7_readBy_83 rfl rfl (by decide) rfl ?_
        refine BT.iinc (j := 4) (v := (v3 + 1)) (L' := [(3, .int (v3 + 1)), (2, .int (v2 + 1)), (4, .ref (10 + 5 * (Int32.toNatClampNeg v3))), (0, .ref 170), (1, .int v1)]) dX7_readBy_86 rfl rfl (by decide) rfl ?_
        refine BT.goto (tgt := 4) dX7_readBy_89 (by decide) ?_
        refine BT.sub [3, 4, 1, 0] rfl ?_
        exact ((((h.2 c2).2 N3 f3).1 c4).2 c7)
    · have c5 := c
      refine BT.iload_n dX7_readBy_46 rfl 3 rfl ?_
      refine BT.bipush (v := 8) dX7_readBy_47 (by decide) ?_
      refine BT.icmp_ge (tgt := 70) dX7_readBy_49 (by decide) (fun c => ?_) (fun c => ?_)
      · have c8 := c
        refine BT.iinc (j := 3) (v := (v2 + 1)) (L' := [(2, .int (v2 + 1)), (4, .ref (10 + 5 * (Int32.toNatClampNeg v3))), (0, .ref 170), (1, .int v1), (3, .int v3)]) dX7_readBy_70 rfl rfl (by decide) rfl ?_
        refine BT.aload dX7_readBy_73 1 rfl ?_
        refine BT.getI fl_X7_38 (lawC8 (h.2 c2).1).1 rfl dX7_readBy_75 ?_
        refine BT.bipush (v := (-6)) dX7_readBy_78 (by decide) ?_
        refine BT.icmp_eq (tgt := 86) dX7_readBy_80 (by decide) (fun c => ?_) (fun c => ?_)
        · have c10 := c
          refine BT.iinc (j := 4) (v := (v3 + 1)) (L' := [(3, .int (v3 + 1)), (2, .int (v2 + 1)), (4, .ref (10 + 5 * (Int32.toNatClampNeg v3))), (0, .ref 170), (1, .int v1)]) dX7_readBy_86 rfl rfl (by decide) rfl ?_
          refine BT.goto (tgt := 4) dX7_readBy_89 (by decide) ?_
          refine BT.sub [3, 4, 1, 0] rfl ?_
          exact (((((h.2 c2).2 N3 f3).2 c5).1 c8).1 c10)
        · have c11 := c
          refine BT.iinc (j := 0) (v := ((v2 + 1) + 1)) (L' := [(2, .int ((v2 + 1) + 1)), (4, .ref (10 + 5 * (Int32.toNatClampNeg v3))), (0, .ref 170), (1, .int v1), (3, .int v3)]) dX7_readBy_83 rfl rfl (by decide) rfl ?_
          refine BT.iinc (j := 4) (v := (v3 + 1)) (L' := [(3, .int (v3 + 1)), (2, .int ((v2 + 1) + 1)), (4, .ref (10 + 5 * (Int32.toNatClampNeg v3))), (0, .ref 170), (1, .int v1)]) dX7_readBy_86 rfl rfl (by decide) rfl ?_
          refine BT.goto (tgt := 4) dX7_readBy_89 (by decide) ?_
          refine BT.sub [3, 4, 1, 0] rfl ?_
          exact (((((h.2 c2).2 N3 f3).2 c5).1 c8).2 c11)
      · have c9 := c
        refine BT.iload_n dX7_readBy_52 rfl 2 rfl ?_
        refine BT.iload_n dX7_readBy_53 rfl 3 rfl ?_
        refine BT.ishr dX7_readBy_54 ?_
        refine BT.iconst (v := 1) dX7_readBy_55 (by decide) ?_
        refine BT.iand dX7_readBy_56 ?_
        refine BT.if_eq (tgt := 70) dX7_readBy_57 (by decide) (fun c => ?_) (fun c => ?_)
        · have c12 := c
          refine BT.iinc (j := 3) (v := (v2 + 1)) (L' := [(2, .int (v2 + 1)), (4, .ref (10 + 5 * (Int32.toNatClampNeg v3))), (0, .ref 170), (1, .int v1), (3, .int v3)]) dX7_readBy_70 rfl rfl (by decide) rfl ?_
          refine BT.aload dX7_readBy_73 1 rfl ?_
          refine BT.getI fl_X7_38 (lawC8 (h.2 c2).1).1 rfl dX7_readBy_75 ?_
          refine BT.bipush (v := (-6)) dX7_readBy_78 (by decide) ?_
          refine BT.icmp_eq (tgt := 86) dX7_readBy_80 (by decide) (fun c => ?_) (fun c => ?_)
          · have c14 := c
            refine BT.iinc (j := 4) (v := (v3 + 1)) (L' := [(3, .int (v3 + 1)), (2, .int (v2 + 1)), (4, .ref (10 + 5 * (Int32.toNatClampNeg v3))), (0, .ref 170), (1, .int v1)]) dX7_readBy_86 rfl rfl (by decide) rfl ?_
            refine BT.goto (tgt := 4) dX7_readBy_89 (by decide) ?_
            refine BT.sub [3, 4, 1, 0] rfl ?_
            exact ((((((h.2 c2).2 N3 f3).2 c5).2 c9).1 c12).1 c14)
          · have c15 := c
            refine BT.iinc (j := 0) (v := ((v2 + 1) + 1)) (L' := [(2, .int ((v2 + 1) + 1)), (4, .ref (10 + 5 * (Int32.toNatClampNeg v3))), (0, .ref 170), (1, .int v1), (3, .int v3)]) dX7_readBy_83 rfl rfl (by decide) rfl ?_
            refine BT.iinc (j := 4) (v := (v3 + 1)) (L' := [(3, .int (v3 + 1)), (2, .int ((v2 + 1) + 1)), (4, .ref (10 + 5 * (Int32.toNatClampNeg v3))), (0, .ref 170), (1, .int v1)]) dX7_readBy_86 rfl rfl (by decide) rfl ?_
            refine BT.goto (tgt := 4) dX7_readBy_89 (by decide) ?_
            refine BT.sub [3, 4, 1, 0] rfl ?_
            exact ((((((h.2 c2).2 N3 f3).2 c5).2 c9).1 c12).2 c15)
        · have c13 := c
          refine BT.aload dX7_readBy_60 0 rfl ?_
          refine BT.aload dX7_readBy_62 0 rfl ?_
          refine BT.getI fl_X7_33 (lawC8 (h.2 c2).1).1 rfl dX7_readBy_64 ?_
          refine BT.putI fl_X7_48 ft_3_9 (lawC8 (h.2 c2).1).1 rfl dX7_readBy_67 ?_
          refine BT.topm (fun N16 f16 => ?_)
          refine BT.iinc (j := 3) (v := (v2 + 1)) (L' := [(2, .int (v2 + 1)), (4, .ref (10 + 5 * (Int32.toNatClampNeg v3))), (0, .ref 170), (1, .int v1), (3, .int v3)]) dX7_readBy_70 rfl rfl (by decide) rfl ?_
          refine BT.aload dX7_readBy_73 1 rfl ?_
          refine BT.getI fl_X7_38 (lawC8 (h.2 c2).1).1 rfl dX7_readBy_75 ?_
          refine BT.bipush (v := (-6)) dX7_readBy_78 (by decide) ?_
          refine BT.icmp_eq (tgt := 86) dX7_readBy_80 (by decide) (fun c => ?_) (fun c => ?_)
          · have c17 := c
            refine BT.iinc (j := 4) (v := (v3 + 1)) (L' := [(3, .int (v3 + 1)), (2, .int (v2 + 1)), (4, .ref (10 + 5 * (Int32.toNatClampNeg v3))), (0, .ref 170), (1, .int v1)]) dX7_readBy_86 rfl rfl (by decide) rfl ?_
            refine BT.goto (tgt := 4) dX7_readBy_89 (by decide) ?_
            refine BT.sub [3, 4, 1, 0] rfl ?_
            exact (((((((h.2 c2).2 N3 f3).2 c5).2 c9).2 c13) N16 f16).1 c17)
          · have c18 := c
            refine BT.iinc (j := 0) (v := ((v2 + 1) + 1)) (L' := [(2, .int ((v2 + 1) + 1)), (4, .ref (10 + 5 * (Int32.toNatClampNeg v3))), (0, .ref 170), (1, .int v1), (3, .int v3)]) dX7_readBy_83 rfl rfl (by decide) rfl ?_
            refine BT.iinc (j := 4) (v := (v3 + 1)) (L' := [(3, .int (v3 + 1)), (2, .int ((v2 + 1) + 1)), (4, .ref (10 + 5 * (Int32.toNatClampNeg v3))), (0, .ref 170), (1, .int v1)]) dX7_readBy_86 rfl rfl (by decide) rfl ?_
            refine BT.goto (tgt := 4) dX7_readBy_89 (by decide) ?_
            refine BT.sub [3, 4, 1, 0] rfl ?_
            exact (((((((h.2 c2).2 N3 f3).2 c5).2 c9).2 c13) N16 f16).2 c18)

theorem t_X7_readBy {G : GT} {K : Int32 → Mem → Prop} {M : Mem} {v1 : Int32} (hw : WOk (wv M)) (h : ∀ N, wv N = w_rd (wv M) v1 ∧ (∀ c, ¬ c < 60 → N.1 c = M.1 c) ∧ N.2 = M.2 → K 0 N) : T_X7_readBy G [.ref 170, .int v1] M K := by
  obtain ⟨⟨hn, h8⟩, -⟩ := hw
  have hn0 := hn
  rw [wv_at (by decide)] at hn
  have hle := w_len_le (wv M)
  refine e_X7_readBy (k_X7_readBy_0 ?_)
  refine up_loop (P := fun j => ∀ N : Mem, (wv N = w_rdn (wv M) v1 j ∧ (∀ c, ¬ c < 60 → N.1 c = M.1 c) ∧ N.2 = M.2) → B_X7_readBy G K 4 [(0, .ref 170), (1, .int v1), (2, .int (nI (w_len (wv M) j))), (3, .int (nI j))] [] N) (w_n (wv M)) (fun N hN => ?_) (fun j hj ih N hN => ?_) 0 (Nat.zero_le _) M ⟨?_, fun _ _ => rfl, rfl⟩
  · have e : N.1 8 1 = nI (w_n (wv M)) := by rw [← wv_at (M := N) (by decide), hN.1, w_rdn_k (by decide), hn0]
    refine k_X7_readBy_4 ⟨fun _ => h N hN, fun c => ?_⟩
    rw [e] at c
    exact absurd (Int32.le_refl _) c
  · have h9 := hle j
    have off : ∀ c k, (c < 60 ∨ c = 174) → N.1 c k = w_rdn (wv M) v1 j c k := fun c k hc => by rw [← hN.1, wv_at hc]
    have hs := w_len_succ (wv M) j
    rw [hs] at ih
    -- the memory behind the law j
    have put : ∀ (N2 : Mem) (x : Int32), N2 = m_i N (10 + 5 * j) 9 x → x = w_tr (wv M) v1 j → wv N2 = w_rdn (wv M) v1 (j + 1) ∧ (∀ c, ¬ c < 60 → N2.1 c = M.1 c) ∧ N2.2 = M.2 := by
      intro N2 x e2 ex
      subst e2
      refine ⟨?_, fun c hc => (mi_off (by omega)).trans (hN.2.1 c hc), hN.2.2⟩
      funext c k
      by_cases hc : c < 60 ∨ c = 174
      · rw [wv_at hc]
        by_cases hk : c = 10 + 5 * j ∧ k = 9
        · rw [hk.1, hk.2, m_i_at, w_rdn_at (by omega), ex]
        · rw [m_i_ne hk, off c k hc]
          by_cases hq : k = 9 ∧ ∃ l, l < j ∧ c = 10 + 5 * l
          · obtain ⟨rfl, l, hl, rfl⟩ := hq
            rw [w_rdn_at hl, w_rdn_at (by omega)]
          · rw [w_rdn_off hq, w_rdn_off]
            rintro ⟨rfl, l, hl, rfl⟩
            rcases Nat.lt_succ_iff_lt_or_eq.mp hl with z | rfl
            · exact hq ⟨rfl, l, z, rfl⟩
            · exact hk ⟨rfl, rfl⟩
      · have e1 : wv (m_i N (10 + 5 * j) 9 x) c k = 0 := if_neg hc
        have e2 : wv M c k = 0 := if_neg hc
        rw [e1, w_rdn_off (fun q => hc (by obtain ⟨-, l, hl, rfl⟩ := q; omega)), e2]
    have a7 : N.1 (10 + 5 * j) 7 = wv M (10 + 5 * j) 7 := by rw [off _ _ (by omega), w_rdn_k (by decide)]
    refine k_X7_readBy_4 ?_
    rw [off 8 1 (by decide), w_rdn_k (by decide), hn0]
    simp only [ix_nI (show j < 2 ^ 31 by omega), nI_1]
    refine ⟨fun c => ?_, fun c => ⟨vp_nI (by omega) (by decide), fun N3 e3 => ?_⟩⟩
    · rw [nI_leI (by omega) (by omega)] at c
      omega
    · have b : ∀ k, ¬ k = 9 → N3.1 (10 + 5 * j) k = wv M (10 + 5 * j) k := fun k hk => by rw [e3, m_i_ne (fun q => hk q.2), off _ _ (by omega), w_rdn_k hk]
      rw [b 8 (by decide), b 13 (by decide)]
      have first : (wv M (10 + 5 * j) 8 = -6 ∨ 8 ≤ w_len (wv M) j ∨ bitO v1 (nI (w_len (wv M) j))) → wv N3 = w_rdn (wv M) v1 (j + 1) ∧ (∀ c, ¬ c < 60 → N3.1 c = M.1 c) ∧ N3.2 = M.2 := by
        intro hq
        refine put N3 _ e3 ?_
        rw [a7, w_tr, sel_f (fun z => ?_)]
        rcases hq with q | q | q
        · exact z.1 q
        · omega
        · exact z.2.2 q
      refine ⟨fun d => ⟨fun f => ?_, fun f => ?_⟩, fun d => ⟨fun g => ⟨fun f => ?_, fun f => ?_⟩, fun g => ⟨fun k => ⟨fun f => ?_, fun f => ?_⟩, fun k N16 e16 => ?_⟩⟩⟩
      · rw [sel_t d, sel_t f] at ih
        exact ih N3 (first (Or.inl d))
      · rw [sel_t d, sel_f f] at ih
        exact ih N3 (first (Or.inl d))
      · rw [sel_f d, sel_t f] at ih
        exact ih N3 (first (Or.inr (Or.inl ((nI_leI (by decide) (by omega)).mp g))))
      · rw [sel_f d, sel_f f] at ih
        exact ih N3 (first (Or.inr (Or.inl ((nI_leI (by decide) (by omega)).mp g))))
      · rw [sel_f d, sel_t f] at ih
        exact ih N3 (first (Or.inr (Or.inr k)))
      · rw [sel_f d, sel_f f] at ih
        exact ih N3 (first (Or.inr (Or.inr k)))
      · rw [e3, m_i_i] at e16
        have hlt : w_len (wv M) j < 8 := Nat.lt_of_not_le (fun q => g ((nI_leI (by decide) (by omega)).mpr q))
        have h16 := put N16 _ e16 (by rw [w_tr, sel_t ⟨d, hlt, k⟩])
        have b2 : N16.1 (10 + 5 * j) 13 = wv M (10 + 5 * j) 13 := by rw [e16, m_i_ne (by simp), off _ _ (by omega), w_rdn_k (by decide)]
        rw [b2]
        refine ⟨fun f => ?_, fun f => ?_⟩
        · rw [sel_f d, sel_t f] at ih
          exact ih N16 h16
        · rw [sel_f d, sel_f f] at ih
          exact ih N16 h16
  · funext c k
    rw [w_rdn_off (fun q => ?_)]
    obtain ⟨-, l, hl, -⟩ := q
    exact Nat.not_lt_zero l hl

