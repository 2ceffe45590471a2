/-! ===== constructors ===== -/
theorem c_X3_init {G : GT} {K : Int32 → M0T → Prop} {f0 : Nat → va_E} {c : Nat} (hL : LawC c) (b0 : f0 c = .inr (3, bl_3)) (h : ∀ M, MkP G f0 c (c + 5) 0 M → K 0 M) : MT G (R0 G) yX3_init cX3_init 1 none rn_X3 [.ref c] (c + 1, f0) K := by
  refine MT.of (own := RX3) (nm := "<init>") (by decide +kernel) rfl rfl (Nat.le_of_ble_eq_true rfl) rfl ?_
  have s0 : Cst G f0 c c (c + 1) f0 := Cst.start
  refine BT.aload_n dX3_init_0 rfl 0 rfl ?_
  refine BT.objInit lk_X3_3 oi_1 oi_2 (Nat.le_of_ble_eq_true rfl) dX3_init_1 (by decide) (by decide) ?_
  refine BT.aload_n dX3_init_4 rfl 0 rfl ?_
  refine BT.bipush (v := 6) dX3_init_5 (by decide) ?_
  refine C0.newi (N1 := c + 2) (ks1 := 6) s0 (by omega) rfl rfl hL.2.1 (by decide) (by decide) (Nat.le_of_ble_eq_true rfl) (Nat.le_of_ble_eq_true rfl) (Nat.le_of_ble_eq_true rfl) dX3_init_7 (fun f1 s1 o1 => ?_)
  have b1 := (o1 c (by omega)).trans b0
  refine C0.put (fs' := [.int 0, .int 0, .int 0, .ref (g_b G + (c + 1)), .null, .null, .null, .int 0, .int 0, .int 0, .int 0, .int 0, .int 0, .int 0, .int 0]) s1 fl_X3_9 fk_X3_9 ft_3_3 rfl (by omega) (by omega) b1 (Nat.le_of_ble_eq_true rfl) rfl rfl rfl dX3_init_9 (fun f2 s2 b2 o2 => ?_)
  refine BT.aload_n dX3_init_12 rfl 0 rfl ?_
  refine BT.bipush (v := 6) dX3_init_13 (by decide) ?_
  refine C0.newi (N1 := c + 3) (ks1 := 12) s2 (by omega) rfl rfl hL.2.2.1 (by decide) (by decide) (Nat.le_of_ble_eq_true rfl) (Nat.le_of_ble_eq_true rfl) (Nat.le_of_ble_eq_true rfl) dX3_init_15 (fun f3 s3 o3 => ?_)
  have b3 := (o3 c (by omega)).trans b2
  refine C0.put (fs' := [.int 0, .int 0, .int 0, .ref (g_b G + (c + 1)), .ref (g_b G + (c + 2)), .null, .null, .int 0, .int 0, .int 0, .int 0, .int 0, .int 0, .int 0, .int 0]) s3 fl_X3_15 fk_X3_15 ft_3_4 rfl (by omega) (by omega) b3 (Nat.le_of_ble_eq_true rfl) rfl rfl rfl dX3_init_17 (fun f4 s4 b4 o4 => ?_)
  refine BT.aload_n dX3_init_20 rfl 0 rfl ?_
  refine BT.bipush (v := 32) dX3_init_21 (by decide) ?_
  refine C0.newi (N1 := c + 4) (ks1 := 44) s4 (by omega) rfl rfl hL.2.2.2.1 (by decide) (by decide) (Nat.le_of_ble_eq_true rfl) (Nat.le_of_ble_eq_true rfl) (Nat.le_of_ble_eq_true rfl) dX3_init_23 (fun f5 s5 o5 => ?_)
  have b5 := (o5 c (by omega)).trans b4
  refine C0.put (fs' := [.int 0, .int 0, .int 0, .ref (g_b G + (c + 1)), .ref (g_b G + (c + 2)), .ref (g_b G + (c + 3)), .null, .int 0, .int 0, .int 0, .int 0, .int 0, .int 0, .int 0, .int 0]) s5 fl_X3_18 fk_X3_18 ft_3_5 rfl (by omega) (by omega) b5 (Nat.le_of_ble_eq_true rfl) rfl rfl rfl dX3_init_25 (fun f6 s6 b6 o6 => ?_)
  refine BT.aload_n dX3_init_28 rfl 0 rfl ?_
  refine BT.bipush (v := 32) dX3_init_29 (by decide) ?_
  refine C0.newi (N1 := c + 5) (ks1 := 76) s6 (by omega) rfl rfl hL.2.2.2.2 (by decide) (by decide) (Nat.le_of_ble_eq_true rfl) (Nat.le_of_ble_eq_true rfl) (Nat.le_of_ble_eq_true rfl) dX3_init_31 (fun f7 s7 o7 => ?_)
  have b7 := (o7 c (by omega)).trans b6
  refine C0.put (fs' := [.int 0, .int 0, .int 0, .ref (g_b G + (c + 1)), .ref (g_b G + (c + 2)), .ref (g_b G + (c + 3)), .ref (g_b G + (c + 4)), .int 0, .int 0, .int 0, .int 0, .int 0, .int 0, .int 0, .int 0]) s7 fl_X3_21 fk_X3_21 ft_3_6 rfl (by omega) (by omega) b7 (Nat.le_of_ble_eq_true rfl) rfl rfl rfl dX3_init_33 (fun f8 s8 b8 o8 => ?_)
  exact BT.vret dX3_init_36 rfl (Nat.le_of_ble_eq_true rfl) (Nat.le_of_ble_eq_true rfl) (h _ (s8.fin (b8.trans (cellOf_R (G := G) (M := MZ) hL.1).symm)))
theorem c_X6_init {G : GT} {K : Int32 → M0T → Prop} {f0 : Nat → va_E} {c : Nat} (hP : PieceC c) (b0 : f0 c = .inr (6, bl_6)) (h : ∀ M, MkP G f0 c (c + 1) 0 M → K 0 M) : MT G (R0 G) yX6_init cX6_init 1 none rn_X6 [.ref c] (c + 1, f0) K := by
  refine MT.of (own := RX6) (nm := "<init>") (by decide +kernel) rfl rfl (Nat.le_of_ble_eq_true rfl) rfl ?_
  have s0 : Cst G f0 c c (c + 1) f0 := Cst.start
  refine BT.aload_n dX6_init_0 rfl 0 rfl ?_
  refine BT.objInit lk_X6_3 oi_1 oi_2 (Nat.le_of_ble_eq_true rfl) dX6_init_1 (by decide) (by decide) ?_
  exact BT.vret dX6_init_4 rfl (Nat.le_of_ble_eq_true rfl) (Nat.le_of_ble_eq_true rfl) (h _ (s0.fin (b0.trans (cellOf_R (G := G) (M := MZ) hP).symm)))
theorem c_X0_init {G : GT} {K : Int32 → M0T → Prop} {f0 : Nat → va_E} (b0 : f0 166 = .inr (0, bl_0)) (h : ∀ M, MkP G f0 166 167 0 M → K 0 M) : MT G (R0 G) yX0_init cX0_init 1 none rn_X0 [.ref 166] (167, f0) K := by
  refine MT.of (own := RX0) (nm := "<init>") (by decide +kernel) rfl rfl (Nat.le_of_ble_eq_true rfl) rfl ?_
  have s0 : Cst G f0 166 166 167 f0 := Cst.start
  refine BT.aload_n dX0_init_0 rfl 0 rfl ?_
  refine BT.objInit lk_X0_3 oi_1 oi_2 (Nat.le_of_ble_eq_true rfl) dX0_init_1 (by decide) (by decide) ?_
  exact BT.vret dX0_init_4 rfl (Nat.le_of_ble_eq_true rfl) (Nat.le_of_ble_eq_true rfl) (h _ (s0.fin (b0.trans (cellOf_R (G := G) (M := MZ) ho_166).symm)))
theorem c_X1_init {G : GT} {K : Int32 → M0T → Prop} {f0 : Nat → va_E} (b0 : f0 169 = .inr (1, bl_1)) (h : ∀ M, MkP G f0 169 170 0 M → K 0 M) : MT G (R0 G) yX1_init cX1_init 3 none rn_X1 [.ref 169, .ref 8, .ref 167] (170, f0) K := by
  refine MT.of (own := RX1) (nm := "<init>") (by decide +kernel) rfl rfl (Nat.le_of_ble_eq_true rfl) rfl ?_
  have s0 : Cst G f0 169 169 170 f0 := Cst.start
  refine BT.aload_n dX1_init_0 rfl 0 rfl ?_
  refine BT.objInit lk_X1_3 oi_1 oi_2 (Nat.le_of_ble_eq_true rfl) dX1_init_1 (by decide) (by decide) ?_
  refine BT.aload_n dX1_init_4 rfl 0 rfl ?_
  refine BT.aload_n dX1_init_5 rfl 1 rfl ?_
  refine C0.put (fs' := [.ref (g_b G + 8), .null, .int 0, .int 0, .int 0, .int 0, .int 0]) s0 fl_X1_9 fk_X1_9 ft_1_0 rfl (by omega) (by omega) b0 (Nat.le_of_ble_eq_true rfl) rfl rfl rfl dX1_init_6 (fun f1 s1 b1 o1 => ?_)
  refine BT.aload_n dX1_init_9 rfl 0 rfl ?_
  refine BT.aload_n dX1_init_10 rfl 2 rfl ?_
  refine C0.put (fs' := [.ref (g_b G + 8), .ref (g_b G + 167), .int 0, .int 0, .int 0, .int 0, .int 0]) s1 fl_X1_15 fk_X1_15 ft_1_1 rfl (by omega) (by omega) b1 (Nat.le_of_ble_eq_true rfl) rfl rfl rfl dX1_init_11 (fun f2 s2 b2 o2 => ?_)
  exact BT.vret dX1_init_14 rfl (Nat.le_of_ble_eq_true rfl) (Nat.le_of_ble_eq_true rfl) (h _ (s2.fin (b2.trans (cellOf_R (G := G) (M := MZ) ho_169).symm)))
theorem c_X2_init {G : GT} {K : Int32 → M0T → Prop} {f0 : Nat → va_E} (b0 : f0 167 = .inr (2, bl_2)) (h : ∀ M, MkP G f0 167 169 0 M → K 0 M) : MT G (R0 G) yX2_init cX2_init 2 none rn_X2 [.ref 167, .ref 8] (168, f0) K := by
  refine MT.of (own := RX2) (nm := "<init>") (by decide +kernel) rfl rfl (Nat.le_of_ble_eq_true rfl) rfl ?_
  have s0 : Cst G f0 167 167 168 f0 := Cst.start
  refine BT.aload_n dX2_init_0 rfl 0 rfl ?_
  refine BT.objInit lk_X2_3 oi_1 oi_2 (Nat.le_of_ble_eq_true rfl) dX2_init_1 (by decide) (by decide) ?_
  refine BT.aload_n dX2_init_4 rfl 0 rfl ?_
  refine BT.aload_n dX2_init_5 rfl 1 rfl ?_
  refine C0.put (fs' := [.ref (g_b G + 8), .int 0, .null, .int 0]) s0 fl_X2_9 fk_X2_9 ft_2_0 rfl (by omega) (by omega) b0 (Nat.le_of_ble_eq_true rfl) rfl rfl rfl dX2_init_6 (fun f1 s1 b1 o1 => ?_)
  refine BT.aload_n dX2_init_9 rfl 0 rfl ?_
  refine BT.bipush (v := 8) dX2_init_10 (by decide) ?_
  refine C0.newi (N1 := 169) (ks1 := 8) s1 (by omega) rfl rfl ha_168 (by decide) (by decide) (Nat.le_of_ble_eq_true rfl) (Nat.le_of_ble_eq_true rfl) (Nat.le_of_ble_eq_true rfl) dX2_init_12 (fun f2 s2 o2 => ?_)
  have b2 := (o2 167 (by omega)).trans b1
  refine C0.put (fs' := [.ref (g_b G + 8), .int 0, .ref (g_b G + 168), .int 0]) s2 fl_X2_15 fk_X2_15 ft_2_2 rfl (by omega) (by omega) b2 (Nat.le_of_ble_eq_true rfl) rfl rfl rfl dX2_init_14 (fun f3 s3 b3 o3 => ?_)
  exact BT.vret dX2_init_17 rfl (Nat.le_of_ble_eq_true rfl) (Nat.le_of_ble_eq_true rfl) (h _ (s3.fin (b3.trans (cellOf_R (G := G) (M := MZ) ho_167).symm)))
theorem c_X4_init {G : GT} {K : Int32 → M0T → Prop} {f0 : Nat → va_E} (b0 : f0 171 = .inr (4, bl_4)) (h : ∀ M, MkP G f0 171 173 0 M → K 0 M) : MT G (R0 G) yX4_init cX4_init 3 none rn_X4 [.ref 171, .ref 8, .ref 167] (172, f0) K := by
  refine MT.of (own := RX4) (nm := "<init>") (by decide +kernel) rfl rfl (Nat.le_of_ble_eq_true rfl) rfl ?_
  have s0 : Cst G f0 171 171 172 f0 := Cst.start
  refine BT.aload_n dX4_init_0 rfl 0 rfl ?_
  refine BT.objInit lk_X4_3 oi_1 oi_2 (Nat.le_of_ble_eq_true rfl) dX4_init_1 (by decide) (by decide) ?_
  refine BT.aload_n dX4_init_4 rfl 0 rfl ?_
  refine BT.aload_n dX4_init_5 rfl 1 rfl ?_
  refine C0.put (fs' := [.ref (g_b G + 8), .null, .null, .int 0, .int 0, .int 0, .int 0]) s0 fl_X4_9 fk_X4_9 ft_4_0 rfl (by omega) (by omega) b0 (Nat.le_of_ble_eq_true rfl) rfl rfl rfl dX4_init_6 (fun f1 s1 b1 o1 => ?_)
  refine BT.aload_n dX4_init_9 rfl 0 rfl ?_
  refine BT.aload_n dX4_init_10 rfl 2 rfl ?_
  refine C0.put (fs' := [.ref (g_b G + 8), .ref (g_b G + 167), .null, .int 0, .int 0, .int 0, .int 0]) s1 fl_X4_15 fk_X4_15 ft_4_1 rfl (by omega) (by omega) b1 (Nat.le_of_ble_eq_true rfl) rfl rfl rfl dX4_init_11 (fun f2 s2 b2 o2 => ?_)
  refine BT.aload_n dX4_init_14 rfl 0 rfl ?_
  refine BT.bipush (v := 8) dX4_init_15 (by decide) ?_
  refine C0.newi (N1 := 173) (ks1 := 8) s2 (by omega) rfl rfl ha_172 (by decide) (by decide) (Nat.le_of_ble_eq_true rfl) (Nat.le_of_ble_eq_true rfl) (Nat.le_of_ble_eq_true rfl) dX4_init_17 (fun f3 s3 o3 => ?_)
  have b3 := (o3 171 (by omega)).trans b2
  refine C0.put (fs' := [.ref (g_b G + 8), .ref (g_b G + 167), .ref (g_b G + 172), .int 0, .int 0, .int 0, .int 0]) s3 fl_X4_19 fk_X4_19 ft_4_2 rfl (by omega) (by omega) b3 (Nat.le_of_ble_eq_true rfl) rfl rfl rfl dX4_init_19 (fun f4 s4 b4 o4 => ?_)
  exact BT.vret dX4_init_22 rfl (Nat.le_of_ble_eq_true rfl) (Nat.le_of_ble_eq_true rfl) (h _ (s4.fin (b4.trans (cellOf_R (G := G) (M := MZ) ho_171).symm)))
theorem c_X5_init {G : GT} {K : Int32 → M0T → Prop} {f0 : Nat → va_E} (b0 : f0 1 = .inr (5, bl_5)) (h : ∀ M, MkP G f0 1 3 0 M → K 0 M) : MT G (R0 G) yX5_init cX5_init 1 none rn_X5 [.ref 1] (2, f0) K := by
  refine MT.of (own := RX5) (nm := "<init>") (by decide +kernel) rfl rfl (Nat.le_of_ble_eq_true rfl) rfl ?_
  have s0 : Cst G f0 1 1 2 f0 := Cst.start
  refine BT.aload_n dX5_init_0 rfl 0 rfl ?_
  refine BT.objInit lk_X5_3 oi_1 oi_2 (Nat.le_of_ble_eq_true rfl) dX5_init_1 (by decide) (by decide) ?_
  refine BT.aload_n dX5_init_4 rfl 0 rfl ?_
  refine BT.bipush (v := 60) dX5_init_5 (by decide) ?_
  refine C0.newi (N1 := 3) (ks1 := 60) s0 (by omega) rfl rfl ha_2 (by decide) (by decide) (Nat.le_of_ble_eq_true rfl) (Nat.le_of_ble_eq_true rfl) (Nat.le_of_ble_eq_true rfl) dX5_init_7 (fun f1 s1 o1 => ?_)
  have b1 := (o1 1 (by omega)).trans b0
  refine C0.put (fs' := [.ref (g_b G + 2), .int 0, .int 0]) s1 fl_X5_9 fk_X5_9 ft_5_0 rfl (by omega) (by omega) b1 (Nat.le_of_ble_eq_true rfl) rfl rfl rfl dX5_init_9 (fun f2 s2 b2 o2 => ?_)
  exact BT.vret dX5_init_12 rfl (Nat.le_of_ble_eq_true rfl) (Nat.le_of_ble_eq_true rfl) (h _ (s2.fin (b2.trans (cellOf_R (G := G) (M := MZ) ho_1).symm)))
theorem c_X7_init {G : GT} {K : Int32 → M0T → Prop} {f0 : Nat → va_E} (b0 : f0 170 = .inr (7, bl_7)) (h : ∀ M, MkP G f0 170 171 0 M → K 0 M) : MT G (R0 G) yX7_init cX7_init 4 none rn_X7 [.ref 170, .ref 8, .ref 167, .ref 166] (171, f0) K := by
  refine MT.of (own := RX7) (nm := "<init>") (by decide +kernel) rfl rfl (Nat.le_of_ble_eq_true rfl) rfl ?_
  have s0 : Cst G f0 170 170 171 f0 := Cst.start
  refine BT.aload_n dX7_init_0 rfl 0 rfl ?_
  refine BT.objInit lk_X7_3 oi_1 oi_2 (Nat.le_of_ble_eq_true rfl) dX7_init_1 (by decide) (by decide) ?_
  refine BT.aload_n dX7_init_4 rfl 0 rfl ?_
  refine BT.aload_n dX7_init_5 rfl 1 rfl ?_
  refine C0.put (fs' := [.ref (g_b G + 8), .null, .null, .int 0, .int 0]) s0 fl_X7_9 fk_X7_9 ft_7_0 rfl (by omega) (by omega) b0 (Nat.le_of_ble_eq_true rfl) rfl rfl rfl dX7_init_6 (fun f1 s1 b1 o1 => ?_)
  refine BT.aload_n dX7_init_9 rfl 0 rfl ?_
  refine BT.aload_n dX7_init_10 rfl 2 rfl ?_
  refine C0.put (fs' := [.ref (g_b G + 8), .ref (g_b G + 167), .null, .int 0, .int 0]) s1 fl_X7_15 fk_X7_15 ft_7_1 rfl (by omega) (by omega) b1 (Nat.le_of_ble_eq_true rfl) rfl rfl rfl dX7_init_11 (fun f2 s2 b2 o2 => ?_)
  refine BT.aload_n dX7_init_14 rfl 0 rfl ?_
  refine BT.aload_n dX7_init_15 rfl 3 rfl ?_
  refine C0.put (fs' := [.ref (g_b G + 8), .ref (g_b G + 167), .ref (g_b G + 166), .int 0, .int 0]) s2 fl_X7_19 fk_X7_19 ft_7_2 rfl (by omega) (by omega) b2 (Nat.le_of_ble_eq_true rfl) rfl rfl rfl dX7_init_16 (fun f3 s3 b3 o3 => ?_)
  exact BT.vret dX7_init_19 rfl (Nat.le_of_ble_eq_true rfl) (Nat.le_of_ble_eq_true rfl) (h _ (s3.fin (b3.trans (cellOf_R (G := G) (M := MZ) ho_170).symm)))
theorem c_X8_init {G : GT} {K : Int32 → M0T → Prop} {f0 : Nat → va_E} (b0 : f0 173 = .inr (8, bl_8)) (h : ∀ M, MkP G f0 173 175 0 M → K 0 M) : MT G (R0 G) yX8_init cX8_init 4 none rn_X8 [.ref 173, .ref 8, .ref 167, .ref 166] (174, f0) K := by
  refine MT.of (own := RX8) (nm := "<init>") (by decide +kernel) rfl rfl (Nat.le_of_ble_eq_true rfl) rfl ?_
  have s0 : Cst G f0 173 173 174 f0 := Cst.start
  refine BT.aload_n dX8_init_0 rfl 0 rfl ?_
  refine BT.objInit lk_X8_3 oi_1 oi_2 (Nat.le_of_ble_eq_true rfl) dX8_init_1 (by decide) (by decide) ?_
  refine BT.aload_n dX8_init_4 rfl 0 rfl ?_
  refine BT.aload_n dX8_init_5 rfl 1 rfl ?_
  refine C0.put (fs' := [.ref (g_b G + 8), .null, .null, .null]) s0 fl_X8_9 fk_X8_9 ft_8_0 rfl (by omega) (by omega) b0 (Nat.le_of_ble_eq_true rfl) rfl rfl rfl dX8_init_6 (fun f1 s1 b1 o1 => ?_)
  refine BT.aload_n dX8_init_9 rfl 0 rfl ?_
  refine BT.aload_n dX8_init_10 rfl 2 rfl ?_
  refine C0.put (fs' := [.ref (g_b G + 8), .ref (g_b G + 167), .null, .null]) s1 fl_X8_15 fk_X8_15 ft_8_1 rfl (by omega) (by omega) b1 (Nat.le_of_ble_eq_true rfl) rfl rfl rfl dX8_init_11 (fun f2 s2 b2 o2 => ?_)
  refine BT.aload_n dX8_init_14 rfl 0 rfl ?_
  refine BT.aload_n dX8_init_15 rfl 3 rfl ?_
  refine C0.put (fs' := [.ref (g_b G + 8), .ref (g_b G + 167), .ref (g_b G + 166), .null]) s2 fl_X8_19 fk_X8_19 ft_8_2 rfl (by omega) (by omega) b2 (Nat.le_of_ble_eq_true rfl) rfl rfl rfl dX8_init_16 (fun f3 s3 b3 o3 => ?_)
  refine BT.aload_n dX8_init_19 rfl 0 rfl ?_
  refine C0.new (N1 := 175) (ks1 := 5) (ci := 6) (fs := bl_6) rfl rfl cl_X8_23 ins_6 ini_6 inw_6 tyX6_ok rfl bl_6_ok (Nat.le_of_ble_eq_true rfl) (Nat.le_of_ble_eq_true rfl) dX8_init_20 (fun f4 n4 o4 => ?_)
  have b4 := (o4 173 (by omega)).trans b3
  refine BT.dup dX8_init_23 rfl ?_
  refine BT.callIN [] (c_X6_init (f0 := f4) (K := MkP G f4 174 175) pieceC_174 n4 (fun M hM => hM)) mb_X6_init rfl mi_X6_init lk_X8_25 ⟨Nat.le_of_ble_eq_true rfl, Nat.le_of_ble_eq_true rfl⟩ ⟨Nat.le_of_ble_eq_true rfl, Nat.le_of_ble_eq_true rfl⟩ rfl (Nat.le_of_ble_eq_true rfl) dX8_init_24 (fun M5 h5 => ?_)
  obtain ⟨f5, rfl, s5, o5, p5⟩ := s3.obj (by omega) (by omega) o4 h5
  have b5 := (o5 173 (by omega)).trans b3
  refine C0.put (fs' := [.ref (g_b G + 8), .ref (g_b G + 167), .ref (g_b G + 166), .ref (g_b G + 174)]) s5 fl_X8_26 fk_X8_26 ft_8_3 rfl (by omega) (by omega) b5 (Nat.le_of_ble_eq_true rfl) rfl rfl rfl dX8_init_27 (fun f6 s6 b6 o6 => ?_)
  exact BT.vret dX8_init_30 rfl (Nat.le_of_ble_eq_true rfl) (Nat.le_of_ble_eq_true rfl) (h _ (s6.fin (b6.trans (cellOf_R (G := G) (M := MZ) ho_173).symm)))
