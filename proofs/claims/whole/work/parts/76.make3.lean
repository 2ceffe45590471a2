set_option maxHeartbeats 4000000 in
theorem c_X10_init {G : GT} {K : Int32 → M0T → Prop} {f0 : Nat → va_E} (b0 : f0 0 = .inr (10, bl_10)) (h : ∀ M, MkP G f0 0 175 0 M → K 0 M) : MT G (R0 G) yX10_init cX10_init 2 none rn_X10 [.ref 0] (1, f0) K := by
  refine MT.of (own := RX10) (nm := "<init>") (by decide +kernel) rfl rfl (Nat.le_of_ble_eq_true rfl) rfl ?_
  have s0 : Cst G f0 0 0 1 f0 := Cst.start
  refine BT.aload_n dX10_init_0 rfl 0 rfl ?_
  refine BT.objInit lk_X10_1 oi_1 oi_2 (Nat.le_of_ble_eq_true rfl) dX10_init_1 (by decide) (by decide) ?_
  refine BT.aload_n dX10_init_4 rfl 0 rfl ?_
  refine C0.new (N1 := 2) (ks1 := 3) (ci := 5) (fs := bl_5) rfl rfl cl_X10_7 ins_5 ini_5 inw_5 tyX5_ok rfl bl_5_ok (Nat.le_of_ble_eq_true rfl) (Nat.le_of_ble_eq_true rfl) dX10_init_5 (fun f1 n1 o1 => ?_)
  have b1 := (o1 0 (by omega)).trans b0
  refine BT.dup dX10_init_8 rfl ?_
  refine BT.callI [] (c_X5_init (f0 := f1) (K := MkP G f1 1 3) n1 (fun M hM => hM)) mb_X5_init rfl mi_X5_init lk_X10_9 ⟨Nat.le_of_ble_eq_true rfl, Nat.le_of_ble_eq_true rfl⟩ ⟨Nat.le_of_ble_eq_true rfl, Nat.le_of_ble_eq_true rfl⟩ rfl (Nat.le_of_ble_eq_true rfl) dX10_init_9 (fun M2 h2 => ?_)
  obtain ⟨f2, rfl, s2, o2, p2⟩ := s0.obj (by omega) (by omega) o1 h2
  have b2 := (o2 0 (by omega)).trans b0
  refine C0.put (fs' := [.ref (g_b G + 1), .null, .null, .null, .null, .null, .null, .null, .null, .null]) s2 fl_X10_10 fk_X10_10 ft_10_0 rfl (by omega) (by omega) b2 (Nat.le_of_ble_eq_true rfl) rfl rfl rfl dX10_init_12 (fun f3 s3 b3 o3 => ?_)
  refine BT.aload_n dX10_init_15 rfl 0 rfl ?_
  refine C0.new (N1 := 4) (ks1 := 78) (ci := 3) (fs := bl_3) rfl rfl cl_X10_16 ins_3 ini_3 inw_3 tyX3_ok rfl bl_3_ok (Nat.le_of_ble_eq_true rfl) (Nat.le_of_ble_eq_true rfl) dX10_init_16 (fun f4 n4 o4 => ?_)
  have b4 := (o4 0 (by omega)).trans b3
  refine BT.dup dX10_init_19 rfl ?_
  refine BT.callI [] (c_X3_init (f0 := f4) (K := MkP G f4 3 8) lawC_3 n4 (fun M hM => hM)) mb_X3_init rfl mi_X3_init lk_X10_18 ⟨Nat.le_of_ble_eq_true rfl, Nat.le_of_ble_eq_true rfl⟩ ⟨Nat.le_of_ble_eq_true rfl, Nat.le_of_ble_eq_true rfl⟩ rfl (Nat.le_of_ble_eq_true rfl) dX10_init_20 (fun M5 h5 => ?_)
  obtain ⟨f5, rfl, s5, o5, p5⟩ := s3.obj (by omega) (by omega) o4 h5
  have b5 := (o5 0 (by omega)).trans b3
  refine C0.put (fs' := [.ref (g_b G + 1), .ref (g_b G + 3), .null, .null, .null, .null, .null, .null, .null, .null]) s5 fl_X10_19 fk_X10_19 ft_10_1 rfl (by omega) (by omega) b5 (Nat.le_of_ble_eq_true rfl) rfl rfl rfl dX10_init_23 (fun f6 s6 b6 o6 => ?_)
  refine BT.aload_n dX10_init_26 rfl 0 rfl ?_
  refine C0.new (N1 := 9) (ks1 := 162) (ci := 9) (fs := bl_9) rfl rfl cl_X10_23 ins_9 ini_9 inw_9 tyX9_ok rfl bl_9_ok (Nat.le_of_ble_eq_true rfl) (Nat.le_of_ble_eq_true rfl) dX10_init_27 (fun f7 n7 o7 => ?_)
  have b7 := (o7 0 (by omega)).trans b6
  refine BT.dup dX10_init_30 rfl ?_
  refine BT.callI [] (c_X9_init (f0 := f7) (K := MkP G f7 8 60) worldC_8 n7 (fun M hM => hM)) mb_X9_init rfl mi_X9_init lk_X10_25 ⟨Nat.le_of_ble_eq_true rfl, Nat.le_of_ble_eq_true rfl⟩ ⟨Nat.le_of_ble_eq_true rfl, Nat.le_of_ble_eq_true rfl⟩ rfl (Nat.le_of_ble_eq_true rfl) dX10_init_31 (fun M8 h8 => ?_)
  obtain ⟨f8, rfl, s8, o8, p8⟩ := s6.obj (by omega) (by omega) o7 h8
  have b8 := (o8 0 (by omega)).trans b6
  refine C0.put (fs' := [.ref (g_b G + 1), .ref (g_b G + 3), .ref (g_b G + 8), .null, .null, .null, .null, .null, .null, .null]) s8 fl_X10_26 fk_X10_26 ft_10_2 rfl (by omega) (by omega) b8 (Nat.le_of_ble_eq_true rfl) rfl rfl rfl dX10_init_34 (fun f9 s9 b9 o9 => ?_)
  refine BT.aload_n dX10_init_37 rfl 0 rfl ?_
  refine BT.iconst (v := 2) dX10_init_38 (by decide) ?_
  refine C0.newr (t := 4) (nn := 2) (N1 := 61) (ks1 := 956) s9 (by omega) rfl rfl cl_X10_23 ov_World rfl (by decide) (by decide) (Nat.le_of_ble_eq_true rfl) (Nat.le_of_ble_eq_true rfl) (Nat.le_of_ble_eq_true rfl) dX10_init_39 (fun f10 s10 x10 o10 => ?_)
  have b10 := (o10 0 (by omega)).trans b9
  refine C0.put (fs' := [.ref (g_b G + 1), .ref (g_b G + 3), .ref (g_b G + 8), .ref (g_b G + 60), .null, .null, .null, .null, .null, .null]) s10 fl_X10_30 fk_X10_30 ft_10_3 rfl (by omega) (by omega) b10 (Nat.le_of_ble_eq_true rfl) rfl rfl rfl dX10_init_42 (fun f11 s11 b11 o11 => ?_)
  have x11 := (o11 60 (by omega)).trans x10
  refine BT.iconst (v := 0) dX10_init_45 (by decide) ?_
  refine BT.istore_n (L' := [(1, .int 0), (0, .ref 0)]) dX10_init_46 rfl (by decide) rfl ?_
  refine BT.iload_n dX10_init_47 rfl 0 rfl ?_
  refine BT.iconst (v := 2) dX10_init_48 (by decide) ?_
  refine BT.icmp_ge (tgt := 71) dX10_init_49 (by decide) (fun c => absurd c (by decide)) (fun _ => ?_)
  refine BT.aload_n dX10_init_52 rfl 1 rfl ?_
  refine B0.get (v := .ref 60) fl_X10_30 (by omega) b11 rfl dX10_init_53 ?_
  refine BT.iload_n dX10_init_56 rfl 0 rfl ?_
  refine C0.new (N1 := 62) (ks1 := 964) (ci := 9) (fs := bl_9) rfl rfl cl_X10_23 ins_9 ini_9 inw_9 tyX9_ok rfl bl_9_ok (Nat.le_of_ble_eq_true rfl) (Nat.le_of_ble_eq_true rfl) dX10_init_57 (fun f12 n12 o12 => ?_)
  have b12 := (o12 0 (by omega)).trans b11
  refine BT.dup dX10_init_60 rfl ?_
  refine BT.callI [] (c_X9_init (f0 := f12) (K := MkP G f12 61 113) worldC_61 n12 (fun M hM => hM)) mb_X9_init rfl mi_X9_init lk_X10_25 ⟨Nat.le_of_ble_eq_true rfl, Nat.le_of_ble_eq_true rfl⟩ ⟨Nat.le_of_ble_eq_true rfl, Nat.le_of_ble_eq_true rfl⟩ rfl (Nat.le_of_ble_eq_true rfl) dX10_init_61 (fun M13 h13 => ?_)
  obtain ⟨f13, rfl, s13, o13, p13⟩ := s11.obj (by omega) (by omega) o12 h13
  have b13 := (o13 0 (by omega)).trans b11
  have x13 := (o13 60 (by omega)).trans x11
  refine C0.aast (r := (RX9, TX9, 8)) s13 (by omega) (by omega) x13 rfl (by omega) ((p13 61 (by omega) (by omega)).trans (cellOf_O worldC_61.1)) rfl (show vp_in (0) 2 from by unfold vp_in; decide) dX10_init_64 (fun f14 s14 x14 o14 => ?_)
  have b14 := (o14 0 (by omega)).trans b13
  refine BT.iinc (j := 0) (v := 1) (L' := [(1, .int 1), (0, .ref 0)]) dX10_init_65 rfl (by decide) (by decide) rfl ?_
  refine BT.goto (tgt := 47) dX10_init_68 (by decide) ?_
  refine BT.iload_n dX10_init_47 rfl 0 rfl ?_
  refine BT.iconst (v := 2) dX10_init_48 (by decide) ?_
  refine BT.icmp_ge (tgt := 71) dX10_init_49 (by decide) (fun c => absurd c (by decide)) (fun _ => ?_)
  refine BT.aload_n dX10_init_52 rfl 1 rfl ?_
  refine B0.get (v := .ref 60) fl_X10_30 (by omega) b14 rfl dX10_init_53 ?_
  refine BT.iload_n dX10_init_56 rfl 0 rfl ?_
  refine C0.new (N1 := 114) (ks1 := 1764) (ci := 9) (fs := bl_9) rfl rfl cl_X10_23 ins_9 ini_9 inw_9 tyX9_ok rfl bl_9_ok (Nat.le_of_ble_eq_true rfl) (Nat.le_of_ble_eq_true rfl) dX10_init_57 (fun f15 n15 o15 => ?_)
  have b15 := (o15 0 (by omega)).trans b14
  refine BT.dup dX10_init_60 rfl ?_
  refine BT.callI [] (c_X9_init (f0 := f15) (K := MkP G f15 113 165) worldC_113 n15 (fun M hM => hM)) mb_X9_init rfl mi_X9_init lk_X10_25 ⟨Nat.le_of_ble_eq_true rfl, Nat.le_of_ble_eq_true rfl⟩ ⟨Nat.le_of_ble_eq_true rfl, Nat.le_of_ble_eq_true rfl⟩ rfl (Nat.le_of_ble_eq_true rfl) dX10_init_61 (fun M16 h16 => ?_)
  obtain ⟨f16, rfl, s16, o16, p16⟩ := s14.obj (by omega) (by omega) o15 h16
  have b16 := (o16 0 (by omega)).trans b14
  have x16 := (o16 60 (by omega)).trans x14
  refine C0.aast (r := (RX9, TX9, 8)) s16 (by omega) (by omega) x16 rfl (by omega) ((p16 113 (by omega) (by omega)).trans (cellOf_O worldC_113.1)) rfl (show vp_in (1) 2 from by unfold vp_in; decide) dX10_init_64 (fun f17 s17 x17 o17 => ?_)
  have b17 := (o17 0 (by omega)).trans b16
  refine BT.iinc (j := 0) (v := 2) (L' := [(1, .int 2), (0, .ref 0)]) dX10_init_65 rfl (by decide) (by decide) rfl ?_
  refine BT.goto (tgt := 47) dX10_init_68 (by decide) ?_
  refine BT.iload_n dX10_init_47 rfl 0 rfl ?_
  refine BT.iconst (v := 2) dX10_init_48 (by decide) ?_
  refine BT.icmp_ge (tgt := 71) dX10_init_49 (by decide) (fun _ => ?_) (fun c => absurd (by decide) c)
  refine C0.full (t := 4) (s0 := 61) (d0 := 52) s17 (by omega) (by omega) ha_60 (by decide) x17 (fun i hi => ?_) (fun f18 s18 o18 => ?_)
  · match i, hi with
    | 0, _ => exact congrArg some (show g_b G + 61 = g_b G + (61 + 52 * 0) by omega)
    | 1, _ => exact congrArg some (show g_b G + 113 = g_b G + (61 + 52 * 1) by omega)
    | k + 2, h => exact absurd h (by omega)
  have b18 := (o18 0 (by omega)).trans b17
  refine BT.aload_n dX10_init_71 rfl 1 rfl ?_
  refine BT.iconst (v := 2) dX10_init_72 (by decide) ?_
  refine C0.newz (N1 := 166) (ks1 := 2558) s18 (by omega) rfl rfl ha_165 (by decide) (by decide) (Nat.le_of_ble_eq_true rfl) (Nat.le_of_ble_eq_true rfl) (Nat.le_of_ble_eq_true rfl) dX10_init_73 (fun f19 s19 o19 => ?_)
  have b19 := (o19 0 (by omega)).trans b18
  refine C0.put (fs' := [.ref (g_b G + 1), .ref (g_b G + 3), .ref (g_b G + 8), .ref (g_b G + 60), .ref (g_b G + 165), .null, .null, .null, .null, .null]) s19 fl_X10_34 fk_X10_34 ft_10_4 rfl (by omega) (by omega) b19 (Nat.le_of_ble_eq_true rfl) rfl rfl rfl dX10_init_75 (fun f20 s20 b20 o20 => ?_)
  refine C0.new (N1 := 167) (ks1 := 2560) (ci := 0) (fs := bl_0) rfl rfl cl_X10_38 ins_0 ini_0 inw_0 tyX0_ok rfl bl_0_ok (Nat.le_of_ble_eq_true rfl) (Nat.le_of_ble_eq_true rfl) dX10_init_78 (fun f21 n21 o21 => ?_)
  have b21 := (o21 0 (by omega)).trans b20
  refine BT.dup dX10_init_81 rfl ?_
  refine BT.callIN [] (c_X0_init (f0 := f21) (K := MkP G f21 166 167) n21 (fun M hM => hM)) mb_X0_init rfl mi_X0_init lk_X10_40 ⟨Nat.le_of_ble_eq_true rfl, Nat.le_of_ble_eq_true rfl⟩ ⟨Nat.le_of_ble_eq_true rfl, Nat.le_of_ble_eq_true rfl⟩ rfl (Nat.le_of_ble_eq_true rfl) dX10_init_82 (fun M22 h22 => ?_)
  obtain ⟨f22, rfl, s22, o22, p22⟩ := s20.obj (by omega) (by omega) o21 h22
  have b22 := (o22 0 (by omega)).trans b20
  refine BT.astore_n (L' := [(1, .ref 166), (0, .ref 0)]) dX10_init_85 rfl (by decide) rfl ?_
  refine BT.aload_n dX10_init_86 rfl 1 rfl ?_
  refine C0.new (N1 := 168) (ks1 := 2564) (ci := 2) (fs := bl_2) rfl rfl cl_X10_41 ins_2 ini_2 inw_2 tyX2_ok rfl bl_2_ok (Nat.le_of_ble_eq_true rfl) (Nat.le_of_ble_eq_true rfl) dX10_init_87 (fun f23 n23 o23 => ?_)
  have b23 := (o23 0 (by omega)).trans b22
  refine BT.dup dX10_init_90 rfl ?_
  refine BT.aload_n dX10_init_91 rfl 1 rfl ?_
  refine B0.get (v := .ref 8) fl_X10_26 (by omega) b23 rfl dX10_init_92 ?_
  refine BT.callI [.ref 8] (c_X2_init (f0 := f23) (K := MkP G f23 167 169) n23 (fun M hM => hM)) mb_X2_init rfl mi_X2_init lk_X10_43 ⟨Nat.le_of_ble_eq_true rfl, Nat.le_of_ble_eq_true rfl⟩ ⟨Nat.le_of_ble_eq_true rfl, Nat.le_of_ble_eq_true rfl⟩ rfl (Nat.le_of_ble_eq_true rfl) dX10_init_95 (fun M24 h24 => ?_)
  obtain ⟨f24, rfl, s24, o24, p24⟩ := s22.obj (by omega) (by omega) o23 h24
  have b24 := (o24 0 (by omega)).trans b22
  refine C0.put (fs' := [.ref (g_b G + 1), .ref (g_b G + 3), .ref (g_b G + 8), .ref (g_b G + 60), .ref (g_b G + 165), .ref (g_b G + 167), .null, .null, .null, .null]) s24 fl_X10_46 fk_X10_46 ft_10_5 rfl (by omega) (by omega) b24 (Nat.le_of_ble_eq_true rfl) rfl rfl rfl dX10_init_98 (fun f25 s25 b25 o25 => ?_)
  refine BT.aload_n dX10_init_101 rfl 1 rfl ?_
  refine C0.new (N1 := 170) (ks1 := 2579) (ci := 1) (fs := bl_1) rfl rfl cl_X10_50 ins_1 ini_1 inw_1 tyX1_ok rfl bl_1_ok (Nat.le_of_ble_eq_true rfl) (Nat.le_of_ble_eq_true rfl) dX10_init_102 (fun f26 n26 o26 => ?_)
  have b26 := (o26 0 (by omega)).trans b25
  refine BT.dup dX10_init_105 rfl ?_
  refine BT.aload_n dX10_init_106 rfl 1 rfl ?_
  refine B0.get (v := .ref 8) fl_X10_26 (by omega) b26 rfl dX10_init_107 ?_
  refine BT.aload_n dX10_init_110 rfl 1 rfl ?_
  refine B0.get (v := .ref 167) fl_X10_46 (by omega) b26 rfl dX10_init_111 ?_
  refine BT.callI [.ref 8, .ref 167] (c_X1_init (f0 := f26) (K := MkP G f26 169 170) n26 (fun M hM => hM)) mb_X1_init rfl mi_X1_init lk_X10_52 ⟨Nat.le_of_ble_eq_true rfl, Nat.le_of_ble_eq_true rfl⟩ ⟨Nat.le_of_ble_eq_true rfl, Nat.le_of_ble_eq_true rfl⟩ rfl (Nat.le_of_ble_eq_true rfl) dX10_init_114 (fun M27 h27 => ?_)
  obtain ⟨f27, rfl, s27, o27, p27⟩ := s25.obj (by omega) (by omega) o26 h27
  have b27 := (o27 0 (by omega)).trans b25
  refine C0.put (fs' := [.ref (g_b G + 1), .ref (g_b G + 3), .ref (g_b G + 8), .ref (g_b G + 60), .ref (g_b G + 165), .ref (g_b G + 167), .ref (g_b G + 169), .null, .null, .null]) s27 fl_X10_55 fk_X10_55 ft_10_6 rfl (by omega) (by omega) b27 (Nat.le_of_ble_eq_true rfl) rfl rfl rfl dX10_init_117 (fun f28 s28 b28 o28 => ?_)
  refine BT.aload_n dX10_init_120 rfl 1 rfl ?_
  refine C0.new (N1 := 171) (ks1 := 2584) (ci := 7) (fs := bl_7) rfl rfl cl_X10_59 ins_7 ini_7 inw_7 tyX7_ok rfl bl_7_ok (Nat.le_of_ble_eq_true rfl) (Nat.le_of_ble_eq_true rfl) dX10_init_121 (fun f29 n29 o29 => ?_)
  have b29 := (o29 0 (by omega)).trans b28
  refine BT.dup dX10_init_124 rfl ?_
  refine BT.aload_n dX10_init_125 rfl 1 rfl ?_
  refine B0.get (v := .ref 8) fl_X10_26 (by omega) b29 rfl dX10_init_126 ?_
  refine BT.aload_n dX10_init_129 rfl 1 rfl ?_
  refine B0.get (v := .ref 167) fl_X10_46 (by omega) b29 rfl dX10_init_130 ?_
  refine BT.aload_n dX10_init_133 rfl 0 rfl ?_
  refine BT.callI [.ref 8, .ref 167, .ref 166] (c_X7_init (f0 := f29) (K := MkP G f29 170 171) n29 (fun M hM => hM)) mb_X7_init rfl mi_X7_init lk_X10_61 ⟨Nat.le_of_ble_eq_true rfl, Nat.le_of_ble_eq_true rfl⟩ ⟨Nat.le_of_ble_eq_true rfl, Nat.le_of_ble_eq_true rfl⟩ rfl (Nat.le_of_ble_eq_true rfl) dX10_init_134 (fun M30 h30 => ?_)
  obtain ⟨f30, rfl, s30, o30, p30⟩ := s28.obj (by omega) (by omega) o29 h30
  have b30 := (o30 0 (by omega)).trans b28
  refine C0.put (fs' := [.ref (g_b G + 1), .ref (g_b G + 3), .ref (g_b G + 8), .ref (g_b G + 60), .ref (g_b G + 165), .ref (g_b G + 167), .ref (g_b G + 169), .ref (g_b G + 170), .null, .null]) s30 fl_X10_64 fk_X10_64 ft_10_7 rfl (by omega) (by omega) b30 (Nat.le_of_ble_eq_true rfl) rfl rfl rfl dX10_init_137 (fun f31 s31 b31 o31 => ?_)
  refine BT.aload_n dX10_init_140 rfl 1 rfl ?_
  refine C0.new (N1 := 172) (ks1 := 2591) (ci := 4) (fs := bl_4) rfl rfl cl_X10_68 ins_4 ini_4 inw_4 tyX4_ok rfl bl_4_ok (Nat.le_of_ble_eq_true rfl) (Nat.le_of_ble_eq_true rfl) dX10_init_141 (fun f32 n32 o32 => ?_)
  have b32 := (o32 0 (by omega)).trans b31
  refine BT.dup dX10_init_144 rfl ?_
  refine BT.aload_n dX10_init_145 rfl 1 rfl ?_
  refine B0.get (v := .ref 8) fl_X10_26 (by omega) b32 rfl dX10_init_146 ?_
  refine BT.aload_n dX10_init_149 rfl 1 rfl ?_
  refine B0.get (v := .ref 167) fl_X10_46 (by omega) b32 rfl dX10_init_150 ?_
  refine BT.callI [.ref 8, .ref 167] (c_X4_init (f0 := f32) (K := MkP G f32 171 173) n32 (fun M hM => hM)) mb_X4_init rfl mi_X4_init lk_X10_70 ⟨Nat.le_of_ble_eq_true rfl, Nat.le_of_ble_eq_true rfl⟩ ⟨Nat.le_of_ble_eq_true rfl, Nat.le_of_ble_eq_true rfl⟩ rfl (Nat.le_of_ble_eq_true rfl) dX10_init_153 (fun M33 h33 => ?_)
  obtain ⟨f33, rfl, s33, o33, p33⟩ := s31.obj (by omega) (by omega) o32 h33
  have b33 := (o33 0 (by omega)).trans b31
  refine C0.put (fs' := [.ref (g_b G + 1), .ref (g_b G + 3), .ref (g_b G + 8), .ref (g_b G + 60), .ref (g_b G + 165), .ref (g_b G + 167), .ref (g_b G + 169), .ref (g_b G + 170), .ref (g_b G + 171), .null]) s33 fl_X10_71 fk_X10_71 ft_10_8 rfl (by omega) (by omega) b33 (Nat.le_of_ble_eq_true rfl) rfl rfl rfl dX10_init_156 (fun f34 s34 b34 o34 => ?_)
  refine BT.aload_n dX10_init_159 rfl 1 rfl ?_
  refine C0.new (N1 := 174) (ks1 := 2603) (ci := 8) (fs := bl_8) rfl rfl cl_X10_75 ins_8 ini_8 inw_8 tyX8_ok rfl bl_8_ok (Nat.le_of_ble_eq_true rfl) (Nat.le_of_ble_eq_true rfl) dX10_init_160 (fun f35 n35 o35 => ?_)
  have b35 := (o35 0 (by omega)).trans b34
  refine BT.dup dX10_init_163 rfl ?_
  refine BT.aload_n dX10_init_164 rfl 1 rfl ?_
  refine B0.get (v := .ref 8) fl_X10_26 (by omega) b35 rfl dX10_init_165 ?_
  refine BT.aload_n dX10_init_168 rfl 1 rfl ?_
  refine B0.get (v := .ref 167) fl_X10_46 (by omega) b35 rfl dX10_init_169 ?_
  refine BT.aload_n dX10_init_172 rfl 0 rfl ?_
  refine BT.callI [.ref 8, .ref 167, .ref 166] (c_X8_init (f0 := f35) (K := MkP G f35 173 175) n35 (fun M hM => hM)) mb_X8_init rfl mi_X8_init lk_X10_77 ⟨Nat.le_of_ble_eq_true rfl, Nat.le_of_ble_eq_true rfl⟩ ⟨Nat.le_of_ble_eq_true rfl, Nat.le_of_ble_eq_true rfl⟩ rfl (Nat.le_of_ble_eq_true rfl) dX10_init_173 (fun M36 h36 => ?_)
  obtain ⟨f36, rfl, s36, o36, p36⟩ := s34.obj (by omega) (by omega) o35 h36
  have b36 := (o36 0 (by omega)).trans b34
  refine C0.put (fs' := [.ref (g_b G + 1), .ref (g_b G + 3), .ref (g_b G + 8), .ref (g_b G + 60), .ref (g_b G + 165), .ref (g_b G + 167), .ref (g_b G + 169), .ref (g_b G + 170), .ref (g_b G + 171), .ref (g_b G + 173)]) s36 fl_X10_78 fk_X10_78 ft_10_9 rfl (by omega) (by omega) b36 (Nat.le_of_ble_eq_true rfl) rfl rfl rfl dX10_init_176 (fun f37 s37 b37 o37 => ?_)
  exact BT.vret dX10_init_179 rfl (Nat.le_of_ble_eq_true rfl) (Nat.le_of_ble_eq_true rfl) (h _ (s37.fin (b37.trans (cellOf_R (G := G) (M := MZ) ho_0).symm)))
set_option maxHeartbeats 4000000 in
theorem c_X11_init {G : GT} {K : Int32 → M0T → Prop} {f0 : Nat → va_E} (b0 : f0 175 = .inr (11, bl_11)) (h : ∀ f, Cst G f0 175 175 199 f → f 175 = cellOf G (m_i MZ 175 20 (-6)) 175 → K 0 (199, f)) : MT G (R0 G) yX11_init cX11_init 1 none rn_X11 [.ref 175] (176, f0) K := by
  refine MT.of (own := RX11) (nm := "<init>") (by decide +kernel) rfl rfl (Nat.le_of_ble_eq_true rfl) rfl ?_
  have s0 : Cst G f0 175 175 176 f0 := Cst.start
  refine BT.aload_n dX11_init_0 rfl 0 rfl ?_
  refine BT.objInit lk_X11_1 oi_1 oi_2 (Nat.le_of_ble_eq_true rfl) dX11_init_1 (by decide) (by decide) ?_
  refine BT.aload_n dX11_init_4 rfl 0 rfl ?_
  refine BT.bipush (v := 60) dX11_init_5 (by decide) ?_
  refine C0.newi (N1 := 177) (ks1 := 60) s0 (by omega) rfl rfl ha_176 (by decide) (by decide) (Nat.le_of_ble_eq_true rfl) (Nat.le_of_ble_eq_true rfl) (Nat.le_of_ble_eq_true rfl) dX11_init_7 (fun f1 s1 o1 => ?_)
  have b1 := (o1 175 (by omega)).trans b0
  refine C0.put (fs' := [.ref (g_b G + 176), .int 0, .int 0, .int 0, .int 0, .int 0, .null, .null, .null, .null, .null, .null, .null, .null, .null, .null, .null, .null, .int 0, .int 0, .int 0, .null, .null, .null, .null, .null, .int 0, .int 0, .int 0, .int 0, .int 0, .null, .int 0, .int 0, .int 0, .int 0, .null, .null, .null, .null, .int 0, .int 0]) s1 fl_X11_7 fk_X11_7 ft_11_0 rfl (by omega) (by omega) b1 (Nat.le_of_ble_eq_true rfl) rfl rfl rfl dX11_init_9 (fun f2 s2 b2 o2 => ?_)
  refine BT.aload_n dX11_init_12 rfl 0 rfl ?_
  refine BT.bipush (v := 8) dX11_init_13 (by decide) ?_
  refine C0.newi (N1 := 178) (ks1 := 68) s2 (by omega) rfl rfl ha_177 (by decide) (by decide) (Nat.le_of_ble_eq_true rfl) (Nat.le_of_ble_eq_true rfl) (Nat.le_of_ble_eq_true rfl) dX11_init_15 (fun f3 s3 o3 => ?_)
  have b3 := (o3 175 (by omega)).trans b2
  refine C0.put (fs' := [.ref (g_b G + 176), .int 0, .int 0, .int 0, .int 0, .int 0, .ref (g_b G + 177), .null, .null, .null, .null, .null, .null, .null, .null, .null, .null, .null, .int 0, .int 0, .int 0, .null, .null, .null, .null, .null, .int 0, .int 0, .int 0, .int 0, .int 0, .null, .int 0, .int 0, .int 0, .int 0, .null, .null, .null, .null, .int 0, .int 0]) s3 fl_X11_13 fk_X11_13 ft_11_6 rfl (by omega) (by omega) b3 (Nat.le_of_ble_eq_true rfl) rfl rfl rfl dX11_init_17 (fun f4 s4 b4 o4 => ?_)
  refine BT.aload_n dX11_init_20 rfl 0 rfl ?_
  refine BT.bipush (v := 8) dX11_init_21 (by decide) ?_
  refine C0.newi (N1 := 179) (ks1 := 76) s4 (by omega) rfl rfl ha_178 (by decide) (by decide) (Nat.le_of_ble_eq_true rfl) (Nat.le_of_ble_eq_true rfl) (Nat.le_of_ble_eq_true rfl) dX11_init_23 (fun f5 s5 o5 => ?_)
  have b5 := (o5 175 (by omega)).trans b4
  refine C0.put (fs' := [.ref (g_b G + 176), .int 0, .int 0, .int 0, .int 0, .int 0, .ref (g_b G + 177), .ref (g_b G + 178), .null, .null, .null, .null, .null, .null, .null, .null, .null, .null, .int 0, .int 0, .int 0, .null, .null, .null, .null, .null, .int 0, .int 0, .int 0, .int 0, .int 0, .null, .int 0, .int 0, .int 0, .int 0, .null, .null, .null, .null, .int 0, .int 0]) s5 fl_X11_16 fk_X11_16 ft_11_7 rfl (by omega) (by omega) b5 (Nat.le_of_ble_eq_true rfl) rfl rfl rfl dX11_init_25 (fun f6 s6 b6 o6 => ?_)
  refine BT.aload_n dX11_init_28 rfl 0 rfl ?_
  refine BT.bipush (v := 8) dX11_init_29 (by decide) ?_
  refine C0.newi (N1 := 180) (ks1 := 84) s6 (by omega) rfl rfl ha_179 (by decide) (by decide) (Nat.le_of_ble_eq_true rfl) (Nat.le_of_ble_eq_true rfl) (Nat.le_of_ble_eq_true rfl) dX11_init_31 (fun f7 s7 o7 => ?_)
  have b7 := (o7 175 (by omega)).trans b6
  refine C0.put (fs' := [.ref (g_b G + 176), .int 0, .int 0, .int 0, .int 0, .int 0, .ref (g_b G + 177), .ref (g_b G + 178), .ref (g_b G + 179), .null, .null, .null, .null, .null, .null, .null, .null, .null, .int 0, .int 0, .int 0, .null, .null, .null, .null, .null, .int 0, .int 0, .int 0, .int 0, .int 0, .null, .int 0, .int 0, .int 0, .int 0, .null, .null, .null, .null, .int 0, .int 0]) s7 fl_X11_19 fk_X11_19 ft_11_8 rfl (by omega) (by omega) b7 (Nat.le_of_ble_eq_true rfl) rfl rfl rfl dX11_init_33 (fun f8 s8 b8 o8 => ?_)
  refine BT.aload_n dX11_init_36 rfl 0 rfl ?_
  refine BT.bipush (v := 48) dX11_init_37 (by decide) ?_
  refine C0.newi (N1 := 181) (ks1 := 132) s8 (by omega) rfl rfl ha_180 (by decide) (by decide) (Nat.le_of_ble_eq_true rfl) (Nat.le_of_ble_eq_true rfl) (Nat.le_of_ble_eq_true rfl) dX11_init_39 (fun f9 s9 o9 => ?_)
  have b9 := (o9 175 (by omega)).trans b8
  refine C0.put (fs' := [.ref (g_b G + 176), .int 0, .int 0, .int 0, .int 0, .int 0, .ref (g_b G + 177), .ref (g_b G + 178), .ref (g_b G + 179), .ref (g_b G + 180), .null, .null, .null, .null, .null, .null, .null, .null, .int 0, .int 0, .int 0, .null, .null, .null, .null, .null, .int 0, .int 0, .int 0, .int 0, .int 0, .null, .int 0, .int 0, .int 0, .int 0, .null, .null, .null, .null, .int 0, .int 0]) s9 fl_X11_22 fk_X11_22 ft_11_9 rfl (by omega) (by omega) b9 (Nat.le_of_ble_eq_true rfl) rfl rfl rfl dX11_init_41 (fun f10 s10 b10 o10 => ?_)
  refine BT.aload_n dX11_init_44 rfl 0 rfl ?_
  refine BT.bipush (v := 48) dX11_init_45 (by decide) ?_
  refine C0.newi (N1 := 182) (ks1 := 180) s10 (by omega) rfl rfl ha_181 (by decide) (by decide) (Nat.le_of_ble_eq_true rfl) (Nat.le_of_ble_eq_true rfl) (Nat.le_of_ble_eq_true rfl) dX11_init_47 (fun f11 s11 o11 => ?_)
  have b11 := (o11 175 (by omega)).trans b10
  refine C0.put (fs' := [.ref (g_b G + 176), .int 0, .int 0, .int 0, .int 0, .int 0, .ref (g_b G + 177), .ref (g_b G + 178), .ref (g_b G + 179), .ref (g_b G + 180), .ref (g_b G + 181), .null, .null, .null, .null, .null, .null, .null, .int 0, .int 0, .int 0, .null, .null, .null, .null, .null, .int 0, .int 0, .int 0, .int 0, .int 0, .null, .int 0, .int 0, .int 0, .int 0, .null, .null, .null, .null, .int 0, .int 0]) s11 fl_X11_25 fk_X11_25 ft_11_10 rfl (by omega) (by omega) b11 (Nat.le_of_ble_eq_true rfl) rfl rfl rfl dX11_init_49 (fun f12 s12 b12 o12 => ?_)
  refine BT.aload_n dX11_init_52 rfl 0 rfl ?_
  refine BT.bipush (v := 8) dX11_init_53 (by decide) ?_
  refine C0.newi (N1 := 183) (ks1 := 188) s12 (by omega) rfl rfl ha_182 (by decide) (by decide) (Nat.le_of_ble_eq_true rfl) (Nat.le_of_ble_eq_true rfl) (Nat.le_of_ble_eq_true rfl) dX11_init_55 (fun f13 s13 o13 => ?_)
  have b13 := (o13 175 (by omega)).trans b12
  refine C0.put (fs' := [.ref (g_b G + 176), .int 0, .int 0, .int 0, .int 0, .int 0, .ref (g_b G + 177), .ref (g_b G + 178), .ref (g_b G + 179), .ref (g_b G + 180), .ref (g_b G + 181), .ref (g_b G + 182), .null, .null, .null, .null, .null, .null, .int 0, .int 0, .int 0, .null, .null, .null, .null, .null, .int 0, .int 0, .int 0, .int 0, .int 0, .null, .int 0, .int 0, .int 0, .int 0, .null, .null, .null, .null, .int 0, .int 0]) s13 fl_X11_28 fk_X11_28 ft_11_11 rfl (by omega) (by omega) b13 (Nat.le_of_ble_eq_true rfl) rfl rfl rfl dX11_init_57 (fun f14 s14 b14 o14 => ?_)
  refine BT.aload_n dX11_init_60 rfl 0 rfl ?_
  refine BT.bipush (v := 8) dX11_init_61 (by decide) ?_
  refine C0.newi (N1 := 184) (ks1 := 196) s14 (by omega) rfl rfl ha_183 (by decide) (by decide) (Nat.le_of_ble_eq_true rfl) (Nat.le_of_ble_eq_true rfl) (Nat.le_of_ble_eq_true rfl) dX11_init_63 (fun f15 s15 o15 => ?_)
  have b15 := (o15 175 (by omega)).trans b14
  refine C0.put (fs' := [.ref (g_b G + 176), .int 0, .int 0, .int 0, .int 0, .int 0, .ref (g_b G + 177), .ref (g_b G + 178), .ref (g_b G + 179), .ref (g_b G + 180), .ref (g_b G + 181), .ref (g_b G + 182), .ref (g_b G + 183), .null, .null, .null, .null, .null, .int 0, .int 0, .int 0, .null, .null, .null, .null, .null, .int 0, .int 0, .int 0, .int 0, .int 0, .null, .int 0, .int 0, .int 0, .int 0, .null, .null, .null, .null, .int 0, .int 0]) s15 fl_X11_31 fk_X11_31 ft_11_12 rfl (by omega) (by omega) b15 (Nat.le_of_ble_eq_true rfl) rfl rfl rfl dX11_init_65 (fun f16 s16 b16 o16 => ?_)
  refine BT.aload_n dX11_init_68 rfl 0 rfl ?_
  refine BT.bipush (v := 8) dX11_init_69 (by decide) ?_
  refine C0.newi (N1 := 185) (ks1 := 204) s16 (by omega) rfl rfl ha_184 (by decide) (by decide) (Nat.le_of_ble_eq_true rfl) (Nat.le_of_ble_eq_true rfl) (Nat.le_of_ble_eq_true rfl) dX11_init_71 (fun f17 s17 o17 => ?_)
  have b17 := (o17 175 (by omega)).trans b16
  refine C0.put (fs' := [.ref (g_b G + 176), .int 0, .int 0, .int 0, .int 0, .int 0, .ref (g_b G + 177), .ref (g_b G + 178), .ref (g_b G + 179), .ref (g_b G + 180), .ref (g_b G + 181), .ref (g_b G + 182), .ref (g_b G + 183), .ref (g_b G + 184), .null, .null, .null, .null, .int 0, .int 0, .int 0, .null, .null, .null, .null, .null, .int 0, .int 0, .int 0, .int 0, .int 0, .null, .int 0, .int 0, .int 0, .int 0, .null, .null, .null, .null, .int 0, .int 0]) s17 fl_X11_34 fk_X11_34 ft_11_13 rfl (by omega) (by omega) b17 (Nat.le_of_ble_eq_true rfl) rfl rfl rfl dX11_init_73 (fun f18 s18 b18 o18 => ?_)
  refine BT.aload_n dX11_init_76 rfl 0 rfl ?_
  refine BT.bipush (v := 8) dX11_init_77 (by decide) ?_
  refine C0.newi (N1 := 186) (ks1 := 212) s18 (by omega) rfl rfl ha_185 (by decide) (by decide) (Nat.le_of_ble_eq_true rfl) (Nat.le_of_ble_eq_true rfl) (Nat.le_of_ble_eq_true rfl) dX11_init_79 (fun f19 s19 o19 => ?_)
  have b19 := (o19 175 (by omega)).trans b18
  refine C0.put (fs' := [.ref (g_b G + 176), .int 0, .int 0, .int 0, .int 0, .int 0, .ref (g_b G + 177), .ref (g_b G + 178), .ref (g_b G + 179), .ref (g_b G + 180), .ref (g_b G + 181), .ref (g_b G + 182), .ref (g_b G + 183), .ref (g_b G + 184), .ref (g_b G + 185), .null, .null, .null, .int 0, .int 0, .int 0, .null, .null, .null, .null, .null, .int 0, .int 0, .int 0, .int 0, .int 0, .null, .int 0, .int 0, .int 0, .int 0, .null, .null, .null, .null, .int 0, .int 0]) s19 fl_X11_37 fk_X11_37 ft_11_14 rfl (by omega) (by omega) b19 (Nat.le_of_ble_eq_true rfl) rfl rfl rfl dX11_init_81 (fun f20 s20 b20 o20 => ?_)
  refine BT.aload_n dX11_init_84 rfl 0 rfl ?_
  refine BT.bipush (v := 8) dX11_init_85 (by decide) ?_
  refine C0.newi (N1 := 187) (ks1 := 220) s20 (by omega) rfl rfl ha_186 (by decide) (by decide) (Nat.le_of_ble_eq_true rfl) (Nat.le_of_ble_eq_true rfl) (Nat.le_of_ble_eq_true rfl) dX11_init_87 (fun f21 s21 o21 => ?_)
  have b21 := (o21 175 (by omega)).trans b20
  refine C0.put (fs' := [.ref (g_b G + 176), .int 0, .int 0, .int 0, .int 0, .int 0, .ref (g_b G + 177), .ref (g_b G + 178), .ref (g_b G + 179), .ref (g_b G + 180), .ref (g_b G + 181), .ref (g_b G + 182), .ref (g_b G + 183), .ref (g_b G + 184), .ref (g_b G + 185), .ref (g_b G + 186), .null, .null, .int 0, .int 0, .int 0, .null, .null, .null, .null, .null, .int 0, .int 0, .int 0, .int 0, .int 0, .null, .int 0, .int 0, .int 0, .int 0, .null, .null, .null, .null, .int 0, .int 0]) s21 fl_X11_40 fk_X11_40 ft_11_15 rfl (by omega) (by omega) b21 (Nat.le_of_ble_eq_true rfl) rfl rfl rfl dX11_init_89 (fun f22 s22 b22 o22 => ?_)
  refine BT.aload_n dX11_init_92 rfl 0 rfl ?_
  refine BT.bipush (v := 8) dX11_init_93 (by decide) ?_
  refine C0.newi (N1 := 188) (ks1 := 228) s22 (by omega) rfl rfl ha_187 (by decide) (by decide) (Nat.le_of_ble_eq_true rfl) (Nat.le_of_ble_eq_true rfl) (Nat.le_of_ble_eq_true rfl) dX11_init_95 (fun f23 s23 o23 => ?_)
  have b23 := (o23 175 (by omega)).trans b22
  refine C0.put (fs' := [.ref (g_b G + 176), .int 0, .int 0, .int 0, .int 0, .int 0, .ref (g_b G + 177), .ref (g_b G + 178), .ref (g_b G + 179), .ref (g_b G + 180), .ref (g_b G + 181), .ref (g_b G + 182), .ref (g_b G + 183), .ref (g_b G + 184), .ref (g_b G + 185), .ref (g_b G + 186), .ref (g_b G + 187), .null, .int 0, .int 0, .int 0, .null, .null, .null, .null, .null, .int 0, .int 0, .int 0, .int 0, .int 0, .null, .int 0, .int 0, .int 0, .int 0, .null, .null, .null, .null, .int 0, .int 0]) s23 fl_X11_43 fk_X11_43 ft_11_16 rfl (by omega) (by omega) b23 (Nat.le_of_ble_eq_true rfl) rfl rfl rfl dX11_init_97 (fun f24 s24 b24 o24 => ?_)
  refine BT.aload_n dX11_init_100 rfl 0 rfl ?_
  refine BT.bipush (v := 8) dX11_init_101 (by decide) ?_
  refine C0.newi (N1 := 189) (ks1 := 236) s24 (by omega) rfl rfl ha_188 (by decide) (by decide) (Nat.le_of_ble_eq_true rfl) (Nat.le_of_ble_eq_true rfl) (Nat.le_of_ble_eq_true rfl) dX11_init_103 (fun f25 s25 o25 => ?_)
  have b25 := (o25 175 (by omega)).trans b24
  refine C0.put (fs' := [.ref (g_b G + 176), .int 0, .int 0, .int 0, .int 0, .int 0, .ref (g_b G + 177), .ref (g_b G + 178), .ref (g_b G + 179), .ref (g_b G + 180), .ref (g_b G + 181), .ref (g_b G + 182), .ref (g_b G + 183), .ref (g_b G + 184), .ref (g_b G + 185), .ref (g_b G + 186), .ref (g_b G + 187), .ref (g_b G + 188), .int 0, .int 0, .int 0, .null, .null, .null, .null, .null, .int 0, .int 0, .int 0, .int 0, .int 0, .null, .int 0, .int 0, .int 0, .int 0, .null, .null, .null, .null, .int 0, .int 0]) s25 fl_X11_46 fk_X11_46 ft_11_17 rfl (by omega) (by omega) b25 (Nat.le_of_ble_eq_true rfl) rfl rfl rfl dX11_init_105 (fun f26 s26 b26 o26 => ?_)
  refine BT.aload_n dX11_init_108 rfl 0 rfl ?_
  refine BT.bipush (v := (-6)) dX11_init_109 (by decide) ?_
  refine C0.put (fs' := [.ref (g_b G + 176), .int 0, .int 0, .int 0, .int 0, .int 0, .ref (g_b G + 177), .ref (g_b G + 178), .ref (g_b G + 179), .ref (g_b G + 180), .ref (g_b G + 181), .ref (g_b G + 182), .ref (g_b G + 183), .ref (g_b G + 184), .ref (g_b G + 185), .ref (g_b G + 186), .ref (g_b G + 187), .ref (g_b G + 188), .int 0, .int 0, .int (-6), .null, .null, .null, .null, .null, .int 0, .int 0, .int 0, .int 0, .int 0, .null, .int 0, .int 0, .int 0, .int 0, .null, .null, .null, .null, .int 0, .int 0]) s26 fl_X11_49 fk_X11_49 ft_11_20 rfl (by omega) (by omega) b26 (Nat.le_of_ble_eq_true rfl) rfl rfl rfl dX11_init_111 (fun f27 s27 b27 o27 => ?_)
  refine BT.aload_n dX11_init_114 rfl 0 rfl ?_
  refine BT.bipush (v := 9) dX11_init_115 (by decide) ?_
  refine C0.newi (N1 := 190) (ks1 := 245) s27 (by omega) rfl rfl ha_189 (by decide) (by decide) (Nat.le_of_ble_eq_true rfl) (Nat.le_of_ble_eq_true rfl) (Nat.le_of_ble_eq_true rfl) dX11_init_117 (fun f28 s28 o28 => ?_)
  have b28 := (o28 175 (by omega)).trans b27
  refine C0.put (fs' := [.ref (g_b G + 176), .int 0, .int 0, .int 0, .int 0, .int 0, .ref (g_b G + 177), .ref (g_b G + 178), .ref (g_b G + 179), .ref (g_b G + 180), .ref (g_b G + 181), .ref (g_b G + 182), .ref (g_b G + 183), .ref (g_b G + 184), .ref (g_b G + 185), .ref (g_b G + 186), .ref (g_b G + 187), .ref (g_b G + 188), .int 0, .int 0, .int (-6), .ref (g_b G + 189), .null, .null, .null, .null, .int 0, .int 0, .int 0, .int 0, .int 0, .null, .int 0, .int 0, .int 0, .int 0, .null, .null, .null, .null, .int 0, .int 0]) s28 fl_X11_53 fk_X11_53 ft_11_21 rfl (by omega) (by omega) b28 (Nat.le_of_ble_eq_true rfl) rfl rfl rfl dX11_init_119 (fun f29 s29 b29 o29 => ?_)
  refine BT.aload_n dX11_init_122 rfl 0 rfl ?_
  refine BT.bipush (v := 9) dX11_init_123 (by decide) ?_
  refine C0.newi (N1 := 191) (ks1 := 254) s29 (by omega) rfl rfl ha_190 (by decide) (by decide) (Nat.le_of_ble_eq_true rfl) (Nat.le_of_ble_eq_true rfl) (Nat.le_of_ble_eq_true rfl) dX11_init_125 (fun f30 s30 o30 => ?_)
  have b30 := (o30 175 (by omega)).trans b29
  refine C0.put (fs' := [.ref (g_b G + 176), .int 0, .int 0, .int 0, .int 0, .int 0, .ref (g_b G + 177), .ref (g_b G + 178), .ref (g_b G + 179), .ref (g_b G + 180), .ref (g_b G + 181), .ref (g_b G + 182), .ref (g_b G + 183), .ref (g_b G + 184), .ref (g_b G + 185), .ref (g_b G + 186), .ref (g_b G + 187), .ref (g_b G + 188), .int 0, .int 0, .int (-6), .ref (g_b G + 189), .ref (g_b G + 190), .null, .null, .null, .int 0, .int 0, .int 0, .int 0, .int 0, .null, .int 0, .int 0, .int 0, .int 0, .null, .null, .null, .null, .int 0, .int 0]) s30 fl_X11_56 fk_X11_56 ft_11_22 rfl (by omega) (by omega) b30 (Nat.le_of_ble_eq_true rfl) rfl rfl rfl dX11_init_127 (fun f31 s31 b31 o31 => ?_)
  refine BT.aload_n dX11_init_130 rfl 0 rfl ?_
  refine BT.bipush (v := 9) dX11_init_131 (by decide) ?_
  refine C0.newi (N1 := 192) (ks1 := 263) s31 (by omega) rfl rfl ha_191 (by decide) (by decide) (Nat.le_of_ble_eq_true rfl) (Nat.le_of_ble_eq_true rfl) (Nat.le_of_ble_eq_true rfl) dX11_init_133 (fun f32 s32 o32 => ?_)
  have b32 := (o32 175 (by omega)).trans b31
  refine C0.put (fs' := [.ref (g_b G + 176), .int 0, .int 0, .int 0, .int 0, .int 0, .ref (g_b G + 177), .ref (g_b G + 178), .ref (g_b G + 179), .ref (g_b G + 180), .ref (g_b G + 181), .ref (g_b G + 182), .ref (g_b G + 183), .ref (g_b G + 184), .ref (g_b G + 185), .ref (g_b G + 186), .ref (g_b G + 187), .ref (g_b G + 188), .int 0, .int 0, .int (-6), .ref (g_b G + 189), .ref (g_b G + 190), .ref (g_b G + 191), .null, .null, .int 0, .int 0, .int 0, .int 0, .int 0, .null, .int 0, .int 0, .int 0, .int 0, .null, .null, .null, .null, .int 0, .int 0]) s32 fl_X11_59 fk_X11_59 ft_11_23 rfl (by omega) (by omega) b32 (Nat.le_of_ble_eq_true rfl) rfl rfl rfl dX11_init_135 (fun f33 s33 b33 o33 => ?_)
  refine BT.aload_n dX11_init_138 rfl 0 rfl ?_
  refine BT.bipush (v := 9) dX11_init_139 (by decide) ?_
  refine C0.newi (N1 := 193) (ks1 := 272) s33 (by omega) rfl rfl ha_192 (by decide) (by decide) (Nat.le_of_ble_eq_true rfl) (Nat.le_of_ble_eq_true rfl) (Nat.le_of_ble_eq_true rfl) dX11_init_141 (fun f34 s34 o34 => ?_)
  have b34 := (o34 175 (by omega)).trans b33
  refine C0.put (fs' := [.ref (g_b G + 176), .int 0, .int 0, .int 0, .int 0, .int 0, .ref (g_b G + 177), .ref (g_b G + 178), .ref (g_b G + 179), .ref (g_b G + 180), .ref (g_b G + 181), .ref (g_b G + 182), .ref (g_b G + 183), .ref (g_b G + 184), .ref (g_b G + 185), .ref (g_b G + 186), .ref (g_b G + 187), .ref (g_b G + 188), .int 0, .int 0, .int (-6), .ref (g_b G + 189), .ref (g_b G + 190), .ref (g_b G + 191), .ref (g_b G + 192), .null, .int 0, .int 0, .int 0, .int 0, .int 0, .null, .int 0, .int 0, .int 0, .int 0, .null, .null, .null, .null, .int 0, .int 0]) s34 fl_X11_62 fk_X11_62 ft_11_24 rfl (by omega) (by omega) b34 (Nat.le_of_ble_eq_true rfl) rfl rfl rfl dX11_init_143 (fun f35 s35 b35 o35 => ?_)
  refine BT.aload_n dX11_init_146 rfl 0 rfl ?_
  refine BT.bipush (v := 9) dX11_init_147 (by decide) ?_
  refine C0.newi (N1 := 194) (ks1 := 281) s35 (by omega) rfl rfl ha_193 (by decide) (by decide) (Nat.le_of_ble_eq_true rfl) (Nat.le_of_ble_eq_true rfl) (Nat.le_of_ble_eq_true rfl) dX11_init_149 (fun f36 s36 o36 => ?_)
  have b36 := (o36 175 (by omega)).trans b35
  refine C0.put (fs' := [.ref (g_b G + 176), .int 0, .int 0, .int 0, .int 0, .int 0, .ref (g_b G + 177), .ref (g_b G + 178), .ref (g_b G + 179), .ref (g_b G + 180), .ref (g_b G + 181), .ref (g_b G + 182), .ref (g_b G + 183), .ref (g_b G + 184), .ref (g_b G + 185), .ref (g_b G + 186), .ref (g_b G + 187), .ref (g_b G + 188), .int 0, .int 0, .int (-6), .ref (g_b G + 189), .ref (g_b G + 190), .ref (g_b G + 191), .ref (g_b G + 192), .ref (g_b G + 193), .int 0, .int 0, .int 0, .int 0, .int 0, .null, .int 0, .int 0, .int 0, .int 0, .null, .null, .null, .null, .int 0, .int 0]) s36 fl_X11_65 fk_X11_65 ft_11_25 rfl (by omega) (by omega) b36 (Nat.le_of_ble_eq_true rfl) rfl rfl rfl dX11_init_151 (fun f37 s37 b37 o37 => ?_)
  refine BT.aload_n dX11_init_154 rfl 0 rfl ?_
  refine BT.bipush (v := 8) dX11_init_155 (by decide) ?_
  refine C0.newi (N1 := 195) (ks1 := 289) s37 (by omega) rfl rfl ha_194 (by decide) (by decide) (Nat.le_of_ble_eq_true rfl) (Nat.le_of_ble_eq_true rfl) (Nat.le_of_ble_eq_true rfl) dX11_init_157 (fun f38 s38 o38 => ?_)
  have b38 := (o38 175 (by omega)).trans b37
  refine C0.put (fs' := [.ref (g_b G + 176), .int 0, .int 0, .int 0, .int 0, .int 0, .ref (g_b G + 177), .ref (g_b G + 178), .ref (g_b G + 179), .ref (g_b G + 180), .ref (g_b G + 181), .ref (g_b G + 182), .ref (g_b G + 183), .ref (g_b G + 184), .ref (g_b G + 185), .ref (g_b G + 186), .ref (g_b G + 187), .ref (g_b G + 188), .int 0, .int 0, .int (-6), .ref (g_b G + 189), .ref (g_b G + 190), .ref (g_b G + 191), .ref (g_b G + 192), .ref (g_b G + 193), .int 0, .int 0, .int 0, .int 0, .int 0, .ref (g_b G + 194), .int 0, .int 0, .int 0, .int 0, .null, .null, .null, .null, .int 0, .int 0]) s38 fl_X11_68 fk_X11_68 ft_11_31 rfl (by omega) (by omega) b38 (Nat.le_of_ble_eq_true rfl) rfl rfl rfl dX11_init_159 (fun f39 s39 b39 o39 => ?_)
  refine BT.aload_n dX11_init_162 rfl 0 rfl ?_
  refine BT.bipush (v := 102) dX11_init_163 (by decide) ?_
  refine C0.newz (N1 := 196) (ks1 := 391) s39 (by omega) rfl rfl ha_195 (by decide) (by decide) (Nat.le_of_ble_eq_true rfl) (Nat.le_of_ble_eq_true rfl) (Nat.le_of_ble_eq_true rfl) dX11_init_165 (fun f40 s40 o40 => ?_)
  have b40 := (o40 175 (by omega)).trans b39
  refine C0.put (fs' := [.ref (g_b G + 176), .int 0, .int 0, .int 0, .int 0, .int 0, .ref (g_b G + 177), .ref (g_b G + 178), .ref (g_b G + 179), .ref (g_b G + 180), .ref (g_b G + 181), .ref (g_b G + 182), .ref (g_b G + 183), .ref (g_b G + 184), .ref (g_b G + 185), .ref (g_b G + 186), .ref (g_b G + 187), .ref (g_b G + 188), .int 0, .int 0, .int (-6), .ref (g_b G + 189), .ref (g_b G + 190), .ref (g_b G + 191), .ref (g_b G + 192), .ref (g_b G + 193), .int 0, .int 0, .int 0, .int 0, .int 0, .ref (g_b G + 194), .int 0, .int 0, .int 0, .int 0, .ref (g_b G + 195), .null, .null, .null, .int 0, .int 0]) s40 fl_X11_71 fk_X11_71 ft_11_36 rfl (by omega) (by omega) b40 (Nat.le_of_ble_eq_true rfl) rfl rfl rfl dX11_init_167 (fun f41 s41 b41 o41 => ?_)
  refine BT.aload_n dX11_init_170 rfl 0 rfl ?_
  refine BT.bipush (v := 8) dX11_init_171 (by decide) ?_
  refine C0.newi (N1 := 197) (ks1 := 399) s41 (by omega) rfl rfl ha_196 (by decide) (by decide) (Nat.le_of_ble_eq_true rfl) (Nat.le_of_ble_eq_true rfl) (Nat.le_of_ble_eq_true rfl) dX11_init_173 (fun f42 s42 o42 => ?_)
  have b42 := (o42 175 (by omega)).trans b41
  refine C0.put (fs' := [.ref (g_b G + 176), .int 0, .int 0, .int 0, .int 0, .int 0, .ref (g_b G + 177), .ref (g_b G + 178), .ref (g_b G + 179), .ref (g_b G + 180), .ref (g_b G + 181), .ref (g_b G + 182), .ref (g_b G + 183), .ref (g_b G + 184), .ref (g_b G + 185), .ref (g_b G + 186), .ref (g_b G + 187), .ref (g_b G + 188), .int 0, .int 0, .int (-6), .ref (g_b G + 189), .ref (g_b G + 190), .ref (g_b G + 191), .ref (g_b G + 192), .ref (g_b G + 193), .int 0, .int 0, .int 0, .int 0, .int 0, .ref (g_b G + 194), .int 0, .int 0, .int 0, .int 0, .ref (g_b G + 195), .ref (g_b G + 196), .null, .null, .int 0, .int 0]) s42 fl_X11_75 fk_X11_75 ft_11_37 rfl (by omega) (by omega) b42 (Nat.le_of_ble_eq_true rfl) rfl rfl rfl dX11_init_175 (fun f43 s43 b43 o43 => ?_)
  refine BT.aload_n dX11_init_178 rfl 0 rfl ?_
  refine BT.sipush (v := 800) dX11_init_179 (by decide) ?_
  refine C0.newi (N1 := 198) (ks1 := 1199) s43 (by omega) rfl rfl ha_197 (by decide) (by decide) (Nat.le_of_ble_eq_true rfl) (Nat.le_of_ble_eq_true rfl) (Nat.le_of_ble_eq_true rfl) dX11_init_182 (fun f44 s44 o44 => ?_)
  have b44 := (o44 175 (by omega)).trans b43
  refine C0.put (fs' := [.ref (g_b G + 176), .int 0, .int 0, .int 0, .int 0, .int 0, .ref (g_b G + 177), .ref (g_b G + 178), .ref (g_b G + 179), .ref (g_b G + 180), .ref (g_b G + 181), .ref (g_b G + 182), .ref (g_b G + 183), .ref (g_b G + 184), .ref (g_b G + 185), .ref (g_b G + 186), .ref (g_b G + 187), .ref (g_b G + 188), .int 0, .int 0, .int (-6), .ref (g_b G + 189), .ref (g_b G + 190), .ref (g_b G + 191), .ref (g_b G + 192), .ref (g_b G + 193), .int 0, .int 0, .int 0, .int 0, .int 0, .ref (g_b G + 194), .int 0, .int 0, .int 0, .int 0, .ref (g_b G + 195), .ref (g_b G + 196), .ref (g_b G + 197), .null, .int 0, .int 0]) s44 fl_X11_78 fk_X11_78 ft_11_38 rfl (by omega) (by omega) b44 (Nat.le_of_ble_eq_true rfl) rfl rfl rfl dX11_init_184 (fun f45 s45 b45 o45 => ?_)
  refine BT.aload_n dX11_init_187 rfl 0 rfl ?_
  refine BT.iconst (v := 2) dX11_init_188 (by decide) ?_
  refine C0.newz (N1 := 199) (ks1 := 1201) s45 (by omega) rfl rfl ha_198 (by decide) (by decide) (Nat.le_of_ble_eq_true rfl) (Nat.le_of_ble_eq_true rfl) (Nat.le_of_ble_eq_true rfl) dX11_init_189 (fun f46 s46 o46 => ?_)
  have b46 := (o46 175 (by omega)).trans b45
  refine C0.put (fs' := [.ref (g_b G + 176), .int 0, .int 0, .int 0, .int 0, .int 0, .ref (g_b G + 177), .ref (g_b G + 178), .ref (g_b G + 179), .ref (g_b G + 180), .ref (g_b G + 181), .ref (g_b G + 182), .ref (g_b G + 183), .ref (g_b G + 184), .ref (g_b G + 185), .ref (g_b G + 186), .ref (g_b G + 187), .ref (g_b G + 188), .int 0, .int 0, .int (-6), .ref (g_b G + 189), .ref (g_b G + 190), .ref (g_b G + 191), .ref (g_b G + 192), .ref (g_b G + 193), .int 0, .int 0, .int 0, .int 0, .int 0, .ref (g_b G + 194), .int 0, .int 0, .int 0, .int 0, .ref (g_b G + 195), .ref (g_b G + 196), .ref (g_b G + 197), .ref (g_b G + 198), .int 0, .int 0]) s46 fl_X11_81 fk_X11_81 ft_11_39 rfl (by omega) (by omega) b46 (Nat.le_of_ble_eq_true rfl) rfl rfl rfl dX11_init_191 (fun f47 s47 b47 o47 => ?_)
  exact BT.vret dX11_init_194 rfl (Nat.le_of_ble_eq_true rfl) (Nat.le_of_ble_eq_true rfl) (h _ s47 (b47.trans (m_i_setR (G := G) (M := MZ) (k := 20) (v := -6) ho_175 rfl).symm))
