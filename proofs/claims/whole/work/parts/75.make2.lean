/-! ===== worlds, the class, the model ===== -/
set_option maxHeartbeats 4000000 in
theorem c_X9_init {G : GT} {K : Int32 → M0T → Prop} {f0 : Nat → va_E} {w : Nat} (hW : WorldC w) (b0 : f0 w = .inr (9, bl_9)) (h : ∀ M, MkP G f0 w (w + 52) 0 M → K 0 M) : MT G (R0 G) yX9_init cX9_init 2 none rn_X9 [.ref w] (w + 1, f0) K := by
  obtain ⟨hO, hA1, hLw, hA2, hA3, hPw⟩ := hW
  have hL : ∀ j, j < 8 → LawC (w + (2 + 5 * j)) := fun j hj => by
    have := hLw (i := nI j) (vp_in_nI hj (by decide))
    rw [nI_clamp (by omega), Nat.add_assoc] at this
    exact this
  have hP : ∀ j, j < 8 → PieceC (w + (44 + j)) := fun j hj => by
    have := hPw (i := nI j) (vp_in_nI hj (by decide))
    rw [nI_clamp (by omega), Nat.add_assoc] at this
    exact this
  refine MT.of (own := RX9) (nm := "<init>") (by decide +kernel) rfl rfl (Nat.le_of_ble_eq_true rfl) rfl ?_
  have s0 : Cst G f0 w w (w + 1) f0 := Cst.start
  refine BT.aload_n dX9_init_0 rfl 0 rfl ?_
  refine BT.objInit lk_X9_3 oi_1 oi_2 (Nat.le_of_ble_eq_true rfl) dX9_init_1 (by decide) (by decide) ?_
  refine BT.aload_n dX9_init_4 rfl 0 rfl ?_
  refine BT.bipush (v := 8) dX9_init_5 (by decide) ?_
  refine C0.newr (t := 2) (nn := 8) (N1 := w + 2) (ks1 := 8) s0 (by omega) rfl rfl cl_X9_9 ov_Law rfl (by decide) (by decide) (Nat.le_of_ble_eq_true rfl) (Nat.le_of_ble_eq_true rfl) (Nat.le_of_ble_eq_true rfl) dX9_init_7 (fun f1 s1 x1 o1 => ?_)
  have b1 := (o1 w (by omega)).trans b0
  refine C0.put (fs' := [.ref (g_b G + (w + 1)), .int 0, .null, .null, .int 0, .int 0, .int 0, .int 0]) s1 fl_X9_11 fk_X9_11 ft_9_0 rfl (by omega) (by omega) b1 (Nat.le_of_ble_eq_true rfl) rfl rfl rfl dX9_init_10 (fun f2 s2 b2 o2 => ?_)
  have x2 := (o2 (w + 1) (by omega)).trans x1
  refine BT.iconst (v := 0) dX9_init_13 (by decide) ?_
  refine BT.istore_n (L' := [(1, .int 0), (0, .ref w)]) dX9_init_14 rfl (by decide) rfl ?_
  refine BT.iload_n dX9_init_15 rfl 0 rfl ?_
  refine BT.bipush (v := 8) dX9_init_16 (by decide) ?_
  refine BT.icmp_ge (tgt := 40) dX9_init_18 (by decide) (fun c => absurd c (by decide)) (fun _ => ?_)
  refine BT.aload_n dX9_init_21 rfl 1 rfl ?_
  refine B0.get (v := .ref (w + 1)) fl_X9_11 (by omega) b2 rfl dX9_init_22 ?_
  refine BT.iload_n dX9_init_25 rfl 0 rfl ?_
  refine C0.new (N1 := w + 3) (ks1 := 23) (ci := 3) (fs := bl_3) rfl rfl cl_X9_9 ins_3 ini_3 inw_3 tyX3_ok rfl bl_3_ok (Nat.le_of_ble_eq_true rfl) (Nat.le_of_ble_eq_true rfl) dX9_init_26 (fun f3 n3 o3 => ?_)
  have b3 := (o3 w (by omega)).trans b2
  refine BT.dup dX9_init_29 rfl ?_
  refine BT.callI [] (c_X3_init (f0 := f3) (K := MkP G f3 (w + 2) (w + 7)) (hL 0 (by omega)) n3 (fun M hM => hM)) mb_X3_init rfl mi_X3_init lk_X9_17 ⟨Nat.le_of_ble_eq_true rfl, Nat.le_of_ble_eq_true rfl⟩ ⟨Nat.le_of_ble_eq_true rfl, Nat.le_of_ble_eq_true rfl⟩ rfl (Nat.le_of_ble_eq_true rfl) dX9_init_30 (fun M4 h4 => ?_)
  obtain ⟨f4, rfl, s4, o4, p4⟩ := s2.obj (by omega) (by omega) o3 h4
  have b4 := (o4 w (by omega)).trans b2
  have x4 := (o4 (w + 1) (by omega)).trans x2
  refine C0.aast (r := (RX3, TX3, 15)) s4 (by omega) (by omega) x4 rfl (by omega) ((p4 (w + 2) (by omega) (by omega)).trans (cellOf_O (hL 0 (by omega)).1)) rfl (show vp_in (0) 8 from by unfold vp_in; decide) dX9_init_33 (fun f5 s5 x5 o5 => ?_)
  have b5 := (o5 w (by omega)).trans b4
  refine BT.iinc (j := 0) (v := 1) (L' := [(1, .int 1), (0, .ref w)]) dX9_init_34 rfl (by decide) (by decide) rfl ?_
  refine BT.goto (tgt := 15) dX9_init_37 (by decide) ?_
  refine BT.iload_n dX9_init_15 rfl 0 rfl ?_
  refine BT.bipush (v := 8) dX9_init_16 (by decide) ?_
  refine BT.icmp_ge (tgt := 40) dX9_init_18 (by decide) (fun c => absurd c (by decide)) (fun _ => ?_)
  refine BT.aload_n dX9_init_21 rfl 1 rfl ?_
  refine B0.get (v := .ref (w + 1)) fl_X9_11 (by omega) b5 rfl dX9_init_22 ?_
  refine BT.iload_n dX9_init_25 rfl 0 rfl ?_
  refine C0.new (N1 := w + 8) (ks1 := 114) (ci := 3) (fs := bl_3) rfl rfl cl_X9_9 ins_3 ini_3 inw_3 tyX3_ok rfl bl_3_ok (Nat.le_of_ble_eq_true rfl) (Nat.le_of_ble_eq_true rfl) dX9_init_26 (fun f6 n6 o6 => ?_)
  have b6 := (o6 w (by omega)).trans b5
  refine BT.dup dX9_init_29 rfl ?_
  refine BT.callI [] (c_X3_init (f0 := f6) (K := MkP G f6 (w + 7) (w + 12)) (hL 1 (by omega)) n6 (fun M hM => hM)) mb_X3_init rfl mi_X3_init lk_X9_17 ⟨Nat.le_of_ble_eq_true rfl, Nat.le_of_ble_eq_true rfl⟩ ⟨Nat.le_of_ble_eq_true rfl, Nat.le_of_ble_eq_true rfl⟩ rfl (Nat.le_of_ble_eq_true rfl) dX9_init_30 (fun M7 h7 => ?_)
  obtain ⟨f7, rfl, s7, o7, p7⟩ := s5.obj (by omega) (by omega) o6 h7
  have b7 := (o7 w (by omega)).trans b5
  have x7 := (o7 (w + 1) (by omega)).trans x5
  refine C0.aast (r := (RX3, TX3, 15)) s7 (by omega) (by omega) x7 rfl (by omega) ((p7 (w + 7) (by omega) (by omega)).trans (cellOf_O (hL 1 (by omega)).1)) rfl (show vp_in (1) 8 from by unfold vp_in; decide) dX9_init_33 (fun f8 s8 x8 o8 => ?_)
  have b8 := (o8 w (by omega)).trans b7
  refine BT.iinc (j := 0) (v := 2) (L' := [(1, .int 2), (0, .ref w)]) dX9_init_34 rfl (by decide) (by decide) rfl ?_
  refine BT.goto (tgt := 15) dX9_init_37 (by decide) ?_
  refine BT.iload_n dX9_init_15 rfl 0 rfl ?_
  refine BT.bipush (v := 8) dX9_init_16 (by decide) ?_
  refine BT.icmp_ge (tgt := 40) dX9_init_18 (by decide) (fun c => absurd c (by decide)) (fun _ => ?_)
  refine BT.aload_n dX9_init_21 rfl 1 rfl ?_
  refine B0.get (v := .ref (w + 1)) fl_X9_11 (by omega) b8 rfl dX9_init_22 ?_
  refine BT.iload_n dX9_init_25 rfl 0 rfl ?_
  refine C0.new (N1 := w + 13) (ks1 := 205) (ci := 3) (fs := bl_3) rfl rfl cl_X9_9 ins_3 ini_3 inw_3 tyX3_ok rfl bl_3_ok (Nat.le_of_ble_eq_true rfl) (Nat.le_of_ble_eq_true rfl) dX9_init_26 (fun f9 n9 o9 => ?_)
  have b9 := (o9 w (by omega)).trans b8
  refine BT.dup dX9_init_29 rfl ?_
  refine BT.callI [] (c_X3_init (f0 := f9) (K := MkP G f9 (w + 12) (w + 17)) (hL 2 (by omega)) n9 (fun M hM => hM)) mb_X3_init rfl mi_X3_init lk_X9_17 ⟨Nat.le_of_ble_eq_true rfl, Nat.le_of_ble_eq_true rfl⟩ ⟨Nat.le_of_ble_eq_true rfl, Nat.le_of_ble_eq_true rfl⟩ rfl (Nat.le_of_ble_eq_true rfl) dX9_init_30 (fun M10 h10 => ?_)
  obtain ⟨f10, rfl, s10, o10, p10⟩ := s8.obj (by omega) (by omega) o9 h10
  have b10 := (o10 w (by omega)).trans b8
  have x10 := (o10 (w + 1) (by omega)).trans x8
  refine C0.aast (r := (RX3, TX3, 15)) s10 (by omega) (by omega) x10 rfl (by omega) ((p10 (w + 12) (by omega) (by omega)).trans (cellOf_O (hL 2 (by omega)).1)) rfl (show vp_in (2) 8 from by unfold vp_in; decide) dX9_init_33 (fun f11 s11 x11 o11 => ?_)
  have b11 := (o11 w (by omega)).trans b10
  refine BT.iinc (j := 0) (v := 3) (L' := [(1, .int 3), (0, .ref w)]) dX9_init_34 rfl (by decide) (by decide) rfl ?_
  refine BT.goto (tgt := 15) dX9_init_37 (by decide) ?_
  refine BT.iload_n dX9_init_15 rfl 0 rfl ?_
  refine BT.bipush (v := 8) dX9_init_16 (by decide) ?_
  refine BT.icmp_ge (tgt := 40) dX9_init_18 (by decide) (fun c => absurd c (by decide)) (fun _ => ?_)
  refine BT.aload_n dX9_init_21 rfl 1 rfl ?_
  refine B0.get (v := .ref (w + 1)) fl_X9_11 (by omega) b11 rfl dX9_init_22 ?_
  refine BT.iload_n dX9_init_25 rfl 0 rfl ?_
  refine C0.new (N1 := w + 18) (ks1 := 296) (ci := 3) (fs := bl_3) rfl rfl cl_X9_9 ins_3 ini_3 inw_3 tyX3_ok rfl bl_3_ok (Nat.le_of_ble_eq_true rfl) (Nat.le_of_ble_eq_true rfl) dX9_init_26 (fun f12 n12 o12 => ?_)
  have b12 := (o12 w (by omega)).trans b11
  refine BT.dup dX9_init_29 rfl ?_
  refine BT.callI [] (c_X3_init (f0 := f12) (K := MkP G f12 (w + 17) (w + 22)) (hL 3 (by omega)) n12 (fun M hM => hM)) mb_X3_init rfl mi_X3_init lk_X9_17 ⟨Nat.le_of_ble_eq_true rfl, Nat.le_of_ble_eq_true rfl⟩ ⟨Nat.le_of_ble_eq_true rfl, Nat.le_of_ble_eq_true rfl⟩ rfl (Nat.le_of_ble_eq_true rfl) dX9_init_30 (fun M13 h13 => ?_)
  obtain ⟨f13, rfl, s13, o13, p13⟩ := s11.obj (by omega) (by omega) o12 h13
  have b13 := (o13 w (by omega)).trans b11
  have x13 := (o13 (w + 1) (by omega)).trans x11
  refine C0.aast (r := (RX3, TX3, 15)) s13 (by omega) (by omega) x13 rfl (by omega) ((p13 (w + 17) (by omega) (by omega)).trans (cellOf_O (hL 3 (by omega)).1)) rfl (show vp_in (3) 8 from by unfold vp_in; decide) dX9_init_33 (fun f14 s14 x14 o14 => ?_)
  have b14 := (o14 w (by omega)).trans b13
  refine BT.iinc (j := 0) (v := 4) (L' := [(1, .int 4), (0, .ref w)]) dX9_init_34 rfl (by decide) (by decide) rfl ?_
  refine BT.goto (tgt := 15) dX9_init_37 (by decide) ?_
  refine BT.iload_n dX9_init_15 rfl 0 rfl ?_
  refine BT.bipush (v := 8) dX9_init_16 (by decide) ?_
  refine BT.icmp_ge (tgt := 40) dX9_init_18 (by decide) (fun c => absurd c (by decide)) (fun _ => ?_)
  refine BT.aload_n dX9_init_21 rfl 1 rfl ?_
  refine B0.get (v := .ref (w + 1)) fl_X9_11 (by omega) b14 rfl dX9_init_22 ?_
  refine BT.iload_n dX9_init_25 rfl 0 rfl ?_
  refine C0.new (N1 := w + 23) (ks1 := 387) (ci := 3) (fs := bl_3) rfl rfl cl_X9_9 ins_3 ini_3 inw_3 tyX3_ok rfl bl_3_ok (Nat.le_of_ble_eq_true rfl) (Nat.le_of_ble_eq_true rfl) dX9_init_26 (fun f15 n15 o15 => ?_)
  have b15 := (o15 w (by omega)).trans b14
  refine BT.dup dX9_init_29 rfl ?_
  refine BT.callI [] (c_X3_init (f0 := f15) (K := MkP G f15 (w + 22) (w + 27)) (hL 4 (by omega)) n15 (fun M hM => hM)) mb_X3_init rfl mi_X3_init lk_X9_17 ⟨Nat.le_of_ble_eq_true rfl, Nat.le_of_ble_eq_true rfl⟩ ⟨Nat.le_of_ble_eq_true rfl, Nat.le_of_ble_eq_true rfl⟩ rfl (Nat.le_of_ble_eq_true rfl) dX9_init_30 (fun M16 h16 => ?_)
  obtain ⟨f16, rfl, s16, o16, p16⟩ := s14.obj (by omega) (by omega) o15 h16
  have b16 := (o16 w (by omega)).trans b14
  have x16 := (o16 (w + 1) (by omega)).trans x14
  refine C0.aast (r := (RX3, TX3, 15)) s16 (by omega) (by omega) x16 rfl (by omega) ((p16 (w + 22) (by omega) (by omega)).trans (cellOf_O (hL 4 (by omega)).1)) rfl (show vp_in (4) 8 from by unfold vp_in; decide) dX9_init_33 (fun f17 s17 x17 o17 => ?_)
  have b17 := (o17 w (by omega)).trans b16
  refine BT.iinc (j := 0) (v := 5) (L' := [(1, .int 5), (0, .ref w)]) dX9_init_34 rfl (by decide) (by decide) rfl ?_
  refine BT.goto (tgt := 15) dX9_init_37 (by decide) ?_
  refine BT.iload_n dX9_init_15 rfl 0 rfl ?_
  refine BT.bipush (v := 8) dX9_init_16 (by decide) ?_
  refine BT.icmp_ge (tgt := 40) dX9_init_18 (by decide) (fun c => absurd c (by decide)) (fun _ => ?_)
  refine BT.aload_n dX9_init_21 rfl 1 rfl ?_
  refine B0.get (v := .ref (w + 1)) fl_X9_11 (by omega) b17 rfl dX9_init_22 ?_
  refine BT.iload_n dX9_init_25 rfl 0 rfl ?_
  refine C0.new (N1 := w + 28) (ks1 := 478) (ci := 3) (fs := bl_3) rfl rfl cl_X9_9 ins_3 ini_3 inw_3 tyX3_ok rfl bl_3_ok (Nat.le_of_ble_eq_true rfl) (Nat.le_of_ble_eq_true rfl) dX9_init_26 (fun f18 n18 o18 => ?_)
  have b18 := (o18 w (by omega)).trans b17
  refine BT.dup dX9_init_29 rfl ?_
  refine BT.callI [] (c_X3_init (f0 := f18) (K := MkP G f18 (w + 27) (w + 32)) (hL 5 (by omega)) n18 (fun M hM => hM)) mb_X3_init rfl mi_X3_init lk_X9_17 ⟨Nat.le_of_ble_eq_true rfl, Nat.le_of_ble_eq_true rfl⟩ ⟨Nat.le_of_ble_eq_true rfl, Nat.le_of_ble_eq_true rfl⟩ rfl (Nat.le_of_ble_eq_true rfl) dX9_init_30 (fun M19 h19 => ?_)
  obtain ⟨f19, rfl, s19, o19, p19⟩ := s17.obj (by omega) (by omega) o18 h19
  have b19 := (o19 w (by omega)).trans b17
  have x19 := (o19 (w + 1) (by omega)).trans x17
  refine C0.aast (r := (RX3, TX3, 15)) s19 (by omega) (by omega) x19 rfl (by omega) ((p19 (w + 27) (by omega) (by omega)).trans (cellOf_O (hL 5 (by omega)).1)) rfl (show vp_in (5) 8 from by unfold vp_in; decide) dX9_init_33 (fun f20 s20 x20 o20 => ?_)
  have b20 := (o20 w (by omega)).trans b19
  refine BT.iinc (j := 0) (v := 6) (L' := [(1, .int 6), (0, .ref w)]) dX9_init_34 rfl (by decide) (by decide) rfl ?_
  refine BT.goto (tgt := 15) dX9_init_37 (by decide) ?_
  refine BT.iload_n dX9_init_15 rfl 0 rfl ?_
  refine BT.bipush (v := 8) dX9_init_16 (by decide) ?_
  refine BT.icmp_ge (tgt := 40) dX9_init_18 (by decide) (fun c => absurd c (by decide)) (fun _ => ?_)
  refine BT.aload_n dX9_init_21 rfl 1 rfl ?_
  refine B0.get (v := .ref (w + 1)) fl_X9_11 (by omega) b20 rfl dX9_init_22 ?_
  refine BT.iload_n dX9_init_25 rfl 0 rfl ?_
  refine C0.new (N1 := w + 33) (ks1 := 569) (ci := 3) (fs := bl_3) rfl rfl cl_X9_9 ins_3 ini_3 inw_3 tyX3_ok rfl bl_3_ok (Nat.le_of_ble_eq_true rfl) (Nat.le_of_ble_eq_true rfl) dX9_init_26 (fun f21 n21 o21 => ?_)
  have b21 := (o21 w (by omega)).trans b20
  refine BT.dup dX9_init_29 rfl ?_
  refine BT.callI [] (c_X3_init (f0 := f21) (K := MkP G f21 (w + 32) (w + 37)) (hL 6 (by omega)) n21 (fun M hM => hM)) mb_X3_init rfl mi_X3_init lk_X9_17 ⟨Nat.le_of_ble_eq_true rfl, Nat.le_of_ble_eq_true rfl⟩ ⟨Nat.le_of_ble_eq_true rfl, Nat.le_of_ble_eq_true rfl⟩ rfl (Nat.le_of_ble_eq_true rfl) dX9_init_30 (fun M22 h22 => ?_)
  obtain ⟨f22, rfl, s22, o22, p22⟩ := s20.obj (by omega) (by omega) o21 h22
  have b22 := (o22 w (by omega)).trans b20
  have x22 := (o22 (w + 1) (by omega)).trans x20
  refine C0.aast (r := (RX3, TX3, 15)) s22 (by omega) (by omega) x22 rfl (by omega) ((p22 (w + 32) (by omega) (by omega)).trans (cellOf_O (hL 6 (by omega)).1)) rfl (show vp_in (6) 8 from by unfold vp_in; decide) dX9_init_33 (fun f23 s23 x23 o23 => ?_)
  have b23 := (o23 w (by omega)).trans b22
  refine BT.iinc (j := 0) (v := 7) (L' := [(1, .int 7), (0, .ref w)]) dX9_init_34 rfl (by decide) (by decide) rfl ?_
  refine BT.goto (tgt := 15) dX9_init_37 (by decide) ?_
  refine BT.iload_n dX9_init_15 rfl 0 rfl ?_
  refine BT.bipush (v := 8) dX9_init_16 (by decide) ?_
  refine BT.icmp_ge (tgt := 40) dX9_init_18 (by decide) (fun c => absurd c (by decide)) (fun _ => ?_)
  refine BT.aload_n dX9_init_21 rfl 1 rfl ?_
  refine B0.get (v := .ref (w + 1)) fl_X9_11 (by omega) b23 rfl dX9_init_22 ?_
  refine BT.iload_n dX9_init_25 rfl 0 rfl ?_
  refine C0.new (N1 := w + 38) (ks1 := 660) (ci := 3) (fs := bl_3) rfl rfl cl_X9_9 ins_3 ini_3 inw_3 tyX3_ok rfl bl_3_ok (Nat.le_of_ble_eq_true rfl) (Nat.le_of_ble_eq_true rfl) dX9_init_26 (fun f24 n24 o24 => ?_)
  have b24 := (o24 w (by omega)).trans b23
  refine BT.dup dX9_init_29 rfl ?_
  refine BT.callI [] (c_X3_init (f0 := f24) (K := MkP G f24 (w + 37) (w + 42)) (hL 7 (by omega)) n24 (fun M hM => hM)) mb_X3_init rfl mi_X3_init lk_X9_17 ⟨Nat.le_of_ble_eq_true rfl, Nat.le_of_ble_eq_true rfl⟩ ⟨Nat.le_of_ble_eq_true rfl, Nat.le_of_ble_eq_true rfl⟩ rfl (Nat.le_of_ble_eq_true rfl) dX9_init_30 (fun M25 h25 => ?_)
  obtain ⟨f25, rfl, s25, o25, p25⟩ := s23.obj (by omega) (by omega) o24 h25
  have b25 := (o25 w (by omega)).trans b23
  have x25 := (o25 (w + 1) (by omega)).trans x23
  refine C0.aast (r := (RX3, TX3, 15)) s25 (by omega) (by omega) x25 rfl (by omega) ((p25 (w + 37) (by omega) (by omega)).trans (cellOf_O (hL 7 (by omega)).1)) rfl (show vp_in (7) 8 from by unfold vp_in; decide) dX9_init_33 (fun f26 s26 x26 o26 => ?_)
  have b26 := (o26 w (by omega)).trans b25
  refine BT.iinc (j := 0) (v := 8) (L' := [(1, .int 8), (0, .ref w)]) dX9_init_34 rfl (by decide) (by decide) rfl ?_
  refine BT.goto (tgt := 15) dX9_init_37 (by decide) ?_
  refine BT.iload_n dX9_init_15 rfl 0 rfl ?_
  refine BT.bipush (v := 8) dX9_init_16 (by decide) ?_
  refine BT.icmp_ge (tgt := 40) dX9_init_18 (by decide) (fun _ => ?_) (fun c => absurd (by decide) c)
  refine C0.full (t := 2) (s0 := w + 2) (d0 := 5) s26 (by omega) (by omega) hA1 (by decide) x26 (fun i hi => ?_) (fun f27 s27 o27 => ?_)
  · match i, hi with
    | 0, _ => exact congrArg some (show g_b G + (w + 2) = g_b G + (w + 2 + 5 * 0) by omega)
    | 1, _ => exact congrArg some (show g_b G + (w + 7) = g_b G + (w + 2 + 5 * 1) by omega)
    | 2, _ => exact congrArg some (show g_b G + (w + 12) = g_b G + (w + 2 + 5 * 2) by omega)
    | 3, _ => exact congrArg some (show g_b G + (w + 17) = g_b G + (w + 2 + 5 * 3) by omega)
    | 4, _ => exact congrArg some (show g_b G + (w + 22) = g_b G + (w + 2 + 5 * 4) by omega)
    | 5, _ => exact congrArg some (show g_b G + (w + 27) = g_b G + (w + 2 + 5 * 5) by omega)
    | 6, _ => exact congrArg some (show g_b G + (w + 32) = g_b G + (w + 2 + 5 * 6) by omega)
    | 7, _ => exact congrArg some (show g_b G + (w + 37) = g_b G + (w + 2 + 5 * 7) by omega)
    | k + 8, h => exact absurd h (by omega)
  have b27 := (o27 w (by omega)).trans b26
  refine BT.aload_n dX9_init_40 rfl 1 rfl ?_
  refine BT.bipush (v := 8) dX9_init_41 (by decide) ?_
  refine C0.newi (N1 := w + 43) (ks1 := 744) s27 (by omega) rfl rfl hA2 (by decide) (by decide) (Nat.le_of_ble_eq_true rfl) (Nat.le_of_ble_eq_true rfl) (Nat.le_of_ble_eq_true rfl) dX9_init_43 (fun f28 s28 o28 => ?_)
  have b28 := (o28 w (by omega)).trans b27
  refine C0.put (fs' := [.ref (g_b G + (w + 1)), .int 0, .ref (g_b G + (w + 42)), .null, .int 0, .int 0, .int 0, .int 0]) s28 fl_X9_18 fk_X9_18 ft_9_2 rfl (by omega) (by omega) b28 (Nat.le_of_ble_eq_true rfl) rfl rfl rfl dX9_init_45 (fun f29 s29 b29 o29 => ?_)
  refine BT.aload_n dX9_init_48 rfl 1 rfl ?_
  refine BT.bipush (v := 8) dX9_init_49 (by decide) ?_
  refine C0.newr (t := 3) (nn := 8) (N1 := w + 44) (ks1 := 752) s29 (by omega) rfl rfl cl_X9_22 ov_Piece rfl (by decide) (by decide) (Nat.le_of_ble_eq_true rfl) (Nat.le_of_ble_eq_true rfl) (Nat.le_of_ble_eq_true rfl) dX9_init_51 (fun f30 s30 x30 o30 => ?_)
  have b30 := (o30 w (by omega)).trans b29
  refine C0.put (fs' := [.ref (g_b G + (w + 1)), .int 0, .ref (g_b G + (w + 42)), .ref (g_b G + (w + 43)), .int 0, .int 0, .int 0, .int 0]) s30 fl_X9_24 fk_X9_24 ft_9_3 rfl (by omega) (by omega) b30 (Nat.le_of_ble_eq_true rfl) rfl rfl rfl dX9_init_54 (fun f31 s31 b31 o31 => ?_)
  have x31 := (o31 (w + 43) (by omega)).trans x30
  refine BT.iconst (v := 0) dX9_init_57 (by decide) ?_
  refine BT.istore_n (L' := [(1, .int 0), (0, .ref w)]) dX9_init_58 rfl (by decide) rfl ?_
  refine BT.iload_n dX9_init_59 rfl 0 rfl ?_
  refine BT.bipush (v := 8) dX9_init_60 (by decide) ?_
  refine BT.icmp_ge (tgt := 84) dX9_init_62 (by decide) (fun c => absurd c (by decide)) (fun _ => ?_)
  refine BT.aload_n dX9_init_65 rfl 1 rfl ?_
  refine B0.get (v := .ref (w + 43)) fl_X9_24 (by omega) b31 rfl dX9_init_66 ?_
  refine BT.iload_n dX9_init_69 rfl 0 rfl ?_
  refine C0.new (N1 := w + 45) (ks1 := 757) (ci := 6) (fs := bl_6) rfl rfl cl_X9_22 ins_6 ini_6 inw_6 tyX6_ok rfl bl_6_ok (Nat.le_of_ble_eq_true rfl) (Nat.le_of_ble_eq_true rfl) dX9_init_70 (fun f32 n32 o32 => ?_)
  have b32 := (o32 w (by omega)).trans b31
  refine BT.dup dX9_init_73 rfl ?_
  refine BT.callIN [] (c_X6_init (f0 := f32) (K := MkP G f32 (w + 44) (w + 45)) (hP 0 (by omega)) n32 (fun M hM => hM)) mb_X6_init rfl mi_X6_init lk_X9_28 ⟨Nat.le_of_ble_eq_true rfl, Nat.le_of_ble_eq_true rfl⟩ ⟨Nat.le_of_ble_eq_true rfl, Nat.le_of_ble_eq_true rfl⟩ rfl (Nat.le_of_ble_eq_true rfl) dX9_init_74 (fun M33 h33 => ?_)
  obtain ⟨f33, rfl, s33, o33, p33⟩ := s31.obj (by omega) (by omega) o32 h33
  have b33 := (o33 w (by omega)).trans b31
  have x33 := (o33 (w + 43) (by omega)).trans x31
  refine C0.aast (r := (RX6, TX6, 5)) s33 (by omega) (by omega) x33 rfl (by omega) ((p33 (w + 44) (by omega) (by omega)).trans (cellOf_O (hP 0 (by omega)))) rfl (show vp_in (0) 8 from by unfold vp_in; decide) dX9_init_77 (fun f34 s34 x34 o34 => ?_)
  have b34 := (o34 w (by omega)).trans b33
  refine BT.iinc (j := 0) (v := 1) (L' := [(1, .int 1), (0, .ref w)]) dX9_init_78 rfl (by decide) (by decide) rfl ?_
  refine BT.goto (tgt := 59) dX9_init_81 (by decide) ?_
  refine BT.iload_n dX9_init_59 rfl 0 rfl ?_
  refine BT.bipush (v := 8) dX9_init_60 (by decide) ?_
  refine BT.icmp_ge (tgt := 84) dX9_init_62 (by decide) (fun c => absurd c (by decide)) (fun _ => ?_)
  refine BT.aload_n dX9_init_65 rfl 1 rfl ?_
  refine B0.get (v := .ref (w + 43)) fl_X9_24 (by omega) b34 rfl dX9_init_66 ?_
  refine BT.iload_n dX9_init_69 rfl 0 rfl ?_
  refine C0.new (N1 := w + 46) (ks1 := 762) (ci := 6) (fs := bl_6) rfl rfl cl_X9_22 ins_6 ini_6 inw_6 tyX6_ok rfl bl_6_ok (Nat.le_of_ble_eq_true rfl) (Nat.le_of_ble_eq_true rfl) dX9_init_70 (fun f35 n35 o35 => ?_)
  have b35 := (o35 w (by omega)).trans b34
  refine BT.dup dX9_init_73 rfl ?_
  refine BT.callIN [] (c_X6_init (f0 := f35) (K := MkP G f35 (w + 45) (w + 46)) (hP 1 (by omega)) n35 (fun M hM => hM)) mb_X6_init rfl mi_X6_init lk_X9_28 ⟨Nat.le_of_ble_eq_true rfl, Nat.le_of_ble_eq_true rfl⟩ ⟨Nat.le_of_ble_eq_true rfl, Nat.le_of_ble_eq_true rfl⟩ rfl (Nat.le_of_ble_eq_true rfl) dX9_init_74 (fun M36 h36 => ?_)
  obtain ⟨f36, rfl, s36, o36, p36⟩ := s34.obj (by omega) (by omega) o35 h36
  have b36 := (o36 w (by omega)).trans b34
  have x36 := (o36 (w + 43) (by omega)).trans x34
  refine C0.aast (r := (RX6, TX6, 5)) s36 (by omega) (by omega) x36 rfl (by omega) ((p36 (w + 45) (by omega) (by omega)).trans (cellOf_O (hP 1 (by omega)))) rfl (show vp_in (1) 8 from by unfold vp_in; decide) dX9_init_77 (fun f37 s37 x37 o37 => ?_)
  have b37 := (o37 w (by omega)).trans b36
  refine BT.iinc (j := 0) (v := 2) (L' := [(1, .int 2), (0, .ref w)]) dX9_init_78 rfl (by decide) (by decide) rfl ?_
  refine BT.goto (tgt := 59) dX9_init_81 (by decide) ?_
  refine BT.iload_n dX9_init_59 rfl 0 rfl ?_
  refine BT.bipush (v := 8) dX9_init_60 (by decide) ?_
  refine BT.icmp_ge (tgt := 84) dX9_init_62 (by decide) (fun c => absurd c (by decide)) (fun _ => ?_)
  refine BT.aload_n dX9_init_65 rfl 1 rfl ?_
  refine B0.get (v := .ref (w + 43)) fl_X9_24 (by omega) b37 rfl dX9_init_66 ?_
  refine BT.iload_n dX9_init_69 rfl 0 rfl ?_
  refine C0.new (N1 := w + 47) (ks1 := 767) (ci := 6) (fs := bl_6) rfl rfl cl_X9_22 ins_6 ini_6 inw_6 tyX6_ok rfl bl_6_ok (Nat.le_of_ble_eq_true rfl) (Nat.le_of_ble_eq_true rfl) dX9_init_70 (fun f38 n38 o38 => ?_)
  have b38 := (o38 w (by omega)).trans b37
  refine BT.dup dX9_init_73 rfl ?_
  refine BT.callIN [] (c_X6_init (f0 := f38) (K := MkP G f38 (w + 46) (w + 47)) (hP 2 (by omega)) n38 (fun M hM => hM)) mb_X6_init rfl mi_X6_init lk_X9_28 ⟨Nat.le_of_ble_eq_true rfl, Nat.le_of_ble_eq_true rfl⟩ ⟨Nat.le_of_ble_eq_true rfl, Nat.le_of_ble_eq_true rfl⟩ rfl (Nat.le_of_ble_eq_true rfl) dX9_init_74 (fun M39 h39 => ?_)
  obtain ⟨f39, rfl, s39, o39, p39⟩ := s37.obj (by omega) (by omega) o38 h39
  have b39 := (o39 w (by omega)).trans b37
  have x39 := (o39 (w + 43) (by omega)).trans x37
  refine C0.aast (r := (RX6, TX6, 5)) s39 (by omega) (by omega) x39 rfl (by omega) ((p39 (w + 46) (by omega) (by omega)).trans (cellOf_O (hP 2 (by omega)))) rfl (show vp_in (2) 8 from by unfold vp_in; decide) dX9_init_77 (fun f40 s40 x40 o40 => ?_)
  have b40 := (o40 w (by omega)).trans b39
  refine BT.iinc (j := 0) (v := 3) (L' := [(1, .int 3), (0, .ref w)]) dX9_init_78 rfl (by decide) (by decide) rfl ?_
  refine BT.goto (tgt := 59) dX9_init_81 (by decide) ?_
  refine BT.iload_n dX9_init_59 rfl 0 rfl ?_
  refine BT.bipush (v := 8) dX9_init_60 (by decide) ?_
  refine BT.icmp_ge (tgt := 84) dX9_init_62 (by decide) (fun c => absurd c (by decide)) (fun _ => ?_)
  refine BT.aload_n dX9_init_65 rfl 1 rfl ?_
  refine B0.get (v := .ref (w + 43)) fl_X9_24 (by omega) b40 rfl dX9_init_66 ?_
  refine BT.iload_n dX9_init_69 rfl 0 rfl ?_
  refine C0.new (N1 := w + 48) (ks1 := 772) (ci := 6) (fs := bl_6) rfl rfl cl_X9_22 ins_6 ini_6 inw_6 tyX6_ok rfl bl_6_ok (Nat.le_of_ble_eq_true rfl) (Nat.le_of_ble_eq_true rfl) dX9_init_70 (fun f41 n41 o41 => ?_)
  have b41 := (o41 w (by omega)).trans b40
  refine BT.dup dX9_init_73 rfl ?_
  refine BT.callIN [] (c_X6_init (f0 := f41) (K := MkP G f41 (w + 47) (w + 48)) (hP 3 (by omega)) n41 (fun M hM => hM)) mb_X6_init rfl mi_X6_init lk_X9_28 ⟨Nat.le_of_ble_eq_true rfl, Nat.le_of_ble_eq_true rfl⟩ ⟨Nat.le_of_ble_eq_true rfl, Nat.le_of_ble_eq_true rfl⟩ rfl (Nat.le_of_ble_eq_true rfl) dX9_init_74 (fun M42 h42 => ?_)
  obtain ⟨f42, rfl, s42, o42, p42⟩ := s40.obj (by omega) (by omega) o41 h42
  have b42 := (o42 w (by omega)).trans b40
  have x42 := (o42 (w + 43) (by omega)).trans x40
  refine C0.aast (r := (RX6, TX6, 5)) s42 (by omega) (by omega) x42 rfl (by omega) ((p42 (w + 47) (by omega) (by omega)).trans (cellOf_O (hP 3 (by omega)))) rfl (show vp_in (3) 8 from by unfold vp_in; decide) dX9_init_77 (fun f43 s43 x43 o43 => ?_)
  have b43 := (o43 w (by omega)).trans b42
  refine BT.iinc (j := 0) (v := 4) (L' := [(1, .int 4), (0, .ref w)]) dX9_init_78 rfl (by decide) (by decide) rfl ?_
  refine BT.goto (tgt := 59) dX9_init_81 (by decide) ?_
  refine BT.iload_n dX9_init_59 rfl 0 rfl ?_
  refine BT.bipush (v := 8) dX9_init_60 (by decide) ?_
  refine BT.icmp_ge (tgt := 84) dX9_init_62 (by decide) (fun c => absurd c (by decide)) (fun _ => ?_)
  refine BT.aload_n dX9_init_65 rfl 1 rfl ?_
  refine B0.get (v := .ref (w + 43)) fl_X9_24 (by omega) b43 rfl dX9_init_66 ?_
  refine BT.iload_n dX9_init_69 rfl 0 rfl ?_
  refine C0.new (N1 := w + 49) (ks1 := 777) (ci := 6) (fs := bl_6) rfl rfl cl_X9_22 ins_6 ini_6 inw_6 tyX6_ok rfl bl_6_ok (Nat.le_of_ble_eq_true rfl) (Nat.le_of_ble_eq_true rfl) dX9_init_70 (fun f44 n44 o44 => ?_)
  have b44 := (o44 w (by omega)).trans b43
  refine BT.dup dX9_init_73 rfl ?_
  refine BT.callIN [] (c_X6_init (f0 := f44) (K := MkP G f44 (w + 48) (w + 49)) (hP 4 (by omega)) n44 (fun M hM => hM)) mb_X6_init rfl mi_X6_init lk_X9_28 ⟨Nat.le_of_ble_eq_true rfl, Nat.le_of_ble_eq_true rfl⟩ ⟨Nat.le_of_ble_eq_true rfl, Nat.le_of_ble_eq_true rfl⟩ rfl (Nat.le_of_ble_eq_true rfl) dX9_init_74 (fun M45 h45 => ?_)
  obtain ⟨f45, rfl, s45, o45, p45⟩ := s43.obj (by omega) (by omega) o44 h45
  have b45 := (o45 w (by omega)).trans b43
  have x45 := (o45 (w + 43) (by omega)).trans x43
  refine C0.aast (r := (RX6, TX6, 5)) s45 (by omega) (by omega) x45 rfl (by omega) ((p45 (w + 48) (by omega) (by omega)).trans (cellOf_O (hP 4 (by omega)))) rfl (show vp_in (4) 8 from by unfold vp_in; decide) dX9_init_77 (fun f46 s46 x46 o46 => ?_)
  have b46 := (o46 w (by omega)).trans b45
  refine BT.iinc (j := 0) (v := 5) (L' := [(1, .int 5), (0, .ref w)]) dX9_init_78 rfl (by decide) (by decide) rfl ?_
  refine BT.goto (tgt := 59) dX9_init_81 (by decide) ?_
  refine BT.iload_n dX9_init_59 rfl 0 rfl ?_
  refine BT.bipush (v := 8) dX9_init_60 (by decide) ?_
  refine BT.icmp_ge (tgt := 84) dX9_init_62 (by decide) (fun c => absurd c (by decide)) (fun _ => ?_)
  refine BT.aload_n dX9_init_65 rfl 1 rfl ?_
  refine B0.get (v := .ref (w + 43)) fl_X9_24 (by omega) b46 rfl dX9_init_66 ?_
  refine BT.iload_n dX9_init_69 rfl 0 rfl ?_
  refine C0.new (N1 := w + 50) (ks1 := 782) (ci := 6) (fs := bl_6) rfl rfl cl_X9_22 ins_6 ini_6 inw_6 tyX6_ok rfl bl_6_ok (Nat.le_of_ble_eq_true rfl) (Nat.le_of_ble_eq_true rfl) dX9_init_70 (fun f47 n47 o47 => ?_)
  have b47 := (o47 w (by omega)).trans b46
  refine BT.dup dX9_init_73 rfl ?_
  refine BT.callIN [] (c_X6_init (f0 := f47) (K := MkP G f47 (w + 49) (w + 50)) (hP 5 (by omega)) n47 (fun M hM => hM)) mb_X6_init rfl mi_X6_init lk_X9_28 ⟨Nat.le_of_ble_eq_true rfl, Nat.le_of_ble_eq_true rfl⟩ ⟨Nat.le_of_ble_eq_true rfl, Nat.le_of_ble_eq_true rfl⟩ rfl (Nat.le_of_ble_eq_true rfl) dX9_init_74 (fun M48 h48 => ?_)
  obtain ⟨f48, rfl, s48, o48, p48⟩ := s46.obj (by omega) (by omega) o47 h48
  have b48 := (o48 w (by omega)).trans b46
  have x48 := (o48 (w + 43) (by omega)).trans x46
  refine C0.aast (r := (RX6, TX6, 5)) s48 (by omega) (by omega) x48 rfl (by omega) ((p48 (w + 49) (by omega) (by omega)).trans (cellOf_O (hP 5 (by omega)))) rfl (show vp_in (5) 8 from by unfold vp_in; decide) dX9_init_77 (fun f49 s49 x49 o49 => ?_)
  have b49 := (o49 w (by omega)).trans b48
  refine BT.iinc (j := 0) (v := 6) (L' := [(1, .int 6), (0, .ref w)]) dX9_init_78 rfl (by decide) (by decide) rfl ?_
  refine BT.goto (tgt := 59) dX9_init_81 (by decide) ?_
  refine BT.iload_n dX9_init_59 rfl 0 rfl ?_
  refine BT.bipush (v := 8) dX9_init_60 (by decide) ?_
  refine BT.icmp_ge (tgt := 84) dX9_init_62 (by decide) (fun c => absurd c (by decide)) (fun _ => ?_)
  refine BT.aload_n dX9_init_65 rfl 1 rfl ?_
  refine B0.get (v := .ref (w + 43)) fl_X9_24 (by omega) b49 rfl dX9_init_66 ?_
  refine BT.iload_n dX9_init_69 rfl 0 rfl ?_
  refine C0.new (N1 := w + 51) (ks1 := 787) (ci := 6) (fs := bl_6) rfl rfl cl_X9_22 ins_6 ini_6 inw_6 tyX6_ok rfl bl_6_ok (Nat.le_of_ble_eq_true rfl) (Nat.le_of_ble_eq_true rfl) dX9_init_70 (fun f50 n50 o50 => ?_)
  have b50 := (o50 w (by omega)).trans b49
  refine BT.dup dX9_init_73 rfl ?_
  refine BT.callIN [] (c_X6_init (f0 := f50) (K := MkP G f50 (w + 50) (w + 51)) (hP 6 (by omega)) n50 (fun M hM => hM)) mb_X6_init rfl mi_X6_init lk_X9_28 ⟨Nat.le_of_ble_eq_true rfl, Nat.le_of_ble_eq_true rfl⟩ ⟨Nat.le_of_ble_eq_true rfl, Nat.le_of_ble_eq_true rfl⟩ rfl (Nat.le_of_ble_eq_true rfl) dX9_init_74 (fun M51 h51 => ?_)
  obtain ⟨f51, rfl, s51, o51, p51⟩ := s49.obj (by omega) (by omega) o50 h51
  have b51 := (o51 w (by omega)).trans b49
  have x51 := (o51 (w + 43) (by omega)).trans x49
  refine C0.aast (r := (RX6, TX6, 5)) s51 (by omega) (by omega) x51 rfl (by omega) ((p51 (w + 50) (by omega) (by omega)).trans (cellOf_O (hP 6 (by omega)))) rfl (show vp_in (6) 8 from by unfold vp_in; decide) dX9_init_77 (fun f52 s52 x52 o52 => ?_)
  have b52 := (o52 w (by omega)).trans b51
  refine BT.iinc (j := 0) (v := 7) (L' := [(1, .int 7), (0, .ref w)]) dX9_init_78 rfl (by decide) (by decide) rfl ?_
  refine BT.goto (tgt := 59) dX9_init_81 (by decide) ?_
  refine BT.iload_n dX9_init_59 rfl 0 rfl ?_
  refine BT.bipush (v := 8) dX9_init_60 (by decide) ?_
  refine BT.icmp_ge (tgt := 84) dX9_init_62 (by decide) (fun c => absurd c (by decide)) (fun _ => ?_)
  refine BT.aload_n dX9_init_65 rfl 1 rfl ?_
  refine B0.get (v := .ref (w + 43)) fl_X9_24 (by omega) b52 rfl dX9_init_66 ?_
  refine BT.iload_n dX9_init_69 rfl 0 rfl ?_
  refine C0.new (N1 := w + 52) (ks1 := 792) (ci := 6) (fs := bl_6) rfl rfl cl_X9_22 ins_6 ini_6 inw_6 tyX6_ok rfl bl_6_ok (Nat.le_of_ble_eq_true rfl) (Nat.le_of_ble_eq_true rfl) dX9_init_70 (fun f53 n53 o53 => ?_)
  have b53 := (o53 w (by omega)).trans b52
  refine BT.dup dX9_init_73 rfl ?_
  refine BT.callIN [] (c_X6_init (f0 := f53) (K := MkP G f53 (w + 51) (w + 52)) (hP 7 (by omega)) n53 (fun M hM => hM)) mb_X6_init rfl mi_X6_init lk_X9_28 ⟨Nat.le_of_ble_eq_true rfl, Nat.le_of_ble_eq_true rfl⟩ ⟨Nat.le_of_ble_eq_true rfl, Nat.le_of_ble_eq_true rfl⟩ rfl (Nat.le_of_ble_eq_true rfl) dX9_init_74 (fun M54 h54 => ?_)
  obtain ⟨f54, rfl, s54, o54, p54⟩ := s52.obj (by omega) (by omega) o53 h54
  have b54 := (o54 w (by omega)).trans b52
  have x54 := (o54 (w + 43) (by omega)).trans x52
  refine C0.aast (r := (RX6, TX6, 5)) s54 (by omega) (by omega) x54 rfl (by omega) ((p54 (w + 51) (by omega) (by omega)).trans (cellOf_O (hP 7 (by omega)))) rfl (show vp_in (7) 8 from by unfold vp_in; decide) dX9_init_77 (fun f55 s55 x55 o55 => ?_)
  have b55 := (o55 w (by omega)).trans b54
  refine BT.iinc (j := 0) (v := 8) (L' := [(1, .int 8), (0, .ref w)]) dX9_init_78 rfl (by decide) (by decide) rfl ?_
  refine BT.goto (tgt := 59) dX9_init_81 (by decide) ?_
  refine BT.iload_n dX9_init_59 rfl 0 rfl ?_
  refine BT.bipush (v := 8) dX9_init_60 (by decide) ?_
  refine BT.icmp_ge (tgt := 84) dX9_init_62 (by decide) (fun _ => ?_) (fun c => absurd (by decide) c)
  refine C0.full (t := 3) (s0 := w + 44) (d0 := 1) s55 (by omega) (by omega) hA3 (by decide) x55 (fun i hi => ?_) (fun f56 s56 o56 => ?_)
  · match i, hi with
    | 0, _ => exact congrArg some (show g_b G + (w + 44) = g_b G + (w + 44 + 1 * 0) by omega)
    | 1, _ => exact congrArg some (show g_b G + (w + 45) = g_b G + (w + 44 + 1 * 1) by omega)
    | 2, _ => exact congrArg some (show g_b G + (w + 46) = g_b G + (w + 44 + 1 * 2) by omega)
    | 3, _ => exact congrArg some (show g_b G + (w + 47) = g_b G + (w + 44 + 1 * 3) by omega)
    | 4, _ => exact congrArg some (show g_b G + (w + 48) = g_b G + (w + 44 + 1 * 4) by omega)
    | 5, _ => exact congrArg some (show g_b G + (w + 49) = g_b G + (w + 44 + 1 * 5) by omega)
    | 6, _ => exact congrArg some (show g_b G + (w + 50) = g_b G + (w + 44 + 1 * 6) by omega)
    | 7, _ => exact congrArg some (show g_b G + (w + 51) = g_b G + (w + 44 + 1 * 7) by omega)
    | k + 8, h => exact absurd h (by omega)
  have b56 := (o56 w (by omega)).trans b55
  exact BT.vret dX9_init_84 rfl (Nat.le_of_ble_eq_true rfl) (Nat.le_of_ble_eq_true rfl) (h _ (s56.fin (b56.trans (cellOf_R (G := G) (M := MZ) hO).symm)))
