/-! ===== 43.model13 ===== -/
/-! BetweenLawsModel.of(II)I -/
abbrev rm_X11_of : Room := { frames := 2, cells := 0, slots := 0, locals := 46 }
abbrev B_X11_of (G : GT) (K : Int32 → Mem → Prop) := BT G (Rep G) RX11 "of" cX11_of 3 (some .int) rm_X11_of K 0 0
abbrev T_X11_of (G : GT) (as : List Value) (M : Mem) (K : Int32 → Mem → Prop) : Prop := MT G (Rep G) yX11_of cX11_of 3 (some .int) rm_X11_of as M K
theorem e_X11_of {G : GT} {K : Int32 → Mem → Prop} {M : Mem} {v1 : Int32} {v2 : Int32} (h : B_X11_of G K 0 [(0, .ref 175), (1, .int v1), (2, .int v2)] [] M) : T_X11_of G [.ref 175, .int v1, .int v2] M K := MT.of (by decide +kernel) rfl rfl (Nat.le_of_ble_eq_true rfl) rfl h
set_option maxRecDepth 4000 in
theorem k_X11_of_0 {G : GT} {K : Int32 → Mem → Prop} {M : Mem} {W : WT} {v1 : Int32} {v2 : Int32} (h : (RG W M) ∧ (((0 : Int32) ≤ v1 ∧ v1 < W 8 1) → ((v2.toInt < 0 ∨ 9 < v2.toInt) → K (-2) M) ∧ (v2 = 0 → (vp_in v1 8) ∧ K (M.1 177 (Int32.toNatClampNeg v1)) M) ∧ (v2 = 1 → (vp_in v1 8) ∧ K (M.1 178 (Int32.toNatClampNeg v1)) M) ∧ (v2 = 2 → (vp_in v1 8) ∧ K (M.1 179 (Int32.toNatClampNeg v1)) M) ∧ (v2 = 3 → (vp_in v1 8) ∧ K (M.1 182 (Int32.toNatClampNeg v1)) M) ∧ (v2 = 4 → (vp_in v1 8) ∧ K (M.1 183 (Int32.toNatClampNeg v1)) M) ∧ (v2 = 5 → (vp_in v1 8) ∧ K (M.1 184 (Int32.toNatClampNeg v1)) M) ∧ (v2 = 6 → (vp_in v1 8) ∧ K (M.1 185 (Int32.toNatClampNeg v1)) M) ∧ (v2 = 7 → (vp_in v1 8) ∧ K (M.1 186 (Int32.toNatClampNeg v1)) M) ∧ (v2 = 8 → (vp_in v1 8) ∧ K (M.1 187 (Int32.toNatClampNeg v1)) M) ∧ (v2 = 9 → (vp_in v1 8) ∧ K (M.1 188 (Int32.toNatClampNeg v1)) M)) ∧ (¬ ((0 : Int32) ≤ v1 ∧ v1 < W 8 1) → K (-1) M)) : B_X11_of G K 0 [(0, .ref 175), (1, .int v1), (2, .int v2)] [] M := by
  refine BT.aload_n dX11_of_0 rfl 0 rfl ?_
  refine BT.iload_n dX11_of_1 rfl 1 rfl ?_
  refine BT.mcV [.int v1] (t_X11_isLaw h.1 ?_) mb_X11_isLaw mv_X11_isLaw lk_X11_169 rfl (by decide) rfl (recvRep ho_175 rfl) (Nat.le_of_ble_eq_true rfl) dX11_of_2
  show B_X11_of G K 5 [(0, .ref 175), (1, .int v1), (2, .int v2)] [.int (bi ((0 : Int32) ≤ v1 ∧ v1 < W 8 1))] M
  refine BT.if_ne (tgt := 10) dX11_of_5 (by decide) (fun c => ?_) (fun c => ?_)
  · have c2 := bi_ne0.mp c
    refine BT.iload_n dX11_of_10 rfl 2 rfl ?_
    refine BT.tsw (td := 134) dX11_of_11 (by decide) (fun c => ?_) (fun j c cj => ?_)
    · have c4 : (v2.toInt < 0 ∨ 9 < v2.toInt) := c
      refine BT.bipush (v := (-2)) dX11_of_134 (by decide) ?_
      exact BT.iret dX11_of_136 rfl (by decide) (by decide) ((h.2.1 c2).1 c4)
    · match j, c, cj with
      | 0, c, _ =>
        have c : v2 = 0 := Int32.toInt_inj.mp (by rw [c]; rfl)
        refine ⟨64, 53, rfl, by decide, ?_⟩
        have c5 : v2 = 0 := c
        refine BT.aload_n dX11_of_64 rfl 0 rfl ?_
        refine BT.getR (r := 177) fl_X11_13 ho_175 rfl dX11_of_65 ?_
        refine BT.iload_n dX11_of_68 rfl 1 rfl ?_
        refine BT.iald ha_177 ((h.2.1 c2).2.1 c5).1 dX11_of_69 ?_
        exact BT.iret dX11_of_70 rfl (by decide) (by decide) ((h.2.1 c2).2.1 c5).2
      | 1, c, _ =>
        have c : v2 = 1 := Int32.toInt_inj.mp (by rw [c]; rfl)
        refine ⟨71, 60, rfl, by decide, ?_⟩
        have c6 : v2 = 1 := c
        refine BT.aload_n dX11_of_71 rfl 0 rfl ?_
        refine BT.getR (r := 178) fl_X11_16 ho_175 rfl dX11_of_72 ?_
        refine BT.iload_n dX11_of_75 rfl 1 rfl ?_
        refine BT.iald ha_178 ((h.2.1 c2).2.2.1 c6).1 dX11_of_76 ?_
        exact BT.iret dX11_of_77 rfl (by decide) (by decide) ((h.2.1 c2).2.2.1 c6).2
      | 2, c, _ =>
        have c : v2 = 2 := Int32.toInt_inj.mp (by rw [c]; rfl)
        refine ⟨78, 67, rfl, by decide, ?_⟩
        have c7 : v2 = 2 := c
        refine BT.aload_n dX11_of_78 rfl 0 rfl ?_
        refine BT.getR (r := 179) fl_X11_19 ho_175 rfl dX11_of_79 ?_
        refine BT.iload_n dX11_of_82 rfl 1 rfl ?_
        refine BT.iald ha_179 ((h.2.1 c2).2.2.2.1 c7).1 dX11_of_83 ?_
        exact BT.iret dX11_of_84 rfl (by decide) (by decide) ((h.2.1 c2).2.2.2.1 c7).2
      | 3, c, _ =>
        have c : v2 = 3 := Int32.toInt_inj.mp (by rw [c]; rfl)
        refine ⟨85, 74, rfl, by decide, ?_⟩
        have c8 : v2 = 3 := c
        refine BT.aload_n dX11_of_85 rfl 0 rfl ?_
        refine BT.getR (r := 182) fl_X11_28 ho_175 rfl dX11_of_86 ?_
        refine BT.iload_n dX11_of_89 rfl 1 rfl ?_
        refine BT.iald ha_182 ((h.2.1 c2).2.2.2.2.1 c8).1 dX11_of_90 ?_
        exact BT.iret dX11_of_91 rfl (by decide) (by decide) ((h.2.1 c2).2.2.2.2.1 c8).2
      | 4, c, _ =>
        have c : v2 = 4 := Int32.toInt_inj.mp (by rw [c]; rfl)
        refine ⟨92, 81, rfl, by decide, ?_⟩
        have c9 : v2 = 4 := c
        refine BT.aload_n dX11_of_92 rfl 0 rfl ?_
        refine BT.getR (r := 183) fl_X11_31 ho_175 rfl dX11_of_93 ?_
        refine BT.iload_n dX11_of_96 rfl 1 rfl ?_
        refine BT.iald ha_183 ((h.2.1 c2).2.2.2.2.2.1 c9).1 dX11_of_97 ?_
        exact BT.iret dX11_of_98 rfl (by decide) (by decide) ((h.2.1 c2).2.2.2.2.2.1 c9).2
      | 5, c, _ =>
        have c : v2 = 5 := Int32.toInt_inj.mp (by rw [c]; rfl)
        refine ⟨99, 88, rfl, by decide, ?_⟩
        have c10 : v2 = 5 := c
        refine BT.aload_n dX11_of_99 rfl 0 rfl ?_
        refine BT.getR (r := 184) fl_X11_34 ho_175 rfl dX11_of_100 ?_
        refine BT.iload_n dX11_of_103 rfl 1 rfl ?_
        refine BT.iald ha_184 ((h.2.1 c2).2.2.2.2.2.2.1 c10).1 dX11_of_104 ?_
        exact BT.iret dX11_of_105 rfl (by decide) (by decide) ((h.2.1 c2).2.2.2.2.2.2.1 c10).2
      | 6, c, _ =>
        have c : v2 = 6 := Int32.toInt_inj.mp (by rw [c]; rfl)
        refine ⟨106, 95, rfl, by decide, ?_⟩
        have c11 : v2 = 6 := c
        refine BT.aload_n dX11_of_106 rfl 0 rfl ?_
        refine BT.getR (r := 185) fl_X11_37 ho_175 rfl dX11_of_107 ?_
        refine BT.iload_n dX11_of_110 rfl 1 rfl ?_
        refine BT.iald ha_185 ((h.2.1 c2).2.2.2.2.2.2.2.1 c11).1 dX11_of_111 ?_
        exact BT.iret dX11_of_112 rfl (by decide) (by decide) ((h.2.1 c2).2.2.2.2.2.2.2.1 c11).2
      | 7, c, _ =>
        have c : v2 = 7 := Int32.toInt_inj.mp (by rw [c]; rfl)
        refine ⟨113, 102, rfl, by decide, ?_⟩
        have c12 : v2 = 7 := c
        refine BT.aload_n dX11_of_113 rfl 0 rfl ?_
        refine BT.getR (r := 186) fl_X11_40 ho_175 rfl dX11_of_114 ?_
        refine BT.iload_n dX11_of_117 rfl 1 rfl ?_
        refine BT.iald ha_186 ((h.2.1 c2).2.2.2.2.2.2.2.2.1 c12).1 dX11_of_118 ?_
        exact BT.iret dX11_of_119 rfl (by decide) (by decide) ((h.2.1 c2).2.2.2.2.2.2.2.2.1 c12).2
      | 8, c, _ =>
        have c : v2 = 8 := Int32.toInt_inj.mp (by rw [c]; rfl)
        refine ⟨120, 109, rfl, by decide, ?_⟩
        have c13 : v2 = 8 := c
        refine BT.aload_n dX11_of_120 rfl 0 rfl ?_
        refine BT.getR (r := 187) fl_X11_43 ho_175 rfl dX11_of_121 ?_
        refine BT.iload_n dX11_of_124 rfl 1 rfl ?_
        refine BT.iald ha_187 ((h.2.1 c2).2.2.2.2.2.2.2.2.2.1 c13).1 dX11_of_125 ?_
        exact BT.iret dX11_of_126 rfl (by decide) (by decide) ((h.2.1 c2).2.2.2.2.2.2.2.2.2.1 c13).2
      | 9, c, _ =>
        have c : v2 = 9 := Int32.toInt_inj.mp (by rw [c]; rfl)
        refine ⟨127, 116, rfl, by decide, ?_⟩
        have c14 : v2 = 9 := c
        refine BT.aload_n dX11_of_127 rfl 0 rfl ?_
        refine BT.getR (r := 188) fl_X11_46 ho_175 rfl dX11_of_128 ?_
        refine BT.iload_n dX11_of_131 rfl 1 rfl ?_
        refine BT.iald ha_188 ((h.2.1 c2).2.2.2.2.2.2.2.2.2.2 c14).1 dX11_of_132 ?_
        exact BT.iret dX11_of_133 rfl (by decide) (by decide) ((h.2.1 c2).2.2.2.2.2.2.2.2.2.2 c14).2
      | k + 10, _, h => exact absurd h (by omega)
  · have c3 := bi_eq0.mp c
    refine BT.iconst (v := (-1)) dX11_of_8 (by decide) ?_
    exact BT.iret dX11_of_9 rfl (by decide) (by decide) (h.2.2 c3)

theorem t_X11_of {G : GT} {K : Int32 → Mem → Prop} {M : Mem} {W : WT} {v1 v2 : Int32} (hR : RG W M) (hT : RT W M) (h : K (a_of W v1 v2) M) : T_X11_of G [.ref 175, .int v1, .int v2] M K := by
  unfold a_of at h
  refine e_X11_of (k_X11_of_0 (W := W) ⟨hR, fun c => ?_, fun c => ?_⟩)
  · rw [sel_t c] at h
    obtain ⟨i1, i2, i3⟩ := hR.1.ix c
    obtain ⟨r1, r2, r3, r4, r5, r6, r7⟩ := hR.2.2.2.2.2 _ i1
    obtain ⟨⟨-, -, -, -, t5⟩, s1, s2, s3, s4, s5⟩ := hT.2.2 _ i1
    have vl := vp8 i2 i3
    have e10 : sel (W (plw v1) 10 = 0) (0 : Int32) 1 = W (plw v1) 10 := by
      rcases t5 with q | q
      · rw [sel_t q]; exact q.symm
      · rw [sel_f (by rw [q]; decide)]; exact q.symm
    rw [e10] at h
    rw [r1, r2, r3, r4, r5, s1, s2, s3, s4, s5]
    refine ⟨fun c5 => ?_, ?_⟩
    · have n : ∀ x : Int32, ¬ (x.toInt < 0 ∨ 9 < x.toInt) → ¬ v2 = x := by rintro x hx rfl; exact hx c5
      rw [sel_f (n 0 (by decide)), sel_f (n 1 (by decide)), sel_f (n 2 (by decide)), sel_f (n 3 (by decide)), sel_f (n 4 (by decide)), sel_f (n 5 (by decide)), sel_f (n 6 (by decide)), sel_f (n 7 (by decide)), sel_f (n 8 (by decide)), sel_f (n 9 (by decide))] at h
      exact h
    · unfold sel at h
      refine ⟨?_, ?_, ?_, ?_, ?_, ?_, ?_, ?_, ?_, ?_⟩ <;> intro c5 <;> subst c5 <;> simp at h <;> exact ⟨vl, h⟩
  · rw [sel_f c] at h; exact h

/-! BetweenLawsModel.part(III)I -/
abbrev rm_X11_part : Room := { frames := 2, cells := 0, slots := 0, locals := 46 }
abbrev B_X11_part (G : GT) (K : Int32 → Mem → Prop) := BT G (Rep G) RX11 "part" cX11_part 4 (some .int) rm_X11_part K 0 0
abbrev T_X11_part (G : GT) (as : List Value) (M : Mem) (K : Int32 → Mem → Prop) : Prop := MT G (Rep G) yX11_part cX11_part 4 (some .int) rm_X11_part as M K
theorem e_X11_part {G : GT} {K : Int32 → Mem → Prop} {M : Mem} {v1 : Int32} {v2 : Int32} {v3 : Int32} (h : B_X11_part G K 0 [(0, .ref 175), (1, .int v1), (2, .int v2), (3, .int v3)] [] M) : T_X11_part G [.ref 175, .int v1, .int v2, .int v3] M K := MT.of (by decide +kernel) rfl rfl (Nat.le_of_ble_eq_true rfl) rfl h
set_option maxRecDepth 4000 in
theorem k_X11_part_0 {G : GT} {K : Int32 → Mem → Prop} {M : Mem} {W : WT} {v1 : Int32} {v2 : Int32} {v3 : Int32} (h : (RG W M) ∧ (¬ ((0 : Int32) ≤ v1 ∧ v1 < W 8 1) → K (-1) M) ∧ (((0 : Int32) ≤ v1 ∧ v1 < W 8 1) → (vp_in v1 8) ∧ (((0 : Int32) ≤ v2 ∧ v2 ≤ ((M.1 179 (Int32.toNatClampNeg v1)) - 1)) → (¬ v3 = 0 → (¬ v3 = 1 → K (-2) M) ∧ (v3 = 1 → (vp_in (((6 : Int32) * v1) + v2) 48) ∧ K (M.1 181 (Int32.toNatClampNeg (((6 : Int32) * v1) + v2))) M)) ∧ (v3 = 0 → (vp_in (((6 : Int32) * v1) + v2) 48) ∧ K (M.1 180 (Int32.toNatClampNeg (((6 : Int32) * v1) + v2))) M)) ∧ (¬ ((0 : Int32) ≤ v2 ∧ v2 ≤ ((M.1 179 (Int32.toNatClampNeg v1)) - 1)) → K (-1) M))) : B_X11_part G K 0 [(0, .ref 175), (1, .int v1), (2, .int v2), (3, .int v3)] [] M := by
  refine BT.aload_n dX11_part_0 rfl 0 rfl ?_
  refine BT.iload_n dX11_part_1 rfl 1 rfl ?_
  refine BT.mcV [.int v1] (t_X11_isLaw h.1 ?_) mb_X11_isLaw mv_X11_isLaw lk_X11_169 rfl (by decide) rfl (recvRep ho_175 rfl) (Nat.le_of_ble_eq_true rfl) dX11_part_2
  show B_X11_part G K 5 [(0, .ref 175), (1, .int v1), (2, .int v2), (3, .int v3)] [.int (bi ((0 : Int32) ≤ v1 ∧ v1 < W 8 1))] M
  refine BT.if_eq (tgt := 26) dX11_part_5 (by decide) (fun c => ?_) (fun c => ?_)
  · have c2 := bi_eq0.mp c
    refine BT.iconst (v := (-1)) dX11_part_26 (by decide) ?_
    exact BT.iret dX11_part_27 rfl (by decide) (by decide) (h.2.1 c2)
  · have c3 := bi_ne0.mp c
    refine BT.iload_n dX11_part_8 rfl 2 rfl ?_
    refine BT.i2l dX11_part_9 ?_
    refine BT.lconst (v := 0) dX11_part_10 (by decide) ?_
    refine BT.aload_n dX11_part_11 rfl 0 rfl ?_
    refine BT.getR (r := 179) fl_X11_19 ho_175 rfl dX11_part_12 ?_
    refine BT.iload_n dX11_part_15 rfl 1 rfl ?_
    refine BT.iald ha_179 (h.2.2 c3).1 dX11_part_16 ?_
    refine BT.iconst (v := 1) dX11_part_17 (by decide) ?_
    refine BT.isub dX11_part_18 ?_
    refine BT.i2l dX11_part_19 ?_
    refine BT.mcS [.long (Int32.toInt64 v2), .long 0, .long (Int32.toInt64 ((M.1 179 (Int32.toNatClampNeg v1)) - 1))] (t_X11_in (x := v2) (y := (0 : Int32)) (z := ((M.1 179 (Int32.toNatClampNeg v1)) - 1)) rfl (by decide) rfl ?_) mb_X11_in ms_X11_in lk_X11_86 rfl (by decide) rfl (Nat.le_of_ble_eq_true rfl) dX11_part_20
    show B_X11_part G K 23 [(0, .ref 175), (1, .int v1), (2, .int v2), (3, .int v3)] [.int (bi ((0 : Int32) ≤ v2 ∧ v2 ≤ ((M.1 179 (Int32.toNatClampNeg v1)) - 1)))] M
    refine BT.if_ne (tgt := 28) dX11_part_23 (by decide) (fun c => ?_) (fun c => ?_)
    · have c4 := bi_ne0.mp c
      refine BT.iload_n dX11_part_28 rfl 3 rfl ?_
      refine BT.if_ne (tgt := 46) dX11_part_29 (by decide) (fun c => ?_) (fun c => ?_)
      · have c6 := c
        refine BT.iload_n dX11_part_46 rfl 3 rfl ?_
        refine BT.iconst (v := 1) dX11_part_47 (by decide) ?_
        refine BT.icmp_ne (tgt := 65) dX11_part_48 (by decide) (fun c => ?_) (fun c => ?_)
        · have c8 := c
          refine BT.bipush (v := (-2)) dX11_part_65 (by decide) ?_
          exact BT.iret dX11_part_67 rfl (by decide) (by decide) ((((h.2.2 c3).2.1 c4).1 c6).1 c8)
        · have c9 := c
          refine BT.aload_n dX11_part_51 rfl 0 rfl ?_
          refine BT.getR (r := 181) fl_X11_25 ho_175 rfl dX11_part_52 ?_
          refine BT.bipush (v := 6) dX11_part_55 (by decide) ?_
          refine BT.iload_n dX11_part_57 rfl 1 rfl ?_
          refine BT.imul dX11_part_58 ?_
          refine BT.iload_n dX11_part_59 rfl 2 rfl ?_
          refine BT.iadd dX11_part_60 ?_
          refine BT.iald ha_181 ((((h.2.2 c3).2.1 c4).1 c6).2 c9).1 dX11_part_61 ?_
          refine BT.goto (tgt := 67) dX11_part_62 (by decide) ?_
          exact BT.iret dX11_part_67 rfl (by decide) (by decide) ((((h.2.2 c3).2.1 c4).1 c6).2 c9).2
      · have c7 := c
        refine BT.aload_n dX11_part_32 rfl 0 rfl ?_
        refine BT.getR (r := 180) fl_X11_22 ho_175 rfl dX11_part_33 ?_
        refine BT.bipush (v := 6) dX11_part_36 (by decide) ?_
        refine BT.iload_n dX11_part_38 rfl 1 rfl ?_
        refine BT.imul dX11_part_39 ?_
        refine BT.iload_n dX11_part_40 rfl 2 rfl ?_
        refine BT.iadd dX11_part_41 ?_
        refine BT.iald ha_180 (((h.2.2 c3).2.1 c4).2 c7).1 dX11_part_42 ?_
        refine BT.goto (tgt := 67) dX11_part_43 (by decide) ?_
        exact BT.iret dX11_part_67 rfl (by decide) (by decide) (((h.2.2 c3).2.1 c4).2 c7).2
    · have c5 := bi_eq0.mp c
      refine BT.iconst (v := (-1)) dX11_part_26 (by decide) ?_
      exact BT.iret dX11_part_27 rfl (by decide) (by decide) ((h.2.2 c3).2.2 c5)

theorem t_X11_part {G : GT} {K : Int32 → Mem → Prop} {M : Mem} {W : WT} {v1 v2 v3 : Int32} (hR : RG W M) (h : K (a_part W v1 v2 v3) M) : T_X11_part G [.ref 175, .int v1, .int v2, .int v3] M K := by
  unfold a_part at h
  refine e_X11_part (k_X11_part_0 (W := W) ⟨hR, fun c => ?_, fun c => ?_⟩)
  · rw [sel_f c] at h; exact h
  · rw [sel_t c] at h
    obtain ⟨i1, i2, i3⟩ := hR.1.ix c
    obtain ⟨r1, r2, r3, r4, r5, r6, r7⟩ := hR.2.2.2.2.2 _ i1
    obtain ⟨-, -, ⟨k, ⟨hk1, hk6⟩, ek, hk⟩, -⟩ := hR.1.2.2.2 _ i1
    rw [r3]
    refine ⟨vp8 i2 i3, fun c2 => ?_, fun c2 => ?_⟩
    · rw [sel_t c2] at h
      obtain ⟨j, hj, ej⟩ := i_le1 c2.1 (by rw [← ek]; exact c2.2) (by omega)
      subst ej
      have ea : (6 : Int32) * v1 + nI j = nI (6 * Int32.toNatClampNeg v1 + j) := by rw [← nI_add, ← nI_mul, ← i3]; rfl
      have hr := r7 j (by rw [ek, ix_nI (by omega)]; exact hj)
      rw [ea, ix_nI (by omega), hr.1, hr.2]
      rw [ix_nI (show j < 2 ^ 31 by omega)] at h
      have vp : vp_in (nI (6 * Int32.toNatClampNeg v1 + j)) 48 := vp_nI (by omega) (by decide)
      refine ⟨fun c3 => ⟨fun c4 => ?_, fun c4 => ⟨vp, ?_⟩⟩, fun c3 => ⟨vp, ?_⟩⟩
      · rw [sel_f] at h
        · exact h
        · intro q
          obtain ⟨i, hi, ei⟩ := i_nat (x := v3) (N := 2) (by decide) q.1 (Int32.lt_of_le_of_lt q.2 (by decide))
          match i, hi with
          | 0, _ => exact c3 ei
          | 1, _ => exact c4 ei
      · rw [sel_t (by rw [c4]; decide), sel_f c3] at h; exact h
      · rw [sel_t (by rw [c3]; decide), sel_t c3] at h; exact h
    · rw [sel_f c2] at h; exact h

/-! BetweenLawsModel.about(II)I -/
abbrev rm_X11_about : Room := { frames := 2, cells := 0, slots := 0, locals := 46 }
abbrev B_X11_about (G : GT) (K : Int32 → Mem → Prop) := BT G (Rep G) RX11 "about" cX11_about 3 (some .int) rm_X11_about K 0 0
abbrev T_X11_about (G : GT) (as : List Value) (M : Mem) (K : Int32 → Mem → Prop) : Prop := MT G (Rep G) yX11_about cX11_about 3 (some .int) rm_X11_about as M K
theorem e_X11_about {G : GT} {K : Int32 → Mem → Prop} {M : Mem} {v1 : Int32} {v2 : Int32} (h : B_X11_about G K 0 [(0, .ref 175), (1, .int v1), (2, .int v2)] [] M) : T_X11_about G [.ref 175, .int v1, .int v2] M K := MT.of (by decide +kernel) rfl rfl (Nat.le_of_ble_eq_true rfl) rfl h
set_option maxRecDepth 4000 in
theorem k_X11_about_0 {G : GT} {K : Int32 → Mem → Prop} {M : Mem} {W : WT} {v1 : Int32} {v2 : Int32} (h : (RP W M) ∧ (((0 : Int32) ≤ v1 ∧ v1 < W 8 4) → ((v2.toInt < 0 ∨ 4 < v2.toInt) → K (-2) M) ∧ (v2 = 0 → (vp_in v1 9) ∧ K (M.1 189 (Int32.toNatClampNeg v1)) M) ∧ (v2 = 1 → (vp_in v1 9) ∧ K (M.1 190 (Int32.toNatClampNeg v1)) M) ∧ (v2 = 2 → (vp_in v1 9) ∧ K (M.1 191 (Int32.toNatClampNeg v1)) M) ∧ (v2 = 3 → (vp_in v1 9) ∧ K (M.1 192 (Int32.toNatClampNeg v1)) M) ∧ (v2 = 4 → (vp_in v1 9) ∧ K (M.1 193 (Int32.toNatClampNeg v1)) M)) ∧ (¬ ((0 : Int32) ≤ v1 ∧ v1 < W 8 4) → K (-1) M)) : B_X11_about G K 0 [(0, .ref 175), (1, .int v1), (2, .int v2)] [] M := by
  refine BT.aload_n dX11_about_0 rfl 0 rfl ?_
  refine BT.iload_n dX11_about_1 rfl 1 rfl ?_
  refine BT.mcV [.int v1] (t_X11_isPiece h.1 ?_) mb_X11_isPiece mv_X11_isPiece lk_X11_198 rfl (by decide) rfl (recvRep ho_175 rfl) (Nat.le_of_ble_eq_true rfl) dX11_about_2
  show B_X11_about G K 5 [(0, .ref 175), (1, .int v1), (2, .int v2)] [.int (bi ((0 : Int32) ≤ v1 ∧ v1 < W 8 4))] M
  refine BT.if_ne (tgt := 10) dX11_about_5 (by decide) (fun c => ?_) (fun c => ?_)
  · have c2 := bi_ne0.mp c
    refine BT.iload_n dX11_about_10 rfl 2 rfl ?_
    refine BT.tsw (td := 79) dX11_about_11 (by decide) (fun c => ?_) (fun j c cj => ?_)
    · have c4 : (v2.toInt < 0 ∨ 4 < v2.toInt) := c
      refine BT.bipush (v := (-2)) dX11_about_79 (by decide) ?_
      exact BT.iret dX11_about_81 rfl (by decide) (by decide) ((h.2.1 c2).1 c4)
    · match j, c, cj with
      | 0, c, _ =>
        have c : v2 = 0 := Int32.toInt_inj.mp (by rw [c]; rfl)
        refine ⟨44, 33, rfl, by decide, ?_⟩
        have c5 : v2 = 0 := c
        refine BT.aload_n dX11_about_44 rfl 0 rfl ?_
        refine BT.getR (r := 189) fl_X11_53 ho_175 rfl dX11_about_45 ?_
        refine BT.iload_n dX11_about_48 rfl 1 rfl ?_
        refine BT.iald ha_189 ((h.2.1 c2).2.1 c5).1 dX11_about_49 ?_
        exact BT.iret dX11_about_50 rfl (by decide) (by decide) ((h.2.1 c2).2.1 c5).2
      | 1, c, _ =>
        have c : v2 = 1 := Int32.toInt_inj.mp (by rw [c]; rfl)
        refine ⟨51, 40, rfl, by decide, ?_⟩
        have c6 : v2 = 1 := c
        refine BT.aload_n dX11_about_51 rfl 0 rfl ?_
        refine BT.getR (r := 190) fl_X11_56 ho_175 rfl dX11_about_52 ?_
        refine BT.iload_n dX11_about_55 rfl 1 rfl ?_
        refine BT.iald ha_190 ((h.2.1 c2).2.2.1 c6).1 dX11_about_56 ?_
        exact BT.iret dX11_about_57 rfl (by decide) (by decide) ((h.2.1 c2).2.2.1 c6).2
      | 2, c, _ =>
        have c : v2 = 2 := Int32.toInt_inj.mp (by rw [c]; rfl)
        refine ⟨58, 47, rfl, by decide, ?_⟩
        have c7 : v2 = 2 := c
        refine BT.aload_n dX11_about_58 rfl 0 rfl ?_
        refine BT.getR (r := 191) fl_X11_59 ho_175 rfl dX11_about_59 ?_
        refine BT.iload_n dX11_about_62 rfl 1 rfl ?_
        refine BT.iald ha_191 ((h.2.1 c2).2.2.2.1 c7).1 dX11_about_63 ?_
        exact BT.iret dX11_about_64 rfl (by decide) (by decide) ((h.2.1 c2).2.2.2.1 c7).2
      | 3, c, _ =>
        have c : v2 = 3 := Int32.toInt_inj.mp (by rw [c]; rfl)
        refine ⟨65, 54, rfl, by decide, ?_⟩
        have c8 : v2 = 3 := c
        refine BT.aload_n dX11_about_65 rfl 0 rfl ?_
        refine BT.getR (r := 192) fl_X11_62 ho_175 rfl dX11_about_66 ?_
        refine BT.iload_n dX11_about_69 rfl 1 rfl ?_
        refine BT.iald ha_192 ((h.2.1 c2).2.2.2.2.1 c8).1 dX11_about_70 ?_
        exact BT.iret dX11_about_71 rfl (by decide) (by decide) ((h.2.1 c2).2.2.2.2.1 c8).2
      | 4, c, _ =>
        have c : v2 = 4 := Int32.toInt_inj.mp (by rw [c]; rfl)
        refine ⟨72, 61, rfl, by decide, ?_⟩
        have c9 : v2 = 4 := c
        refine BT.aload_n dX11_about_72 rfl 0 rfl ?_
        refine BT.getR (r := 193) fl_X11_65 ho_175 rfl dX11_about_73 ?_
        refine BT.iload_n dX11_about_76 rfl 1 rfl ?_
        refine BT.iald ha_193 ((h.2.1 c2).2.2.2.2.2 c9).1 dX11_about_77 ?_
        exact BT.iret dX11_about_78 rfl (by decide) (by decide) ((h.2.1 c2).2.2.2.2.2 c9).2
      | k + 5, _, h => exact absurd h (by omega)
  · have c3 := bi_eq0.mp c
    refine BT.iconst (v := (-1)) dX11_about_8 (by decide) ?_
    exact BT.iret dX11_about_9 rfl (by decide) (by decide) (h.2.2 c3)

theorem t_X11_about {G : GT} {K : Int32 → Mem → Prop} {M : Mem} {W : WT} {v1 v2 : Int32} (hQ : RP W M) (h : K (a_about W v1 v2) M) : T_X11_about G [.ref 175, .int v1, .int v2] M K := by
  unfold a_about at h
  refine e_X11_about (k_X11_about_0 (W := W) ⟨hQ, fun c => ?_, fun c => ?_⟩)
  · rw [sel_t c] at h
    obtain ⟨i1, i2, i3, hP, ez⟩ := hQ.ix c
    obtain ⟨p0, p1, -, e0, e1, e2, e3⟩ := hP.at
    have e4 := (hQ.2.2 _ i1).2
    have vp : vp_in v1 9 := by rw [p1]; exact vp_nI p0 (by decide)
    rw [← ez] at h
    rw [e0, e1, e2, e3, e4, show 52 + Int32.toNatClampNeg v1 = zp v1 from ez.symm]
    refine ⟨fun c5 => ?_, ?_⟩
    · have n : ∀ x : Int32, ¬ (x.toInt < 0 ∨ 4 < x.toInt) → ¬ v2 = x := by rintro x hx rfl; exact hx c5
      rw [sel_f (n 0 (by decide)), sel_f (n 1 (by decide)), sel_f (n 2 (by decide)), sel_f (n 3 (by decide)), sel_f (n 4 (by decide))] at h
      exact h
    · generalize zp v1 = z at h ⊢
      unfold sel at h
      refine ⟨?_, ?_, ?_, ?_, ?_⟩ <;> intro c5 <;> subst c5 <;> simp at h <;> exact ⟨vp, h⟩
  · rw [sel_f c] at h; exact h

/-! BetweenLawsModel.told(I)I -/
abbrev rm_X11_told : Room := { frames := 0, cells := 0, slots := 0, locals := 0 }
abbrev B_X11_told (G : GT) (K : Int32 → Mem → Prop) := BT G (Rep G) RX11 "told" cX11_told 2 (some .int) rm_X11_told K 0 0
abbrev T_X11_told (G : GT) (as : List Value) (M : Mem) (K : Int32 → Mem → Prop) : Prop := MT G (Rep G) yX11_told cX11_told 2 (some .int) rm_X11_told as M K
theorem e_X11_told {G : GT} {K : Int32 → Mem → Prop} {M : Mem} {v1 : Int32} (h : B_X11_told G K 0 [(0, .ref 175), (1, .int v1)] [] M) : T_X11_told G [.ref 175, .int v1] M K := MT.of (by decide +kernel) rfl rfl (Nat.le_of_ble_eq_true rfl) rfl h
set_option maxRecDepth 4000 in
theorem k_X11_told_0 {G : GT} {K : Int32 → Mem → Prop} {M : Mem} {v1 : Int32} (h : ((v1.toInt < 0 ∨ 5 < v1.toInt) → K (-2) M) ∧ (v1 = 0 → K (M.1 175 18) M) ∧ (v1 = 1 → K (M.1 175 26) M) ∧ (v1 = 2 → K (M.1 175 1) M) ∧ (v1 = 3 → K (M.1 175 27) M) ∧ (v1 = 4 → K (M.1 175 28) M) ∧ (v1 = 5 → K (M.1 175 29) M)) : B_X11_told G K 0 [(0, .ref 175), (1, .int v1)] [] M := by
  refine BT.iload_n dX11_told_0 rfl 1 rfl ?_
  refine BT.tsw (td := 70) dX11_told_1 (by decide) (fun c => ?_) (fun j c cj => ?_)
  · have c1 : (v1.toInt < 0 ∨ 5 < v1.toInt) := c
    refine BT.bipush (v := (-2)) dX11_told_70 (by decide) ?_
    exact BT.iret dX11_told_72 rfl (by decide) (by decide) (h.1 c1)
  · match j, c, cj with
    | 0, c, _ =>
      have c : v1 = 0 := Int32.toInt_inj.mp (by rw [c]; rfl)
      refine ⟨40, 39, rfl, by decide, ?_⟩
      have c2 : v1 = 0 := c
      refine BT.aload_n dX11_told_40 rfl 0 rfl ?_
      refine BT.getI fl_X11_149 ho_175 rfl dX11_told_41 ?_
      exact BT.iret dX11_told_44 rfl (by decide) (by decide) (h.2.1 c2)
    | 1, c, _ =>
      have c : v1 = 1 := Int32.toInt_inj.mp (by rw [c]; rfl)
      refine ⟨45, 44, rfl, by decide, ?_⟩
      have c3 : v1 = 1 := c
      refine BT.aload_n dX11_told_45 rfl 0 rfl ?_
      refine BT.getI fl_X11_190 ho_175 rfl dX11_told_46 ?_
      exact BT.iret dX11_told_49 rfl (by decide) (by decide) (h.2.2.1 c3)
    | 2, c, _ =>
      have c : v1 = 2 := Int32.toInt_inj.mp (by rw [c]; rfl)
      refine ⟨50, 49, rfl, by decide, ?_⟩
      have c4 : v1 = 2 := c
      refine BT.aload_n dX11_told_50 rfl 0 rfl ?_
      refine BT.getI fl_X11_94 ho_175 rfl dX11_told_51 ?_
      exact BT.iret dX11_told_54 rfl (by decide) (by decide) (h.2.2.2.1 c4)
    | 3, c, _ =>
      have c : v1 = 3 := Int32.toInt_inj.mp (by rw [c]; rfl)
      refine ⟨55, 54, rfl, by decide, ?_⟩
      have c5 : v1 = 3 := c
      refine BT.aload_n dX11_told_55 rfl 0 rfl ?_
      refine BT.getI fl_X11_201 ho_175 rfl dX11_told_56 ?_
      exact BT.iret dX11_told_59 rfl (by decide) (by decide) (h.2.2.2.2.1 c5)
    | 4, c, _ =>
      have c : v1 = 4 := Int32.toInt_inj.mp (by rw [c]; rfl)
      refine ⟨60, 59, rfl, by decide, ?_⟩
      have c6 : v1 = 4 := c
      refine BT.aload_n dX11_told_60 rfl 0 rfl ?_
      refine BT.getI fl_X11_204 ho_175 rfl dX11_told_61 ?_
      exact BT.iret dX11_told_64 rfl (by decide) (by decide) (h.2.2.2.2.2.1 c6)
    | 5, c, _ =>
      have c : v1 = 5 := Int32.toInt_inj.mp (by rw [c]; rfl)
      refine ⟨65, 64, rfl, by decide, ?_⟩
      have c7 : v1 = 5 := c
      refine BT.aload_n dX11_told_65 rfl 0 rfl ?_
      refine BT.getI fl_X11_207 ho_175 rfl dX11_told_66 ?_
      exact BT.iret dX11_told_69 rfl (by decide) (by decide) (h.2.2.2.2.2.2 c7)
    | k + 6, _, h => exact absurd h (by omega)

theorem t_X11_told {G : GT} {K : Int32 → Mem → Prop} {M : Mem} {W : WT} {v1 : Int32} (hR : RG W M) (hQ : RP W M) (hS : M.1 175 1 = W 1 1) (h : K (a_told W v1) M) : T_X11_told G [.ref 175, .int v1] M K := by
  unfold a_told at h
  refine e_X11_told (k_X11_told_0 ?_)
  rw [hR.2.1, hQ.2.1, hS, hR.2.2.1, hR.2.2.2.1, hR.2.2.2.2.1]
  refine ⟨fun c5 => ?_, ?_⟩
  · have n : ∀ x : Int32, ¬ (x.toInt < 0 ∨ 5 < x.toInt) → ¬ v1 = x := by rintro x hx rfl; exact hx c5
    rw [sel_f (n 0 (by decide)), sel_f (n 1 (by decide)), sel_f (n 2 (by decide)), sel_f (n 3 (by decide)), sel_f (n 4 (by decide)), sel_f (n 5 (by decide))] at h
    exact h
  · unfold sel at h
    refine ⟨?_, ?_, ?_, ?_, ?_, ?_⟩ <;> intro c5 <;> subst c5 <;> simp at h <;> exact h

/-! BetweenLawsModel.layPiece(III)V -/
abbrev rm_X11_layPiece : Room := { frames := 0, cells := 0, slots := 0, locals := 0 }
abbrev B_X11_layPiece (G : GT) (K : Int32 → Mem → Prop) := BT G (Rep G) RX11 "layPiece" cX11_layPiece 4 none rm_X11_layPiece K 0 0
abbrev T_X11_layPiece (G : GT) (as : List Value) (M : Mem) (K : Int32 → Mem → Prop) : Prop := MT G (Rep G) yX11_layPiece cX11_layPiece 4 none rm_X11_layPiece as M K
theorem e_X11_layPiece {G : GT} {K : Int32 → Mem → Prop} {M : Mem} {v1 : Int32} {v2 : Int32} {v3 : Int32} (h : B_X11_layPiece G K 0 [(0, .ref 175), (1, .int v1), (2, .int v2), (3, .int v3)] [] M) : T_X11_layPiece G [.ref 175, .int v1, .int v2, .int v3] M K := MT.of (by decide +kernel) rfl rfl (Nat.le_of_ble_eq_true rfl) rfl h
set_option maxRecDepth 4000 in
theorem k_X11_layPiece_0 {G : GT} {K : Int32 → Mem → Prop} {M : Mem} {v1 : Int32} {v2 : Int32} {v3 : Int32} (h : (vp_in v1 9) ∧ (vp_in v1 9) ∧ (vp_in v1 9) ∧ (vp_in v1 9) ∧ (vp_in v1 9) ∧ K 0 (m_i (m_i (m_i (m_i (m_i M 189 (Int32.toNatClampNeg v1) v2) 190 (Int32.toNatClampNeg v1) (-6)) 191 (Int32.toNatClampNeg v1) (-6)) 192 (Int32.toNatClampNeg v1) v3) 193 (Int32.toNatClampNeg v1) (-6))) : B_X11_layPiece G K 0 [(0, .ref 175), (1, .int v1), (2, .int v2), (3, .int v3)] [] M := by
  refine BT.aload_n dX11_layPiece_0 rfl 0 rfl ?_
  refine BT.getR (r := 189) fl_X11_53 ho_175 rfl dX11_layPiece_1 ?_
  refine BT.iload_n dX11_layPiece_4 rfl 1 rfl ?_
  refine BT.iload_n dX11_layPiece_5 rfl 2 rfl ?_
  refine BT.iast ha_189 h.1 dX11_layPiece_6 ?_
  refine BT.aload_n dX11_layPiece_7 rfl 0 rfl ?_
  refine BT.getR (r := 190) fl_X11_56 ho_175 rfl dX11_layPiece_8 ?_
  refine BT.iload_n dX11_layPiece_11 rfl 1 rfl ?_
  refine BT.bipush (v := (-6)) dX11_layPiece_12 (by decide) ?_
  refine BT.iast ha_190 h.2.1 dX11_layPiece_14 ?_
  refine BT.aload_n dX11_layPiece_15 rfl 0 rfl ?_
  refine BT.getR (r := 191) fl_X11_59 ho_175 rfl dX11_layPiece_16 ?_
  refine BT.iload_n dX11_layPiece_19 rfl 1 rfl ?_
  refine BT.bipush (v := (-6)) dX11_layPiece_20 (by decide) ?_
  refine BT.iast ha_191 h.2.2.1 dX11_layPiece_22 ?_
  refine BT.aload_n dX11_layPiece_23 rfl 0 rfl ?_
  refine BT.getR (r := 192) fl_X11_62 ho_175 rfl dX11_layPiece_24 ?_
  refine BT.iload_n dX11_layPiece_27 rfl 1 rfl ?_
  refine BT.iload_n dX11_layPiece_28 rfl 3 rfl ?_
  refine BT.iast ha_192 h.2.2.2.1 dX11_layPiece_29 ?_
  refine BT.aload_n dX11_layPiece_30 rfl 0 rfl ?_
  refine BT.getR (r := 193) fl_X11_65 ho_175 rfl dX11_layPiece_31 ?_
  refine BT.iload_n dX11_layPiece_34 rfl 1 rfl ?_
  refine BT.bipush (v := (-6)) dX11_layPiece_35 (by decide) ?_
  refine BT.iast ha_193 h.2.2.2.2.1 dX11_layPiece_37 ?_
  exact BT.vret dX11_layPiece_38 rfl (by decide) (by decide) h.2.2.2.2.2

def z_lay (M : Mem) (j : Nat) (d m : Int32) : Mem := m_i (m_i (m_i (m_i (m_i M 189 j d) 190 j (-6)) 191 j (-6)) 192 j m) 193 j (-6)
theorem t_X11_layPiece {G : GT} {K : Int32 → Mem → Prop} {M : Mem} {v1 v2 v3 : Int32} (hj : ∃ j, j < 9 ∧ v1 = nI j) (h : K 0 (z_lay M (Int32.toNatClampNeg v1) v2 v3)) : T_X11_layPiece G [.ref 175, .int v1, .int v2, .int v3] M K := by
  obtain ⟨j, hj, rfl⟩ := hj
  have vp : vp_in (nI j) 9 := vp_nI hj (by decide)
  exact e_X11_layPiece (k_X11_layPiece_0 ⟨vp, vp, vp, vp, vp, h⟩)

/-! BetweenLawsModel.clearWere()V -/
abbrev rm_X11_clearWere : Room := { frames := 0, cells := 0, slots := 0, locals := 0 }
abbrev B_X11_clearWere (G : GT) (K : Int32 → Mem → Prop) := BT G (Rep G) RX11 "clearWere" cX11_clearWere 2 none rm_X11_clearWere K 0 0
abbrev T_X11_clearWere (G : GT) (as : List Value) (M : Mem) (K : Int32 → Mem → Prop) : Prop := MT G (Rep G) yX11_clearWere cX11_clearWere 2 none rm_X11_clearWere as M K
theorem e_X11_clearWere {G : GT} {K : Int32 → Mem → Prop} {M : Mem}  (h : B_X11_clearWere G K 0 [(0, .ref 175)] [] M) : T_X11_clearWere G [.ref 175] M K := MT.of (by decide +kernel) rfl rfl (Nat.le_of_ble_eq_true rfl) rfl h
set_option maxRecDepth 4000 in
theorem k_X11_clearWere_0 {G : GT} {K : Int32 → Mem → Prop} {M : Mem}  (h : B_X11_clearWere G K 2 [(0, .ref 175), (1, .int 0)] [] M) : B_X11_clearWere G K 0 [(0, .ref 175)] [] M := by
  refine BT.iconst (v := 0) dX11_clearWere_0 (by decide) ?_
  refine BT.istore_n (L' := [(1, .int 0), (0, .ref 175)]) dX11_clearWere_1 rfl (by decide) rfl ?_
  refine BT.sub [1, 0] rfl ?_
  exact h
set_option maxRecDepth 4000 in
theorem k_X11_clearWere_2 {G : GT} {K : Int32 → Mem → Prop} {M : Mem} {v1 : Int32} (h : (102 ≤ v1 → K 0 M) ∧ (¬ 102 ≤ v1 → (vp_in v1 102) ∧ B_X11_clearWere G K 2 [(0, .ref 175), (1, .int (v1 + 1))] [] (m_i M 195 (Int32.toNatClampNeg v1) 0))) : B_X11_clearWere G K 2 [(0, .ref 175), (1, .int v1)] [] M := by
  refine BT.iload_n dX11_clearWere_2 rfl 1 rfl ?_
  refine BT.bipush (v := 102) dX11_clearWere_3 (by decide) ?_
  refine BT.icmp_ge (tgt := 21) dX11_clearWere_5 (by decide) (fun c => ?_) (fun c => ?_)
  · have c1 := c
    exact BT.vret dX11_clearWere_21 rfl (by decide) (by decide) (h.1 c1)
  · have c2 := c
    refine BT.aload_n dX11_clearWere_8 rfl 0 rfl ?_
    refine BT.getR (r := 195) fl_X11_71 ho_175 rfl dX11_clearWere_9 ?_
    refine BT.iload_n dX11_clearWere_12 rfl 1 rfl ?_
    refine BT.iconst (v := 0) dX11_clearWere_13 (by decide) ?_
    refine BT.zast ha_195 (h.2 c2).1 (Or.inl rfl) dX11_clearWere_14 ?_
    refine BT.iinc (j := 1) (v := (v1 + 1)) (L' := [(1, .int (v1 + 1)), (0, .ref 175)]) dX11_clearWere_15 rfl rfl (by decide) rfl ?_
    refine BT.goto (tgt := 2) dX11_clearWere_18 (by decide) ?_
    refine BT.sub [1, 0] rfl ?_
    exact (h.2 c2).2

/-- what the kinds of answers may change -/
def Zcw (M N : Mem) : Prop := (∀ c, ¬ c = 195 → N.1 c = M.1 c) ∧ N.2 = M.2
theorem Zcw.q {M N : Mem} (h : Zcw M N) : Zq M N := ⟨fun c hc => h.1 c (by omega), fun k _ => by rw [h.1 175 (by decide)], h.2⟩
theorem t_X11_clearWere {G : GT} {K : Int32 → Mem → Prop} {M : Mem} (h : ∀ N, Zcw M N ∧ (∀ k, k < 102 → N.1 195 k = 0) → K 0 N) : T_X11_clearWere G [.ref 175] M K := by
  refine e_X11_clearWere (k_X11_clearWere_0 ?_)
  refine up_loop (P := fun j => ∀ N, Zcw M N → (∀ k, k < j → N.1 195 k = 0) → B_X11_clearWere G K 2 [(0, .ref 175), (1, .int (nI j))] [] N) 102 (fun N hN hz => ?_) (fun j hj ih N hN hz => ?_) 0 (Nat.zero_le _) M ⟨fun _ _ => rfl, rfl⟩ (fun k hk => absurd hk (by omega))
  · exact k_X11_clearWere_2 ⟨fun _ => h N ⟨hN, hz⟩, fun c => absurd (by decide) c⟩
  · refine k_X11_clearWere_2 ⟨fun c => absurd c (Int32.not_le.mpr (nI_lt (b := 102) hj (by decide))), fun _ => ⟨vp_nI hj (by decide), ?_⟩⟩
    rw [ix_nI (by omega), nI_1]
    refine ih _ ⟨fun c hc => (mi_off hc).trans (hN.1 c hc), hN.2⟩ (fun k hk => ?_)
    by_cases e : k = j
    · rw [e, m_i_at]
    · rw [m_i_ne (by omega)]; exact hz k (by omega)

/-! BetweenLawsModel.note(I)V -/
abbrev rm_X11_note : Room := { frames := 0, cells := 0, slots := 0, locals := 0 }
abbrev B_X11_note (G : GT) (K : Int32 → Mem → Prop) := BT G (Rep G) RX11 "note" cX11_note 2 none rm_X11_note K 0 0
abbrev T_X11_note (G : GT) (as : List Value) (M : Mem) (K : Int32 → Mem → Prop) : Prop := MT G (Rep G) yX11_note cX11_note 2 none rm_X11_note as M K
theorem e_X11_note {G : GT} {K : Int32 → Mem → Prop} {M : Mem} {v1 : Int32} (h : B_X11_note G K 0 [(0, .ref 175), (1, .int v1)] [] M) : T_X11_note G [.ref 175, .int v1] M K := MT.of (by decide +kernel) rfl rfl (Nat.le_of_ble_eq_true rfl) rfl h
set_option maxRecDepth 4000 in
theorem k_X11_note_0 {G : GT} {K : Int32 → Mem → Prop} {M : Mem} {v1 : Int32} (h : (v1 < 0 → (¬ v1 = (-6) → K 0 (m_i M 195 101 1)) ∧ (v1 = (-6) → K 0 (m_i M 195 100 1))) ∧ (¬ v1 < 0 → (vp_in v1 102) ∧ K 0 (m_i M 195 (Int32.toNatClampNeg v1) 1))) : B_X11_note G K 0 [(0, .ref 175), (1, .int v1)] [] M := by
  refine BT.aload_n dX11_note_0 rfl 0 rfl ?_
  refine BT.getR (r := 195) fl_X11_71 ho_175 rfl dX11_note_1 ?_
  refine BT.iload_n dX11_note_4 rfl 1 rfl ?_
  refine BT.if_lt (tgt := 12) dX11_note_5 (by decide) (fun c => ?_) (fun c => ?_)
  · have c1 := c
    refine BT.iload_n dX11_note_12 rfl 1 rfl ?_
    refine BT.bipush (v := (-6)) dX11_note_13 (by decide) ?_
    refine BT.icmp_ne (tgt := 23) dX11_note_15 (by decide) (fun c => ?_) (fun c => ?_)
    · have c3 := c
      refine BT.bipush (v := 101) dX11_note_23 (by decide) ?_
      refine BT.iconst (v := 1) dX11_note_25 (by decide) ?_
      refine BT.zast ha_195 (show vp_in (101) 102 from by unfold vp_in; decide) (Or.inr rfl) dX11_note_26 ?_
      exact BT.vret dX11_note_27 rfl (by decide) (by decide) ((h.1 c1).1 c3)
    · have c4 := c
      refine BT.bipush (v := 100) dX11_note_18 (by decide) ?_
      refine BT.goto (tgt := 25) dX11_note_20 (by decide) ?_
      refine BT.iconst (v := 1) dX11_note_25 (by decide) ?_
      refine BT.zast ha_195 (show vp_in (100) 102 from by unfold vp_in; decide) (Or.inr rfl) dX11_note_26 ?_
      exact BT.vret dX11_note_27 rfl (by decide) (by decide) ((h.1 c1).2 c4)
  · have c2 := c
    refine BT.iload_n dX11_note_8 rfl 1 rfl ?_
    refine BT.goto (tgt := 25) dX11_note_9 (by decide) ?_
    refine BT.iconst (v := 1) dX11_note_25 (by decide) ?_
    refine BT.zast ha_195 (h.2 c2).1 (Or.inr rfl) dX11_note_26 ?_
    exact BT.vret dX11_note_27 rfl (by decide) (by decide) (h.2 c2).2

def AnsO (x : Int32) : Prop := x = -6 ∨ x = -3 ∨ ∃ g, g < 100 ∧ x = nI g
def z_idx (x : Int32) : Nat := if x = -6 then 100 else if x = -3 then 101 else Int32.toNatClampNeg x
theorem t_X11_note {G : GT} {K : Int32 → Mem → Prop} {M : Mem} {v1 : Int32} (ha : AnsO v1) (h : K 0 (m_i M 195 (z_idx v1) 1)) : T_X11_note G [.ref 175, .int v1] M K := by
  refine e_X11_note (k_X11_note_0 ?_)
  rcases ha with rfl | rfl | ⟨g, hg, rfl⟩
  · exact ⟨fun _ => ⟨fun c => absurd rfl c, fun _ => h⟩, fun c => absurd (by decide) c⟩
  · exact ⟨fun _ => ⟨fun _ => h, fun c => absurd c (by decide)⟩, fun c => absurd (by decide) c⟩
  · refine ⟨fun c => absurd c (nI_ge0 (by omega)), fun _ => ⟨vp_nI (by omega) (by decide), ?_⟩⟩
    unfold z_idx at h
    rw [if_neg (nI_n6 (by omega)), if_neg (fun q => absurd (nI_pos' (n := g) (by omega)) (by rw [q]; decide))] at h
    exact h

/-! BetweenLawsModel.manyWere()I -/
abbrev rm_X11_manyWere : Room := { frames := 0, cells := 0, slots := 0, locals := 0 }
abbrev B_X11_manyWere (G : GT) (K : Int32 → Mem → Prop) := BT G (Rep G) RX11 "manyWere" cX11_manyWere 3 (some .int) rm_X11_manyWere K 0 0
abbrev T_X11_manyWere (G : GT) (as : List Value) (M : Mem) (K : Int32 → Mem → Prop) : Prop := MT G (Rep G) yX11_manyWere cX11_manyWere 3 (some .int) rm_X11_manyWere as M K
theorem e_X11_manyWere {G : GT} {K : Int32 → Mem → Prop} {M : Mem}  (h : B_X11_manyWere G K 0 [(0, .ref 175)] [] M) : T_X11_manyWere G [.ref 175] M K := MT.of (by decide +kernel) rfl rfl (Nat.le_of_ble_eq_true rfl) rfl h
set_option maxRecDepth 4000 in
theorem k_X11_manyWere_0 {G : GT} {K : Int32 → Mem → Prop} {M : Mem}  (h : B_X11_manyWere G K 4 [(0, .ref 175), (1, .int 0), (2, .int 0)] [] M) : B_X11_manyWere G K 0 [(0, .ref 175)] [] M := by
  refine BT.iconst (v := 0) dX11_manyWere_0 (by decide) ?_
  refine BT.istore_n (L' := [(1, .int 0), (0, .ref 175)]) dX11_manyWere_1 rfl (by decide) rfl ?_
  refine BT.iconst (v := 0) dX11_manyWere_2 (by decide) ?_
  refine BT.istore_n (L' := [(2, .int 0), (1, .int 0), (0, .ref 175)]) dX11_manyWere_3 rfl (by decide) rfl ?_
  refine BT.sub [2, 1, 0] rfl ?_
  exact h
set_option maxRecDepth 4000 in
theorem k_X11_manyWere_4 {G : GT} {K : Int32 → Mem → Prop} {M : Mem} {v1 : Int32} {v2 : Int32} (h : (102 ≤ v2 → K v1 M) ∧ (¬ 102 ≤ v2 → (vp_in v2 102) ∧ ((M.1 195 (Int32.toNatClampNeg v2)) = 0 → B_X11_manyWere G K 4 [(0, .ref 175), (1, .int (v1 + 0)), (2, .int (v2 + 1))] [] M) ∧ (¬ (M.1 195 (Int32.toNatClampNeg v2)) = 0 → B_X11_manyWere G K 4 [(0, .ref 175), (1, .int (v1 + 1)), (2, .int (v2 + 1))] [] M))) : B_X11_manyWere G K 4 [(0, .ref 175), (1, .int v1), (2, .int v2)] [] M := by
  refine BT.iload_n dX11_manyWere_4 rfl 2 rfl ?_
  refine BT.bipush (v := 102) dX11_manyWere_5 (by decide) ?_
  refine BT.icmp_ge (tgt := 33) dX11_manyWere_7 (by decide) (fun c => ?_) (fun c => ?_)
  · have c1 := c
    refine BT.iload_n dX11_manyWere_33 rfl 1 rfl ?_
    exact BT.iret dX11_manyWere_34 rfl (by decide) (by decide) (h.1 c1)
  · have c2 := c
    refine BT.iload_n dX11_manyWere_10 rfl 1 rfl ?_
    refine BT.aload_n dX11_manyWere_11 rfl 0 rfl ?_
    refine BT.getR (r := 195) fl_X11_71 ho_175 rfl dX11_manyWere_12 ?_
    refine BT.iload_n dX11_manyWere_15 rfl 2 rfl ?_
    refine BT.zald ha_195 (h.2 c2).1 dX11_manyWere_16 ?_
    refine BT.if_eq (tgt := 24) dX11_manyWere_17 (by decide) (fun c => ?_) (fun c => ?_)
    · have c3 := c
      refine BT.iconst (v := 0) dX11_manyWere_24 (by decide) ?_
      refine BT.iadd dX11_manyWere_25 ?_
      refine BT.istore_n (L' := [(1, .int (v1 + 0)), (0, .ref 175), (2, .int v2)]) dX11_manyWere_26 rfl (by decide) rfl ?_
      refine BT.iinc (j := 2) (v := (v2 + 1)) (L' := [(2, .int (v2 + 1)), (1, .int (v1 + 0)), (0, .ref 175)]) dX11_manyWere_27 rfl rfl (by decide) rfl ?_
      refine BT.goto (tgt := 4) dX11_manyWere_30 (by decide) ?_
      refine BT.sub [2, 1, 0] rfl ?_
      exact ((h.2 c2).2.1 c3)
    · have c4 := c
      refine BT.iconst (v := 1) dX11_manyWere_20 (by decide) ?_
      refine BT.goto (tgt := 25) dX11_manyWere_21 (by decide) ?_
      refine BT.iadd dX11_manyWere_25 ?_
      refine BT.istore_n (L' := [(1, .int (v1 + 1)), (0, .ref 175), (2, .int v2)]) dX11_manyWere_26 rfl (by decide) rfl ?_
      refine BT.iinc (j := 2) (v := (v2 + 1)) (L' := [(2, .int (v2 + 1)), (1, .int (v1 + 1)), (0, .ref 175)]) dX11_manyWere_27 rfl rfl (by decide) rfl ?_
      refine BT.goto (tgt := 4) dX11_manyWere_30 (by decide) ?_
      refine BT.sub [2, 1, 0] rfl ?_
      exact ((h.2 c2).2.2 c4)

noncomputable def z_cnt (Z : WT) : Nat → Nat
  | 0 => 0
  | k + 1 => z_cnt Z k + sel (Z 195 k = 0) 0 1
theorem z_cnt_le (Z : WT) : ∀ k, z_cnt Z k ≤ k
  | 0 => Nat.le_refl _
  | k + 1 => by
    have := z_cnt_le Z k
    have e : sel (Z 195 k = 0) 0 1 ≤ 1 := by unfold sel; split <;> omega
    unfold z_cnt
    omega
theorem t_X11_manyWere {G : GT} {K : Int32 → Mem → Prop} {M : Mem} (h : K (nI (z_cnt M.1 102)) M) : T_X11_manyWere G [.ref 175] M K := by
  refine e_X11_manyWere (k_X11_manyWere_0 ?_)
  refine up_loop (P := fun j => B_X11_manyWere G K 4 [(0, .ref 175), (1, .int (nI (z_cnt M.1 j))), (2, .int (nI j))] [] M) 102 ?_ (fun j hj ih => ?_) 0 (Nat.zero_le _)
  · exact k_X11_manyWere_4 ⟨fun _ => h, fun c => absurd (by decide) c⟩
  · unfold z_cnt at ih
    refine k_X11_manyWere_4 ⟨fun c => absurd c (Int32.not_le.mpr (nI_lt (b := 102) hj (by decide))), fun _ => ⟨vp_nI hj (by decide), fun c => ?_, fun c => ?_⟩⟩
    · rw [ix_nI (by omega)] at c
      rw [sel_t c] at ih
      rw [nI_1, Int32.add_zero]; exact ih
    · rw [ix_nI (by omega)] at c
      rw [sel_f c] at ih
      rw [nI_1, nI_1]; exact ih

