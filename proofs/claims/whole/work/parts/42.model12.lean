/-! ===== 42.model12 ===== -/
/-! BetweenLawsModel.mend(III)I -/
abbrev rm_X11_mend : Room := { frames := 8, cells := 0, slots := 0, locals := 198 }
abbrev B_X11_mend (G : GT) (K : Int32 → Mem → Prop) := BT G (Rep G) RX11 "mend" cX11_mend 14 (some .int) rm_X11_mend K 0 0
abbrev T_X11_mend (G : GT) (as : List Value) (M : Mem) (K : Int32 → Mem → Prop) : Prop := MT G (Rep G) yX11_mend cX11_mend 14 (some .int) rm_X11_mend as M K
theorem e_X11_mend {G : GT} {K : Int32 → Mem → Prop} {M : Mem} {v1 : Int32} {v2 : Int32} {v3 : Int32} (h : B_X11_mend G K 0 [(0, .ref 175), (1, .int v1), (2, .int v2), (3, .int v3)] [] M) : T_X11_mend G [.ref 175, .int v1, .int v2, .int v3] M K := MT.of (by decide +kernel) rfl rfl (Nat.le_of_ble_eq_true rfl) rfl h
set_option maxRecDepth 4000 in
theorem k_X11_mend_0 {G : GT} {K : Int32 → Mem → Prop} {M : Mem} {W : WT} {v1 : Int32} {v2 : Int32} {v3 : Int32} (h : (RG W M) ∧ (((0 : Int32) ≤ v1 ∧ v1 < W 8 1) → (¬ ((0 : Int32) ≤ v2 ∧ v2 ≤ 99) → K (-2) M) ∧ (((0 : Int32) ≤ v2 ∧ v2 ≤ 99) → (((0 : Int32) ≤ v3 ∧ v3 ≤ (3 : Int32)) → B_X11_mend G K 35 [(0, .ref 175), (1, .int v1), (2, .int v2), (3, .int v3), (4, .int 0)] [] M) ∧ (¬ ((0 : Int32) ≤ v3 ∧ v3 ≤ (3 : Int32)) → K (-2) M))) ∧ (¬ ((0 : Int32) ≤ v1 ∧ v1 < W 8 1) → K (-1) M)) : B_X11_mend G K 0 [(0, .ref 175), (1, .int v1), (2, .int v2), (3, .int v3)] [] M := by
  refine BT.aload_n dX11_mend_0 rfl 0 rfl ?_
  refine BT.iload_n dX11_mend_1 rfl 1 rfl ?_
  refine BT.mcV [.int v1] (t_X11_isLaw h.1 ?_) mb_X11_isLaw mv_X11_isLaw lk_X11_169 rfl (by decide) rfl (recvRep ho_175 rfl) (Nat.le_of_ble_eq_true rfl) dX11_mend_2
  show B_X11_mend G K 5 [(0, .ref 175), (1, .int v1), (2, .int v2), (3, .int v3)] [.int (bi ((0 : Int32) ≤ v1 ∧ v1 < W 8 1))] M
  refine BT.if_ne (tgt := 10) dX11_mend_5 (by decide) (fun c => ?_) (fun c => ?_)
  · have c2 := bi_ne0.mp c
    refine BT.iload_n dX11_mend_10 rfl 2 rfl ?_
    refine BT.mcS [.int v2] (t_X11_isDay  ?_) mb_X11_isDay ms_X11_isDay lk_X11_156 rfl (by decide) rfl (Nat.le_of_ble_eq_true rfl) dX11_mend_11
    show B_X11_mend G K 14 [(0, .ref 175), (1, .int v1), (2, .int v2), (3, .int v3)] [.int (bi ((0 : Int32) ≤ v2 ∧ v2 ≤ 99))] M
    refine BT.if_eq (tgt := 29) dX11_mend_14 (by decide) (fun c => ?_) (fun c => ?_)
    · have c5 := bi_eq0.mp c
      refine BT.bipush (v := (-2)) dX11_mend_29 (by decide) ?_
      exact BT.iret dX11_mend_31 rfl (by decide) (by decide) ((h.2.1 c2).1 c5)
    · have c6 := bi_ne0.mp c
      refine BT.iload_n dX11_mend_17 rfl 3 rfl ?_
      refine BT.i2l dX11_mend_18 ?_
      refine BT.lconst (v := 0) dX11_mend_19 (by decide) ?_
      refine BT.ldc2 dX11_mend_20 kc_X11_246 ?_
      refine BT.mcS [.long (Int32.toInt64 v3), .long 0, .long 3] (t_X11_in (x := v3) (y := (0 : Int32)) (z := (3 : Int32)) rfl (by decide) (by decide) ?_) mb_X11_in ms_X11_in lk_X11_86 rfl (by decide) rfl (Nat.le_of_ble_eq_true rfl) dX11_mend_23
      show B_X11_mend G K 26 [(0, .ref 175), (1, .int v1), (2, .int v2), (3, .int v3)] [.int (bi ((0 : Int32) ≤ v3 ∧ v3 ≤ (3 : Int32)))] M
      refine BT.if_ne (tgt := 32) dX11_mend_26 (by decide) (fun c => ?_) (fun c => ?_)
      · have c7 := bi_ne0.mp c
        refine BT.iconst (v := 0) dX11_mend_32 (by decide) ?_
        refine BT.istore (L' := [(4, .int 0), (0, .ref 175), (1, .int v1), (2, .int v2), (3, .int v3)]) dX11_mend_33 (by decide) rfl ?_
        refine BT.sub [1, 2, 3, 4, 0] rfl ?_
        exact (((h.2.1 c2).2 c6).1 c7)
      · have c8 := bi_eq0.mp c
        refine BT.bipush (v := (-2)) dX11_mend_29 (by decide) ?_
        exact BT.iret dX11_mend_31 rfl (by decide) (by decide) (((h.2.1 c2).2 c6).2 c8)
  · have c3 := bi_eq0.mp c
    refine BT.iconst (v := (-1)) dX11_mend_8 (by decide) ?_
    exact BT.iret dX11_mend_9 rfl (by decide) (by decide) (h.2.2 c3)
set_option maxRecDepth 4000 in
theorem k_X11_mend_35 {G : GT} {K : Int32 → Mem → Prop} {M : Mem} {W : WT} {v1 : Int32} {v2 : Int32} {v3 : Int32} {v4 : Int32} (h : ((M.1 175 26) ≤ v4 → (vp_in v1 8) ∧ (vp_in v1 8) ∧ (vp_in v1 8) ∧ (vp_in v1 8) ∧ B_X11_mend G K 107 [(0, .ref 175), (1, .int v1), (2, .int v2), (3, .int v3), (4, .int (M.1 182 (Int32.toNatClampNeg v1))), (5, .int (M.1 183 (Int32.toNatClampNeg v1))), (6, .int (M.1 184 (Int32.toNatClampNeg v1))), (7, .int (M.1 188 (Int32.toNatClampNeg v1))), (8, .int (-6)), (9, .int 9), (10, .int 0)] [] M) ∧ (¬ (M.1 175 26) ≤ v4 → (RG W M) ∧ (PR W M v4) ∧ (∀ r3 : Int32, r3 = (w_given W (zp v4) v2) → ∀ N3 : Mem, (Zcr M N3) → (vp_in v4 8) ∧ B_X11_mend G K 35 [(0, .ref 175), (1, .int v1), (2, .int v2), (3, .int v3), (4, .int (v4 + 1))] [] (m_i N3 196 (Int32.toNatClampNeg v4) r3)))) : B_X11_mend G K 35 [(0, .ref 175), (1, .int v1), (2, .int v2), (3, .int v3), (4, .int v4)] [] M := by
  refine BT.iload dX11_mend_35 4 rfl ?_
  refine BT.aload_n dX11_mend_37 rfl 0 rfl ?_
  refine BT.getI fl_X11_190 ho_175 rfl dX11_mend_38 ?_
  refine BT.icmp_ge (tgt := 64) dX11_mend_41 (by decide) (fun c => ?_) (fun c => ?_)
  · have c1 := c
    refine BT.aload_n dX11_mend_64 rfl 0 rfl ?_
    refine BT.getR (r := 182) fl_X11_28 ho_175 rfl dX11_mend_65 ?_
    refine BT.iload_n dX11_mend_68 rfl 1 rfl ?_
    refine BT.iald ha_182 (h.1 c1).1 dX11_mend_69 ?_
    refine BT.istore (L' := [(4, .int (M.1 182 (Int32.toNatClampNeg v1))), (0, .ref 175), (1, .int v1), (2, .int v2), (3, .int v3)]) dX11_mend_70 (by decide) rfl ?_
    refine BT.aload_n dX11_mend_72 rfl 1 rfl ?_
    refine BT.getR (r := 183) fl_X11_31 ho_175 rfl dX11_mend_73 ?_
    refine BT.iload_n dX11_mend_76 rfl 2 rfl ?_
    refine BT.iald ha_183 (h.1 c1).2.1 dX11_mend_77 ?_
    refine BT.istore (L' := [(5, .int (M.1 183 (Int32.toNatClampNeg v1))), (4, .int (M.1 182 (Int32.toNatClampNeg v1))), (0, .ref 175), (1, .int v1), (2, .int v2), (3, .int v3)]) dX11_mend_78 (by decide) rfl ?_
    refine BT.aload_n dX11_mend_80 rfl 2 rfl ?_
    refine BT.getR (r := 184) fl_X11_34 ho_175 rfl dX11_mend_81 ?_
    refine BT.iload_n dX11_mend_84 rfl 3 rfl ?_
    refine BT.iald ha_184 (h.1 c1).2.2.1 dX11_mend_85 ?_
    refine BT.istore (L' := [(6, .int (M.1 184 (Int32.toNatClampNeg v1))), (5, .int (M.1 183 (Int32.toNatClampNeg v1))), (4, .int (M.1 182 (Int32.toNatClampNeg v1))), (0, .ref 175), (1, .int v1), (2, .int v2), (3, .int v3)]) dX11_mend_86 (by decide) rfl ?_
    refine BT.aload_n dX11_mend_88 rfl 3 rfl ?_
    refine BT.getR (r := 188) fl_X11_46 ho_175 rfl dX11_mend_89 ?_
    refine BT.iload_n dX11_mend_92 rfl 4 rfl ?_
    refine BT.iald ha_188 (h.1 c1).2.2.2.1 dX11_mend_93 ?_
    refine BT.istore (L' := [(7, .int (M.1 188 (Int32.toNatClampNeg v1))), (6, .int (M.1 184 (Int32.toNatClampNeg v1))), (5, .int (M.1 183 (Int32.toNatClampNeg v1))), (4, .int (M.1 182 (Int32.toNatClampNeg v1))), (0, .ref 175), (1, .int v1), (2, .int v2), (3, .int v3)]) dX11_mend_94 (by decide) rfl ?_
    refine BT.bipush (v := (-6)) dX11_mend_96 (by decide) ?_
    refine BT.istore (L' := [(8, .int (-6)), (7, .int (M.1 188 (Int32.toNatClampNeg v1))), (6, .int (M.1 184 (Int32.toNatClampNeg v1))), (5, .int (M.1 183 (Int32.toNatClampNeg v1))), (4, .int (M.1 182 (Int32.toNatClampNeg v1))), (0, .ref 175), (1, .int v1), (2, .int v2), (3, .int v3)]) dX11_mend_98 (by decide) rfl ?_
    refine BT.bipush (v := 9) dX11_mend_100 (by decide) ?_
    refine BT.istore (L' := [(9, .int 9), (8, .int (-6)), (7, .int (M.1 188 (Int32.toNatClampNeg v1))), (6, .int (M.1 184 (Int32.toNatClampNeg v1))), (5, .int (M.1 183 (Int32.toNatClampNeg v1))), (4, .int (M.1 182 (Int32.toNatClampNeg v1))), (0, .ref 175), (1, .int v1), (2, .int v2), (3, .int v3)]) dX11_mend_102 (by decide) rfl ?_
    refine BT.iconst (v := 0) dX11_mend_104 (by decide) ?_
    refine BT.istore (L' := [(10, .int 0), (9, .int 9), (8, .int (-6)), (7, .int (M.1 188 (Int32.toNatClampNeg v1))), (6, .int (M.1 184 (Int32.toNatClampNeg v1))), (5, .int (M.1 183 (Int32.toNatClampNeg v1))), (4, .int (M.1 182 (Int32.toNatClampNeg v1))), (0, .ref 175), (1, .int v1), (2, .int v2), (3, .int v3)]) dX11_mend_105 (by decide) rfl ?_
    refine BT.sub [7, 8, 9, 10, 6, 5, 4, 3, 2, 1, 0] rfl ?_
    exact (h.1 c1).2.2.2.2
  · have c2 := c
    refine BT.aload_n dX11_mend_44 rfl 0 rfl ?_
    refine BT.getR (r := 196) fl_X11_75 ho_175 rfl dX11_mend_45 ?_
    refine BT.iload dX11_mend_48 4 rfl ?_
    refine BT.aload_n dX11_mend_50 rfl 0 rfl ?_
    refine BT.iload dX11_mend_51 4 rfl ?_
    refine BT.iload_n dX11_mend_53 rfl 2 rfl ?_
    refine BT.mcVp [.int v4, .int v2] (t_X11_giftOf (h.2 c2).1 (h.2 c2).2.1 (fun N hN => ⟨rfl, hN⟩)) mb_X11_giftOf mv_X11_giftOf lk_X11_254 rfl (by decide) rfl (recvRep ho_175 rfl) (Nat.le_of_ble_eq_true rfl) dX11_mend_54 (P := fun N3 => Zcr M N3) (fun r3 e3 N3 g3 => ?_)
    show B_X11_mend G K 57 [(0, .ref 175), (1, .int v1), (2, .int v2), (3, .int v3), (4, .int v4)] [.int r3, .int v4, .ref 196] N3
    refine BT.iast ha_196 ((h.2 c2).2.2 r3 e3 N3 g3).1 dX11_mend_57 ?_
    refine BT.iinc (j := 4) (v := (v4 + 1)) (L' := [(4, .int (v4 + 1)), (0, .ref 175), (1, .int v1), (2, .int v2), (3, .int v3)]) dX11_mend_58 rfl rfl (by decide) rfl ?_
    refine BT.goto (tgt := 35) dX11_mend_61 (by decide) ?_
    refine BT.sub [1, 2, 3, 4, 0] rfl ?_
    exact ((h.2 c2).2.2 r3 e3 N3 g3).2
set_option maxRecDepth 4000 in
theorem k_X11_mend_107 {G : GT} {K : Int32 → Mem → Prop} {M : Mem} {v1 : Int32} {v2 : Int32} {v3 : Int32} {v4 : Int32} {v5 : Int32} {v6 : Int32} {v7 : Int32} {v8 : Int32} {v9 : Int32} {v10 : Int32} (h : (54 ≤ v10 → (vp_in v1 8) ∧ (vp_in v1 8) ∧ (∀ N3 : Mem, N3 = (m_i (m_i M 182 (Int32.toNatClampNeg v1) v4) 183 (Int32.toNatClampNeg v1) v5) → (vp_in v1 8) ∧ (vp_in v1 8) ∧ (∀ N4 : Mem, N4 = (m_i (m_i N3 184 (Int32.toNatClampNeg v1) v6) 188 (Int32.toNatClampNeg v1) v7) → (0 ≤ v8 → (¬ v3 = 0 → (¬ v3 = 1 → (¬ v3 = 2 → (0 ≤ ((v8 - v8 / 9 * 9) - 1) → K ((v8 - v8 / 9 * 9) - 1) N4) ∧ (¬ 0 ≤ ((v8 - v8 / 9 * 9) - 1) → K (-6) N4)) ∧ (v3 = 2 → K ((v8 / 9) - (v8 / 9) / 2 * 2) N4)) ∧ (v3 = 1 → (∀ r15 : Int32, r15 = (if (v8 / 18) = 0 then (110 : Int32) else if (v8 / 18) = 1 then 104 else 97) → K r15 N4))) ∧ (v3 = 0 → K v9 N4)) ∧ (¬ 0 ≤ v8 → K (-5) N4)))) ∧ (¬ 54 ≤ v10 → (0 ≤ v5 → B_X11_mend G K 146 [(0, .ref 175), (1, .int v1), (2, .int v2), (3, .int v3), (4, .int v4), (5, .int v5), (6, .int v6), (7, .int v7), (8, .int v8), (9, .int v9), (10, .int v10), (11, .int ((v10 - v10 / 9 * 9) - 1))] [.int 1] M) ∧ (¬ 0 ≤ v5 → (∀ r18 : Int32, r18 = (if (v10 / 18) = 0 then (110 : Int32) else if (v10 / 18) = 1 then 104 else 97) → (r18 = v4 → B_X11_mend G K 146 [(0, .ref 175), (1, .int v1), (2, .int v2), (3, .int v3), (4, .int v4), (5, .int v5), (6, .int v6), (7, .int v7), (8, .int v8), (9, .int v9), (10, .int v10), (11, .int ((v10 - v10 / 9 * 9) - 1))] [.int 0] M) ∧ (¬ r18 = v4 → B_X11_mend G K 146 [(0, .ref 175), (1, .int v1), (2, .int v2), (3, .int v3), (4, .int v4), (5, .int v5), (6, .int v6), (7, .int v7), (8, .int v8), (9, .int v9), (10, .int v10), (11, .int ((v10 - v10 / 9 * 9) - 1))] [.int 1] M))))) : B_X11_mend G K 107 [(0, .ref 175), (1, .int v1), (2, .int v2), (3, .int v3), (4, .int v4), (5, .int v5), (6, .int v6), (7, .int v7), (8, .int v8), (9, .int v9), (10, .int v10)] [] M := by
  refine BT.iload dX11_mend_107 10 rfl ?_
  refine BT.bipush (v := 54) dX11_mend_109 (by decide) ?_
  refine BT.icmp_ge (tgt := 300) dX11_mend_111 (by decide) (fun c => ?_) (fun c => ?_)
  · have c1 := c
    refine BT.aload_n dX11_mend_300 rfl 0 rfl ?_
    refine BT.getR (r := 182) fl_X11_28 ho_175 rfl dX11_mend_301 ?_
    refine BT.iload_n dX11_mend_304 rfl 1 rfl ?_
    refine BT.iload dX11_mend_305 4 rfl ?_
    refine BT.iast ha_182 (h.1 c1).1 dX11_mend_307 ?_
    refine BT.aload_n dX11_mend_308 rfl 0 rfl ?_
    refine BT.getR (r := 183) fl_X11_31 ho_175 rfl dX11_mend_309 ?_
    refine BT.iload_n dX11_mend_312 rfl 1 rfl ?_
    refine BT.iload dX11_mend_313 5 rfl ?_
    refine BT.iast ha_183 (h.1 c1).2.1 dX11_mend_315 ?_
    refine BT.topm (fun N3 f3 => ?_)
    refine BT.aload_n dX11_mend_316 rfl 0 rfl ?_
    refine BT.getR (r := 184) fl_X11_34 ho_175 rfl dX11_mend_317 ?_
    refine BT.iload_n dX11_mend_320 rfl 1 rfl ?_
    refine BT.iload dX11_mend_321 6 rfl ?_
    refine BT.iast ha_184 ((h.1 c1).2.2 N3 f3).1 dX11_mend_323 ?_
    refine BT.aload_n dX11_mend_324 rfl 0 rfl ?_
    refine BT.getR (r := 188) fl_X11_46 ho_175 rfl dX11_mend_325 ?_
    refine BT.iload_n dX11_mend_328 rfl 1 rfl ?_
    refine BT.iload dX11_mend_329 7 rfl ?_
    refine BT.iast ha_188 ((h.1 c1).2.2 N3 f3).2.1 dX11_mend_331 ?_
    refine BT.topm (fun N4 f4 => ?_)
    refine BT.iload dX11_mend_332 8 rfl ?_
    refine BT.if_ge (tgt := 340) dX11_mend_334 (by decide) (fun c => ?_) (fun c => ?_)
    · have c5 := c
      refine BT.iload dX11_mend_340 8 rfl ?_
      refine BT.bipush (v := 9) dX11_mend_342 (by decide) ?_
      refine BT.irem dX11_mend_344 (by decide) ?_
      refine BT.iconst (v := 1) dX11_mend_345 (by decide) ?_
      refine BT.isub dX11_mend_346 ?_
      refine BT.istore (L' := [(10, .int ((v8 - v8 / 9 * 9) - 1)), (0, .ref 175), (1, .int v1), (2, .int v2), (3, .int v3), (4, .int v4), (5, .int v5), (6, .int v6), (7, .int v7), (8, .int v8), (9, .int v9)]) dX11_mend_347 (by decide) rfl ?_
      refine BT.iload_n dX11_mend_349 rfl 4 rfl ?_
      refine BT.if_ne (tgt := 358) dX11_mend_350 (by decide) (fun c => ?_) (fun c => ?_)
      · have c7 := c
        refine BT.iload_n dX11_mend_358 rfl 4 rfl ?_
        refine BT.iconst (v := 1) dX11_mend_359 (by decide) ?_
        refine BT.icmp_ne (tgt := 374) dX11_mend_360 (by decide) (fun c => ?_) (fun c => ?_)
        · have c9 := c
          refine BT.iload_n dX11_mend_374 rfl 4 rfl ?_
          refine BT.iconst (v := 2) dX11_mend_375 (by decide) ?_
          refine BT.icmp_ne (tgt := 389) dX11_mend_376 (by decide) (fun c => ?_) (fun c => ?_)
          · have c11 := c
            refine BT.iload dX11_mend_389 0 rfl ?_
            refine BT.if_ge (tgt := 399) dX11_mend_391 (by decide) (fun c => ?_) (fun c => ?_)
            · have c13 := c
              refine BT.iload dX11_mend_399 0 rfl ?_
              exact BT.iret dX11_mend_401 rfl (by decide) (by decide) ((((((((h.1 c1).2.2 N3 f3).2.2 N4 f4).1 c5).1 c7).1 c9).1 c11).1 c13)
            · have c14 := c
              refine BT.bipush (v := (-6)) dX11_mend_394 (by decide) ?_
              refine BT.goto (tgt := 401) dX11_mend_396 (by decide) ?_
              exact BT.iret dX11_mend_401 rfl (by decide) (by decide) ((((((((h.1 c1).2.2 N3 f3).2.2 N4 f4).1 c5).1 c7).1 c9).1 c11).2 c14)
          · have c12 := c
            refine BT.iload dX11_mend_379 9 rfl ?_
            refine BT.bipush (v := 9) dX11_mend_381 (by decide) ?_
            refine BT.idiv dX11_mend_383 (by decide) ?_
            refine BT.iconst (v := 2) dX11_mend_384 (by decide) ?_
            refine BT.irem dX11_mend_385 (by decide) ?_
            refine BT.goto (tgt := 401) dX11_mend_386 (by decide) ?_
            exact BT.iret dX11_mend_401 rfl (by decide) (by decide) (((((((h.1 c1).2.2 N3 f3).2.2 N4 f4).1 c5).1 c7).1 c9).2 c12)
        · have c10 := c
          refine BT.iload dX11_mend_363 9 rfl ?_
          refine BT.bipush (v := 18) dX11_mend_365 (by decide) ?_
          refine BT.idiv dX11_mend_367 (by decide) ?_
          refine BT.mcSr [.int (v8 / 18)] (t_X11_timeAt  ⟨rfl, rfl⟩) mb_X11_timeAt ms_X11_timeAt lk_X11_298 rfl (by decide) rfl (Nat.le_of_ble_eq_true rfl) dX11_mend_368 (fun r15 e15 => ?_)
          show B_X11_mend G K 371 [(10, .int ((v8 - v8 / 9 * 9) - 1)), (0, .ref 175), (1, .int v1), (2, .int v2), (3, .int v3), (4, .int v4), (5, .int v5), (6, .int v6), (7, .int v7), (8, .int v8), (9, .int v9)] [.int r15] N4
          refine BT.goto (tgt := 401) dX11_mend_371 (by decide) ?_
          exact BT.iret dX11_mend_401 rfl (by decide) (by decide) (((((((h.1 c1).2.2 N3 f3).2.2 N4 f4).1 c5).1 c7).2 c10) r15 e15)
      · have c8 := c
        refine BT.iload dX11_mend_353 10 rfl ?_
        refine BT.goto (tgt := 401) dX11_mend_355 (by decide) ?_
        exact BT.iret dX11_mend_401 rfl (by decide) (by decide) (((((h.1 c1).2.2 N3 f3).2.2 N4 f4).1 c5).2 c8)
    · have c6 := c
      refine BT.bipush (v := (-5)) dX11_mend_337 (by decide) ?_
      exact BT.iret dX11_mend_339 rfl (by decide) (by decide) ((((h.1 c1).2.2 N3 f3).2.2 N4 f4).2 c6)
  · have c2 := c
    refine BT.iload dX11_mend_114 10 rfl ?_
    refine BT.bipush (v := 9) dX11_mend_116 (by decide) ?_
    refine BT.irem dX11_mend_118 (by decide) ?_
    refine BT.iconst (v := 1) dX11_mend_119 (by decide) ?_
    refine BT.isub dX11_mend_120 ?_
    refine BT.istore (L' := [(11, .int ((v10 - v10 / 9 * 9) - 1)), (0, .ref 175), (1, .int v1), (2, .int v2), (3, .int v3), (4, .int v4), (5, .int v5), (6, .int v6), (7, .int v7), (8, .int v8), (9, .int v9), (10, .int v10)]) dX11_mend_121 (by decide) rfl ?_
    refine BT.iload dX11_mend_123 6 rfl ?_
    refine BT.if_ge (tgt := 141) dX11_mend_125 (by decide) (fun c => ?_) (fun c => ?_)
    · have c16 := c
      refine BT.iconst (v := 1) dX11_mend_141 (by decide) ?_
      refine BT.goto (tgt := 146) dX11_mend_142 (by decide) ?_
      refine BT.sub [1, 2, 3, 4, 5, 6, 7, 8, 9, 10, 11, 0] rfl ?_
      exact ((h.2 c2).1 c16)
    · have c17 := c
      refine BT.iload dX11_mend_128 11 rfl ?_
      refine BT.bipush (v := 18) dX11_mend_130 (by decide) ?_
      refine BT.idiv dX11_mend_132 (by decide) ?_
      refine BT.mcSr [.int (v10 / 18)] (t_X11_timeAt  ⟨rfl, rfl⟩) mb_X11_timeAt ms_X11_timeAt lk_X11_298 rfl (by decide) rfl (Nat.le_of_ble_eq_true rfl) dX11_mend_133 (fun r18 e18 => ?_)
      show B_X11_mend G K 136 [(11, .int ((v10 - v10 / 9 * 9) - 1)), (0, .ref 175), (1, .int v1), (2, .int v2), (3, .int v3), (4, .int v4), (5, .int v5), (6, .int v6), (7, .int v7), (8, .int v8), (9, .int v9), (10, .int v10)] [.int r18] M
      refine BT.iload dX11_mend_136 5 rfl ?_
      refine BT.icmp_eq (tgt := 145) dX11_mend_138 (by decide) (fun c => ?_) (fun c => ?_)
      · have c19 := c
        refine BT.iconst (v := 0) dX11_mend_145 (by decide) ?_
        refine BT.sub [1, 2, 3, 4, 5, 6, 7, 8, 9, 10, 11, 0] rfl ?_
        exact ((((h.2 c2).2 c17) r18 e18).1 c19)
      · have c20 := c
        refine BT.iconst (v := 1) dX11_mend_141 (by decide) ?_
        refine BT.goto (tgt := 146) dX11_mend_142 (by decide) ?_
        refine BT.sub [1, 2, 3, 4, 5, 6, 7, 8, 9, 10, 11, 0] rfl ?_
        exact ((((h.2 c2).2 c17) r18 e18).2 c20)
set_option maxRecDepth 4000 in
theorem k_X11_mend_146 {G : GT} {K : Int32 → Mem → Prop} {M : Mem} {v1 : Int32} {v2 : Int32} {v3 : Int32} {v4 : Int32} {v5 : Int32} {v6 : Int32} {v7 : Int32} {v8 : Int32} {v9 : Int32} {v10 : Int32} {v11 : Int32} {s0 : Int32} (h : (((v10 / 9) - (v10 / 9) / 2 * 2) = v6 → B_X11_mend G K 163 [(0, .ref 175), (1, .int v1), (2, .int v2), (3, .int v3), (4, .int v4), (5, .int v5), (6, .int v6), (7, .int v7), (8, .int v8), (9, .int v9), (10, .int v10), (11, .int v11)] [.int 0, .int s0] M) ∧ (¬ ((v10 / 9) - (v10 / 9) / 2 * 2) = v6 → B_X11_mend G K 163 [(0, .ref 175), (1, .int v1), (2, .int v2), (3, .int v3), (4, .int v4), (5, .int v5), (6, .int v6), (7, .int v7), (8, .int v8), (9, .int v9), (10, .int v10), (11, .int v11)] [.int 1, .int s0] M)) : B_X11_mend G K 146 [(0, .ref 175), (1, .int v1), (2, .int v2), (3, .int v3), (4, .int v4), (5, .int v5), (6, .int v6), (7, .int v7), (8, .int v8), (9, .int v9), (10, .int v10), (11, .int v11)] [.int s0] M := by
  refine BT.iload dX11_mend_146 10 rfl ?_
  refine BT.bipush (v := 9) dX11_mend_148 (by decide) ?_
  refine BT.idiv dX11_mend_150 (by decide) ?_
  refine BT.iconst (v := 2) dX11_mend_151 (by decide) ?_
  refine BT.irem dX11_mend_152 (by decide) ?_
  refine BT.iload dX11_mend_153 6 rfl ?_
  refine BT.icmp_eq (tgt := 162) dX11_mend_155 (by decide) (fun c => ?_) (fun c => ?_)
  · have c1 := c
    refine BT.iconst (v := 0) dX11_mend_162 (by decide) ?_
    exact (h.1 c1)
  · have c2 := c
    refine BT.iconst (v := 1) dX11_mend_158 (by decide) ?_
    refine BT.goto (tgt := 163) dX11_mend_159 (by decide) ?_
    exact (h.2 c2)
set_option maxRecDepth 4000 in
theorem k_X11_mend_163 {G : GT} {K : Int32 → Mem → Prop} {M : Mem} {v1 : Int32} {v2 : Int32} {v3 : Int32} {v4 : Int32} {v5 : Int32} {v6 : Int32} {v7 : Int32} {v8 : Int32} {v9 : Int32} {v10 : Int32} {v11 : Int32} {s1 : Int32} {s0 : Int32} (h : (v11 < 0 → B_X11_mend G K 174 [(0, .ref 175), (1, .int v1), (2, .int v2), (3, .int v3), (4, .int v4), (5, .int v5), (6, .int v6), (7, .int v7), (8, .int v8), (9, .int v9), (10, .int v10), (11, .int v11)] [.int 0, .int (s0 + s1)] M) ∧ (¬ v11 < 0 → B_X11_mend G K 174 [(0, .ref 175), (1, .int v1), (2, .int v2), (3, .int v3), (4, .int v4), (5, .int v5), (6, .int v6), (7, .int v7), (8, .int v8), (9, .int v9), (10, .int v10), (11, .int v11)] [.int 1, .int (s0 + s1)] M)) : B_X11_mend G K 163 [(0, .ref 175), (1, .int v1), (2, .int v2), (3, .int v3), (4, .int v4), (5, .int v5), (6, .int v6), (7, .int v7), (8, .int v8), (9, .int v9), (10, .int v10), (11, .int v11)] [.int s1, .int s0] M := by
  refine BT.iadd dX11_mend_163 ?_
  refine BT.iload dX11_mend_164 11 rfl ?_
  refine BT.if_lt (tgt := 173) dX11_mend_166 (by decide) (fun c => ?_) (fun c => ?_)
  · have c1 := c
    refine BT.iconst (v := 0) dX11_mend_173 (by decide) ?_
    exact (h.1 c1)
  · have c2 := c
    refine BT.iconst (v := 1) dX11_mend_169 (by decide) ?_
    refine BT.goto (tgt := 174) dX11_mend_170 (by decide) ?_
    exact (h.2 c2)
set_option maxRecDepth 4000 in
theorem k_X11_mend_174 {G : GT} {K : Int32 → Mem → Prop} {M : Mem} {W : WT} {v1 : Int32} {v2 : Int32} {v3 : Int32} {v4 : Int32} {v5 : Int32} {v6 : Int32} {v7 : Int32} {v8 : Int32} {v9 : Int32} {v10 : Int32} {v11 : Int32} {s1 : Int32} {s0 : Int32} (h : (v9 ≤ (s0 + s1) → B_X11_mend G K 213 [(0, .ref 175), (1, .int v1), (2, .int v2), (3, .int v3), (4, .int v4), (5, .int v5), (6, .int v6), (7, .int v7), (8, .int v8), (9, .int v9), (10, .int v10), (11, .int v11), (12, .int (s0 + s1))] [.int 0] M) ∧ (¬ v9 ≤ (s0 + s1) → (v11 < 0 → B_X11_mend G K 213 [(0, .ref 175), (1, .int v1), (2, .int v2), (3, .int v3), (4, .int v4), (5, .int v5), (6, .int v6), (7, .int v7), (8, .int v8), (9, .int v9), (10, .int v10), (11, .int v11), (12, .int (s0 + s1))] [.int 1] M) ∧ (¬ v11 < 0 → (RG W M) ∧ (¬ ((0 : Int32) ≤ v11 ∧ v11 < W 8 1) → B_X11_mend G K 213 [(0, .ref 175), (1, .int v1), (2, .int v2), (3, .int v3), (4, .int v4), (5, .int v5), (6, .int v6), (7, .int v7), (8, .int v8), (9, .int v9), (10, .int v10), (11, .int v11), (12, .int (s0 + s1))] [.int 0] M) ∧ (((0 : Int32) ≤ v11 ∧ v11 < W 8 1) → (¬ ((v7 >>> (v11 &&& 31)) &&& 1) = 0 → B_X11_mend G K 213 [(0, .ref 175), (1, .int v1), (2, .int v2), (3, .int v3), (4, .int v4), (5, .int v5), (6, .int v6), (7, .int v7), (8, .int v8), (9, .int v9), (10, .int v10), (11, .int v11), (12, .int (s0 + s1))] [.int 0] M) ∧ (((v7 >>> (v11 &&& 31)) &&& 1) = 0 → B_X11_mend G K 213 [(0, .ref 175), (1, .int v1), (2, .int v2), (3, .int v3), (4, .int v4), (5, .int v5), (6, .int v6), (7, .int v7), (8, .int v8), (9, .int v9), (10, .int v10), (11, .int v11), (12, .int (s0 + s1))] [.int 1] M))))) : B_X11_mend G K 174 [(0, .ref 175), (1, .int v1), (2, .int v2), (3, .int v3), (4, .int v4), (5, .int v5), (6, .int v6), (7, .int v7), (8, .int v8), (9, .int v9), (10, .int v10), (11, .int v11)] [.int s1, .int s0] M := by
  refine BT.iadd dX11_mend_174 ?_
  refine BT.istore (L' := [(12, .int (s0 + s1)), (0, .ref 175), (1, .int v1), (2, .int v2), (3, .int v3), (4, .int v4), (5, .int v5), (6, .int v6), (7, .int v7), (8, .int v8), (9, .int v9), (10, .int v10), (11, .int v11)]) dX11_mend_175 (by decide) rfl ?_
  refine BT.iload dX11_mend_177 0 rfl ?_
  refine BT.iload dX11_mend_179 10 rfl ?_
  refine BT.icmp_ge (tgt := 212) dX11_mend_181 (by decide) (fun c => ?_) (fun c => ?_)
  · have c1 := c
    refine BT.iconst (v := 0) dX11_mend_212 (by decide) ?_
    refine BT.sub [1, 2, 3, 4, 5, 6, 7, 8, 9, 10, 11, 12, 0] rfl ?_
    exact (h.1 c1)
  · have c2 := c
    refine BT.iload dX11_mend_184 12 rfl ?_
    refine BT.if_lt (tgt := 208) dX11_mend_186 (by decide) (fun c => ?_) (fun c => ?_)
    · have c3 := c
      refine BT.iconst (v := 1) dX11_mend_208 (by decide) ?_
      refine BT.goto (tgt := 213) dX11_mend_209 (by decide) ?_
      refine BT.sub [1, 2, 3, 4, 5, 6, 7, 8, 9, 10, 11, 12, 0] rfl ?_
      exact ((h.2 c2).1 c3)
    · have c4 := c
      refine BT.aload_n dX11_mend_189 rfl 1 rfl ?_
      refine BT.iload dX11_mend_190 12 rfl ?_
      refine BT.mcV [.int v11] (t_X11_isLaw ((h.2 c2).2 c4).1 ?_) mb_X11_isLaw mv_X11_isLaw lk_X11_169 rfl (by decide) rfl (recvRep ho_175 rfl) (Nat.le_of_ble_eq_true rfl) dX11_mend_192
      show B_X11_mend G K 195 [(12, .int (s0 + s1)), (0, .ref 175), (1, .int v1), (2, .int v2), (3, .int v3), (4, .int v4), (5, .int v5), (6, .int v6), (7, .int v7), (8, .int v8), (9, .int v9), (10, .int v10), (11, .int v11)] [.int (bi ((0 : Int32) ≤ v11 ∧ v11 < W 8 1))] M
      refine BT.if_eq (tgt := 212) dX11_mend_195 (by decide) (fun c => ?_) (fun c => ?_)
      · have c6 := bi_eq0.mp c
        refine BT.iconst (v := 0) dX11_mend_212 (by decide) ?_
        refine BT.sub [1, 2, 3, 4, 5, 6, 7, 8, 9, 10, 11, 12, 0] rfl ?_
        exact (((h.2 c2).2 c4).2.1 c6)
      · have c7 := bi_ne0.mp c
        refine BT.iload dX11_mend_198 8 rfl ?_
        refine BT.iload dX11_mend_200 12 rfl ?_
        refine BT.ishr dX11_mend_202 ?_
        refine BT.iconst (v := 1) dX11_mend_203 (by decide) ?_
        refine BT.iand dX11_mend_204 ?_
        refine BT.if_ne (tgt := 212) dX11_mend_205 (by decide) (fun c => ?_) (fun c => ?_)
        · have c8 := c
          refine BT.iconst (v := 0) dX11_mend_212 (by decide) ?_
          refine BT.sub [1, 2, 3, 4, 5, 6, 7, 8, 9, 10, 11, 12, 0] rfl ?_
          exact ((((h.2 c2).2 c4).2.2 c7).1 c8)
        · have c9 := c
          refine BT.iconst (v := 1) dX11_mend_208 (by decide) ?_
          refine BT.goto (tgt := 213) dX11_mend_209 (by decide) ?_
          refine BT.sub [1, 2, 3, 4, 5, 6, 7, 8, 9, 10, 11, 12, 0] rfl ?_
          exact ((((h.2 c2).2 c4).2.2 c7).2 c9)
set_option maxRecDepth 4000 in
theorem k_X11_mend_213 {G : GT} {K : Int32 → Mem → Prop} {M : Mem} {v1 : Int32} {v2 : Int32} {v3 : Int32} {v4 : Int32} {v5 : Int32} {v6 : Int32} {v7 : Int32} {v8 : Int32} {v9 : Int32} {v10 : Int32} {v11 : Int32} {v12 : Int32} {s0 : Int32} (h : (s0 = 0 → B_X11_mend G K 294 [(0, .ref 175), (1, .int v1), (2, .int v2), (3, .int v3), (4, .int v4), (5, .int v5), (6, .int v6), (7, .int v7), (8, .int v8), (9, .int v9), (10, .int v10)] [] M) ∧ (¬ s0 = 0 → (∀ r3 : Int32, r3 = (if (v10 / 18) = 0 then (110 : Int32) else if (v10 / 18) = 1 then 104 else 97) → (vp_in v1 8) ∧ (vp_in v1 8) ∧ (∀ N4 : Mem, N4 = (m_i (m_i M 182 (Int32.toNatClampNeg v1) r3) 183 (Int32.toNatClampNeg v1) (-6)) → (vp_in v1 8) ∧ (∀ N5 : Mem, N5 = (m_i N4 184 (Int32.toNatClampNeg v1) ((v10 / 9) - (v10 / 9) / 2 * 2)) → (0 ≤ v11 → B_X11_mend G K 277 [(0, .ref 175), (1, .int v1), (2, .int v2), (3, .int v3), (4, .int v4), (5, .int v5), (6, .int v6), (7, .int v7), (8, .int v8), (9, .int v9), (10, .int v10), (12, .int v12)] [.int (v7 ||| ((1 : Int32) <<< (v11 &&& 31))), .int v1, .ref 188] N5) ∧ (¬ 0 ≤ v11 → B_X11_mend G K 277 [(0, .ref 175), (1, .int v1), (2, .int v2), (3, .int v3), (4, .int v4), (5, .int v5), (6, .int v6), (7, .int v7), (8, .int v8), (9, .int v9), (10, .int v10), (12, .int v12)] [.int v7, .int v1, .ref 188] N5)))))) : B_X11_mend G K 213 [(0, .ref 175), (1, .int v1), (2, .int v2), (3, .int v3), (4, .int v4), (5, .int v5), (6, .int v6), (7, .int v7), (8, .int v8), (9, .int v9), (10, .int v10), (11, .int v11), (12, .int v12)] [.int s0] M := by
  refine BT.istore (L' := [(13, .int s0), (0, .ref 175), (1, .int v1), (2, .int v2), (3, .int v3), (4, .int v4), (5, .int v5), (6, .int v6), (7, .int v7), (8, .int v8), (9, .int v9), (10, .int v10), (11, .int v11), (12, .int v12)]) dX11_mend_213 (by decide) rfl ?_
  refine BT.iload dX11_mend_215 0 rfl ?_
  refine BT.if_eq (tgt := 294) dX11_mend_217 (by decide) (fun c => ?_) (fun c => ?_)
  · have c1 := c
    refine BT.sub [1, 2, 3, 4, 5, 6, 7, 8, 9, 10, 11] rfl ?_
    exact (h.1 c1)
  · have c2 := c
    refine BT.aload_n dX11_mend_220 rfl 1 rfl ?_
    refine BT.getR (r := 182) fl_X11_28 ho_175 rfl dX11_mend_221 ?_
    refine BT.iload_n dX11_mend_224 rfl 2 rfl ?_
    refine BT.iload dX11_mend_225 11 rfl ?_
    refine BT.bipush (v := 18) dX11_mend_227 (by decide) ?_
    refine BT.idiv dX11_mend_229 (by decide) ?_
    refine BT.mcSr [.int (v10 / 18)] (t_X11_timeAt  ⟨rfl, rfl⟩) mb_X11_timeAt ms_X11_timeAt lk_X11_298 rfl (by decide) rfl (Nat.le_of_ble_eq_true rfl) dX11_mend_230 (fun r3 e3 => ?_)
    show B_X11_mend G K 233 [(13, .int s0), (0, .ref 175), (1, .int v1), (2, .int v2), (3, .int v3), (4, .int v4), (5, .int v5), (6, .int v6), (7, .int v7), (8, .int v8), (9, .int v9), (10, .int v10), (11, .int v11), (12, .int v12)] [.int r3, .int v1, .ref 182] M
    refine BT.iast ha_182 ((h.2 c2) r3 e3).1 dX11_mend_233 ?_
    refine BT.aload_n dX11_mend_234 rfl 1 rfl ?_
    refine BT.getR (r := 183) fl_X11_31 ho_175 rfl dX11_mend_235 ?_
    refine BT.iload_n dX11_mend_238 rfl 2 rfl ?_
    refine BT.bipush (v := (-6)) dX11_mend_239 (by decide) ?_
    refine BT.iast ha_183 ((h.2 c2) r3 e3).2.1 dX11_mend_241 ?_
    refine BT.topm (fun N4 f4 => ?_)
    refine BT.aload_n dX11_mend_242 rfl 1 rfl ?_
    refine BT.getR (r := 184) fl_X11_34 ho_175 rfl dX11_mend_243 ?_
    refine BT.iload_n dX11_mend_246 rfl 2 rfl ?_
    refine BT.iload dX11_mend_247 11 rfl ?_
    refine BT.bipush (v := 9) dX11_mend_249 (by decide) ?_
    refine BT.idiv dX11_mend_251 (by decide) ?_
    refine BT.iconst (v := 2) dX11_mend_252 (by decide) ?_
    refine BT.irem dX11_mend_253 (by decide) ?_
    refine BT.iast ha_184 (((h.2 c2) r3 e3).2.2 N4 f4).1 dX11_mend_254 ?_
    refine BT.topm (fun N5 f5 => ?_)
    refine BT.aload_n dX11_mend_255 rfl 1 rfl ?_
    refine BT.getR (r := 188) fl_X11_46 ho_175 rfl dX11_mend_256 ?_
    refine BT.iload_n dX11_mend_259 rfl 2 rfl ?_
    refine BT.iload dX11_mend_260 12 rfl ?_
    refine BT.if_ge (tgt := 270) dX11_mend_262 (by decide) (fun c => ?_) (fun c => ?_)
    · have c6 := c
      refine BT.iload dX11_mend_270 8 rfl ?_
      refine BT.iconst (v := 1) dX11_mend_272 (by decide) ?_
      refine BT.iload dX11_mend_273 12 rfl ?_
      refine BT.ishl dX11_mend_275 ?_
      refine BT.ior dX11_mend_276 ?_
      refine BT.sub [1, 2, 3, 4, 5, 6, 7, 8, 9, 10, 11, 13] rfl ?_
      exact (((((h.2 c2) r3 e3).2.2 N4 f4).2 N5 f5).1 c6)
    · have c7 := c
      refine BT.iload dX11_mend_265 8 rfl ?_
      refine BT.goto (tgt := 277) dX11_mend_267 (by decide) ?_
      refine BT.sub [1, 2, 3, 4, 5, 6, 7, 8, 9, 10, 11, 13] rfl ?_
      exact (((((h.2 c2) r3 e3).2.2 N4 f4).2 N5 f5).2 c7)
set_option maxRecDepth 4000 in
theorem k_X11_mend_294 {G : GT} {K : Int32 → Mem → Prop} {M : Mem} {v1 : Int32} {v2 : Int32} {v3 : Int32} {v4 : Int32} {v5 : Int32} {v6 : Int32} {v7 : Int32} {v8 : Int32} {v9 : Int32} {v10 : Int32} (h : B_X11_mend G K 107 [(0, .ref 175), (1, .int v1), (2, .int v2), (3, .int v3), (4, .int v4), (5, .int v5), (6, .int v6), (7, .int v7), (8, .int v8), (9, .int v9), (10, .int (v10 + 1))] [] M) : B_X11_mend G K 294 [(0, .ref 175), (1, .int v1), (2, .int v2), (3, .int v3), (4, .int v4), (5, .int v5), (6, .int v6), (7, .int v7), (8, .int v8), (9, .int v9), (10, .int v10)] [] M := by
  refine BT.iinc (j := 10) (v := (v10 + 1)) (L' := [(10, .int (v10 + 1)), (0, .ref 175), (1, .int v1), (2, .int v2), (3, .int v3), (4, .int v4), (5, .int v5), (6, .int v6), (7, .int v7), (8, .int v8), (9, .int v9)]) dX11_mend_294 rfl rfl (by decide) rfl ?_
  refine BT.goto (tgt := 107) dX11_mend_297 (by decide) ?_
  refine BT.sub [1, 2, 3, 4, 5, 6, 7, 8, 9, 10, 0] rfl ?_
  exact h
set_option maxRecDepth 4000 in
theorem k_X11_mend_277 {G : GT} {K : Int32 → Mem → Prop} {M : Mem} {V : WT} {v1 : Int32} {v2 : Int32} {v3 : Int32} {v4 : Int32} {v5 : Int32} {v6 : Int32} {v7 : Int32} {v8 : Int32} {v9 : Int32} {v10 : Int32} {v12 : Int32} {s2 : Int32} {s1 : Int32} (h : (vp_in s1 8) ∧ (RG V (m_i M 188 (Int32.toNatClampNeg s1) s2)) ∧ (RP2 V (m_i M 188 (Int32.toNatClampNeg s1) s2)) ∧ (∀ N1 : Mem, (Zcr (m_i M 188 (Int32.toNatClampNeg s1) s2) N1) → (¬ (z_asW V (m_i M 188 (Int32.toNatClampNeg s1) s2).1 v2) → B_X11_mend G K 294 [(0, .ref 175), (1, .int v1), (2, .int v2), (3, .int v3), (4, .int v4), (5, .int v5), (6, .int v6), (7, .int v7), (8, .int v8), (9, .int v9), (10, .int v10)] [] N1) ∧ ((z_asW V (m_i M 188 (Int32.toNatClampNeg s1) s2).1 v2) → B_X11_mend G K 294 [(0, .ref 175), (1, .int v1), (2, .int v2), (3, .int v3), (4, .int v4), (5, .int v5), (6, .int v6), (7, .int v7), (8, .int v10), (9, .int v12), (10, .int v10)] [] N1))) : B_X11_mend G K 277 [(0, .ref 175), (1, .int v1), (2, .int v2), (3, .int v3), (4, .int v4), (5, .int v5), (6, .int v6), (7, .int v7), (8, .int v8), (9, .int v9), (10, .int v10), (12, .int v12)] [.int s2, .int s1, .ref 188] M := by
  refine BT.iast ha_188 h.1 dX11_mend_277 ?_
  refine BT.aload_n dX11_mend_278 rfl 0 rfl ?_
  refine BT.iload_n dX11_mend_279 rfl 2 rfl ?_
  refine BT.mcVq [.int v2] (t_X11_areAsWished h.2.1 h.2.2.1 (fun N hN => ⟨rfl, hN⟩)) mb_X11_areAsWished mv_X11_areAsWished lk_X11_301 rfl (by decide) rfl (recvRep ho_175 rfl) (Nat.le_of_ble_eq_true rfl) dX11_mend_280 (P := fun N1 => Zcr (m_i M 188 (Int32.toNatClampNeg s1) s2) N1) (fun N1 g1 => ?_)
  show B_X11_mend G K 283 [(0, .ref 175), (1, .int v1), (2, .int v2), (3, .int v3), (4, .int v4), (5, .int v5), (6, .int v6), (7, .int v7), (8, .int v8), (9, .int v9), (10, .int v10), (12, .int v12)] [.int (bi (z_asW V (m_i M 188 (Int32.toNatClampNeg s1) s2).1 v2))] N1
  refine BT.if_eq (tgt := 294) dX11_mend_283 (by decide) (fun c => ?_) (fun c => ?_)
  · have c2 := bi_eq0.mp c
    refine BT.sub [0, 1, 2, 3, 4, 5, 6, 7, 8, 9, 10] rfl ?_
    exact ((h.2.2.2 N1 g1).1 c2)
  · have c3 := bi_ne0.mp c
    refine BT.iload dX11_mend_286 10 rfl ?_
    refine BT.istore (L' := [(8, .int v10), (0, .ref 175), (1, .int v1), (2, .int v2), (3, .int v3), (4, .int v4), (5, .int v5), (6, .int v6), (7, .int v7), (9, .int v9), (10, .int v10), (12, .int v12)]) dX11_mend_288 (by decide) rfl ?_
    refine BT.iload dX11_mend_290 11 rfl ?_
    refine BT.istore (L' := [(9, .int v12), (8, .int v10), (0, .ref 175), (1, .int v1), (2, .int v2), (3, .int v3), (4, .int v4), (5, .int v5), (6, .int v6), (7, .int v7), (10, .int v10), (12, .int v12)]) dX11_mend_292 (by decide) rfl ?_
    refine BT.sub [2, 3, 4, 5, 6, 7, 8, 9, 1, 0, 10] rfl ?_
    exact ((h.2.2.2 N1 g1).2 c3)

/-- what the model has found, and what the class has -/
def MRel (best few : Int32) (st : CmT) : Prop := (best = -6 ∧ few = 9 ∧ st.1 = -6) ∨ ∃ t i f, t < 6 ∧ i < 9 ∧ f ≤ 3 ∧ best = nI (9 * t + i) ∧ few = nI f ∧ st = (nI f, aw_f2 (t / 2), nI (t % 2), if i = 0 then -6 else nI (i - 1))
theorem k54 : ∀ t, t < 6 → ∀ i, i < 9 → nI (9 * t + i) / 18 = nI (t / 2) ∧ nI (9 * t + i) / 9 - nI (9 * t + i) / 9 / 2 * 2 = nI (t % 2) ∧ nI (9 * t + i) - nI (9 * t + i) / 9 * 9 - 1 = nI i - 1 := by decide +kernel
theorem aw_f2_time : ∀ t, t < 3 → (if nI t = 0 then (110 : Int32) else if nI t = 1 then 104 else 97) = aw_f2 t := by decide +kernel
theorem w01 : ∀ t : Nat, nI (t % 2) = 0 ∨ nI (t % 2) = 1 := by
  intro t
  rcases Nat.mod_two_eq_zero_or_one t with q | q <;> rw [q]
  · exact Or.inl rfl
  · exact Or.inr rfl
/-- what a mending leaves as undone laws -/
def m_und (W : WT) (l i : Nat) : Int32 := if i = 0 then W (10 + 5 * l) 14 else W (10 + 5 * l) 14 ||| ((1 : Int32) <<< (nI (i - 1) &&& 31))
noncomputable def m_chN (W : WT) (l t i : Nat) : Nat := (sel (W (10 + 5 * l) 8 = -6 ∧ W (10 + 5 * l) 7 = aw_f2 (t / 2)) 0 1 + sel (nI (t % 2) = W (10 + 5 * l) 10) 0 1) + (if i = 0 then 0 else 1)
theorem m_ch_nat {W : WT} {l t i : Nat} : nI (m_chN W l t i) = (if i = 0 then m_ch W l (aw_f2 (t / 2)) (nI (t % 2)) else m_ch W l (aw_f2 (t / 2)) (nI (t % 2)) + 1) := by
  unfold m_chN m_ch sel
  by_cases c1 : W (10 + 5 * l) 8 = -6 ∧ W (10 + 5 * l) 7 = aw_f2 (t / 2)
  · by_cases c2 : nI (t % 2) = W (10 + 5 * l) 10
    · rw [if_pos c1, if_pos c2, if_pos c2, if_pos c1]
      by_cases c3 : i = 0
      · rw [if_pos c3, if_pos c3]; rfl
      · rw [if_neg c3, if_neg c3]; rfl
    · rw [if_pos c1, if_neg c2, if_neg c2, if_pos c1]
      by_cases c3 : i = 0
      · rw [if_pos c3, if_pos c3]; rfl
      · rw [if_neg c3, if_neg c3]; rfl
  · by_cases c2 : nI (t % 2) = W (10 + 5 * l) 10
    · rw [if_neg c1, if_pos c2, if_pos c2, if_neg c1]
      by_cases c3 : i = 0
      · rw [if_pos c3, if_pos c3]; rfl
      · rw [if_neg c3, if_neg c3]; rfl
    · rw [if_neg c1, if_neg c2, if_neg c2, if_neg c1]
      by_cases c3 : i = 0
      · rw [if_pos c3, if_pos c3]; rfl
      · rw [if_neg c3, if_neg c3]; rfl
theorem m_chN_le {W : WT} {l t i : Nat} : m_chN W l t i ≤ 3 := by
  have e : ∀ p : Prop, sel p 0 1 ≤ 1 := fun p => by unfold sel; split <;> omega
  have h1 := e (W (10 + 5 * l) 8 = -6 ∧ W (10 + 5 * l) 7 = aw_f2 (t / 2))
  have h2 := e (nI (t % 2) = W (10 + 5 * l) 10)
  unfold m_chN
  split <;> omega
theorem t_X11_mend {G : GT} {K : Int32 → Mem → Prop} {M : Mem} {W : WT} {v1 v2 v3 : Int32} (hR : RG W M) (hQ : RP W M) (hT : RT W M) (hwish : ∀ p, p < w_p W → DayO (W (52 + p) 4)) (h : ∀ N, Zq M N → K (a_mend W v1 v2 v3) N) : T_X11_mend G [.ref 175, .int v1, .int v2, .int v3] M K := by
  unfold a_mend at h
  obtain ⟨hn, h9⟩ := hQ.n
  obtain ⟨hn1, hn2, h8⟩ := hR.n
  refine e_X11_mend (k_X11_mend_0 (W := W) ⟨hR, fun c => ⟨fun c2 => ?_, fun c2 => ⟨fun c3 => ?_, fun c3 => ?_⟩⟩, fun c => ?_⟩)
  · rw [sel_t c, sel_f c2] at h; exact h M Zq.rf
  · rw [sel_t c, sel_t c2, sel_t c3] at h
    obtain ⟨i1, i2, i3⟩ := hR.1.ix c
    obtain ⟨l, el⟩ : ∃ l, l = Int32.toNatClampNeg v1 := ⟨_, rfl⟩
    rw [← el] at i1 i2 i3 h
    subst i3
    have vl : vp_in (nI l) 8 := vp_nI i2 (by decide)
    have ixl : Int32.toNatClampNeg (nI l) = l := ix_nI (by omega)
    -- what is given now, noted
    refine up_loop (P := fun j => ∀ N, Zq M N → (∀ p, p < j → N.1 196 p = w_given W (52 + p) v2) → B_X11_mend G K 35 [(0, .ref 175), (1, .int (nI l)), (2, .int v2), (3, .int v3), (4, .int (nI j))] [] N) (w_p W) (fun M0 hM0 hgiv => ?_) (fun j hj ih N hN hgiv => ?_) 0 (Nat.zero_le _) M Zq.rf (fun p hp => absurd hp (by omega))
    · have hR0 := hR.q hM0
      have hQ0 := hQ.q hM0
      have hT0 := hT.q hM0
      obtain ⟨hLT, e182, e183, -⟩ := hT0.2.2 l i1
      obtain ⟨-, -, -, e184, e188, -⟩ := hR0.2.2.2.2.2 l i1
      refine k_X11_mend_35 (W := W) ⟨fun _ => ⟨vl, vl, vl, vl, ?_⟩, fun c4 => absurd (by rw [hQ0.n.1]; exact Int32.le_refl _) c4⟩
      rw [ixl, e182, e183, e184, e188]
      -- wished, as the class says it
      have hasw : ∀ N T w u, Zm M0 N l → (z_asW (W_m W l T w u) N.1 v2 ↔ mend_ok W l v2 T w u) := by
        intro N T w u hN
        unfold z_asW mend_ok
        rw [W_m_n.2]
        have e : ∀ p, p < w_p W → (if N.1 193 p = -6 then N.1 196 p else N.1 193 p) = w_due W v2 p := by
          intro p hp
          rw [hN.1 193 (by decide), hN.1 196 (by decide), (hQ0.2.2 p hp).2, hgiv p hp]
          unfold w_due
          by_cases q : W (52 + p) 4 = -6
          · rw [if_pos q, sel_t q]
          · rw [if_neg q, sel_f q]
        exact ⟨fun q p hp => (q p hp).trans (e p hp), fun q p hp => (q p hp).trans (e p hp).symm⟩
      -- the end
      have ending : ∀ best few N, Zm M0 N l → MRel best few (m_out W l v2 6) → B_X11_mend G K 107 [(0, .ref 175), (1, .int (nI l)), (2, .int v2), (3, .int v3), (4, .int (W (10 + 5 * l) 7)), (5, .int (W (10 + 5 * l) 8)), (6, .int (W (10 + 5 * l) 10)), (7, .int (W (10 + 5 * l) 14)), (8, .int best), (9, .int few), (10, .int 54)] [] N := by
        intro best few N hN hrel
        refine k_X11_mend_107 ⟨fun _ => ⟨vl, vl, fun N3 g3 => ⟨vl, vl, fun N4 g4 => ?_⟩⟩, fun c4 => absurd (by decide) c4⟩
        rw [ixl] at g3 g4
        have hm : Zm M0 N4 l := by rw [g4, g3]; exact (((hN.mi (by decide)).mi (by decide)).mi (by decide)).mi (by decide)
        have hN4 : Zq M N4 := by
          refine hM0.tr ⟨fun d hd => ?_, hm.2.2.1, hm.2.2.2⟩
          by_cases q : d = 182 ∨ d = 183 ∨ d = 184 ∨ d = 188
          · funext j
            by_cases ej : j = l
            · rw [ej, g4, g3]
              rcases q with rfl | rfl | rfl | rfl
              · rw [m_i_ne (by omega), m_i_ne (by omega), m_i_ne (by omega), m_i_at, e182]
              · rw [m_i_ne (by omega), m_i_ne (by omega), m_i_at, e183]
              · rw [m_i_ne (by omega), m_i_at, e184]
              · rw [m_i_at, e188]
            · exact hm.2.1 d j q ej
          · exact hm.1 d (by omega)
        have hK := h N4 hN4
        rcases hrel with ⟨q1, q2, q3⟩ | ⟨t, i, f, ht, hi, hf, q1, q2, q3⟩
        · rw [sel_t q3] at hK
          exact ⟨fun c4 => absurd c4 (by rw [q1]; decide), fun _ => hK⟩
        · obtain ⟨z1, z2, z3⟩ := k54 t ht i hi
          rw [q3] at hK
          rw [sel_f (show ¬ nI f = -6 from nI_n6 (by omega))] at hK
          refine ⟨fun _ => ⟨fun c5 => ⟨fun c6 => ⟨fun c7 => ?_, fun c7 => ?_⟩, fun c6 r15 e15 => ?_⟩, fun c5 => ?_⟩, fun c4 => absurd (by rw [q1]; exact nI_pos' (by omega)) c4⟩
          · rw [sel_f c5, sel_f c6, sel_f c7] at hK
            rw [q1, z3]
            refine ⟨fun c8 => ?_, fun c8 => ?_⟩
            · cases i with
              | zero => exact absurd c8 (by decide)
              | succ i =>
                rw [nI_pred]
                have hK : K (if i + 1 = 0 then -6 else nI (i + 1 - 1)) N4 := hK
                rw [if_neg (by omega), Nat.add_sub_cancel] at hK; exact hK
            · cases i with
              | zero =>
                have hK : K (if 0 = 0 then -6 else nI (0 - 1)) N4 := hK
                rw [if_pos rfl] at hK; exact hK
              | succ i =>
                rw [nI_pred] at c8; exact absurd (nI_pos' (by omega)) c8
          · rw [sel_f c5, sel_f c6, sel_t c7] at hK
            rw [q1, z2]; exact hK
          · rw [sel_f c5, sel_t c6] at hK
            rw [e15, q1, z1, aw_f2_time _ (by omega)]; exact hK
          · rw [sel_t c5] at hK
            rw [q2]; exact hK
      -- one of the 54
      have trial : ∀ t i best few N, t < 6 → i < 9 → Zm M0 N l →
          ((few ≤ nI (m_chN W l t i) ∨ w_n W < i ∨ (0 < i ∧ ¬ bitO (W (10 + 5 * l) 14) (nI (i - 1)))) → (∀ N', Zm M0 N' l → B_X11_mend G K 107 [(0, .ref 175), (1, .int (nI l)), (2, .int v2), (3, .int v3), (4, .int (W (10 + 5 * l) 7)), (5, .int (W (10 + 5 * l) 8)), (6, .int (W (10 + 5 * l) 10)), (7, .int (W (10 + 5 * l) 14)), (8, .int best), (9, .int few), (10, .int (nI (9 * t + i + 1)))] [] N') → B_X11_mend G K 107 [(0, .ref 175), (1, .int (nI l)), (2, .int v2), (3, .int v3), (4, .int (W (10 + 5 * l) 7)), (5, .int (W (10 + 5 * l) 8)), (6, .int (W (10 + 5 * l) 10)), (7, .int (W (10 + 5 * l) 14)), (8, .int best), (9, .int few), (10, .int (nI (9 * t + i)))] [] N) ∧
          (¬ (few ≤ nI (m_chN W l t i) ∨ w_n W < i ∨ (0 < i ∧ ¬ bitO (W (10 + 5 * l) 14) (nI (i - 1)))) → (∀ N', Zm M0 N' l → (¬ mend_ok W l v2 (aw_f2 (t / 2)) (nI (t % 2)) (m_und W l i) → B_X11_mend G K 107 [(0, .ref 175), (1, .int (nI l)), (2, .int v2), (3, .int v3), (4, .int (W (10 + 5 * l) 7)), (5, .int (W (10 + 5 * l) 8)), (6, .int (W (10 + 5 * l) 10)), (7, .int (W (10 + 5 * l) 14)), (8, .int best), (9, .int few), (10, .int (nI (9 * t + i + 1)))] [] N') ∧ (mend_ok W l v2 (aw_f2 (t / 2)) (nI (t % 2)) (m_und W l i) → B_X11_mend G K 107 [(0, .ref 175), (1, .int (nI l)), (2, .int v2), (3, .int v3), (4, .int (W (10 + 5 * l) 7)), (5, .int (W (10 + 5 * l) 8)), (6, .int (W (10 + 5 * l) 10)), (7, .int (W (10 + 5 * l) 14)), (8, .int (nI (9 * t + i))), (9, .int (nI (m_chN W l t i))), (10, .int (nI (9 * t + i + 1)))] [] N')) → B_X11_mend G K 107 [(0, .ref 175), (1, .int (nI l)), (2, .int v2), (3, .int v3), (4, .int (W (10 + 5 * l) 7)), (5, .int (W (10 + 5 * l) 8)), (6, .int (W (10 + 5 * l) 10)), (7, .int (W (10 + 5 * l) 14)), (8, .int best), (9, .int few), (10, .int (nI (9 * t + i)))] [] N) := by
        intro t i best few N ht hi hN
        obtain ⟨z1, z2, z3⟩ := k54 t ht i hi
        obtain ⟨-, t2, -, -, -⟩ := hLT
        have hlt : ¬ (54 : Int32) ≤ nI (9 * t + i) := Int32.not_le.mpr (nI_lt (b := 54) (by omega) (by decide))
        -- to the test, with the words counted
        have hRN : RG (W_m W l (N.1 182 l) (N.1 184 l) (N.1 188 l)) N := mend_RG hR0 hT0 i1 hN rfl rfl rfl
        have hw81 : W_m W l (N.1 182 l) (N.1 184 l) (N.1 188 l) 8 1 = nI (w_n W) := by rw [W_m_off (Or.inl (by omega)), hn2]
        have neg : nI i - 1 < 0 ↔ i = 0 := by
          cases i with
          | zero => exact ⟨fun _ => rfl, fun _ => by decide⟩
          | succ i => rw [nI_pred]; exact ⟨fun q => absurd q (nI_ge0 (by omega)), fun q => absurd q (by omega)⟩
        have pred : ¬ i = 0 → nI i - 1 = nI (i - 1) := by
          intro q
          cases i with
          | zero => exact absurd rfl q
          | succ i => rw [nI_pred, Nat.add_sub_cancel]
        -- to the test, with the words counted
        have reach : ((few ≤ nI (m_chN W l t i) ∨ w_n W < i ∨ (0 < i ∧ ¬ bitO (W (10 + 5 * l) 14) (nI (i - 1)))) → B_X11_mend G K 213 [(0, .ref 175), (1, .int (nI l)), (2, .int v2), (3, .int v3), (4, .int (W (10 + 5 * l) 7)), (5, .int (W (10 + 5 * l) 8)), (6, .int (W (10 + 5 * l) 10)), (7, .int (W (10 + 5 * l) 14)), (8, .int best), (9, .int few), (10, .int (nI (9 * t + i))), (11, .int (nI i - 1)), (12, .int (nI (m_chN W l t i)))] [.int 0] N) → (¬ (few ≤ nI (m_chN W l t i) ∨ w_n W < i ∨ (0 < i ∧ ¬ bitO (W (10 + 5 * l) 14) (nI (i - 1)))) → B_X11_mend G K 213 [(0, .ref 175), (1, .int (nI l)), (2, .int v2), (3, .int v3), (4, .int (W (10 + 5 * l) 7)), (5, .int (W (10 + 5 * l) 8)), (6, .int (W (10 + 5 * l) 10)), (7, .int (W (10 + 5 * l) 14)), (8, .int best), (9, .int few), (10, .int (nI (9 * t + i))), (11, .int (nI i - 1)), (12, .int (nI (m_chN W l t i)))] [.int 1] N) → B_X11_mend G K 107 [(0, .ref 175), (1, .int (nI l)), (2, .int v2), (3, .int v3), (4, .int (W (10 + 5 * l) 7)), (5, .int (W (10 + 5 * l) 8)), (6, .int (W (10 + 5 * l) 10)), (7, .int (W (10 + 5 * l) 14)), (8, .int best), (9, .int few), (10, .int (nI (9 * t + i)))] [] N := by
          intro h0 h1
          have st3 : ∀ s0 s1 : Int32, s0 + s1 = nI (m_chN W l t i) → B_X11_mend G K 174 [(0, .ref 175), (1, .int (nI l)), (2, .int v2), (3, .int v3), (4, .int (W (10 + 5 * l) 7)), (5, .int (W (10 + 5 * l) 8)), (6, .int (W (10 + 5 * l) 10)), (7, .int (W (10 + 5 * l) 14)), (8, .int best), (9, .int few), (10, .int (nI (9 * t + i))), (11, .int (nI i - 1))] [.int s1, .int s0] N := by
            intro s0 s1 es
            refine k_X11_mend_174 (W := W_m W l (N.1 182 l) (N.1 184 l) (N.1 188 l)) ?_
            rw [es, hw81]
            refine ⟨fun c4 => h0 (Or.inl c4), fun c4 => ⟨fun c5 => h1 ?_, fun c5 => ⟨hRN, fun c6 => h0 (Or.inr (Or.inl ?_)), fun c6 => ⟨fun c7 => h0 (Or.inr (Or.inr ?_)), fun c7 => h1 ?_⟩⟩⟩⟩
            · have i0 := neg.mp c5
              rintro (q | q | q)
              · exact c4 q
              · omega
              · omega
            · have i0 : ¬ i = 0 := fun q => c5 (neg.mpr q)
              refine Classical.byContradiction fun q => c6 ?_
              rw [pred i0]
              exact ⟨nI_pos' (by omega), nI_lt (by omega) (by omega)⟩
            · have i0 : ¬ i = 0 := fun q => c5 (neg.mpr q)
              rw [pred i0] at c7
              exact ⟨by omega, c7⟩
            · have i0 : ¬ i = 0 := fun q => c5 (neg.mpr q)
              rw [pred i0] at c6 c7
              have := (nI_ltI (by omega) (by omega)).mp c6.2
              rintro (q | q | q)
              · exact c4 q
              · omega
              · exact q.2 c7
          have st2 : ∀ a b : Nat, a = sel (W (10 + 5 * l) 8 = -6 ∧ W (10 + 5 * l) 7 = aw_f2 (t / 2)) 0 1 → b = sel (nI (t % 2) = W (10 + 5 * l) 10) 0 1 → B_X11_mend G K 163 [(0, .ref 175), (1, .int (nI l)), (2, .int v2), (3, .int v3), (4, .int (W (10 + 5 * l) 7)), (5, .int (W (10 + 5 * l) 8)), (6, .int (W (10 + 5 * l) 10)), (7, .int (W (10 + 5 * l) 14)), (8, .int best), (9, .int few), (10, .int (nI (9 * t + i))), (11, .int (nI i - 1))] [.int (nI b), .int (nI a)] N := by
            intro a b ea eb
            refine k_X11_mend_163 ⟨fun c5 => st3 _ _ ?_, fun c5 => st3 _ _ ?_⟩
            · rw [nI_add]
              unfold m_chN
              rw [if_pos (neg.mp c5), ← ea, ← eb]
              exact Int32.add_zero _
            · rw [nI_add]
              unfold m_chN
              rw [if_neg (fun q => c5 (neg.mpr q)), ← ea, ← eb]
              exact nI_1 _
          have st1 : ∀ a : Nat, a = sel (W (10 + 5 * l) 8 = -6 ∧ W (10 + 5 * l) 7 = aw_f2 (t / 2)) 0 1 → B_X11_mend G K 146 [(0, .ref 175), (1, .int (nI l)), (2, .int v2), (3, .int v3), (4, .int (W (10 + 5 * l) 7)), (5, .int (W (10 + 5 * l) 8)), (6, .int (W (10 + 5 * l) 10)), (7, .int (W (10 + 5 * l) 14)), (8, .int best), (9, .int few), (10, .int (nI (9 * t + i))), (11, .int (nI i - 1))] [.int (nI a)] N := by
            intro a ea
            refine k_X11_mend_146 ?_
            rw [z2]
            exact ⟨fun c5 => st2 a 0 ea (by rw [sel_t c5]), fun c5 => st2 a 1 ea (by rw [sel_f c5])⟩
          refine k_X11_mend_107 ⟨fun c4 => absurd c4 hlt, fun _ => ⟨fun c4 => ?_, fun c4 r18 e18 => ?_⟩⟩
          · rw [z3]
            refine st1 1 ?_
            rw [sel_f (fun q => by rw [q.1] at c4; exact absurd c4 (by decide))]
          · rw [z1, aw_f2_time _ (by omega)] at e18
            rw [z3]
            have e8 : W (10 + 5 * l) 8 = -6 := by
              rcases t2 with q | q
              · exact q
              · rcases q with q | q | q <;> rw [q] at c4 <;> exact absurd (by decide) c4
            refine ⟨fun c5 => st1 0 ?_, fun c5 => st1 1 ?_⟩
            · rw [sel_t ⟨e8, c5.symm.trans e18⟩]
            · rw [sel_f (fun q => c5 (e18.trans q.2.symm))]
        refine ⟨fun q hk => reach (fun _ => ?_) (fun q2 => absurd q q2), fun q hk => reach (fun q2 => absurd q2 q) (fun _ => ?_)⟩
        · refine k_X11_mend_213 ⟨fun _ => k_X11_mend_294 ?_, fun c4 => absurd rfl c4⟩
          rw [nI_1]; exact hk N hN
        · refine k_X11_mend_213 ⟨fun c4 => absurd c4 (by decide), fun _ r3 e3 => ⟨vl, vl, fun N4 g4 => ⟨vl, fun N5 g5 => ?_⟩⟩⟩
          rw [z1, aw_f2_time _ (by omega)] at e3
          rw [ixl, e3] at g4
          rw [ixl, z2] at g5
          have tst : ∀ u : Int32, u = m_und W l i → B_X11_mend G K 277 [(0, .ref 175), (1, .int (nI l)), (2, .int v2), (3, .int v3), (4, .int (W (10 + 5 * l) 7)), (5, .int (W (10 + 5 * l) 8)), (6, .int (W (10 + 5 * l) 10)), (7, .int (W (10 + 5 * l) 14)), (8, .int best), (9, .int few), (10, .int (nI (9 * t + i))), (12, .int (nI (m_chN W l t i)))] [.int u, .int (nI l), .ref 188] N5 := by
            intro u eu
            refine k_X11_mend_277 (V := W_m W l (aw_f2 (t / 2)) (nI (t % 2)) u) ?_
            rw [ixl]
            have hm : Zm M0 (m_i N5 188 l u) l := by rw [g5, g4]; exact (((hN.mi (by decide)).mi (by decide)).mi (by decide)).mi (by decide)
            have f1 : (m_i N5 188 l u).1 182 l = aw_f2 (t / 2) := by rw [m_i_ne (by omega), g5, m_i_ne (by omega), g4, m_i_ne (by omega), m_i_at]
            have f2 : (m_i N5 188 l u).1 184 l = nI (t % 2) := by rw [m_i_ne (by omega), g5, m_i_at]
            refine ⟨vl, mend_RG hR0 hT0 i1 hm f1 f2 m_i_at, mend_RP2 h8 hQ0 i1 hm hwish, fun N1 g1 => ?_⟩
            rw [hasw _ _ _ _ hm, eu]
            have hk := hk N1 (hm.z g1)
            exact ⟨fun c5 => k_X11_mend_294 (by rw [nI_1]; exact hk.1 c5), fun c5 => k_X11_mend_294 (by rw [nI_1]; exact hk.2 c5)⟩
          refine ⟨fun c5 => tst _ ?_, fun c5 => tst _ ?_⟩
          · have i0 : ¬ i = 0 := fun z => absurd c5 (Int32.not_le.mpr (neg.mpr z))
            unfold m_und
            rw [if_neg i0, pred i0]
          · unfold m_und
            rw [if_pos (neg.mp (Int32.not_le.mp c5))]
      have ch1 : ∀ t i, 0 < i → m_chN W l t i = m_chN W l t 1 := fun t i hi => by unfold m_chN; rw [if_neg (by omega), if_neg (by omega)]
      have chle : ∀ t i, m_chN W l t i ≤ m_chN W l t (i + 1) := fun t i => by unfold m_chN; split <;> split <;> omega
      have stop : ∀ t k i (st : CmT), ¬ st.1 = -6 → st.1 ≤ nI (m_chN W l t i) → m_in W l v2 (aw_f2 (t / 2)) (nI (t % 2)) (m_ch W l (aw_f2 (t / 2)) (nI (t % 2))) k i st = st := by
        intro t k i st h1 h2
        cases k with
        | zero => rfl
        | succ k => rw [m_in, ← m_ch_nat, sel_t ⟨h1, h2⟩]
      have Out : ∀ r t, t + r = 6 → ∀ best few N, Zm M0 N l → MRel best few (m_out W l v2 t) → B_X11_mend G K 107 [(0, .ref 175), (1, .int (nI l)), (2, .int v2), (3, .int v3), (4, .int (W (10 + 5 * l) 7)), (5, .int (W (10 + 5 * l) 8)), (6, .int (W (10 + 5 * l) 10)), (7, .int (W (10 + 5 * l) 14)), (8, .int best), (9, .int few), (10, .int (nI (9 * t)))] [] N := by
        intro r
        induction r with
        | zero =>
          intro t ht best few N hN hrel
          have e : t = 6 := by omega
          subst e
          exact ending best few N hN hrel
        | succ r ihr =>
          intro t ht best few N hN hrel
          have In : ∀ q i, i + q = 9 → ∀ (best few : Int32) (st : CmT) N, Zm M0 N l → MRel best few st → m_in W l v2 (aw_f2 (t / 2)) (nI (t % 2)) (m_ch W l (aw_f2 (t / 2)) (nI (t % 2))) (w_n W + 1 - i) i st = m_out W l v2 (t + 1) → (i = 0 ∨ (¬ st.1 = -6 ∧ st.1 ≤ nI (m_chN W l t i)) ∨ ¬ mend_ok W l v2 (aw_f2 (t / 2)) (nI (t % 2)) (W (10 + 5 * l) 14)) → B_X11_mend G K 107 [(0, .ref 175), (1, .int (nI l)), (2, .int v2), (3, .int v3), (4, .int (W (10 + 5 * l) 7)), (5, .int (W (10 + 5 * l) 8)), (6, .int (W (10 + 5 * l) 10)), (7, .int (W (10 + 5 * l) 14)), (8, .int best), (9, .int few), (10, .int (nI (9 * t + i)))] [] N := by
            intro q
            induction q with
            | zero =>
              intro i hi best few st N hN hrel hfin _
              have e : i = 9 := by omega
              subst e
              rw [show w_n W + 1 - 9 = 0 by omega] at hfin
              have hfin : st = m_out W l v2 (t + 1) := hfin
              rw [hfin] at hrel
              exact ihr (t + 1) (by omega) best few N hN hrel
            | succ q ihq =>
              intro i hi best few st N hN hrel hfin hcond
              obtain ⟨tr1, tr2⟩ := trial t i best few N (by omega) (by omega) hN
              have hchs : nI (m_chN W l t i) ≤ nI (m_chN W l t (i + 1)) := nI_le (chle t i) (by have := m_chN_le (W := W) (l := l) (t := t) (i := i + 1); omega)
              have hch3 := m_chN_le (W := W) (l := l) (t := t) (i := i)
              by_cases hin : w_n W < i
              · rw [show w_n W + 1 - i = 0 by omega] at hfin
                refine tr1 (Or.inr (Or.inl hin)) (fun N' hN' => ihq (i + 1) (by omega) best few st N' hN' hrel (by rw [show w_n W + 1 - (i + 1) = 0 by omega]; exact hfin) ?_)
                rcases hcond with z | z | z
                · omega
                · exact Or.inr (Or.inl ⟨z.1, Int32.le_trans z.2 hchs⟩)
                · exact Or.inr (Or.inr z)
              · rw [show w_n W + 1 - i = (w_n W + 1 - (i + 1)) + 1 by omega, m_in, ← m_ch_nat] at hfin
                by_cases hs : ¬ st.1 = -6 ∧ st.1 ≤ nI (m_chN W l t i)
                · rw [sel_t hs] at hfin
                  have hfew : few ≤ nI (m_chN W l t i) := by
                    rcases hrel with ⟨-, -, z⟩ | ⟨t9, i9, f, y1, y2, y3, y4, z2, z3⟩
                    · exact absurd z hs.1
                    · rw [z2]; rw [z3] at hs; exact hs.2
                  refine tr1 (Or.inl hfew) (fun N' hN' => ihq (i + 1) (by omega) best few st N' hN' hrel ?_ (Or.inr (Or.inl ⟨hs.1, Int32.le_trans hs.2 hchs⟩)))
                  rw [stop t _ _ st hs.1 (Int32.le_trans hs.2 hchs)]
                  exact hfin
                · rw [sel_f hs] at hfin
                  have hfew : ¬ few ≤ nI (m_chN W l t i) := by
                    rcases hrel with ⟨-, z, -⟩ | ⟨t9, i9, f, y1, y2, y3, y4, z2, z3⟩
                    · rw [z]
                      exact Int32.not_le.mpr (nI_lt (b := 9) (by omega) (by decide))
                    · intro z
                      rw [z2] at z
                      rw [z3] at hs
                      exact hs ⟨nI_n6 (by omega), z⟩
                  have hnk : ¬ i = 0 → ¬ mend_ok W l v2 (aw_f2 (t / 2)) (nI (t % 2)) (W (10 + 5 * l) 14) := by
                    intro z
                    rcases hcond with y | y | y
                    · exact absurd y z
                    · exact absurd y hs
                    · exact y
                  by_cases hbit : 0 < i ∧ ¬ bitO (W (10 + 5 * l) 14) (nI (i - 1))
                  · have eu : (if i = 0 then W (10 + 5 * l) 14 else W (10 + 5 * l) 14 ||| ((1 : Int32) <<< (nI (i - 1) &&& 31))) = W (10 + 5 * l) 14 := by
                      rw [if_neg (by omega)]
                      refine bP_ext (fun x hx => ?_)
                      rw [bP_or, bP_shl (by omega) hx]
                      refine ⟨fun y => y.elim id (fun y => ?_), Or.inl⟩
                      rw [y]
                      exact Classical.not_not.mp fun w => hbit.2 ((bit_is0 (by omega)).mpr w)
                    rw [eu, sel_f (hnk (by omega))] at hfin
                    exact tr1 (Or.inr (Or.inr hbit)) (fun N' hN' => ihq (i + 1) (by omega) best few st N' hN' hrel hfin (Or.inr (Or.inr (hnk (by omega)))))
                  · refine tr2 (fun z => z.elim hfew (fun z => z.elim hin hbit)) (fun N' hN' => ⟨fun hok => ?_, fun hok => ?_⟩)
                    · rw [sel_f (show ¬ mend_ok W l v2 (aw_f2 (t / 2)) (nI (t % 2)) (if i = 0 then W (10 + 5 * l) 14 else W (10 + 5 * l) 14 ||| ((1 : Int32) <<< (nI (i - 1) &&& 31))) from hok)] at hfin
                      refine ihq (i + 1) (by omega) best few st N' hN' hrel hfin (Or.inr (Or.inr ?_))
                      by_cases i0 : i = 0
                      · unfold m_und at hok
                        rw [if_pos i0] at hok; exact hok
                      · exact hnk i0
                    · rw [sel_t (show mend_ok W l v2 (aw_f2 (t / 2)) (nI (t % 2)) (if i = 0 then W (10 + 5 * l) 14 else W (10 + 5 * l) 14 ||| ((1 : Int32) <<< (nI (i - 1) &&& 31))) from hok)] at hfin
                      have ew : (if nI (t % 2) = 0 then (0 : Int32) else 1) = nI (t % 2) := by
                        rcases w01 t with z | z <;> rw [z] <;> decide
                      rw [ew] at hfin
                      exact ihq (i + 1) (by omega) _ _ (nI (m_chN W l t i), aw_f2 (t / 2), nI (t % 2), if i = 0 then -6 else nI (i - 1)) N' hN' (Or.inr ⟨t, i, m_chN W l t i, by omega, by omega, hch3, rfl, rfl, rfl⟩) hfin (Or.inr (Or.inl ⟨nI_n6 (by omega), hchs⟩))
          exact In 9 0 rfl best few (m_out W l v2 t) N hN hrel rfl (Or.inl rfl)
      exact Out 6 0 rfl (-6) 9 M0 Zm.rf (Or.inl ⟨rfl, rfl, rfl⟩)
    · obtain ⟨hP, ez⟩ := hQ.pc hj
      refine k_X11_mend_35 (W := W) ⟨fun c4 => ?_, fun _ => ⟨hR.q hN, hP.q hN, fun r3 e3 N3 g3 => ⟨vp_nI (by omega) (by decide), ?_⟩⟩⟩
      · rw [(hQ.q hN).n.1, nI_leI (by omega) (by omega)] at c4; omega
      · rw [ix_nI (by omega), nI_1]
        refine ih _ ((hN.tr g3.q).mc (by decide)) (fun p hp => ?_)
        rw [ez] at e3
        by_cases e : p = j
        · rw [e, m_i_at, e3]
        · rw [m_i_ne (by omega), g3.1 196 (by decide)]
          exact hgiv p (by omega)
  · rw [sel_t c, sel_t c2, sel_f c3] at h; exact h M Zq.rf
  · rw [sel_f c] at h; exact h M Zq.rf

