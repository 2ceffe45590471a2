/-! ===== 50.text ===== -/
/-! java/lang/Integer.bitCount(I)I -/
abbrev rm_J6_bitCount_0f7a4 : Room := { frames := 0, cells := 0, slots := 0, locals := 0 }
abbrev B_J6_bitCount_0f7a4 (G : GT) (K : Int32 → Mem → Prop) := BT G (Rep G) RJ6 "bitCount" cJ6_bitCount_0f7a4 1 (some .int) rm_J6_bitCount_0f7a4 K 0 0
abbrev T_J6_bitCount_0f7a4 (G : GT) (as : List Value) (M : Mem) (K : Int32 → Mem → Prop) : Prop := MT G (Rep G) yJ6_bitCount_0f7a4 cJ6_bitCount_0f7a4 1 (some .int) rm_J6_bitCount_0f7a4 as M K
theorem e_J6_bitCount_0f7a4 {G : GT} {K : Int32 → Mem → Prop} {M : Mem} {v0 : Int32} (h : B_J6_bitCount_0f7a4 G K 0 [(0, .int v0)] [] M) : T_J6_bitCount_0f7a4 G [.int v0] M K := MT.of (by decide +kernel) rfl rfl (Nat.le_of_ble_eq_true rfl) rfl h
set_option maxRecDepth 4000 in
theorem k_J6_bitCount_0f7a4_0 {G : GT} {K : Int32 → Mem → Prop} {M : Mem} {v0 : Int32} (h : (∀ y1 : Int32, y1 = (v0 - (((Int32.toUInt32 v0 >>> (Int32.toUInt32 1 &&& Int32.toUInt32 31)).toInt32) &&& 1431655765)) → (∀ y2 : Int32, y2 = ((y1 &&& 858993459) + (((Int32.toUInt32 y1 >>> (Int32.toUInt32 2 &&& Int32.toUInt32 31)).toInt32) &&& 858993459)) → (∀ y3 : Int32, y3 = ((y2 + ((Int32.toUInt32 y2 >>> (Int32.toUInt32 4 &&& Int32.toUInt32 31)).toInt32)) &&& 252645135) → (∀ y4 : Int32, y4 = (y3 + ((Int32.toUInt32 y3 >>> (Int32.toUInt32 8 &&& Int32.toUInt32 31)).toInt32)) → (∀ y5 : Int32, y5 = (y4 + ((Int32.toUInt32 y4 >>> (Int32.toUInt32 16 &&& Int32.toUInt32 31)).toInt32)) → K (y5 &&& 63) M)))))) : B_J6_bitCount_0f7a4 G K 0 [(0, .int v0)] [] M := by
  refine BT.iload_n dJ6_bitCount_0f7a4_0 rfl 0 rfl ?_
  refine BT.iload_n dJ6_bitCount_0f7a4_1 rfl 0 rfl ?_
  refine BT.iconst (v := 1) dJ6_bitCount_0f7a4_2 (by decide) ?_
  refine BT.iushr dJ6_bitCount_0f7a4_3 ?_
  refine BT.ldcw dJ6_bitCount_0f7a4_4 kc_J6_265 ?_
  refine BT.iand dJ6_bitCount_0f7a4_7 ?_
  refine BT.isub dJ6_bitCount_0f7a4_8 ?_
  refine BT.topi (fun y1 f1 => ?_)
  refine BT.istore_n (L' := [(0, .int y1)]) dJ6_bitCount_0f7a4_9 rfl (by decide) rfl ?_
  refine BT.iload_n dJ6_bitCount_0f7a4_10 rfl 0 rfl ?_
  refine BT.ldcw dJ6_bitCount_0f7a4_11 kc_J6_266 ?_
  refine BT.iand dJ6_bitCount_0f7a4_14 ?_
  refine BT.iload_n dJ6_bitCount_0f7a4_15 rfl 0 rfl ?_
  refine BT.iconst (v := 2) dJ6_bitCount_0f7a4_16 (by decide) ?_
  refine BT.iushr dJ6_bitCount_0f7a4_17 ?_
  refine BT.ldcw dJ6_bitCount_0f7a4_18 kc_J6_266 ?_
  refine BT.iand dJ6_bitCount_0f7a4_21 ?_
  refine BT.iadd dJ6_bitCount_0f7a4_22 ?_
  refine BT.topi (fun y2 f2 => ?_)
  refine BT.istore_n (L' := [(0, .int y2)]) dJ6_bitCount_0f7a4_23 rfl (by decide) rfl ?_
  refine BT.iload_n dJ6_bitCount_0f7a4_24 rfl 0 rfl ?_
  refine BT.iload_n dJ6_bitCount_0f7a4_25 rfl 0 rfl ?_
  refine BT.iconst (v := 4) dJ6_bitCount_0f7a4_26 (by decide) ?_
  refine BT.iushr dJ6_bitCount_0f7a4_27 ?_
  refine BT.iadd dJ6_bitCount_0f7a4_28 ?_
  refine BT.ldcw dJ6_bitCount_0f7a4_29 kc_J6_267 ?_
  refine BT.iand dJ6_bitCount_0f7a4_32 ?_
  refine BT.topi (fun y3 f3 => ?_)
  refine BT.istore_n (L' := [(0, .int y3)]) dJ6_bitCount_0f7a4_33 rfl (by decide) rfl ?_
  refine BT.iload_n dJ6_bitCount_0f7a4_34 rfl 0 rfl ?_
  refine BT.iload_n dJ6_bitCount_0f7a4_35 rfl 0 rfl ?_
  refine BT.bipush (v := 8) dJ6_bitCount_0f7a4_36 (by decide) ?_
  refine BT.iushr dJ6_bitCount_0f7a4_38 ?_
  refine BT.iadd dJ6_bitCount_0f7a4_39 ?_
  refine BT.topi (fun y4 f4 => ?_)
  refine BT.istore_n (L' := [(0, .int y4)]) dJ6_bitCount_0f7a4_40 rfl (by decide) rfl ?_
  refine BT.iload_n dJ6_bitCount_0f7a4_41 rfl 0 rfl ?_
  refine BT.iload_n dJ6_bitCount_0f7a4_42 rfl 0 rfl ?_
  refine BT.bipush (v := 16) dJ6_bitCount_0f7a4_43 (by decide) ?_
  refine BT.iushr dJ6_bitCount_0f7a4_45 ?_
  refine BT.iadd dJ6_bitCount_0f7a4_46 ?_
  refine BT.topi (fun y5 f5 => ?_)
  refine BT.istore_n (L' := [(0, .int y5)]) dJ6_bitCount_0f7a4_47 rfl (by decide) rfl ?_
  refine BT.iload_n dJ6_bitCount_0f7a4_48 rfl 0 rfl ?_
  refine BT.bipush (v := 63) dJ6_bitCount_0f7a4_49 (by decide) ?_
  refine BT.iand dJ6_bitCount_0f7a4_51 ?_
  exact BT.iret dJ6_bitCount_0f7a4_52 rfl (by decide) (by decide) (((((h y1 f1) y2 f2) y3 f3) y4 f4) y5 f5)

def i_bc (v : Int32) : Int32 :=
  let y1 := (v - (((Int32.toUInt32 v >>> (Int32.toUInt32 1 &&& Int32.toUInt32 31)).toInt32) &&& 1431655765))
  let y2 := ((y1 &&& 858993459) + (((Int32.toUInt32 y1 >>> (Int32.toUInt32 2 &&& Int32.toUInt32 31)).toInt32) &&& 858993459))
  let y3 := ((y2 + ((Int32.toUInt32 y2 >>> (Int32.toUInt32 4 &&& Int32.toUInt32 31)).toInt32)) &&& 252645135)
  let y4 := (y3 + ((Int32.toUInt32 y3 >>> (Int32.toUInt32 8 &&& Int32.toUInt32 31)).toInt32))
  let y5 := (y4 + ((Int32.toUInt32 y4 >>> (Int32.toUInt32 16 &&& Int32.toUInt32 31)).toInt32))
  y5 &&& 63
theorem t_J6_bitCount_0f7a4 {G : GT} {K : Int32 → Mem → Prop} {M : Mem} {v0 : Int32} (hm : ∃ m, m < 32 ∧ v0 = nI m) (h : K (z_ones v0 8) M) : T_J6_bitCount_0f7a4 G [.int v0] M K := by
  obtain ⟨m, hm, rfl⟩ := hm
  have key : ∀ m, m < 32 → i_bc (nI m) = z_ones (nI m) 8 := by decide +kernel
  refine e_J6_bitCount_0f7a4 (k_J6_bitCount_0f7a4_0 ?_)
  intro y1 e1 y2 e2 y3 e3 y4 e4 y5 e5
  subst e1 e2 e3 e4 e5
  show K (i_bc (nI m)) M
  rw [key m hm]
  exact h

/-! BetweenLaws$Law.fitCases()V -/
abbrev rm_X3_fitCases : Room := { frames := 1, cells := 0, slots := 0, locals := 22 }
abbrev B_X3_fitCases (G : GT) (K : Int32 → Mem → Prop) := BT G (Rep G) RX3 "fitCases" cX3_fitCases 3 none rm_X3_fitCases K 0 0
abbrev T_X3_fitCases (G : GT) (as : List Value) (M : Mem) (K : Int32 → Mem → Prop) : Prop := MT G (Rep G) yX3_fitCases cX3_fitCases 3 none rm_X3_fitCases as M K
theorem e_X3_fitCases {G : GT} {K : Int32 → Mem → Prop} {M : Mem} {a0 : Nat} (h : B_X3_fitCases G K 0 [(0, .ref a0)] [] M) : T_X3_fitCases G [.ref a0] M K := MT.of (by decide +kernel) rfl rfl (Nat.le_of_ble_eq_true rfl) rfl h
set_option maxRecDepth 4000 in
theorem k_X3_fitCases_0 {G : GT} {K : Int32 → Mem → Prop} {M : Mem} {a0 : Nat} (ha0 : LawC a0) (h : B_X3_fitCases G K 2 [(0, .ref a0), (1, .int 0)] [] M) : B_X3_fitCases G K 0 [(0, .ref a0)] [] M := by
  refine BT.iconst (v := 0) dX3_fitCases_0 (by decide) ?_
  refine BT.istore_n (L' := [(1, .int 0), (0, .ref a0)]) dX3_fitCases_1 rfl (by decide) rfl ?_
  refine BT.sub [1, 0] rfl ?_
  exact h
set_option maxRecDepth 4000 in
theorem k_X3_fitCases_2 {G : GT} {K : Int32 → Mem → Prop} {M : Mem} {a0 : Nat} {v1 : Int32} (ha0 : LawC a0) (h : (32 ≤ v1 → K 0 M) ∧ (¬ 32 ≤ v1 → (∃ n, n ≤ 6 ∧ M.1 a0 2 = nI n) ∧ (∀ r3 : Int32, r3 = (w_fit M.1 a0 v1) → (¬ r3 = (-6) → (vp_in r3 6) ∧ (vp_in v1 32) ∧ (¬ r3 = (-6) → (vp_in r3 6) ∧ (∃ m, m < 32 ∧ ((m_i M (a0 + 3) (Int32.toNatClampNeg v1) (M.1 (a0 + 2) (Int32.toNatClampNeg r3))).1 (a0 + 1) (Int32.toNatClampNeg r3)) = nI m) ∧ (∀ r8 : Int32, r8 = (z_ones ((m_i M (a0 + 3) (Int32.toNatClampNeg v1) (M.1 (a0 + 2) (Int32.toNatClampNeg r3))).1 (a0 + 1) (Int32.toNatClampNeg r3)) 8) → (vp_in v1 32) ∧ B_X3_fitCases G K 2 [(0, .ref a0), (1, .int (v1 + 1))] [] (m_i (m_i M (a0 + 3) (Int32.toNatClampNeg v1) (M.1 (a0 + 2) (Int32.toNatClampNeg r3))) (a0 + 4) (Int32.toNatClampNeg v1) r8))) ∧ (r3 = (-6) → (vp_in v1 32) ∧ B_X3_fitCases G K 2 [(0, .ref a0), (1, .int (v1 + 1))] [] (m_i (m_i M (a0 + 3) (Int32.toNatClampNeg v1) (M.1 (a0 + 2) (Int32.toNatClampNeg r3))) (a0 + 4) (Int32.toNatClampNeg v1) 0))) ∧ (r3 = (-6) → (vp_in v1 32) ∧ (¬ r3 = (-6) → (vp_in r3 6) ∧ (∃ m, m < 32 ∧ ((m_i M (a0 + 3) (Int32.toNatClampNeg v1) (-6)).1 (a0 + 1) (Int32.toNatClampNeg r3)) = nI m) ∧ (∀ r11 : Int32, r11 = (z_ones ((m_i M (a0 + 3) (Int32.toNatClampNeg v1) (-6)).1 (a0 + 1) (Int32.toNatClampNeg r3)) 8) → (vp_in v1 32) ∧ B_X3_fitCases G K 2 [(0, .ref a0), (1, .int (v1 + 1))] [] (m_i (m_i M (a0 + 3) (Int32.toNatClampNeg v1) (-6)) (a0 + 4) (Int32.toNatClampNeg v1) r11))) ∧ (r3 = (-6) → (vp_in v1 32) ∧ B_X3_fitCases G K 2 [(0, .ref a0), (1, .int (v1 + 1))] [] (m_i (m_i M (a0 + 3) (Int32.toNatClampNeg v1) (-6)) (a0 + 4) (Int32.toNatClampNeg v1) 0)))))) : B_X3_fitCases G K 2 [(0, .ref a0), (1, .int v1)] [] M := by
  refine BT.iload_n dX3_fitCases_2 rfl 1 rfl ?_
  refine BT.bipush (v := 32) dX3_fitCases_3 (by decide) ?_
  refine BT.icmp_ge (tgt := 68) dX3_fitCases_5 (by decide) (fun c => ?_) (fun c => ?_)
  · have c1 := c
    exact BT.vret dX3_fitCases_68 rfl (by decide) (by decide) (h.1 c1)
  · have c2 := c
    refine BT.aload_n dX3_fitCases_8 rfl 0 rfl ?_
    refine BT.iload_n dX3_fitCases_9 rfl 1 rfl ?_
    refine BT.mcVr [.int v1] (t_X3_firstFitting ha0 (h.2 c2).1 ⟨rfl, rfl⟩) mb_X3_firstFitting mv_X3_firstFitting lk_X3_53 rfl (by decide) rfl (recvRep ha0.1 rfl) (Nat.le_of_ble_eq_true rfl) dX3_fitCases_10 (fun r3 e3 => ?_)
    show B_X3_fitCases G K 13 [(0, .ref a0), (1, .int v1)] [.int r3] M
    refine BT.istore_n (L' := [(2, .int r3), (0, .ref a0), (1, .int v1)]) dX3_fitCases_13 rfl (by decide) rfl ?_
    refine BT.aload_n dX3_fitCases_14 rfl 1 rfl ?_
    refine BT.getR (r := (a0 + 3)) fl_X3_18 ha0.1 rfl dX3_fitCases_15 ?_
    refine BT.iload_n dX3_fitCases_18 rfl 2 rfl ?_
    refine BT.iload_n dX3_fitCases_19 rfl 0 rfl ?_
    refine BT.bipush (v := (-6)) dX3_fitCases_20 (by decide) ?_
    refine BT.icmp_ne (tgt := 30) dX3_fitCases_22 (by decide) (fun c => ?_) (fun c => ?_)
    · have c4 := c
      refine BT.aload_n dX3_fitCases_30 rfl 1 rfl ?_
      refine BT.getR (r := (a0 + 2)) fl_X3_15 ha0.1 rfl dX3_fitCases_31 ?_
      refine BT.iload_n dX3_fitCases_34 rfl 0 rfl ?_
      refine BT.iald ha0.2.2.1 (((h.2 c2).2 r3 e3).1 c4).1 dX3_fitCases_35 ?_
      refine BT.iast ha0.2.2.2.1 (((h.2 c2).2 r3 e3).1 c4).2.1 dX3_fitCases_36 ?_
      refine BT.aload_n dX3_fitCases_37 rfl 1 rfl ?_
      refine BT.getR (r := (a0 + 4)) fl_X3_21 ha0.1 rfl dX3_fitCases_38 ?_
      refine BT.iload_n dX3_fitCases_41 rfl 2 rfl ?_
      refine BT.iload_n dX3_fitCases_42 rfl 0 rfl ?_
      refine BT.bipush (v := (-6)) dX3_fitCases_43 (by decide) ?_
      refine BT.icmp_ne (tgt := 52) dX3_fitCases_45 (by decide) (fun c => ?_) (fun c => ?_)
      · have c6 := c
        refine BT.aload_n dX3_fitCases_52 rfl 1 rfl ?_
        refine BT.getR (r := (a0 + 1)) fl_X3_9 ha0.1 rfl dX3_fitCases_53 ?_
        refine BT.iload_n dX3_fitCases_56 rfl 0 rfl ?_
        refine BT.iald ha0.2.1 ((((h.2 c2).2 r3 e3).1 c4).2.2.1 c6).1 dX3_fitCases_57 ?_
        refine BT.mcSr [.int ((m_i M (a0 + 3) (Int32.toNatClampNeg v1) (M.1 (a0 + 2) (Int32.toNatClampNeg r3))).1 (a0 + 1) (Int32.toNatClampNeg r3))] (t_J6_bitCount_0f7a4 ((((h.2 c2).2 r3 e3).1 c4).2.2.1 c6).2.1 ⟨rfl, rfl⟩) mb_J6_bitCount_0f7a4 ms_J6_bitCount_0f7a4 lk_X3_57 rfl (by decide) rfl (Nat.le_of_ble_eq_true rfl) dX3_fitCases_58 (fun r8 e8 => ?_)
        show B_X3_fitCases G K 61 [(2, .int r3), (0, .ref a0), (1, .int v1)] [.int r8, .int v1, .ref (a0 + 4)] (m_i M (a0 + 3) (Int32.toNatClampNeg v1) (M.1 (a0 + 2) (Int32.toNatClampNeg r3)))
        refine BT.iast ha0.2.2.2.2 (((((h.2 c2).2 r3 e3).1 c4).2.2.1 c6).2.2 r8 e8).1 dX3_fitCases_61 ?_
        refine BT.iinc (j := 2) (v := (v1 + 1)) (L' := [(1, .int (v1 + 1)), (2, .int r3), (0, .ref a0)]) dX3_fitCases_62 rfl rfl (by decide) rfl ?_
        refine BT.goto (tgt := 2) dX3_fitCases_65 (by decide) ?_
        refine BT.sub [2, 0] rfl ?_
        exact (((((h.2 c2).2 r3 e3).1 c4).2.2.1 c6).2.2 r8 e8).2
      · have c7 := c
        refine BT.iconst (v := 0) dX3_fitCases_48 (by decide) ?_
        refine BT.goto (tgt := 61) dX3_fitCases_49 (by decide) ?_
        refine BT.iast ha0.2.2.2.2 ((((h.2 c2).2 r3 e3).1 c4).2.2.2 c7).1 dX3_fitCases_61 ?_
        refine BT.iinc (j := 2) (v := (v1 + 1)) (L' := [(1, .int (v1 + 1)), (2, .int r3), (0, .ref a0)]) dX3_fitCases_62 rfl rfl (by decide) rfl ?_
        refine BT.goto (tgt := 2) dX3_fitCases_65 (by decide) ?_
        refine BT.sub [2, 0] rfl ?_
        exact ((((h.2 c2).2 r3 e3).1 c4).2.2.2 c7).2
    · have c5 := c
      refine BT.bipush (v := (-6)) dX3_fitCases_25 (by decide) ?_
      refine BT.goto (tgt := 36) dX3_fitCases_27 (by decide) ?_
      refine BT.iast ha0.2.2.2.1 (((h.2 c2).2 r3 e3).2 c5).1 dX3_fitCases_36 ?_
      refine BT.aload_n dX3_fitCases_37 rfl 1 rfl ?_
      refine BT.getR (r := (a0 + 4)) fl_X3_21 ha0.1 rfl dX3_fitCases_38 ?_
      refine BT.iload_n dX3_fitCases_41 rfl 2 rfl ?_
      refine BT.iload_n dX3_fitCases_42 rfl 0 rfl ?_
      refine BT.bipush (v := (-6)) dX3_fitCases_43 (by decide) ?_
      refine BT.icmp_ne (tgt := 52) dX3_fitCases_45 (by decide) (fun c => ?_) (fun c => ?_)
      · have c9 := c
        refine BT.aload_n dX3_fitCases_52 rfl 1 rfl ?_
        refine BT.getR (r := (a0 + 1)) fl_X3_9 ha0.1 rfl dX3_fitCases_53 ?_
        refine BT.iload_n dX3_fitCases_56 rfl 0 rfl ?_
        refine BT.iald ha0.2.1 ((((h.2 c2).2 r3 e3).2 c5).2.1 c9).1 dX3_fitCases_57 ?_
        refine BT.mcSr [.int ((m_i M (a0 + 3) (Int32.toNatClampNeg v1) (-6)).1 (a0 + 1) (Int32.toNatClampNeg r3))] (t_J6_bitCount_0f7a4 ((((h.2 c2).2 r3 e3).2 c5).2.1 c9).2.1 ⟨rfl, rfl⟩) mb_J6_bitCount_0f7a4 ms_J6_bitCount_0f7a4 lk_X3_57 rfl (by decide) rfl (Nat.le_of_ble_eq_true rfl) dX3_fitCases_58 (fun r11 e11 => ?_)
        show B_X3_fitCases G K 61 [(2, .int r3), (0, .ref a0), (1, .int v1)] [.int r11, .int v1, .ref (a0 + 4)] (m_i M (a0 + 3) (Int32.toNatClampNeg v1) (-6))
        refine BT.iast ha0.2.2.2.2 (((((h.2 c2).2 r3 e3).2 c5).2.1 c9).2.2 r11 e11).1 dX3_fitCases_61 ?_
        refine BT.iinc (j := 2) (v := (v1 + 1)) (L' := [(1, .int (v1 + 1)), (2, .int r3), (0, .ref a0)]) dX3_fitCases_62 rfl rfl (by decide) rfl ?_
        refine BT.goto (tgt := 2) dX3_fitCases_65 (by decide) ?_
        refine BT.sub [2, 0] rfl ?_
        exact (((((h.2 c2).2 r3 e3).2 c5).2.1 c9).2.2 r11 e11).2
      · have c10 := c
        refine BT.iconst (v := 0) dX3_fitCases_48 (by decide) ?_
        refine BT.goto (tgt := 61) dX3_fitCases_49 (by decide) ?_
        refine BT.iast ha0.2.2.2.2 ((((h.2 c2).2 r3 e3).2 c5).2.2 c10).1 dX3_fitCases_61 ?_
        refine BT.iinc (j := 2) (v := (v1 + 1)) (L' := [(1, .int (v1 + 1)), (2, .int r3), (0, .ref a0)]) dX3_fitCases_62 rfl rfl (by decide) rfl ?_
        refine BT.goto (tgt := 2) dX3_fitCases_65 (by decide) ?_
        refine BT.sub [2, 0] rfl ?_
        exact ((((h.2 c2).2 r3 e3).2 c5).2.2 c10).2

theorem t_X3_fitCases {G : GT} {K : Int32 → Mem → Prop} {M : Mem} {a0 : Nat} (ha0 : LawC a0) (hk : ∃ n, n ≤ 6 ∧ M.1 a0 2 = nI n ∧ ∀ i, i < n → ∃ m, m < 32 ∧ M.1 (a0 + 1) i = nI m) (h : ∀ N, ((∀ d, ¬ (d = a0 + 3 ∨ d = a0 + 4) → N.1 d = M.1 d) ∧ N.2 = M.2 ∧ FitW N.1 a0) → K 0 N) : T_X3_fitCases G [.ref a0] M K := by
  obtain ⟨n, hn6, en, hcs⟩ := hk
  refine e_X3_fitCases (k_X3_fitCases_0 ha0 ?_)
  refine up_loop (P := fun j => ∀ N, (∀ d, ¬ (d = a0 + 3 ∨ d = a0 + 4) → N.1 d = M.1 d) → N.2 = M.2 → (∀ m, m < j → N.1 (a0 + 3) m = sel (w_fit M.1 a0 (nI m) = -6) (-6) (M.1 (a0 + 2) (Int32.toNatClampNeg (w_fit M.1 a0 (nI m)))) ∧ N.1 (a0 + 4) m = sel (w_fit M.1 a0 (nI m) = -6) 0 (z_ones (M.1 (a0 + 1) (Int32.toNatClampNeg (w_fit M.1 a0 (nI m)))) 8)) → B_X3_fitCases G K 2 [(0, .ref a0), (1, .int (nI j))] [] N) 32 (fun N h1 h2 h3 => ?_) (fun j hj ih N h1 h2 h3 => ?_) 0 (Nat.zero_le _) M (fun _ _ => rfl) rfl (fun m hm => absurd hm (by omega))
  · refine k_X3_fitCases_2 ha0 ⟨fun _ => h N ⟨h1, h2, ?_⟩, fun c => absurd (by decide) c⟩
    intro m hm
    rw [w_fit_congr (V := N.1) (W := M.1) (by rw [h1 a0 (by omega)]) (h1 (a0 + 1) (by omega)), h1 (a0 + 2) (by omega), h1 (a0 + 1) (by omega)]
    exact h3 m hm
  · have ew : w_fit N.1 a0 (nI j) = w_fit M.1 a0 (nI j) := w_fit_congr (by rw [h1 a0 (by omega)]) (h1 (a0 + 1) (by omega)) _
    have vj : vp_in (nI j) 32 := vp_nI hj (by decide)
    have row : ∀ x y : Int32, x = sel (w_fit M.1 a0 (nI j) = -6) (-6) (M.1 (a0 + 2) (Int32.toNatClampNeg (w_fit M.1 a0 (nI j)))) → y = sel (w_fit M.1 a0 (nI j) = -6) 0 (z_ones (M.1 (a0 + 1) (Int32.toNatClampNeg (w_fit M.1 a0 (nI j)))) 8) → B_X3_fitCases G K 2 [(0, .ref a0), (1, .int (nI j + 1))] [] (m_i (m_i N (a0 + 3) j x) (a0 + 4) j y) := by
      intro x y ex ey
      rw [nI_1]
      refine ih _ (fun d hd => ?_) h2 (fun m hm => ?_)
      · rw [mi_off (by omega), mi_off (by omega)]
        exact h1 d hd
      · by_cases e : m = j
        · subst e
          rw [m_i_ne (by omega), m_i_at, m_i_at]
          exact ⟨ex, ey⟩
        · rw [m_i_ne (by omega), m_i_ne (by omega), m_i_ne (by omega), m_i_ne (by omega)]
          exact h3 m (by omega)
    refine k_X3_fitCases_2 ha0 ⟨fun c => absurd c (Int32.not_le.mpr (nI_lt (b := 32) hj (by decide))), fun _ => ⟨⟨n, hn6, by rw [h1 a0 (by omega)]; exact en⟩, fun r3 e3 => ?_⟩⟩
    rw [ew] at e3
    rw [ix_nI (by omega)]
    rcases w_ff_in M.1 a0 (nI j) (Int32.toNatClampNeg (M.1 a0 2)) 0 with q | ⟨i, hi, q⟩
    · have q : w_fit M.1 a0 (nI j) = -6 := q
      have er : r3 = -6 := e3.trans q
      refine ⟨fun c => absurd er c, fun _ => ⟨vj, fun c => absurd er c, fun _ => ⟨vj, row _ _ (by rw [sel_t q]) (by rw [sel_t q])⟩⟩⟩
    · have q : w_fit M.1 a0 (nI j) = nI i := q
      rw [en, ix_nI (by omega)] at hi
      have n6 : ¬ w_fit M.1 a0 (nI j) = -6 := by rw [q]; exact nI_n6 (by omega)
      have n6' : ¬ r3 = -6 := by rw [e3]; exact n6
      have vi : vp_in r3 6 := by rw [e3, q]; exact vp_nI (by omega) (by decide)
      have e1 : ∀ X, (m_i N (a0 + 3) j X).1 (a0 + 1) (Int32.toNatClampNeg r3) = M.1 (a0 + 1) (Int32.toNatClampNeg r3) := fun X => by rw [m_i_ne (by omega), h1 (a0 + 1) (by omega)]
      rw [h1 (a0 + 2) (by omega)]
      simp only [e1]
      refine ⟨fun _ => ⟨vi, vj, fun _ => ⟨vi, ?_, fun r8 e8 => ⟨vj, row _ _ ?_ ?_⟩⟩, fun c => absurd c n6'⟩, fun c => absurd c n6'⟩
      · rw [e3, q, ix_nI (by omega)]
        exact hcs i (by omega)
      · rw [sel_f n6, e3]
      · rw [sel_f n6, e8, e3]

/-! BetweenLaws$Law.blank()V -/
abbrev rm_X3_blank : Room := { frames := 0, cells := 0, slots := 0, locals := 0 }
abbrev B_X3_blank (G : GT) (K : Int32 → Mem → Prop) := BT G (Rep G) RX3 "blank" cX3_blank 1 none rm_X3_blank K 0 0
abbrev T_X3_blank (G : GT) (as : List Value) (M : Mem) (K : Int32 → Mem → Prop) : Prop := MT G (Rep G) yX3_blank cX3_blank 1 none rm_X3_blank as M K
theorem e_X3_blank {G : GT} {K : Int32 → Mem → Prop} {M : Mem} {a0 : Nat} (h : B_X3_blank G K 0 [(0, .ref a0)] [] M) : T_X3_blank G [.ref a0] M K := MT.of (by decide +kernel) rfl rfl (Nat.le_of_ble_eq_true rfl) rfl h
set_option maxRecDepth 4000 in
theorem k_X3_blank_0 {G : GT} {K : Int32 → Mem → Prop} {M : Mem} {a0 : Nat} (ha0 : LawC a0) (h : (∀ N1 : Mem, N1 = (m_i M a0 2 0) → (∀ N2 : Mem, N2 = (m_i N1 a0 7 110) → (∀ N3 : Mem, N3 = (m_i N2 a0 8 (-6)) → (∀ N4 : Mem, N4 = (m_i N3 a0 9 (N3.1 a0 7)) → (∀ N5 : Mem, N5 = (m_i N4 a0 10 0) → (∀ N6 : Mem, N6 = (m_i N5 a0 11 (-6)) → (∀ N7 : Mem, N7 = (m_i N6 a0 12 (-6)) → (∀ N8 : Mem, N8 = (m_i N7 a0 13 (-6)) → (∀ N9 : Mem, N9 = (m_i N8 a0 14 0) → K 0 N9)))))))))) : B_X3_blank G K 0 [(0, .ref a0)] [] M := by
  refine BT.aload_n dX3_blank_0 rfl 0 rfl ?_
  refine BT.iconst (v := 0) dX3_blank_1 (by decide) ?_
  refine BT.putI fl_X3_24 ft_3_2 ha0.1 rfl dX3_blank_2 ?_
  refine BT.topm (fun N1 f1 => ?_)
  refine BT.aload_n dX3_blank_5 rfl 0 rfl ?_
  refine BT.bipush (v := 110) dX3_blank_6 (by decide) ?_
  refine BT.putI fl_X3_28 ft_3_7 ha0.1 rfl dX3_blank_8 ?_
  refine BT.topm (fun N2 f2 => ?_)
  refine BT.aload_n dX3_blank_11 rfl 0 rfl ?_
  refine BT.bipush (v := (-6)) dX3_blank_12 (by decide) ?_
  refine BT.putI fl_X3_31 ft_3_8 ha0.1 rfl dX3_blank_14 ?_
  refine BT.topm (fun N3 f3 => ?_)
  refine BT.aload_n dX3_blank_17 rfl 0 rfl ?_
  refine BT.aload_n dX3_blank_18 rfl 0 rfl ?_
  refine BT.getI fl_X3_28 ha0.1 rfl dX3_blank_19 ?_
  refine BT.putI fl_X3_34 ft_3_9 ha0.1 rfl dX3_blank_22 ?_
  refine BT.topm (fun N4 f4 => ?_)
  refine BT.aload_n dX3_blank_25 rfl 0 rfl ?_
  refine BT.iconst (v := 0) dX3_blank_26 (by decide) ?_
  refine BT.putZ fl_X3_37 ft_3_10 ha0.1 rfl (Or.inl rfl) dX3_blank_27 ?_
  refine BT.topm (fun N5 f5 => ?_)
  refine BT.aload_n dX3_blank_30 rfl 0 rfl ?_
  refine BT.bipush (v := (-6)) dX3_blank_31 (by decide) ?_
  refine BT.putI fl_X3_41 ft_3_11 ha0.1 rfl dX3_blank_33 ?_
  refine BT.topm (fun N6 f6 => ?_)
  refine BT.aload_n dX3_blank_36 rfl 0 rfl ?_
  refine BT.bipush (v := (-6)) dX3_blank_37 (by decide) ?_
  refine BT.putI fl_X3_44 ft_3_12 ha0.1 rfl dX3_blank_39 ?_
  refine BT.topm (fun N7 f7 => ?_)
  refine BT.aload_n dX3_blank_42 rfl 0 rfl ?_
  refine BT.bipush (v := (-6)) dX3_blank_43 (by decide) ?_
  refine BT.putI fl_X3_47 ft_3_13 ha0.1 rfl dX3_blank_45 ?_
  refine BT.topm (fun N8 f8 => ?_)
  refine BT.aload_n dX3_blank_48 rfl 0 rfl ?_
  refine BT.iconst (v := 0) dX3_blank_49 (by decide) ?_
  refine BT.putI fl_X3_50 ft_3_14 ha0.1 rfl dX3_blank_50 ?_
  refine BT.topm (fun N9 f9 => ?_)
  exact BT.vret dX3_blank_53 rfl (by decide) (by decide) (((((((((h N1 f1) N2 f2) N3 f3) N4 f4) N5 f5) N6 f6) N7 f7) N8 f8) N9 f9)

theorem t_X3_blank {G : GT} {K : Int32 → Mem → Prop} {M : Mem} {a0 : Nat} (ha0 : LawC a0) (h : ∀ N, ((∀ d, ¬ d = a0 → N.1 d = M.1 d) ∧ N.2 = M.2 ∧ N.1 a0 0 = M.1 a0 0 ∧ N.1 a0 1 = M.1 a0 1 ∧ N.1 a0 2 = 0 ∧ N.1 a0 7 = 110 ∧ N.1 a0 8 = -6 ∧ N.1 a0 9 = 110 ∧ N.1 a0 10 = 0 ∧ N.1 a0 11 = -6 ∧ N.1 a0 12 = -6 ∧ N.1 a0 13 = -6 ∧ N.1 a0 14 = 0) → K 0 N) : T_X3_blank G [.ref a0] M K := by
  refine e_X3_blank (k_X3_blank_0 ha0 ?_)
  intro N1 g1 N2 g2 N3 g3 N4 g4 N5 g5 N6 g6 N7 g7 N8 g8 N9 g9
  refine h N9 ⟨fun d hd => ?_, ?_, ?_, ?_, ?_, ?_, ?_, ?_, ?_, ?_, ?_, ?_, ?_⟩
  · rw [g9, g8, g7, g6, g5, g4, g3, g2, g1]
    rw [mi_off hd, mi_off hd, mi_off hd, mi_off hd, mi_off hd, mi_off hd, mi_off hd, mi_off hd, mi_off hd]
  · rw [g9, g8, g7, g6, g5, g4, g3, g2, g1]; rfl
  all_goals (rw [g9, g8, g7, g6, g5, g4, g3, g2, g1]; simp [m_i])

/-! BetweenLaws$Law.addCase(II)V -/
abbrev rm_X3_addCase : Room := { frames := 0, cells := 0, slots := 0, locals := 0 }
abbrev B_X3_addCase (G : GT) (K : Int32 → Mem → Prop) := BT G (Rep G) RX3 "addCase" cX3_addCase 3 none rm_X3_addCase K 0 0
abbrev T_X3_addCase (G : GT) (as : List Value) (M : Mem) (K : Int32 → Mem → Prop) : Prop := MT G (Rep G) yX3_addCase cX3_addCase 3 none rm_X3_addCase as M K
theorem e_X3_addCase {G : GT} {K : Int32 → Mem → Prop} {M : Mem} {a0 : Nat} {v1 : Int32} {v2 : Int32} (h : B_X3_addCase G K 0 [(0, .ref a0), (1, .int v1), (2, .int v2)] [] M) : T_X3_addCase G [.ref a0, .int v1, .int v2] M K := MT.of (by decide +kernel) rfl rfl (Nat.le_of_ble_eq_true rfl) rfl h
set_option maxRecDepth 4000 in
theorem k_X3_addCase_0 {G : GT} {K : Int32 → Mem → Prop} {M : Mem} {a0 : Nat} {v1 : Int32} {v2 : Int32} (ha0 : LawC a0) (h : ((M.1 a0 2) < 6 → (vp_in (M.1 a0 2) 6) ∧ (∀ N3 : Mem, N3 = (m_i M (a0 + 1) (Int32.toNatClampNeg (M.1 a0 2)) v1) → (vp_in (N3.1 a0 2) 6) ∧ (∀ N4 : Mem, N4 = (m_i N3 (a0 + 2) (Int32.toNatClampNeg (N3.1 a0 2)) v2) → (∀ N5 : Mem, N5 = (m_i N4 a0 2 ((N4.1 a0 2) + 1)) → K 0 N5)))) ∧ (¬ (M.1 a0 2) < 6 → K 0 M)) : B_X3_addCase G K 0 [(0, .ref a0), (1, .int v1), (2, .int v2)] [] M := by
  refine BT.aload_n dX3_addCase_0 rfl 0 rfl ?_
  refine BT.getI fl_X3_24 ha0.1 rfl dX3_addCase_1 ?_
  refine BT.bipush (v := 6) dX3_addCase_4 (by decide) ?_
  refine BT.icmp_lt (tgt := 10) dX3_addCase_6 (by decide) (fun c => ?_) (fun c => ?_)
  · have c1 := c
    refine BT.aload_n dX3_addCase_10 rfl 0 rfl ?_
    refine BT.getR (r := (a0 + 1)) fl_X3_9 ha0.1 rfl dX3_addCase_11 ?_
    refine BT.aload_n dX3_addCase_14 rfl 0 rfl ?_
    refine BT.getI fl_X3_24 ha0.1 rfl dX3_addCase_15 ?_
    refine BT.iload_n dX3_addCase_18 rfl 1 rfl ?_
    refine BT.iast ha0.2.1 (h.1 c1).1 dX3_addCase_19 ?_
    refine BT.topm (fun N3 f3 => ?_)
    refine BT.aload_n dX3_addCase_20 rfl 0 rfl ?_
    refine BT.getR (r := (a0 + 2)) fl_X3_15 ha0.1 rfl dX3_addCase_21 ?_
    refine BT.aload_n dX3_addCase_24 rfl 0 rfl ?_
    refine BT.getI fl_X3_24 ha0.1 rfl dX3_addCase_25 ?_
    refine BT.iload_n dX3_addCase_28 rfl 2 rfl ?_
    refine BT.iast ha0.2.2.1 ((h.1 c1).2 N3 f3).1 dX3_addCase_29 ?_
    refine BT.topm (fun N4 f4 => ?_)
    refine BT.aload_n dX3_addCase_30 rfl 0 rfl ?_
    refine BT.dup dX3_addCase_31 rfl ?_
    refine BT.getI fl_X3_24 ha0.1 rfl dX3_addCase_32 ?_
    refine BT.iconst (v := 1) dX3_addCase_35 (by decide) ?_
    refine BT.iadd dX3_addCase_36 ?_
    refine BT.putI fl_X3_24 ft_3_2 ha0.1 rfl dX3_addCase_37 ?_
    refine BT.topm (fun N5 f5 => ?_)
    exact BT.vret dX3_addCase_40 rfl (by decide) (by decide) ((((h.1 c1).2 N3 f3).2 N4 f4) N5 f5)
  · have c2 := c
    exact BT.vret dX3_addCase_9 rfl (by decide) (by decide) (h.2 c2)

theorem t_X3_addCase {G : GT} {K : Int32 → Mem → Prop} {M : Mem} {a0 : Nat} {v1 v2 : Int32} (ha0 : LawC a0) (hk : ∃ k, k < 6 ∧ M.1 a0 2 = nI k) (h : ∀ N, ((∀ d, ¬ (d = a0 ∨ d = a0 + 1 ∨ d = a0 + 2) → N.1 d = M.1 d) ∧ N.2 = M.2 ∧ N.1 a0 2 = M.1 a0 2 + 1 ∧ (∀ j, ¬ j = 2 → N.1 a0 j = M.1 a0 j) ∧ (N.1 (a0 + 1) (Int32.toNatClampNeg (M.1 a0 2)) = v1 ∧ N.1 (a0 + 2) (Int32.toNatClampNeg (M.1 a0 2)) = v2) ∧ (∀ j, ¬ j = Int32.toNatClampNeg (M.1 a0 2) → N.1 (a0 + 1) j = M.1 (a0 + 1) j ∧ N.1 (a0 + 2) j = M.1 (a0 + 2) j)) → K 0 N) : T_X3_addCase G [.ref a0, .int v1, .int v2] M K := by
  obtain ⟨k, hk6, ek⟩ := hk
  refine e_X3_addCase (k_X3_addCase_0 ha0 ⟨fun _ => ⟨?_, fun N3 g3 => ⟨?_, fun N4 g4 N5 g5 => ?_⟩⟩, fun c => ?_⟩)
  · rw [ek]; exact vp_nI hk6 (by decide)
  · rw [g3, m_i_ne (by omega), ek]; exact vp_nI hk6 (by decide)
  · have e3 : N3.1 a0 2 = M.1 a0 2 := by rw [g3, m_i_ne (by omega)]
    have e4 : N4.1 a0 2 = M.1 a0 2 := by rw [g4, m_i_ne (by omega), e3]
    rw [e3] at g4
    rw [e4] at g5
    refine h N5 ⟨fun d hd => ?_, ?_, ?_, fun j hj => ?_, ⟨?_, ?_⟩, fun j hj => ⟨?_, ?_⟩⟩
    · rw [g5, g4, g3, mi_off (by omega), mi_off (by omega), mi_off (by omega)]
    · rw [g5, g4, g3]; rfl
    · rw [g5, m_i_at]
    · rw [g5, g4, g3, m_i_ne (by omega), m_i_ne (by omega), m_i_ne (by omega)]
    · rw [g5, g4, g3, m_i_ne (by omega), m_i_ne (by omega), m_i_at]
    · rw [g5, g4, m_i_ne (by omega), m_i_at]
    · rw [g5, g4, g3, m_i_ne (by omega), m_i_ne (by omega), m_i_ne (by omega)]
    · rw [g5, g4, g3, m_i_ne (by omega), m_i_ne (by omega), m_i_ne (by omega)]
  · rw [ek] at c
    exact absurd (nI_lt (b := 6) hk6 (by decide)) c

