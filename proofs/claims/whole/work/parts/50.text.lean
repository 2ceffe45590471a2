/-! ===== 50.text ===== -/
/-! java/lang/Integer.bitCount(I)I -/
abbrev rm_J6_bitCount_0f7a4 : Room := { frames := 0, cells := 0, slots := 0, locals := 0 }
abbrev B_J6_bitCount_0f7a4 (G : GT) (K : Int32 → Mem → Prop) := BT G (Rep G) RJ6 "bitCount" cJ6_bitCount_0f7a4 1 (some .int) rm_J6_bitCount_0f7a4 K 0 0
abbrev T_J6_bitCount_0f7a4 (G : GT) (as : List Value) (M : Mem) (K : Int32 → Mem → Prop) : Prop := MT G (Rep G) yJ6_bitCount_0f7a4 cJ6_bitCount_0f7a4 1 (some .int) rm_J6_bitCount_0f7a4 as M K
theorem e_J6_bitCount_0f7a4 {G : GT} {K : Int32 → Mem → Prop} {M : Mem} {v0 : Int32} (h : B_J6_bitCount_0f7a4 G K 0 [(0, .int v0)] [] M) : T_J6_bitCount_0f7a4 G [.int v0] M K := MT.of (by decide +kernel) rfl rfl (Nat.le_of_ble_eq_true rfl) rfl h
set_option maxRecDepth 4000 in
theorem k_J6_bitCount_0f7a4_0 {G : GT} {K : Int32 → Mem → Prop} {M : Mem} {v0 : Int32} (h : (∀ y1 : Int32, y1 = (v0 - (((Int32.toUInt32 v0 >>> (Int32.toUInt32 1 &&& Int32.toUInt32 31)).toInt32) &&& 1431655765)) → (∀ y2 : Int32, y2 = ((y1 &&& 858993459) + (((Int32.toUInt32 y1 >>> (Int32.toUInt32 2 &&& Int32.toUInt32 31)).toInt32) &&& 858993459)) → (∀ y3 : Int32, y3 = ((y2 + ((Int32.toUInt32 y2 >>> (Int32.toUInt32 4 &&& Int32.toUInt32 31)).toInt32)) &&& 252645135) → (∀ y4 : Int32, y4 = (y3 + ((Int32.toUInt32 y3 >>> (Int32.toUInt32 8 &&& Int32.toUInt32 31)).toInt32)) → (∀ y5 : Int32, y5 = (y4 + ((Int32.toUInt32 y4 >>> (Int32.toUInt32 16 &&& Int32.toUInt32 31)).toInt32)) → K (y5 &&& 63) M)))))) : B_J6_bitCount_0f7a4 G K 0 [(0, .int v0)] [] M := by
  refine BT.iload_n dJ6_bitCount_0f7a4_0 rfl 0 rfl ?_
  refine BT.iload_n dJ6_bitCount_0f7a4_1 rfl 0 rfl ?_
  refine BT.iconst (v := 1) dJ6_bitCount_0f7a4_2 (by decide) ?_
  refine BT.iushr dJ6_bitCount_0f7a4_3 ?_
  refine BT.ldcw dJ6_bitCount_0f7a4_4 kc_J6_265 ?_
  refine BT.iand dJ6_bitCount_0f7a4_7 ?_
  refine BT.isub dJ6_bitCount_0f7a4_8 ?_
  refine BT.topi (fun y1 f1 => ?_)
  refine BT.istore_n (L' := [(0, .int y1)]) dJ6_bitCount_0f7a4_9 rfl (by decide) rfl ?_
  refine BT.iload_n dJ6_bitCount_0f7a4_10 rfl 0 rfl ?_
  refine BT.ldcw dJ6_bitCount_0f7a4_11 kc_J6_266 ?_
  refine BT.iand dJ6_bitCount_0f7a4_14 ?_
  refine BT.iload_n dJ6_bitCount_0f7a4_15 rfl 0 rfl ?_
  refine BT.iconst (v := 2) dJ6_bitCount_0f7a4_16 (by decide) ?_
  refine BT.iushr dJ6_bitCount_0f7a4_17 ?_
  refine BT.ldcw dJ6_bitCount_0f7a4_18 kc_J6_266 ?_
  refine BT.iand dJ6_bitCount_0f7a4_21 ?_
  refine BT.iadd dJ6_bitCount_0f7a4_22 ?_
  refine BT.topi (fun y2 f2 => ?_)
  refine BT.istore_n (L' := [(0, .int y2)]) dJ6_bitCount_0f7a4_23 rfl (by decide) rfl ?_
  refine BT.iload_n dJ6_bitCount_0f7a4_24 rfl 0 rfl ?_
  refine BT.iload_n dJ6_bitCount_0f7a4_25 rfl 0 rfl ?_
  refine BT.iconst (v := 4) dJ6_bitCount_0f7a4_26 (by decide) ?_
  refine BT.iushr dJ6_bitCount_0f7a4_27 ?_
  refine BT.iadd dJ6_bitCount_0f7a4_28 ?_
  refine BT.ldcw dJ6_bitCount_0f7a4_29 kc_J6_267 ?_
  refine BT.iand dJ6_bitCount_0f7a4_32 ?_
  refine BT.topi (fun y3 f3 => ?_)
  refine BT.istore_n (L' := [(0, .int y3)]) dJ6_bitCount_0f7a4_33 rfl (by decide) rfl ?_
  refine BT.iload_n dJ6_bitCount_0f7a4_34 rfl 0 rfl ?_
  refine BT.iload_n dJ6_bitCount_0f7a4_35 rfl 0 rfl ?_
  refine BT.bipush (v := 8) dJ6_bitCount_0f7a4_36 (by decide) ?_
  refine BT.iushr dJ6_bitCount_0f7a4_38 ?_
  refine BT.iadd dJ6_bitCount_0f7a4_39 ?_
  refine BT.topi (fun y4 f4 => ?_)
  refine BT.istore_n (L' := [(0, .int y4)]) dJ6_bitCount_0f7a4_40 rfl (by decide) rfl ?_
  refine BT.iload_n dJ6_bitCount_0f7a4_41 rfl 0 rfl ?_
  refine BT.iload_n dJ6_bitCount_0f7a4_42 rfl 0 rfl ?_
  refine BT.bipush (v := 16) dJ6_bitCount_0f7a4_43 (by decide) ?_
  refine BT.iushr dJ6_bitCount_0f7a4_45 ?_
  refine BT.iadd dJ6_bitCount_0f7a4_46 ?_
  refine BT.topi (fun y5 f5 => ?_)
  refine BT.istore_n (L' := [(0, .int y5)]) dJ6_bitCount_0f7a4_47 rfl (by decide) rfl ?_
  refine BT.iload_n dJ6_bitCount_0f7a4_48 rfl 0 rfl ?_
  refine BT.bipush (v := 63) dJ6_bitCount_0f7a4_49 (by decide) ?_
  refine BT.iand dJ6_bitCount_0f7a4_51 ?_
  exact BT.iret dJ6_bitCount_0f7a4_52 rfl (by decide) (by decide) (((((h y1 f1) y2 f2) y3 f3) y4 f4) y5 f5)

def i_bc (v : Int32) : Int32 :=
  let y1 := (v - (((Int32.toUInt32 v >>> (Int32.toUInt32 1 &&& Int32.toUInt32 31)).toInt32) &&& 1431655765))
  let y2 := ((y1 &&& 858993459) + (((Int32.toUInt32 y1 >>> (Int32.toUInt32 2 &&& Int32.toUInt32 31)).toInt32) &&& 858993459))
  let y3 := ((y2 + ((Int32.toUInt32 y2 >>> (Int32.toUInt32 4 &&& Int32.toUInt32 31)).toInt32)) &&& 252645135)
  let y4 := (y3 + ((Int32.toUInt32 y3 >>> (Int32.toUInt32 8 &&& Int32.toUInt32 31)).toInt32))
  let y5 := (y4 + ((Int32.toUInt32 y4 >>> (Int32.toUInt32 16 &&& Int32.toUInt32 31)).toInt32))
  y5 &&& 63
theorem t_J6_bitCount_0f7a4 {G : GT} {K : Int32 → Mem → Prop} {M : Mem} {v0 : Int32} (hm : ∃ m, m < 32 ∧ v0 = nI m) (h : K (z_ones v0 8) M) : T_J6_bitCount_0f7a4 G [.int v0] M K := by
  obtain ⟨m, hm, rfl⟩ := hm
  have key : ∀ m, m < 32 → i_bc (nI m) = z_ones (nI m) 8 := by decide +kernel
  refine e_J6_bitCount_0f7a4 (k_J6_bitCount_0f7a4_0 ?_)
  intro y1 e1 y2 e2 y3 e3 y4 e4 y5 e5
  subst e1 e2 e3 e4 e5
  show K (i_bc (nI m)) M
  rw [key m hm]
  exact h

