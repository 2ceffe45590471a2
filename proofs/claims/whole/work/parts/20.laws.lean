/-! ===== 20.laws ===== -/
/-- the text of the law V c is that of the law W o -/
def TxEq (V : WT) (c : Nat) (W : WT) (o : Nat) : Prop :=
  (V c 2 = W o 2 ∧ V c 7 = W o 7 ∧ V c 8 = W o 8 ∧ V c 9 = W o 9 ∧ V c 10 = W o 10 ∧ V c 11 = W o 11 ∧ V c 12 = W o 12 ∧ V c 13 = W o 13 ∧ V c 14 = W o 14) ∧ (∀ i, i < 6 → V (c + 1) i = W (o + 1) i ∧ V (c + 2) i = W (o + 2) i) ∧ (∀ i, i < 32 → V (c + 3) i = W (o + 3) i ∧ V (c + 4) i = W (o + 4) i)
/-- N is M, but for the law c, whose text is now that of o -/
def TkN (M N : Mem) (c o : Nat) : Prop := (∀ d, ¬ (c ≤ d ∧ d ≤ c + 4) → N.1 d = M.1 d) ∧ TxEq N.1 c M.1 o ∧ (N.1 c 0 = M.1 c 0 ∧ N.1 c 1 = M.1 c 1) ∧ N.2 = M.2
theorem m_c_off {M : Mem} {a sp d dp n i : Nat} (h : ¬ i = d) : (m_c M a sp d dp n).1 i = M.1 i := by
  funext j
  exact if_neg (fun q => h q.1)
theorem m_c_at0 {M : Mem} {a d n j : Nat} (h : j < n) : (m_c M a 0 d 0 n).1 d j = M.1 a j := by
  have e : (m_c M a 0 d 0 n).1 d j = M.1 a (0 + (j - 0)) := if_pos ⟨rfl, Nat.zero_le _, by omega⟩
  rw [e, Nat.sub_zero, Nat.zero_add]
/-- like TkN, of a piece -/
def PcN (M N : Mem) (c o : Nat) : Prop := (∀ d, ¬ d = c → N.1 d = M.1 d) ∧ (∀ k, k < 5 → N.1 c k = M.1 o k) ∧ N.2 = M.2

/-! BetweenLaws$Law.takeText(LBetweenLaws$Law;)V -/
abbrev rm_X3_takeText : Room := { frames := 1, cells := 0, slots := 0, locals := 26 }
abbrev B_X3_takeText (G : GT) (K : Int32 → Mem → Prop) := BT G (Rep G) RX3 "takeText" cX3_takeText 2 none rm_X3_takeText K 0 0
abbrev T_X3_takeText (G : GT) (as : List Value) (M : Mem) (K : Int32 → Mem → Prop) : Prop := MT G (Rep G) yX3_takeText cX3_takeText 2 none rm_X3_takeText as M K
theorem e_X3_takeText {G : GT} {K : Int32 → Mem → Prop} {M : Mem} {a0 : Nat} {a1 : Nat} (h : B_X3_takeText G K 0 [(0, .ref a0), (1, .ref a1)] [] M) : T_X3_takeText G [.ref a0, .ref a1] M K := MT.of (by decide +kernel) rfl rfl (Nat.le_of_ble_eq_true rfl) rfl h
set_option maxRecDepth 4000 in
theorem k_X3_takeText_0 {G : GT} {K : Int32 → Mem → Prop} {M : Mem} {a0 : Nat} {a1 : Nat} (ha0 : LawC a0) (ha1 : LawC a1) (h : (∀ N1 : Mem, N1 = (m_i M a0 2 (M.1 a1 2)) → (∀ N2 : Mem, N2 = (m_c N1 (a1 + 1) 0 (a0 + 1) 0 6) → (∀ N3 : Mem, N3 = (m_c N2 (a1 + 2) 0 (a0 + 2) 0 6) → (∀ N4 : Mem, N4 = (m_c N3 (a1 + 3) 0 (a0 + 3) 0 32) → (∀ N5 : Mem, N5 = (m_c N4 (a1 + 4) 0 (a0 + 4) 0 32) → (∀ N6 : Mem, N6 = (m_i N5 a0 7 (N5.1 a1 7)) → (∀ N7 : Mem, N7 = (m_i N6 a0 8 (N6.1 a1 8)) → (∀ N8 : Mem, N8 = (m_i N7 a0 9 (N7.1 a1 9)) → ((N8.1 a1 10) = 0 ∨ (N8.1 a1 10) = 1) ∧ (∀ N9 : Mem, N9 = (m_i N8 a0 10 (N8.1 a1 10)) → (∀ N10 : Mem, N10 = (m_i N9 a0 11 (N9.1 a1 11)) → (∀ N11 : Mem, N11 = (m_i N10 a0 12 (N10.1 a1 12)) → (∀ N12 : Mem, N12 = (m_i N11 a0 13 (N11.1 a1 13)) → (∀ N13 : Mem, N13 = (m_i N12 a0 14 (N12.1 a1 14)) → K 0 N13)))))))))))))) : B_X3_takeText G K 0 [(0, .ref a0), (1, .ref a1)] [] M := by
  refine BT.aload_n dX3_takeText_0 rfl 0 rfl ?_
  refine BT.aload_n dX3_takeText_1 rfl 1 rfl ?_
  refine BT.getI fl_X3_24 ha1.1 rfl dX3_takeText_2 ?_
  refine BT.putI fl_X3_24 ft_3_2 ha0.1 rfl dX3_takeText_5 ?_
  refine BT.topm (fun N1 f1 => ?_)
  refine BT.aload_n dX3_takeText_8 rfl 1 rfl ?_
  refine BT.getR (r := (a1 + 1)) fl_X3_9 ha1.1 rfl dX3_takeText_9 ?_
  refine BT.iconst (v := 0) dX3_takeText_12 (by decide) ?_
  refine BT.aload_n dX3_takeText_13 rfl 0 rfl ?_
  refine BT.getR (r := (a0 + 1)) fl_X3_9 ha0.1 rfl dX3_takeText_14 ?_
  refine BT.iconst (v := 0) dX3_takeText_17 (by decide) ?_
  refine BT.bipush (v := 6) dX3_takeText_18 (by decide) ?_
  refine BT.acopy lk_X3_62 ac_1 ac_2 ac_3 ha1.2.1 ha0.2.1 (by decide) (by decide) (by decide) (by decide) (by decide) (Nat.le_of_ble_eq_true rfl) (by decide) (by decide) dX3_takeText_20 ?_
  refine BT.topm (fun N2 f2 => ?_)
  refine BT.aload_n dX3_takeText_23 rfl 1 rfl ?_
  refine BT.getR (r := (a1 + 2)) fl_X3_15 ha1.1 rfl dX3_takeText_24 ?_
  refine BT.iconst (v := 0) dX3_takeText_27 (by decide) ?_
  refine BT.aload_n dX3_takeText_28 rfl 0 rfl ?_
  refine BT.getR (r := (a0 + 2)) fl_X3_15 ha0.1 rfl dX3_takeText_29 ?_
  refine BT.iconst (v := 0) dX3_takeText_32 (by decide) ?_
  refine BT.bipush (v := 6) dX3_takeText_33 (by decide) ?_
  refine BT.acopy lk_X3_62 ac_1 ac_2 ac_3 ha1.2.2.1 ha0.2.2.1 (by decide) (by decide) (by decide) (by decide) (by decide) (Nat.le_of_ble_eq_true rfl) (by decide) (by decide) dX3_takeText_35 ?_
  refine BT.topm (fun N3 f3 => ?_)
  refine BT.aload_n dX3_takeText_38 rfl 1 rfl ?_
  refine BT.getR (r := (a1 + 3)) fl_X3_18 ha1.1 rfl dX3_takeText_39 ?_
  refine BT.iconst (v := 0) dX3_takeText_42 (by decide) ?_
  refine BT.aload_n dX3_takeText_43 rfl 0 rfl ?_
  refine BT.getR (r := (a0 + 3)) fl_X3_18 ha0.1 rfl dX3_takeText_44 ?_
  refine BT.iconst (v := 0) dX3_takeText_47 (by decide) ?_
  refine BT.bipush (v := 32) dX3_takeText_48 (by decide) ?_
  refine BT.acopy lk_X3_62 ac_1 ac_2 ac_3 ha1.2.2.2.1 ha0.2.2.2.1 (by decide) (by decide) (by decide) (by decide) (by decide) (Nat.le_of_ble_eq_true rfl) (by decide) (by decide) dX3_takeText_50 ?_
  refine BT.topm (fun N4 f4 => ?_)
  refine BT.aload_n dX3_takeText_53 rfl 1 rfl ?_
  refine BT.getR (r := (a1 + 4)) fl_X3_21 ha1.1 rfl dX3_takeText_54 ?_
  refine BT.iconst (v := 0) dX3_takeText_57 (by decide) ?_
  refine BT.aload_n dX3_takeText_58 rfl 0 rfl ?_
  refine BT.getR (r := (a0 + 4)) fl_X3_21 ha0.1 rfl dX3_takeText_59 ?_
  refine BT.iconst (v := 0) dX3_takeText_62 (by decide) ?_
  refine BT.bipush (v := 32) dX3_takeText_63 (by decide) ?_
  refine BT.acopy lk_X3_62 ac_1 ac_2 ac_3 ha1.2.2.2.2 ha0.2.2.2.2 (by decide) (by decide) (by decide) (by decide) (by decide) (Nat.le_of_ble_eq_true rfl) (by decide) (by decide) dX3_takeText_65 ?_
  refine BT.topm (fun N5 f5 => ?_)
  refine BT.aload_n dX3_takeText_68 rfl 0 rfl ?_
  refine BT.aload_n dX3_takeText_69 rfl 1 rfl ?_
  refine BT.getI fl_X3_28 ha1.1 rfl dX3_takeText_70 ?_
  refine BT.putI fl_X3_28 ft_3_7 ha0.1 rfl dX3_takeText_73 ?_
  refine BT.topm (fun N6 f6 => ?_)
  refine BT.aload_n dX3_takeText_76 rfl 0 rfl ?_
  refine BT.aload_n dX3_takeText_77 rfl 1 rfl ?_
  refine BT.getI fl_X3_31 ha1.1 rfl dX3_takeText_78 ?_
  refine BT.putI fl_X3_31 ft_3_8 ha0.1 rfl dX3_takeText_81 ?_
  refine BT.topm (fun N7 f7 => ?_)
  refine BT.aload_n dX3_takeText_84 rfl 0 rfl ?_
  refine BT.aload_n dX3_takeText_85 rfl 1 rfl ?_
  refine BT.getI fl_X3_34 ha1.1 rfl dX3_takeText_86 ?_
  refine BT.putI fl_X3_34 ft_3_9 ha0.1 rfl dX3_takeText_89 ?_
  refine BT.topm (fun N8 f8 => ?_)
  refine BT.aload_n dX3_takeText_92 rfl 0 rfl ?_
  refine BT.aload_n dX3_takeText_93 rfl 1 rfl ?_
  refine BT.getI fl_X3_37 ha1.1 rfl dX3_takeText_94 ?_
  refine BT.putZ fl_X3_37 ft_3_10 ha0.1 rfl ((((((((h N1 f1) N2 f2) N3 f3) N4 f4) N5 f5) N6 f6) N7 f7) N8 f8).1 dX3_takeText_97 ?_
  refine BT.topm (fun N9 f9 => ?_)
  refine BT.aload_n dX3_takeText_100 rfl 0 rfl ?_
  refine BT.aload_n dX3_takeText_101 rfl 1 rfl ?_
  refine BT.getI fl_X3_41 ha1.1 rfl dX3_takeText_102 ?_
  refine BT.putI fl_X3_41 ft_3_11 ha0.1 rfl dX3_takeText_105 ?_
  refine BT.topm (fun N10 f10 => ?_)
  refine BT.aload_n dX3_takeText_108 rfl 0 rfl ?_
  refine BT.aload_n dX3_takeText_109 rfl 1 rfl ?_
  refine BT.getI fl_X3_44 ha1.1 rfl dX3_takeText_110 ?_
  refine BT.putI fl_X3_44 ft_3_12 ha0.1 rfl dX3_takeText_113 ?_
  refine BT.topm (fun N11 f11 => ?_)
  refine BT.aload_n dX3_takeText_116 rfl 0 rfl ?_
  refine BT.aload_n dX3_takeText_117 rfl 1 rfl ?_
  refine BT.getI fl_X3_47 ha1.1 rfl dX3_takeText_118 ?_
  refine BT.putI fl_X3_47 ft_3_13 ha0.1 rfl dX3_takeText_121 ?_
  refine BT.topm (fun N12 f12 => ?_)
  refine BT.aload_n dX3_takeText_124 rfl 0 rfl ?_
  refine BT.aload_n dX3_takeText_125 rfl 1 rfl ?_
  refine BT.getI fl_X3_50 ha1.1 rfl dX3_takeText_126 ?_
  refine BT.putI fl_X3_50 ft_3_14 ha0.1 rfl dX3_takeText_129 ?_
  refine BT.topm (fun N13 f13 => ?_)
  exact BT.vret dX3_takeText_132 rfl (by decide) (by decide) (((((((((((((h N1 f1) N2 f2) N3 f3) N4 f4) N5 f5) N6 f6) N7 f7) N8 f8).2 N9 f9) N10 f10) N11 f11) N12 f12) N13 f13)

theorem t_X3_takeText {G : GT} {K : Int32 → Mem → Prop} {M : Mem} {a0 a1 : Nat} (ha0 : LawC a0) (ha1 : LawC a1) (hd : a0 + 4 < a1 ∨ a1 + 4 < a0) (hz : M.1 a1 10 = 0 ∨ M.1 a1 10 = 1) (h : ∀ N, TkN M N a0 a1 → K 0 N) : T_X3_takeText G [.ref a0, .ref a1] M K := by
  have f00 : ¬ a1 = a0 := by omega
  have f01 : ¬ a1 = a0 + 1 := by omega
  have f02 : ¬ a1 = a0 + 2 := by omega
  have f03 : ¬ a1 = a0 + 3 := by omega
  have f04 : ¬ a1 = a0 + 4 := by omega
  have f10 : ¬ a1 + 1 = a0 := by omega
  have f11 : ¬ a1 + 1 = a0 + 1 := by omega
  have f12 : ¬ a1 + 1 = a0 + 2 := by omega
  have f13 : ¬ a1 + 1 = a0 + 3 := by omega
  have f14 : ¬ a1 + 1 = a0 + 4 := by omega
  have f20 : ¬ a1 + 2 = a0 := by omega
  have f21 : ¬ a1 + 2 = a0 + 1 := by omega
  have f22 : ¬ a1 + 2 = a0 + 2 := by omega
  have f23 : ¬ a1 + 2 = a0 + 3 := by omega
  have f24 : ¬ a1 + 2 = a0 + 4 := by omega
  have f30 : ¬ a1 + 3 = a0 := by omega
  have f31 : ¬ a1 + 3 = a0 + 1 := by omega
  have f32 : ¬ a1 + 3 = a0 + 2 := by omega
  have f33 : ¬ a1 + 3 = a0 + 3 := by omega
  have f34 : ¬ a1 + 3 = a0 + 4 := by omega
  have f40 : ¬ a1 + 4 = a0 := by omega
  have f41 : ¬ a1 + 4 = a0 + 1 := by omega
  have f42 : ¬ a1 + 4 = a0 + 2 := by omega
  have f43 : ¬ a1 + 4 = a0 + 3 := by omega
  have f44 : ¬ a1 + 4 = a0 + 4 := by omega
  refine e_X3_takeText (k_X3_takeText_0 ha0 ha1 ?_)
  intro N1 g1 N2 g2 N3 g3 N4 g4 N5 g5 N6 g6 N7 g7 N8 g8
  have q8 : N8.1 a1 10 = M.1 a1 10 := by
    rw [g8, m_i_ne (by omega), g7, m_i_ne (by omega), g6, m_i_ne (by omega), g5, m_c_off f04, g4, m_c_off f03, g3, m_c_off f02, g2, m_c_off f01, g1, m_i_ne (by omega)]
  refine ⟨by rw [q8]; exact hz, ?_⟩
  intro N9 g9 N10 g10 N11 g11 N12 g12 N13 g13
  -- the source stays
  have src : ∀ d, ¬ (a0 ≤ d ∧ d ≤ a0 + 4) → N1.1 d = M.1 d ∧ N2.1 d = M.1 d ∧ N3.1 d = M.1 d ∧ N4.1 d = M.1 d ∧ N5.1 d = M.1 d ∧ N6.1 d = M.1 d ∧ N7.1 d = M.1 d ∧ N8.1 d = M.1 d ∧ N9.1 d = M.1 d ∧ N10.1 d = M.1 d ∧ N11.1 d = M.1 d ∧ N12.1 d = M.1 d ∧ N13.1 d = M.1 d := by
    intro d hd2
    have b1 : N1.1 d = M.1 d := by rw [g1, mi_off (by omega)]
    have b2 : N2.1 d = M.1 d := by rw [g2, m_c_off (by omega), b1]
    have b3 : N3.1 d = M.1 d := by rw [g3, m_c_off (by omega), b2]
    have b4 : N4.1 d = M.1 d := by rw [g4, m_c_off (by omega), b3]
    have b5 : N5.1 d = M.1 d := by rw [g5, m_c_off (by omega), b4]
    have b6 : N6.1 d = M.1 d := by rw [g6, mi_off (by omega), b5]
    have b7 : N7.1 d = M.1 d := by rw [g7, mi_off (by omega), b6]
    have b8 : N8.1 d = M.1 d := by rw [g8, mi_off (by omega), b7]
    have b9 : N9.1 d = M.1 d := by rw [g9, mi_off (by omega), b8]
    have b10 : N10.1 d = M.1 d := by rw [g10, mi_off (by omega), b9]
    have b11 : N11.1 d = M.1 d := by rw [g11, mi_off (by omega), b10]
    have b12 : N12.1 d = M.1 d := by rw [g12, mi_off (by omega), b11]
    have b13 : N13.1 d = M.1 d := by rw [g13, mi_off (by omega), b12]
    exact ⟨b1, b2, b3, b4, b5, b6, b7, b8, b9, b10, b11, b12, b13⟩
  have s0 := src a1 (by omega)
  have hi : ∀ d, ¬ d = a0 → N13.1 d = N5.1 d := by
    intro d hd2
    rw [g13, mi_off hd2, g12, mi_off hd2, g11, mi_off hd2, g10, mi_off hd2, g9, mi_off hd2, g8, mi_off hd2, g7, mi_off hd2, g6, mi_off hd2]
  have lo : ∀ k, k < 7 → N13.1 a0 k = N1.1 a0 k := by
    intro k hk
    rw [g13, m_i_ne (by omega), g12, m_i_ne (by omega), g11, m_i_ne (by omega), g10, m_i_ne (by omega), g9, m_i_ne (by omega), g8, m_i_ne (by omega), g7, m_i_ne (by omega), g6, m_i_ne (by omega), g5, m_c_off (by omega), g4, m_c_off (by omega), g3, m_c_off (by omega), g2, m_c_off (by omega)]
  refine h N13 ⟨fun d hd2 => (src d hd2).2.2.2.2.2.2.2.2.2.2.2.2, ⟨⟨?_, ?_, ?_, ?_, ?_, ?_, ?_, ?_, ?_⟩, fun i hi6 => ⟨?_, ?_⟩, fun i hi32 => ⟨?_, ?_⟩⟩, ⟨?_, ?_⟩, ?_⟩
  · rw [lo 2 (by decide), g1, m_i_at]
  · rw [g13, m_i_ne (by omega), g12, m_i_ne (by omega), g11, m_i_ne (by omega), g10, m_i_ne (by omega), g9, m_i_ne (by omega), g8, m_i_ne (by omega), g7, m_i_ne (by omega), g6, m_i_at, s0.2.2.2.2.1]
  · rw [g13, m_i_ne (by omega), g12, m_i_ne (by omega), g11, m_i_ne (by omega), g10, m_i_ne (by omega), g9, m_i_ne (by omega), g8, m_i_ne (by omega), g7, m_i_at, s0.2.2.2.2.2.1]
  · rw [g13, m_i_ne (by omega), g12, m_i_ne (by omega), g11, m_i_ne (by omega), g10, m_i_ne (by omega), g9, m_i_ne (by omega), g8, m_i_at, s0.2.2.2.2.2.2.1]
  · rw [g13, m_i_ne (by omega), g12, m_i_ne (by omega), g11, m_i_ne (by omega), g10, m_i_ne (by omega), g9, m_i_at, s0.2.2.2.2.2.2.2.1]
  · rw [g13, m_i_ne (by omega), g12, m_i_ne (by omega), g11, m_i_ne (by omega), g10, m_i_at, s0.2.2.2.2.2.2.2.2.1]
  · rw [g13, m_i_ne (by omega), g12, m_i_ne (by omega), g11, m_i_at, s0.2.2.2.2.2.2.2.2.2.1]
  · rw [g13, m_i_ne (by omega), g12, m_i_at, s0.2.2.2.2.2.2.2.2.2.2.1]
  · rw [g13, m_i_at, s0.2.2.2.2.2.2.2.2.2.2.2.1]
  · rw [hi (a0 + 1) (by omega), g5, m_c_off (by omega), g4, m_c_off (by omega), g3, m_c_off (by omega), g2, m_c_at0 hi6, (src (a1 + 1) (by omega)).1]
  · rw [hi (a0 + 2) (by omega), g5, m_c_off (by omega), g4, m_c_off (by omega), g3, m_c_at0 hi6, (src (a1 + 2) (by omega)).2.1]
  · rw [hi (a0 + 3) (by omega), g5, m_c_off (by omega), g4, m_c_at0 hi32, (src (a1 + 3) (by omega)).2.2.1]
  · rw [hi (a0 + 4) (by omega), g5, m_c_at0 hi32, (src (a1 + 4) (by omega)).2.2.2.1]
  · rw [lo 0 (by decide), g1, m_i_ne (by omega)]
  · rw [lo 1 (by decide), g1, m_i_ne (by omega)]
  · subst g1 g2 g3 g4 g5 g6 g7 g8 g9 g10 g11 g12 g13
    rfl

/-! BetweenLaws$Law.copyFrom(LBetweenLaws$Law;)V -/
abbrev rm_X3_copyFrom : Room := { frames := 2, cells := 0, slots := 0, locals := 47 }
abbrev B_X3_copyFrom (G : GT) (K : Int32 → Mem → Prop) := BT G (Rep G) RX3 "copyFrom" cX3_copyFrom 2 none rm_X3_copyFrom K 0 0
abbrev T_X3_copyFrom (G : GT) (as : List Value) (M : Mem) (K : Int32 → Mem → Prop) : Prop := MT G (Rep G) yX3_copyFrom cX3_copyFrom 2 none rm_X3_copyFrom as M K
theorem e_X3_copyFrom {G : GT} {K : Int32 → Mem → Prop} {M : Mem} {a0 : Nat} {a1 : Nat} (h : B_X3_copyFrom G K 0 [(0, .ref a0), (1, .ref a1)] [] M) : T_X3_copyFrom G [.ref a0, .ref a1] M K := MT.of (by decide +kernel) rfl rfl (Nat.le_of_ble_eq_true rfl) rfl h
set_option maxRecDepth 4000 in
theorem k_X3_copyFrom_0 {G : GT} {K : Int32 → Mem → Prop} {M : Mem} {a0 : Nat} {a1 : Nat} (ha0 : LawC a0) (ha1 : LawC a1) (h : (a0 + 4 < a1 ∨ a1 + 4 < a0) ∧ (M.1 a1 10 = 0 ∨ M.1 a1 10 = 1) ∧ (∀ N1 : Mem, (TkN M N1 a0 a1) → (∀ N2 : Mem, N2 = (m_i N1 a0 0 (N1.1 a1 0)) → (∀ N3 : Mem, N3 = (m_i N2 a0 1 (N2.1 a1 1)) → K 0 N3)))) : B_X3_copyFrom G K 0 [(0, .ref a0), (1, .ref a1)] [] M := by
  refine BT.aload_n dX3_copyFrom_0 rfl 0 rfl ?_
  refine BT.aload_n dX3_copyFrom_1 rfl 1 rfl ?_
  refine BT.mcVvp [.ref a1] (t_X3_takeText ha0 ha1 h.1 h.2.1 (fun N hN => ⟨rfl, hN⟩)) mb_X3_takeText mv_X3_takeText lk_X3_68 rfl (by decide) rfl (recvRep ha0.1 rfl) (Nat.le_of_ble_eq_true rfl) dX3_copyFrom_2 (P := fun N1 => TkN M N1 a0 a1) (fun N1 g1 => ?_)
  show B_X3_copyFrom G K 5 [(0, .ref a0), (1, .ref a1)] [] N1
  refine BT.aload_n dX3_copyFrom_5 rfl 0 rfl ?_
  refine BT.aload_n dX3_copyFrom_6 rfl 1 rfl ?_
  refine BT.getI fl_X3_72 ha1.1 rfl dX3_copyFrom_7 ?_
  refine BT.putI fl_X3_72 ft_3_0 ha0.1 rfl dX3_copyFrom_10 ?_
  refine BT.topm (fun N2 f2 => ?_)
  refine BT.aload_n dX3_copyFrom_13 rfl 0 rfl ?_
  refine BT.aload_n dX3_copyFrom_14 rfl 1 rfl ?_
  refine BT.getI fl_X3_75 ha1.1 rfl dX3_copyFrom_15 ?_
  refine BT.putI fl_X3_75 ft_3_1 ha0.1 rfl dX3_copyFrom_18 ?_
  refine BT.topm (fun N3 f3 => ?_)
  exact BT.vret dX3_copyFrom_21 rfl (by decide) (by decide) (((h.2.2 N1 g1) N2 f2) N3 f3)

theorem t_X3_copyFrom {G : GT} {K : Int32 → Mem → Prop} {M : Mem} {a0 a1 : Nat} (ha0 : LawC a0) (ha1 : LawC a1) (hd : a0 + 4 < a1 ∨ a1 + 4 < a0) (hz : M.1 a1 10 = 0 ∨ M.1 a1 10 = 1) (h : ∀ N, ((∀ d, ¬ (a0 ≤ d ∧ d ≤ a0 + 4) → N.1 d = M.1 d) ∧ TxEq N.1 a0 M.1 a1 ∧ (N.1 a0 0 = M.1 a1 0 ∧ N.1 a0 1 = M.1 a1 1) ∧ N.2 = M.2) → K 0 N) : T_X3_copyFrom G [.ref a0, .ref a1] M K := by
  refine e_X3_copyFrom (k_X3_copyFrom_0 ha0 ha1 ⟨hd, hz, fun N1 g1 N2 g2 N3 g3 => ?_⟩)
  obtain ⟨t1, ⟨t2, t3, t4⟩, t5, t6⟩ := g1
  have e : ∀ d, ¬ d = a0 → N3.1 d = N1.1 d := fun d hd2 => by rw [g3, mi_off hd2, g2, mi_off hd2]
  have e2 : ∀ k, 2 ≤ k → N3.1 a0 k = N1.1 a0 k := fun k hk => by rw [g3, m_i_ne (by omega), g2, m_i_ne (by omega)]
  have s1 : N1.1 a1 = M.1 a1 := t1 a1 (by omega)
  refine h N3 ⟨fun d hd2 => (e d (by omega)).trans (t1 d hd2), ⟨?_, fun i hi => ?_, fun i hi => ?_⟩, ⟨?_, ?_⟩, ?_⟩
  · rw [e2 2 (by decide), e2 7 (by decide), e2 8 (by decide), e2 9 (by decide), e2 10 (by decide), e2 11 (by decide), e2 12 (by decide), e2 13 (by decide), e2 14 (by decide)]
    exact t2
  · rw [e (a0 + 1) (by omega), e (a0 + 2) (by omega)]
    exact t3 i hi
  · rw [e (a0 + 3) (by omega), e (a0 + 4) (by omega)]
    exact t4 i hi
  · rw [g3, m_i_ne (by omega), g2, m_i_at, s1]
  · rw [g3, m_i_at, g2, mi_off (by omega), s1]
  · rw [g3, g2]
    exact t6

/-! BetweenLaws$Piece.copyFrom(LBetweenLaws$Piece;)V -/
abbrev rm_X6_copyFrom : Room := { frames := 0, cells := 0, slots := 0, locals := 0 }
abbrev B_X6_copyFrom (G : GT) (K : Int32 → Mem → Prop) := BT G (Rep G) RX6 "copyFrom" cX6_copyFrom 2 none rm_X6_copyFrom K 0 0
abbrev T_X6_copyFrom (G : GT) (as : List Value) (M : Mem) (K : Int32 → Mem → Prop) : Prop := MT G (Rep G) yX6_copyFrom cX6_copyFrom 2 none rm_X6_copyFrom as M K
theorem e_X6_copyFrom {G : GT} {K : Int32 → Mem → Prop} {M : Mem} {a0 : Nat} {a1 : Nat} (h : B_X6_copyFrom G K 0 [(0, .ref a0), (1, .ref a1)] [] M) : T_X6_copyFrom G [.ref a0, .ref a1] M K := MT.of (by decide +kernel) rfl rfl (Nat.le_of_ble_eq_true rfl) rfl h
set_option maxRecDepth 4000 in
theorem k_X6_copyFrom_0 {G : GT} {K : Int32 → Mem → Prop} {M : Mem} {a0 : Nat} {a1 : Nat} (ha0 : PieceC a0) (ha1 : PieceC a1) (h : (∀ N1 : Mem, N1 = (m_i M a0 0 (M.1 a1 0)) → (∀ N2 : Mem, N2 = (m_i N1 a0 1 (N1.1 a1 1)) → (∀ N3 : Mem, N3 = (m_i N2 a0 2 (N2.1 a1 2)) → (∀ N4 : Mem, N4 = (m_i N3 a0 3 (N3.1 a1 3)) → (∀ N5 : Mem, N5 = (m_i N4 a0 4 (N4.1 a1 4)) → K 0 N5)))))) : B_X6_copyFrom G K 0 [(0, .ref a0), (1, .ref a1)] [] M := by
  refine BT.aload_n dX6_copyFrom_0 rfl 0 rfl ?_
  refine BT.aload_n dX6_copyFrom_1 rfl 1 rfl ?_
  refine BT.getI fl_X6_9 ha1 rfl dX6_copyFrom_2 ?_
  refine BT.putI fl_X6_9 ft_6_0 ha0 rfl dX6_copyFrom_5 ?_
  refine BT.topm (fun N1 f1 => ?_)
  refine BT.aload_n dX6_copyFrom_8 rfl 0 rfl ?_
  refine BT.aload_n dX6_copyFrom_9 rfl 1 rfl ?_
  refine BT.getI fl_X6_15 ha1 rfl dX6_copyFrom_10 ?_
  refine BT.putI fl_X6_15 ft_6_1 ha0 rfl dX6_copyFrom_13 ?_
  refine BT.topm (fun N2 f2 => ?_)
  refine BT.aload_n dX6_copyFrom_16 rfl 0 rfl ?_
  refine BT.aload_n dX6_copyFrom_17 rfl 1 rfl ?_
  refine BT.getI fl_X6_18 ha1 rfl dX6_copyFrom_18 ?_
  refine BT.putI fl_X6_18 ft_6_2 ha0 rfl dX6_copyFrom_21 ?_
  refine BT.topm (fun N3 f3 => ?_)
  refine BT.aload_n dX6_copyFrom_24 rfl 0 rfl ?_
  refine BT.aload_n dX6_copyFrom_25 rfl 1 rfl ?_
  refine BT.getI fl_X6_21 ha1 rfl dX6_copyFrom_26 ?_
  refine BT.putI fl_X6_21 ft_6_3 ha0 rfl dX6_copyFrom_29 ?_
  refine BT.topm (fun N4 f4 => ?_)
  refine BT.aload_n dX6_copyFrom_32 rfl 0 rfl ?_
  refine BT.aload_n dX6_copyFrom_33 rfl 1 rfl ?_
  refine BT.getI fl_X6_24 ha1 rfl dX6_copyFrom_34 ?_
  refine BT.putI fl_X6_24 ft_6_4 ha0 rfl dX6_copyFrom_37 ?_
  refine BT.topm (fun N5 f5 => ?_)
  exact BT.vret dX6_copyFrom_40 rfl (by decide) (by decide) (((((h N1 f1) N2 f2) N3 f3) N4 f4) N5 f5)

theorem t_X6_copyFrom {G : GT} {K : Int32 → Mem → Prop} {M : Mem} {a0 a1 : Nat} (ha0 : PieceC a0) (ha1 : PieceC a1) (hd : ¬ a1 = a0) (h : ∀ N, PcN M N a0 a1 → K 0 N) : T_X6_copyFrom G [.ref a0, .ref a1] M K := by
  refine e_X6_copyFrom (k_X6_copyFrom_0 ha0 ha1 ?_)
  intro N1 g1 N2 g2 N3 g3 N4 g4 N5 g5
  have src : ∀ d, ¬ d = a0 → N1.1 d = M.1 d ∧ N2.1 d = M.1 d ∧ N3.1 d = M.1 d ∧ N4.1 d = M.1 d ∧ N5.1 d = M.1 d := by
    intro d hd2
    have b1 : N1.1 d = M.1 d := by rw [g1, mi_off hd2]
    have b2 : N2.1 d = M.1 d := by rw [g2, mi_off hd2, b1]
    have b3 : N3.1 d = M.1 d := by rw [g3, mi_off hd2, b2]
    have b4 : N4.1 d = M.1 d := by rw [g4, mi_off hd2, b3]
    have b5 : N5.1 d = M.1 d := by rw [g5, mi_off hd2, b4]
    exact ⟨b1, b2, b3, b4, b5⟩
  have s0 := src a1 hd
  refine h N5 ⟨fun d hd2 => (src d hd2).2.2.2.2, fun k hk => ?_, ?_⟩
  · match k, hk with
    | 0, _ => rw [g5, m_i_ne (by omega), g4, m_i_ne (by omega), g3, m_i_ne (by omega), g2, m_i_ne (by omega), g1, m_i_at]
    | 1, _ => rw [g5, m_i_ne (by omega), g4, m_i_ne (by omega), g3, m_i_ne (by omega), g2, m_i_at, s0.1]
    | 2, _ => rw [g5, m_i_ne (by omega), g4, m_i_ne (by omega), g3, m_i_at, s0.2.1]
    | 3, _ => rw [g5, m_i_ne (by omega), g4, m_i_at, s0.2.2.1]
    | 4, _ => rw [g5, m_i_at, s0.2.2.2.1]
    | k + 5, h => exact absurd h (by omega)
  · subst g1 g2 g3 g4 g5
    rfl

/-- the law a comes ahead of b: it began later, of like ones the greater number -/
def lBefore (W : WT) (a b : Nat) : Prop := W (10 + 5 * b) 0 < W (10 + 5 * a) 0 ∨ (W (10 + 5 * a) 0 = W (10 + 5 * b) 0 ∧ b < a)
/-- the first m places of a row hold laws below m, in their order -/
def LfTo (W : WT) (f : Nat → Int32) (m : Nat) : Prop := (∀ i, i < m → ∃ l, l < m ∧ f i = nI l) ∧ ∀ i j, i < j → j < m → lBefore W (Int32.toNatClampNeg (f i)) (Int32.toNatClampNeg (f j))
theorem lBefore_le {W : WT} {a b : Nat} (h : lBefore W a b) : W (10 + 5 * b) 0 ≤ W (10 + 5 * a) 0 := by
  rcases h with h | h
  · exact Int32.le_of_lt h
  · rw [h.1]; exact Int32.le_refl _
theorem LfTo_insert {W : WT} {f g : Nat → Int32} {m a : Nat} (hm : m < 2 ^ 31) (ha : a ≤ m) (hf : LfTo W f m) (g1 : ∀ i, i < a → g i = f i) (g2 : g a = nI m) (g3 : ∀ i, a < i → i ≤ m → g i = f (i - 1))
    (h1 : ∀ i, a ≤ i → i < m → W (10 + 5 * Int32.toNatClampNeg (f i)) 0 ≤ W (10 + 5 * m) 0) (h2 : ∀ i, i < a → W (10 + 5 * m) 0 < W (10 + 5 * Int32.toNatClampNeg (f i)) 0) : LfTo W g (m + 1) := by
  have ixm : Int32.toNatClampNeg (nI m) = m := ix_nI hm
  refine ⟨fun i hi => ?_, fun i j hij hj => ?_⟩
  · rcases Nat.lt_trichotomy i a with h | h | h
    · obtain ⟨l, hl, e⟩ := hf.1 i (by omega)
      exact ⟨l, by omega, by rw [g1 i h, e]⟩
    · exact ⟨m, by omega, by rw [h, g2]⟩
    · obtain ⟨l, hl, e⟩ := hf.1 (i - 1) (by omega)
      exact ⟨l, by omega, by rw [g3 i h (by omega), e]⟩
  · rcases Nat.lt_trichotomy i a with h | h | h
    · rw [g1 i h]
      rcases Nat.lt_trichotomy j a with k | k | k
      · rw [g1 j k]; exact hf.2 i j hij (by omega)
      · rw [k, g2, ixm]; exact Or.inl (h2 i h)
      · rw [g3 j k (by omega)]
        exact hf.2 i (j - 1) (by omega) (by omega)
    · rw [h, g2, ixm, g3 j (by omega) (by omega)]
      have hle := h1 (j - 1) (by omega) (by omega)
      obtain ⟨l, hl, e⟩ := hf.1 (j - 1) (by omega)
      rw [e, ix_nI (by omega)] at hle ⊢
      by_cases hq : W (10 + 5 * l) 0 = W (10 + 5 * m) 0
      · exact Or.inr ⟨hq.symm, hl⟩
      · refine Or.inl ?_
        rw [Int32.lt_iff_toInt_lt]
        rw [Int32.le_iff_toInt_le] at hle
        have : ¬ (W (10 + 5 * l) 0).toInt = (W (10 + 5 * m) 0).toInt := fun z => hq (Int32.toInt_inj.mp z)
        omega
    · rw [g3 i h (by omega), g3 j (by omega) (by omega)]
      exact hf.2 (i - 1) (j - 1) (by omega) (by omega)

/-! BetweenLaws$World.orderLaws()V -/
abbrev rm_X9_orderLaws : Room := { frames := 0, cells := 0, slots := 0, locals := 0 }
abbrev B_X9_orderLaws (G : GT) (K : Int32 → Mem → Prop) := BT G (Rep G) RX9 "orderLaws" cX9_orderLaws 3 none rm_X9_orderLaws K 0 0
abbrev T_X9_orderLaws (G : GT) (as : List Value) (M : Mem) (K : Int32 → Mem → Prop) : Prop := MT G (Rep G) yX9_orderLaws cX9_orderLaws 3 none rm_X9_orderLaws as M K
theorem e_X9_orderLaws {G : GT} {K : Int32 → Mem → Prop} {M : Mem}  (h : B_X9_orderLaws G K 0 [(0, .ref 8)] [] M) : T_X9_orderLaws G [.ref 8] M K := MT.of (by decide +kernel) rfl rfl (Nat.le_of_ble_eq_true rfl) rfl h
set_option maxRecDepth 4000 in
theorem k_X9_orderLaws_0 {G : GT} {K : Int32 → Mem → Prop} {M : Mem}  (h : B_X9_orderLaws G K 2 [(0, .ref 8), (1, .int 0)] [] M) : B_X9_orderLaws G K 0 [(0, .ref 8)] [] M := by
  refine BT.iconst (v := 0) dX9_orderLaws_0 (by decide) ?_
  refine BT.istore_n (L' := [(1, .int 0), (0, .ref 8)]) dX9_orderLaws_1 rfl (by decide) rfl ?_
  refine BT.sub [1, 0] rfl ?_
  exact h
set_option maxRecDepth 4000 in
theorem k_X9_orderLaws_2 {G : GT} {K : Int32 → Mem → Prop} {M : Mem} {v1 : Int32} (h : ((M.1 8 1) ≤ v1 → K 0 M) ∧ (¬ (M.1 8 1) ≤ v1 → B_X9_orderLaws G K 12 [(0, .ref 8), (1, .int v1), (2, .int v1)] [] M)) : B_X9_orderLaws G K 2 [(0, .ref 8), (1, .int v1)] [] M := by
  refine BT.iload_n dX9_orderLaws_2 rfl 1 rfl ?_
  refine BT.aload_n dX9_orderLaws_3 rfl 0 rfl ?_
  refine BT.getI fl_X9_29 ho_8 rfl dX9_orderLaws_4 ?_
  refine BT.icmp_ge (tgt := 77) dX9_orderLaws_7 (by decide) (fun c => ?_) (fun c => ?_)
  · have c1 := c
    exact BT.vret dX9_orderLaws_77 rfl (by decide) (by decide) (h.1 c1)
  · have c2 := c
    refine BT.iload_n dX9_orderLaws_10 rfl 1 rfl ?_
    refine BT.istore_n (L' := [(2, .int v1), (0, .ref 8), (1, .int v1)]) dX9_orderLaws_11 rfl (by decide) rfl ?_
    refine BT.sub [1, 2, 0] rfl ?_
    exact (h.2 c2)
set_option maxRecDepth 4000 in
theorem k_X9_orderLaws_12 {G : GT} {K : Int32 → Mem → Prop} {M : Mem} {v1 : Int32} {v2 : Int32} (h : (v2 ≤ 0 → (vp_in v2 8) ∧ B_X9_orderLaws G K 2 [(0, .ref 8), (1, .int (v1 + 1))] [] (m_i M 50 (Int32.toNatClampNeg v2) v1)) ∧ (¬ v2 ≤ 0 → (vp_in v1 8) ∧ (vp_in (v2 - 1) 8) ∧ (vp_in (M.1 50 (Int32.toNatClampNeg (v2 - 1))) 8) ∧ ((M.1 (10 + 5 * (Int32.toNatClampNeg v1)) 0) < (M.1 (10 + 5 * (Int32.toNatClampNeg (M.1 50 (Int32.toNatClampNeg (v2 - 1))))) 0) → (vp_in v2 8) ∧ B_X9_orderLaws G K 2 [(0, .ref 8), (1, .int (v1 + 1))] [] (m_i M 50 (Int32.toNatClampNeg v2) v1)) ∧ (¬ (M.1 (10 + 5 * (Int32.toNatClampNeg v1)) 0) < (M.1 (10 + 5 * (Int32.toNatClampNeg (M.1 50 (Int32.toNatClampNeg (v2 - 1))))) 0) → (vp_in (v2 - 1) 8) ∧ (vp_in v2 8) ∧ B_X9_orderLaws G K 12 [(0, .ref 8), (1, .int v1), (2, .int (v2 + (-1)))] [] (m_i M 50 (Int32.toNatClampNeg v2) (M.1 50 (Int32.toNatClampNeg (v2 - 1))))))) : B_X9_orderLaws G K 12 [(0, .ref 8), (1, .int v1), (2, .int v2)] [] M := by
  refine BT.iload_n dX9_orderLaws_12 rfl 2 rfl ?_
  refine BT.if_le (tgt := 64) dX9_orderLaws_13 (by decide) (fun c => ?_) (fun c => ?_)
  · have c1 := c
    refine BT.aload_n dX9_orderLaws_64 rfl 0 rfl ?_
    refine BT.getR (r := 50) fl_X9_18 ho_8 rfl dX9_orderLaws_65 ?_
    refine BT.iload_n dX9_orderLaws_68 rfl 2 rfl ?_
    refine BT.iload_n dX9_orderLaws_69 rfl 1 rfl ?_
    refine BT.iast ha_50 (h.1 c1).1 dX9_orderLaws_70 ?_
    refine BT.iinc (j := 1) (v := (v1 + 1)) (L' := [(1, .int (v1 + 1)), (0, .ref 8), (2, .int v2)]) dX9_orderLaws_71 rfl rfl (by decide) rfl ?_
    refine BT.goto (tgt := 2) dX9_orderLaws_74 (by decide) ?_
    refine BT.sub [1, 0] rfl ?_
    exact (h.1 c1).2
  · have c2 := c
    refine BT.aload_n dX9_orderLaws_16 rfl 0 rfl ?_
    refine BT.getR (r := 9) fl_X9_11 ho_8 rfl dX9_orderLaws_17 ?_
    refine BT.iload_n dX9_orderLaws_20 rfl 1 rfl ?_
    refine BT.aald ha_9 (by decide) (h.2 c2).1 dX9_orderLaws_21 ?_
    refine BT.getI fl_X9_40 (lawC8 (h.2 c2).1).1 rfl dX9_orderLaws_22 ?_
    refine BT.aload_n dX9_orderLaws_25 rfl 0 rfl ?_
    refine BT.getR (r := 9) fl_X9_11 ho_8 rfl dX9_orderLaws_26 ?_
    refine BT.aload_n dX9_orderLaws_29 rfl 0 rfl ?_
    refine BT.getR (r := 50) fl_X9_18 ho_8 rfl dX9_orderLaws_30 ?_
    refine BT.iload_n dX9_orderLaws_33 rfl 2 rfl ?_
    refine BT.iconst (v := 1) dX9_orderLaws_34 (by decide) ?_
    refine BT.isub dX9_orderLaws_35 ?_
    refine BT.iald ha_50 (h.2 c2).2.1 dX9_orderLaws_36 ?_
    refine BT.aald ha_9 (by decide) (h.2 c2).2.2.1 dX9_orderLaws_37 ?_
    refine BT.getI fl_X9_40 (lawC8 (h.2 c2).2.2.1).1 rfl dX9_orderLaws_38 ?_
    refine BT.icmp_lt (tgt := 64) dX9_orderLaws_41 (by decide) (fun c => ?_) (fun c => ?_)
    · have c3 := c
      refine BT.aload_n dX9_orderLaws_64 rfl 0 rfl ?_
      refine BT.getR (r := 50) fl_X9_18 ho_8 rfl dX9_orderLaws_65 ?_
      refine BT.iload_n dX9_orderLaws_68 rfl 2 rfl ?_
      refine BT.iload_n dX9_orderLaws_69 rfl 1 rfl ?_
      refine BT.iast ha_50 ((h.2 c2).2.2.2.1 c3).1 dX9_orderLaws_70 ?_
      refine BT.iinc (j := 1) (v := (v1 + 1)) (L' := [(1, .int (v1 + 1)), (0, .ref 8), (2, .int v2)]) dX9_orderLaws_71 rfl rfl (by decide) rfl ?_
      refine BT.goto (tgt := 2) dX9_orderLaws_74 (by decide) ?_
      refine BT.sub [1, 0] rfl ?_
      exact ((h.2 c2).2.2.2.1 c3).2
    · have c4 := c
      refine BT.aload_n dX9_orderLaws_44 rfl 0 rfl ?_
      refine BT.getR (r := 50) fl_X9_18 ho_8 rfl dX9_orderLaws_45 ?_
      refine BT.iload_n dX9_orderLaws_48 rfl 2 rfl ?_
      refine BT.aload_n dX9_orderLaws_49 rfl 0 rfl ?_
      refine BT.getR (r := 50) fl_X9_18 ho_8 rfl dX9_orderLaws_50 ?_
      refine BT.iload_n dX9_orderLaws_53 rfl 2 rfl ?_
      refine BT.iconst (v := 1) dX9_orderLaws_54 (by decide) ?_
      refine BT.isub dX9_orderLaws_55 ?_
      refine BT.iald ha_50 ((h.2 c2).2.2.2.2 c4).1 dX9_orderLaws_56 ?_
      refine BT.iast ha_50 ((h.2 c2).2.2.2.2 c4).2.1 dX9_orderLaws_57 ?_
      refine BT.iinc (j := 2) (v := (v2 + (-1))) (L' := [(2, .int (v2 + (-1))), (0, .ref 8), (1, .int v1)]) dX9_orderLaws_58 rfl rfl (by decide) rfl ?_
      refine BT.goto (tgt := 12) dX9_orderLaws_61 (by decide) ?_
      refine BT.sub [1, 2, 0] rfl ?_
      exact ((h.2 c2).2.2.2.2 c4).2.2

theorem t_X9_orderLaws {G : GT} {K : Int32 → Mem → Prop} {M : Mem} (hn0 : M.1 8 1 = nI (w_n (wv M)) ∧ w_n (wv M) ≤ 8) (h : ∀ N, ((∀ d, ¬ d = 50 → N.1 d = M.1 d) ∧ N.2 = M.2 ∧ LfTo M.1 (N.1 50) (w_n (wv M))) → K 0 N) : T_X9_orderLaws G [.ref 8] M K := by
  obtain ⟨hn, h8⟩ := hn0
  refine e_X9_orderLaws (k_X9_orderLaws_0 ?_)
  refine up_loop (P := fun m => ∀ N : Mem, ((∀ d, ¬ d = 50 → N.1 d = M.1 d) ∧ N.2 = M.2 ∧ LfTo M.1 (N.1 50) m) → B_X9_orderLaws G K 2 [(0, .ref 8), (1, .int (nI m))] [] N) (w_n (wv M)) (fun N hN => ?_) (fun m hm ih N hN => ?_) 0 (Nat.zero_le _) M ⟨fun _ _ => rfl, rfl, fun i hi => absurd hi (Nat.not_lt_zero i), fun i j _ hj => absurd hj (Nat.not_lt_zero j)⟩
  · refine k_X9_orderLaws_2 ⟨fun _ => h N hN, fun c => ?_⟩
    rw [hN.1 8 (by decide), hn] at c
    exact absurd (Int32.le_refl _) c
  · obtain ⟨s1, s2, s3⟩ := hN
    refine k_X9_orderLaws_2 ⟨fun c => ?_, fun _ => ?_⟩
    · rw [s1 8 (by decide), hn, nI_leI (by omega) (by omega)] at c
      omega
    · -- the inner loop: the place a falls
      have inner : ∀ (a : Nat) (N2 : Mem), a ≤ m → (∀ d, ¬ d = 50 → N2.1 d = M.1 d) → N2.2 = M.2 → (∀ i, i < a → N2.1 50 i = N.1 50 i) → (∀ i, a < i → i ≤ m → N2.1 50 i = N.1 50 (i - 1)) → (∀ i, a ≤ i → i < m → M.1 (10 + 5 * Int32.toNatClampNeg (N.1 50 i)) 0 ≤ M.1 (10 + 5 * m) 0) → B_X9_orderLaws G K 12 [(0, .ref 8), (1, .int (nI m)), (2, .int (nI a))] [] N2 := by
        intro a
        induction a with
        | zero =>
          intro N2 _ q1 q2 q3 q4 q5
          refine k_X9_orderLaws_12 ⟨fun _ => ⟨vp_nI (by omega) (by decide), ?_⟩, fun c => absurd (Int32.le_refl _) c⟩
          rw [ix_nI (by omega), nI_1]
          refine ih _ ⟨fun d hd => (mi_off hd).trans (q1 d hd), q2, LfTo_insert (f := N.1 50) (a := 0) (by omega) (Nat.zero_le _) s3 (fun i hi => absurd hi (Nat.not_lt_zero i)) m_i_at (fun i hi1 hi2 => by rw [m_i_ne (by omega)]; exact q4 i hi1 hi2) q5 (fun i hi => absurd hi (Nat.not_lt_zero i))⟩
        | succ a iha =>
          intro N2 ham q1 q2 q3 q4 q5
          obtain ⟨l, hl, el⟩ := s3.1 a (by omega)
          have ea : N2.1 50 a = nI l := by rw [q3 a (by omega), el]
          have estop : M.1 (10 + 5 * m) 0 < M.1 (10 + 5 * l) 0 → B_X9_orderLaws G K 2 [(0, .ref 8), (1, .int (nI m + 1))] [] (m_i N2 50 (a + 1) (nI m)) := by
            intro hlt
            rw [nI_1]
            refine ih _ ⟨fun d hd => (mi_off hd).trans (q1 d hd), q2, LfTo_insert (f := N.1 50) (a := a + 1) (by omega) ham s3 (fun i hi => by rw [m_i_ne (by omega)]; exact q3 i hi) m_i_at (fun i hi1 hi2 => by rw [m_i_ne (by omega)]; exact q4 i hi1 hi2) q5 (fun i hi => ?_)⟩
            rcases Nat.lt_succ_iff_lt_or_eq.mp hi with z | rfl
            · have := lBefore_le (s3.2 i a z (by omega))
              rw [el, ix_nI (by omega)] at this
              exact Int32.lt_of_lt_of_le hlt this
            · rw [el, ix_nI (by omega)]; exact hlt
          refine k_X9_orderLaws_12 ?_
          rw [nI_pred]
          simp only [ix_nI (show a < 2 ^ 31 by omega), ix_nI (show a + 1 < 2 ^ 31 by omega), ea, ix_nI (show l < 2 ^ 31 by omega), ix_nI (show m < 2 ^ 31 by omega)]
          rw [q1 (10 + 5 * m) (by omega), q1 (10 + 5 * l) (by omega)]
          refine ⟨fun c => absurd c (nI_nle (by omega) (by omega)), fun _ => ⟨vp_nI (by omega) (by decide), vp_nI (by omega) (by decide), vp_nI (by omega) (by decide), fun c => ⟨vp_nI (by omega) (by decide), estop c⟩, fun c => ⟨vp_nI (by omega) (by decide), vp_nI (by omega) (by decide), ?_⟩⟩⟩
          rw [pk_m1, ← el]
          refine iha _ (by omega) (fun d hd => (mi_off hd).trans (q1 d hd)) q2 (fun i hi => by rw [m_i_ne (by omega)]; exact q3 i (by omega)) (fun i hi1 hi2 => ?_) (fun i hi1 hi2 => ?_)
          · by_cases hq : i = a + 1
            · rw [hq, m_i_at]; rfl
            · rw [m_i_ne (by omega)]; exact q4 i (by omega) hi2
          · by_cases hq : i = a
            · rw [hq, el, ix_nI (by omega)]; exact Int32.not_lt.mp c
            · exact q5 i (by omega) hi2
      exact inner m N (Nat.le_refl _) s1 s2 (fun i _ => rfl) (fun i h1 h2 => absurd h1 (by omega)) (fun i h1 h2 => absurd h1 (by omega))

/-! BetweenLaws$World.addPiece(II)I -/
abbrev rm_X9_addPiece : Room := { frames := 1, cells := 0, slots := 0, locals := 22 }
abbrev B_X9_addPiece (G : GT) (K : Int32 → Mem → Prop) := BT G (Rep G) RX9 "addPiece" cX9_addPiece 3 (some .int) rm_X9_addPiece K 0 0
abbrev T_X9_addPiece (G : GT) (as : List Value) (M : Mem) (K : Int32 → Mem → Prop) : Prop := MT G (Rep G) yX9_addPiece cX9_addPiece 3 (some .int) rm_X9_addPiece as M K
theorem e_X9_addPiece {G : GT} {K : Int32 → Mem → Prop} {M : Mem} {v1 : Int32} {v2 : Int32} (h : B_X9_addPiece G K 0 [(0, .ref 8), (1, .int v1), (2, .int v2)] [] M) : T_X9_addPiece G [.ref 8, .int v1, .int v2] M K := MT.of (by decide +kernel) rfl rfl (Nat.le_of_ble_eq_true rfl) rfl h
set_option maxRecDepth 4000 in
theorem k_X9_addPiece_0 {G : GT} {K : Int32 → Mem → Prop} {M : Mem} {v1 : Int32} {v2 : Int32} (h : ((M.1 8 4) < 8 → (vp_in (M.1 8 4) 8) ∧ (∀ N3 : Mem, N3 = (c_begin M (52 + (Int32.toNatClampNeg (M.1 8 4))) v1 v2) → K (((m_i N3 8 4 ((N3.1 8 4) + 1)).1 8 4) - 1) (m_i N3 8 4 ((N3.1 8 4) + 1)))) ∧ (¬ (M.1 8 4) < 8 → K (-4) M)) : B_X9_addPiece G K 0 [(0, .ref 8), (1, .int v1), (2, .int v2)] [] M := by
  refine BT.aload_n dX9_addPiece_0 rfl 0 rfl ?_
  refine BT.getI fl_X9_33 ho_8 rfl dX9_addPiece_1 ?_
  refine BT.bipush (v := 8) dX9_addPiece_4 (by decide) ?_
  refine BT.icmp_lt (tgt := 12) dX9_addPiece_6 (by decide) (fun c => ?_) (fun c => ?_)
  · have c1 := c
    refine BT.aload_n dX9_addPiece_12 rfl 0 rfl ?_
    refine BT.getR (r := 51) fl_X9_24 ho_8 rfl dX9_addPiece_13 ?_
    refine BT.aload_n dX9_addPiece_16 rfl 0 rfl ?_
    refine BT.getI fl_X9_33 ho_8 rfl dX9_addPiece_17 ?_
    refine BT.aald1 ha_51 (by decide) (h.1 c1).1 dX9_addPiece_20 ?_
    refine BT.iload_n dX9_addPiece_21 rfl 1 rfl ?_
    refine BT.iload_n dX9_addPiece_22 rfl 2 rfl ?_
    refine BT.mcVvm [.int v1, .int v2] (t_X6_begin (pieceC8 (h.1 c1).1) ⟨rfl, rfl⟩) mb_X6_begin mv_X6_begin lk_X9_49 rfl (by decide) rfl (recvRep (pieceC8 (h.1 c1).1) rfl) (Nat.le_of_ble_eq_true rfl) dX9_addPiece_23 (fun N3 g3 => ?_)
    show B_X9_addPiece G K 26 [(0, .ref 8), (1, .int v1), (2, .int v2)] [] N3
    refine BT.aload_n dX9_addPiece_26 rfl 0 rfl ?_
    refine BT.dup dX9_addPiece_27 rfl ?_
    refine BT.getI fl_X9_33 ho_8 rfl dX9_addPiece_28 ?_
    refine BT.iconst (v := 1) dX9_addPiece_31 (by decide) ?_
    refine BT.iadd dX9_addPiece_32 ?_
    refine BT.putI fl_X9_33 ft_9_4 ho_8 rfl dX9_addPiece_33 ?_
    refine BT.aload_n dX9_addPiece_36 rfl 0 rfl ?_
    refine BT.getI fl_X9_33 ho_8 rfl dX9_addPiece_37 ?_
    refine BT.iconst (v := 1) dX9_addPiece_40 (by decide) ?_
    refine BT.isub dX9_addPiece_41 ?_
    exact BT.iret dX9_addPiece_42 rfl (by decide) (by decide) ((h.1 c1).2 N3 g3)
  · have c2 := c
    refine BT.bipush (v := (-4)) dX9_addPiece_9 (by decide) ?_
    exact BT.iret dX9_addPiece_11 rfl (by decide) (by decide) (h.2 c2)

theorem t_X9_addPiece {G : GT} {K : Int32 → Mem → Prop} {M : Mem} {v1 v2 : Int32} (hp : M.1 8 4 = nI (w_p (wv M)) ∧ w_p (wv M) ≤ 8) (hfull : w_p (wv M) = 8 → K (-4) M) (hok : w_p (wv M) < 8 → K (nI (w_p (wv M))) (m_i (c_begin M (52 + w_p (wv M)) v1 v2) 8 4 (nI (w_p (wv M) + 1)))) : T_X9_addPiece G [.ref 8, .int v1, .int v2] M K := by
  obtain ⟨hq, h9⟩ := hp
  refine e_X9_addPiece (k_X9_addPiece_0 ?_)
  rw [hq]
  simp only [ix_nI (show w_p (wv M) < 2 ^ 31 by omega)]
  refine ⟨fun c => ?_, fun c => hfull ?_⟩
  · have hlt : w_p (wv M) < 8 := (nI_ltI (by omega) (by decide)).mp c
    refine ⟨vp_nI hlt (by decide), ?_⟩
    have e : (c_begin M (52 + w_p (wv M)) v1 v2).1 8 4 = nI (w_p (wv M)) := by
      unfold c_begin
      rw [m_i_ne (by omega), m_i_ne (by omega), m_i_ne (by omega), m_i_ne (by omega), m_i_ne (by omega), hq]
    intro N3 g3
    rw [g3, e, nI_1, m_i_at, nI_pred]
    exact hok hlt
  · have : ¬ w_p (wv M) < 8 := fun z => c (nI_lt z (by decide))
    omega

/-! BetweenLaws$World.briefest()I -/
abbrev rm_X9_briefest : Room := { frames := 1, cells := 0, slots := 0, locals := 20 }
abbrev B_X9_briefest (G : GT) (K : Int32 → Mem → Prop) := BT G (Rep G) RX9 "briefest" cX9_briefest 3 (some .int) rm_X9_briefest K 0 0
abbrev T_X9_briefest (G : GT) (as : List Value) (M : Mem) (K : Int32 → Mem → Prop) : Prop := MT G (Rep G) yX9_briefest cX9_briefest 3 (some .int) rm_X9_briefest as M K
theorem e_X9_briefest {G : GT} {K : Int32 → Mem → Prop} {M : Mem}  (h : B_X9_briefest G K 0 [(0, .ref 8)] [] M) : T_X9_briefest G [.ref 8] M K := MT.of (by decide +kernel) rfl rfl (Nat.le_of_ble_eq_true rfl) rfl h
set_option maxRecDepth 4000 in
theorem k_X9_briefest_0 {G : GT} {K : Int32 → Mem → Prop} {M : Mem}  (h : B_X9_briefest G K 4 [(0, .ref 8), (1, .int 0), (2, .int 1)] [] M) : B_X9_briefest G K 0 [(0, .ref 8)] [] M := by
  refine BT.iconst (v := 0) dX9_briefest_0 (by decide) ?_
  refine BT.istore_n (L' := [(1, .int 0), (0, .ref 8)]) dX9_briefest_1 rfl (by decide) rfl ?_
  refine BT.iconst (v := 1) dX9_briefest_2 (by decide) ?_
  refine BT.istore_n (L' := [(2, .int 1), (1, .int 0), (0, .ref 8)]) dX9_briefest_3 rfl (by decide) rfl ?_
  refine BT.sub [2, 1, 0] rfl ?_
  exact h
set_option maxRecDepth 4000 in
theorem k_X9_briefest_4 {G : GT} {K : Int32 → Mem → Prop} {M : Mem} {v1 : Int32} {v2 : Int32} (h : ((M.1 8 1) ≤ v2 → K v1 M) ∧ (¬ (M.1 8 1) ≤ v2 → (vp_in v2 8) ∧ (vp_in v1 8) ∧ (((M.1 (10 + 5 * (Int32.toNatClampNeg v1)) 1) - (M.1 (10 + 5 * (Int32.toNatClampNeg v1)) 0)) ≤ ((M.1 (10 + 5 * (Int32.toNatClampNeg v2)) 1) - (M.1 (10 + 5 * (Int32.toNatClampNeg v2)) 0)) → B_X9_briefest G K 4 [(0, .ref 8), (1, .int v1), (2, .int (v2 + 1))] [] M) ∧ (¬ ((M.1 (10 + 5 * (Int32.toNatClampNeg v1)) 1) - (M.1 (10 + 5 * (Int32.toNatClampNeg v1)) 0)) ≤ ((M.1 (10 + 5 * (Int32.toNatClampNeg v2)) 1) - (M.1 (10 + 5 * (Int32.toNatClampNeg v2)) 0)) → B_X9_briefest G K 4 [(0, .ref 8), (1, .int v2), (2, .int (v2 + 1))] [] M))) : B_X9_briefest G K 4 [(0, .ref 8), (1, .int v1), (2, .int v2)] [] M := by
  refine BT.iload_n dX9_briefest_4 rfl 2 rfl ?_
  refine BT.aload_n dX9_briefest_5 rfl 0 rfl ?_
  refine BT.getI fl_X9_29 ho_8 rfl dX9_briefest_6 ?_
  refine BT.icmp_ge (tgt := 41) dX9_briefest_9 (by decide) (fun c => ?_) (fun c => ?_)
  · have c1 := c
    refine BT.iload_n dX9_briefest_41 rfl 1 rfl ?_
    exact BT.iret dX9_briefest_42 rfl (by decide) (by decide) (h.1 c1)
  · have c2 := c
    refine BT.aload_n dX9_briefest_12 rfl 0 rfl ?_
    refine BT.getR (r := 9) fl_X9_11 ho_8 rfl dX9_briefest_13 ?_
    refine BT.iload_n dX9_briefest_16 rfl 2 rfl ?_
    refine BT.aald ha_9 (by decide) (h.2 c2).1 dX9_briefest_17 ?_
    refine BT.mcV [] (t_X3_daysInForce (lawC8 (h.2 c2).1) ?_) mb_X3_daysInForce mv_X3_daysInForce lk_X9_60 rfl (by decide) rfl (recvRep (lawC8 (h.2 c2).1).1 rfl) (Nat.le_of_ble_eq_true rfl) dX9_briefest_18
    show B_X9_briefest G K 21 [(0, .ref 8), (1, .int v1), (2, .int v2)] [.int ((M.1 (10 + 5 * (Int32.toNatClampNeg v2)) 1) - (M.1 (10 + 5 * (Int32.toNatClampNeg v2)) 0))] M
    refine BT.aload_n dX9_briefest_21 rfl 0 rfl ?_
    refine BT.getR (r := 9) fl_X9_11 ho_8 rfl dX9_briefest_22 ?_
    refine BT.iload_n dX9_briefest_25 rfl 1 rfl ?_
    refine BT.aald ha_9 (by decide) (h.2 c2).2.1 dX9_briefest_26 ?_
    refine BT.mcV [] (t_X3_daysInForce (lawC8 (h.2 c2).2.1) ?_) mb_X3_daysInForce mv_X3_daysInForce lk_X9_60 rfl (by decide) rfl (recvRep (lawC8 (h.2 c2).2.1).1 rfl) (Nat.le_of_ble_eq_true rfl) dX9_briefest_27
    show B_X9_briefest G K 30 [(0, .ref 8), (1, .int v1), (2, .int v2)] [.int ((M.1 (10 + 5 * (Int32.toNatClampNeg v1)) 1) - (M.1 (10 + 5 * (Int32.toNatClampNeg v1)) 0)), .int ((M.1 (10 + 5 * (Int32.toNatClampNeg v2)) 1) - (M.1 (10 + 5 * (Int32.toNatClampNeg v2)) 0))] M
    refine BT.icmp_ge (tgt := 35) dX9_briefest_30 (by decide) (fun c => ?_) (fun c => ?_)
    · have c5 := c
      refine BT.iinc (j := 2) (v := (v2 + 1)) (L' := [(2, .int (v2 + 1)), (0, .ref 8), (1, .int v1)]) dX9_briefest_35 rfl rfl (by decide) rfl ?_
      refine BT.goto (tgt := 4) dX9_briefest_38 (by decide) ?_
      refine BT.sub [1, 2, 0] rfl ?_
      exact ((h.2 c2).2.2.1 c5)
    · have c6 := c
      refine BT.iload_n dX9_briefest_33 rfl 2 rfl ?_
      refine BT.istore_n (L' := [(1, .int v2), (0, .ref 8), (2, .int v2)]) dX9_briefest_34 rfl (by decide) rfl ?_
      refine BT.iinc (j := 2) (v := (v2 + 1)) (L' := [(2, .int (v2 + 1)), (1, .int v2), (0, .ref 8)]) dX9_briefest_35 rfl rfl (by decide) rfl ?_
      refine BT.goto (tgt := 4) dX9_briefest_38 (by decide) ?_
      refine BT.sub [2, 1, 0] rfl ?_
      exact ((h.2 c2).2.2.2 c6)

noncomputable def w_brief (W : WT) : Nat → Nat
  | 0 => 0
  | l + 1 => sel ((W (10 + 5 * w_brief W l) 1 - W (10 + 5 * w_brief W l) 0) ≤ (W (10 + 5 * l) 1 - W (10 + 5 * l) 0)) (w_brief W l) l
theorem w_brief_lt (W : WT) : ∀ l, 0 < l → w_brief W l < l
  | 0, h => absurd h (Nat.lt_irrefl 0)
  | l + 1, _ => by
    unfold w_brief
    by_cases h : (W (10 + 5 * w_brief W l) 1 - W (10 + 5 * w_brief W l) 0) ≤ (W (10 + 5 * l) 1 - W (10 + 5 * l) 0)
    · rw [sel_t h]
      rcases Nat.eq_zero_or_pos l with z | z
      · subst z; exact Nat.zero_lt_one
      · exact Nat.lt_succ_of_lt (w_brief_lt W l z)
    · rw [sel_f h]; exact Nat.lt_succ_self l
theorem t_X9_briefest {G : GT} {K : Int32 → Mem → Prop} {M : Mem} (hw : WOk (wv M)) (h0 : 0 < w_n (wv M)) (h : K (nI (w_brief (wv M) (w_n (wv M)))) M) : T_X9_briefest G [.ref 8] M K := by
  obtain ⟨⟨hn, h8⟩, -⟩ := hw
  rw [wv_at (by decide)] at hn
  refine e_X9_briefest (k_X9_briefest_0 ?_)
  have e0 : w_brief (wv M) 1 = 0 := by
    show sel _ 0 0 = 0
    exact sel_t (Int32.le_refl _)
  have key := up_loop (P := fun j => 1 ≤ j → B_X9_briefest G K 4 [(0, .ref 8), (1, .int (nI (w_brief (wv M) j))), (2, .int (nI j))] [] M) (w_n (wv M)) (fun _ => ?_) (fun j hj ih h1 => ?_) 1 h0 (Nat.le_refl 1)
  · rw [e0] at key
    exact key
  · refine k_X9_briefest_4 ⟨fun _ => h, fun c => ?_⟩
    rw [hn] at c
    exact absurd (Int32.le_refl _) c
  · have hb := w_brief_lt (wv M) j h1
    have e1 : ∀ k, wv M (10 + 5 * j) k = M.1 (10 + 5 * j) k := fun k => wv_at (by omega)
    have e2 : ∀ k, wv M (10 + 5 * w_brief (wv M) j) k = M.1 (10 + 5 * w_brief (wv M) j) k := fun k => wv_at (by omega)
    refine k_X9_briefest_4 ?_
    rw [hn]
    simp only [ix_nI (show j < 2 ^ 31 by omega), ix_nI (show w_brief (wv M) j < 2 ^ 31 by omega), nI_1, ← e1, ← e2]
    have ih2 := ih (by omega)
    unfold w_brief at ih2
    refine ⟨fun c => ?_, fun c => ⟨vp_nI (by omega) (by decide), vp_nI (by omega) (by decide), fun d => ?_, fun d => ?_⟩⟩
    · rw [nI_leI (by omega) (by omega)] at c
      omega
    · rw [sel_t d] at ih2
      exact ih2
    · rw [sel_f d] at ih2
      exact ih2

theorem LfTo_congr {W V : WT} {f : Nat → Int32} {m : Nat} (hm : m ≤ 8) (h : ∀ l, l < m → W (10 + 5 * l) 0 = V (10 + 5 * l) 0) (hf : LfTo W f m) : LfTo V f m := by
  refine ⟨hf.1, fun i j hij hj => ?_⟩
  obtain ⟨a, ha, ea⟩ := hf.1 i (by omega)
  obtain ⟨b, hb, eb⟩ := hf.1 j hj
  have := hf.2 i j hij hj
  rw [ea, eb, ix_nI (by omega), ix_nI (by omega)] at this ⊢
  unfold lBefore at this ⊢
  rw [← h a ha, ← h b hb]
  exact this
/-- a law more -/
def AddN (M N : Mem) (n : Nat) (from_ till : Int32) : Prop :=
  (∀ d, ¬ (d = 8 ∨ d = 50 ∨ (10 + 5 * n ≤ d ∧ d ≤ 14 + 5 * n)) → N.1 d = M.1 d) ∧ N.1 8 1 = nI (n + 1) ∧ (∀ k, ¬ k = 1 → N.1 8 k = M.1 8 k) ∧ N.2 = M.2 ∧ TxEq N.1 (10 + 5 * n) M.1 3 ∧ N.1 (10 + 5 * n) 0 = from_ ∧ N.1 (10 + 5 * n) 1 = till ∧ LfTo N.1 (N.1 50) (n + 1)

/-! BetweenLaws$World.addLaw(LBetweenLaws$Law;II)I -/
abbrev rm_X9_addLaw : Room := { frames := 2, cells := 0, slots := 0, locals := 47 }
abbrev B_X9_addLaw (G : GT) (K : Int32 → Mem → Prop) := BT G (Rep G) RX9 "addLaw" cX9_addLaw 5 (some .int) rm_X9_addLaw K 0 0
abbrev T_X9_addLaw (G : GT) (as : List Value) (M : Mem) (K : Int32 → Mem → Prop) : Prop := MT G (Rep G) yX9_addLaw cX9_addLaw 5 (some .int) rm_X9_addLaw as M K
theorem e_X9_addLaw {G : GT} {K : Int32 → Mem → Prop} {M : Mem} {v2 : Int32} {v3 : Int32} (h : B_X9_addLaw G K 0 [(0, .ref 8), (1, .ref 3), (2, .int v2), (3, .int v3)] [] M) : T_X9_addLaw G [.ref 8, .ref 3, .int v2, .int v3] M K := MT.of (by decide +kernel) rfl rfl (Nat.le_of_ble_eq_true rfl) rfl h
set_option maxRecDepth 4000 in
theorem k_X9_addLaw_0 {G : GT} {K : Int32 → Mem → Prop} {M : Mem} {v2 : Int32} {v3 : Int32} (h : ((M.1 8 1) < 8 → (vp_in (M.1 8 1) 8) ∧ ((10 + 5 * (Int32.toNatClampNeg (M.1 8 1))) + 4 < 3 ∨ 3 + 4 < (10 + 5 * (Int32.toNatClampNeg (M.1 8 1)))) ∧ (M.1 3 10 = 0 ∨ M.1 3 10 = 1) ∧ (∀ N3 : Mem, (TkN M N3 (10 + 5 * (Int32.toNatClampNeg (M.1 8 1))) 3) → (∀ N4 : Mem, N4 = (m_i N3 (10 + 5 * (Int32.toNatClampNeg (M.1 8 1))) 0 v2) → (∀ N5 : Mem, N5 = (m_i N4 (10 + 5 * (Int32.toNatClampNeg (M.1 8 1))) 1 v3) → (∀ N6 : Mem, N6 = (m_i N5 8 1 ((N5.1 8 1) + 1)) → (N6.1 8 1 = nI (w_n (wv N6)) ∧ w_n (wv N6) ≤ 8) ∧ (∀ N7 : Mem, ((∀ d, ¬ d = 50 → N7.1 d = N6.1 d) ∧ N7.2 = N6.2 ∧ LfTo N6.1 (N7.1 50) (w_n (wv N6))) → K ((N7.1 8 1) - 1) N7)))))) ∧ (¬ (M.1 8 1) < 8 → K (-4) M)) : B_X9_addLaw G K 0 [(0, .ref 8), (1, .ref 3), (2, .int v2), (3, .int v3)] [] M := by
  refine BT.aload_n dX9_addLaw_0 rfl 0 rfl ?_
  refine BT.getI fl_X9_29 ho_8 rfl dX9_addLaw_1 ?_
  refine BT.bipush (v := 8) dX9_addLaw_4 (by decide) ?_
  refine BT.icmp_lt (tgt := 12) dX9_addLaw_6 (by decide) (fun c => ?_) (fun c => ?_)
  · have c1 := c
    refine BT.aload_n dX9_addLaw_12 rfl 0 rfl ?_
    refine BT.getR (r := 9) fl_X9_11 ho_8 rfl dX9_addLaw_13 ?_
    refine BT.aload_n dX9_addLaw_16 rfl 0 rfl ?_
    refine BT.getI fl_X9_29 ho_8 rfl dX9_addLaw_17 ?_
    refine BT.aald ha_9 (by decide) (h.1 c1).1 dX9_addLaw_20 ?_
    refine BT.astore (L' := [(4, .ref (10 + 5 * (Int32.toNatClampNeg (M.1 8 1)))), (0, .ref 8), (1, .ref 3), (2, .int v2), (3, .int v3)]) dX9_addLaw_21 (by decide) rfl ?_
    refine BT.aload dX9_addLaw_23 0 rfl ?_
    refine BT.aload_n dX9_addLaw_25 rfl 2 rfl ?_
    refine BT.mcVvp [.ref 3] (t_X3_takeText (lawC8 (h.1 c1).1) lawC_3 (h.1 c1).2.1 (h.1 c1).2.2.1 (fun N hN => ⟨rfl, hN⟩)) mb_X3_takeText mv_X3_takeText lk_X9_36 rfl (by decide) rfl (recvRep (lawC8 (h.1 c1).1).1 rfl) (Nat.le_of_ble_eq_true rfl) dX9_addLaw_26 (P := fun N3 => TkN M N3 (10 + 5 * (Int32.toNatClampNeg (M.1 8 1))) 3) (fun N3 g3 => ?_)
    show B_X9_addLaw G K 29 [(4, .ref (10 + 5 * (Int32.toNatClampNeg (M.1 8 1)))), (0, .ref 8), (1, .ref 3), (2, .int v2), (3, .int v3)] [] N3
    refine BT.aload dX9_addLaw_29 0 rfl ?_
    refine BT.iload_n dX9_addLaw_31 rfl 3 rfl ?_
    refine BT.putI fl_X9_40 ft_3_0 (lawC8 (h.1 c1).1).1 rfl dX9_addLaw_32 ?_
    refine BT.topm (fun N4 f4 => ?_)
    refine BT.aload dX9_addLaw_35 0 rfl ?_
    refine BT.iload_n dX9_addLaw_37 rfl 4 rfl ?_
    refine BT.putI fl_X9_43 ft_3_1 (lawC8 (h.1 c1).1).1 rfl dX9_addLaw_38 ?_
    refine BT.topm (fun N5 f5 => ?_)
    refine BT.aload_n dX9_addLaw_41 rfl 1 rfl ?_
    refine BT.dup dX9_addLaw_42 rfl ?_
    refine BT.getI fl_X9_29 ho_8 rfl dX9_addLaw_43 ?_
    refine BT.iconst (v := 1) dX9_addLaw_46 (by decide) ?_
    refine BT.iadd dX9_addLaw_47 ?_
    refine BT.putI fl_X9_29 ft_9_1 ho_8 rfl dX9_addLaw_48 ?_
    refine BT.topm (fun N6 f6 => ?_)
    refine BT.aload_n dX9_addLaw_51 rfl 1 rfl ?_
    refine BT.mcVvp [] (t_X9_orderLaws (((((h.1 c1).2.2.2 N3 g3) N4 f4) N5 f5) N6 f6).1 (fun N hN => ⟨rfl, hN⟩)) mb_X9_orderLaws mv_X9_orderLaws lk_X9_46 rfl (by decide) rfl (recvRep ho_8 rfl) (Nat.le_of_ble_eq_true rfl) dX9_addLaw_52 (P := fun N7 => (∀ d, ¬ d = 50 → N7.1 d = N6.1 d) ∧ N7.2 = N6.2 ∧ LfTo N6.1 (N7.1 50) (w_n (wv N6))) (fun N7 g7 => ?_)
    show B_X9_addLaw G K 55 [(4, .ref (10 + 5 * (Int32.toNatClampNeg (M.1 8 1)))), (0, .ref 8), (1, .ref 3), (2, .int v2), (3, .int v3)] [] N7
    refine BT.aload_n dX9_addLaw_55 rfl 1 rfl ?_
    refine BT.getI fl_X9_29 ho_8 rfl dX9_addLaw_56 ?_
    refine BT.iconst (v := 1) dX9_addLaw_59 (by decide) ?_
    refine BT.isub dX9_addLaw_60 ?_
    exact BT.iret dX9_addLaw_61 rfl (by decide) (by decide) ((((((h.1 c1).2.2.2 N3 g3) N4 f4) N5 f5) N6 f6).2 N7 g7)
  · have c2 := c
    refine BT.bipush (v := (-4)) dX9_addLaw_9 (by decide) ?_
    exact BT.iret dX9_addLaw_11 rfl (by decide) (by decide) (h.2 c2)

theorem t_X9_addLaw {G : GT} {K : Int32 → Mem → Prop} {M : Mem} {v2 v3 : Int32} (hn0 : M.1 8 1 = nI (w_n (wv M)) ∧ w_n (wv M) < 8) (hz : M.1 3 10 = 0 ∨ M.1 3 10 = 1) (h : ∀ N, AddN M N (w_n (wv M)) v2 v3 → K (nI (w_n (wv M))) N) : T_X9_addLaw G [.ref 8, .ref 3, .int v2, .int v3] M K := by
  obtain ⟨hn, h8⟩ := hn0
  generalize hnn : w_n (wv M) = n at *
  refine e_X9_addLaw (k_X9_addLaw_0 ?_)
  rw [hn]
  simp only [ix_nI (show n < 2 ^ 31 by omega)]
  refine ⟨fun _ => ⟨vp_nI h8 (by decide), Or.inr (by omega), hz, fun N3 g3 N4 g4 N5 g5 N6 g6 => ?_⟩, fun c => absurd (nI_lt h8 (by decide)) c⟩
  obtain ⟨t1, t2, -, t4⟩ := g3
  have e6 : ∀ d, ¬ d = 8 → ¬ d = 10 + 5 * n → N6.1 d = N3.1 d := fun d a b => by rw [g6, mi_off a, g5, mi_off b, g4, mi_off b]
  have e81 : N5.1 8 1 = nI n := by rw [g5, mi_off (by omega), g4, mi_off (by omega), t1 8 (by omega), hn]
  have f81 : N6.1 8 1 = nI (n + 1) := by rw [g6, m_i_at, e81, nI_1]
  have f8k : ∀ k, ¬ k = 1 → N6.1 8 k = M.1 8 k := fun k hk => by rw [g6, m_i_ne (by omega), g5, mi_off (by omega), g4, mi_off (by omega), t1 8 (by omega)]
  have fc : ∀ k, 2 ≤ k → N6.1 (10 + 5 * n) k = N3.1 (10 + 5 * n) k := fun k hk => by rw [g6, mi_off (by omega), g5, m_i_ne (by omega), g4, m_i_ne (by omega)]
  have f0 : N6.1 (10 + 5 * n) 0 = v2 := by rw [g6, mi_off (by omega), g5, m_i_ne (by omega), g4, m_i_at]
  have f1 : N6.1 (10 + 5 * n) 1 = v3 := by rw [g6, mi_off (by omega), g5, m_i_at]
  have f2 : N6.2 = M.2 := by rw [g6, g5, g4]; exact t4
  have en : w_n (wv N6) = n + 1 := by
    unfold w_n
    rw [wv_at (by decide), f81, ix_nI (by omega)]
  refine ⟨by rw [en]; exact ⟨f81, by omega⟩, fun N7 g7 => ?_⟩
  obtain ⟨s1, s2, s3⟩ := g7
  rw [en] at s3
  rw [s1 8 (by decide), f81, nI_pred]
  refine h N7 ⟨fun d hd => ?_, by rw [s1 8 (by decide), f81], fun k hk => by rw [s1 8 (by decide), f8k k hk], s2.trans f2, ⟨?_, fun i hi => ?_, fun i hi => ?_⟩, by rw [s1 _ (by omega), f0], by rw [s1 _ (by omega), f1], ?_⟩
  · rw [s1 d (by omega), e6 d (by omega) (by omega), t1 d (by omega)]
  · rw [s1 _ (by omega), fc 2 (by decide), fc 7 (by decide), fc 8 (by decide), fc 9 (by decide), fc 10 (by decide), fc 11 (by decide), fc 12 (by decide), fc 13 (by decide), fc 14 (by decide)]
    exact t2.1
  · rw [s1 _ (by omega), s1 _ (by omega), e6 _ (by omega) (by omega), e6 _ (by omega) (by omega)]
    exact t2.2.1 i hi
  · rw [s1 _ (by omega), s1 _ (by omega), e6 _ (by omega) (by omega), e6 _ (by omega) (by omega)]
    exact t2.2.2 i hi
  · exact LfTo_congr (by omega) (fun l hl => by rw [s1 _ (by omega)]) s3

/-- the world at a is now what the one at o is -/
def WdN (M N : Mem) (a o n p : Nat) : Prop :=
  (∀ d, ¬ (a ≤ d ∧ d < a + 52) → N.1 d = M.1 d) ∧ N.2 = M.2 ∧ N.1 a 1 = M.1 o 1 ∧ N.1 a 4 = M.1 o 4 ∧ N.1 a 5 = M.1 o 5 ∧ N.1 a 6 = M.1 o 6 ∧ N.1 a 7 = M.1 o 7 ∧ (∀ i, i < 8 → N.1 (a + 42) i = M.1 (o + 42) i) ∧ (∀ l, l < n → TxEq N.1 ((a + 2) + 5 * l) M.1 ((o + 2) + 5 * l) ∧ N.1 ((a + 2) + 5 * l) 0 = M.1 ((o + 2) + 5 * l) 0 ∧ N.1 ((a + 2) + 5 * l) 1 = M.1 ((o + 2) + 5 * l) 1) ∧ (∀ q, q < p → ∀ k, k < 5 → N.1 ((a + 44) + q) k = M.1 ((o + 44) + q) k)
theorem TxEq_congr {V V2 W : WT} {c o : Nat} (h : TxEq V c W o) (e : ∀ d, c ≤ d → d ≤ c + 4 → V2 d = V d) : TxEq V2 c W o := by
  unfold TxEq at *
  rw [e c (by omega) (by omega), e (c + 1) (by omega) (by omega), e (c + 2) (by omega) (by omega), e (c + 3) (by omega) (by omega), e (c + 4) (by omega) (by omega)]
  exact h
theorem TxEq_congr2 {V W W2 : WT} {c o : Nat} (h : TxEq V c W o) (e : ∀ d, o ≤ d → d ≤ o + 4 → W2 d = W d) : TxEq V c W2 o := by
  unfold TxEq at *
  rw [e o (by omega) (by omega), e (o + 1) (by omega) (by omega), e (o + 2) (by omega) (by omega), e (o + 3) (by omega) (by omega), e (o + 4) (by omega) (by omega)]
  exact h

/-! BetweenLaws$World.copyFrom(LBetweenLaws$World;)V -/
abbrev rm_X9_copyFrom : Room := { frames := 3, cells := 0, slots := 0, locals := 68 }
abbrev B_X9_copyFrom (G : GT) (K : Int32 → Mem → Prop) := BT G (Rep G) RX9 "copyFrom" cX9_copyFrom 3 none rm_X9_copyFrom K 0 0
abbrev T_X9_copyFrom (G : GT) (as : List Value) (M : Mem) (K : Int32 → Mem → Prop) : Prop := MT G (Rep G) yX9_copyFrom cX9_copyFrom 3 none rm_X9_copyFrom as M K
theorem e_X9_copyFrom {G : GT} {K : Int32 → Mem → Prop} {M : Mem} {a0 : Nat} {a1 : Nat} (h : B_X9_copyFrom G K 0 [(0, .ref a0), (1, .ref a1)] [] M) : T_X9_copyFrom G [.ref a0, .ref a1] M K := MT.of (by decide +kernel) rfl rfl (Nat.le_of_ble_eq_true rfl) rfl h
set_option maxRecDepth 4000 in
theorem k_X9_copyFrom_0 {G : GT} {K : Int32 → Mem → Prop} {M : Mem} {a0 : Nat} {a1 : Nat} (ha0 : WorldC a0) (ha1 : WorldC a1) (h : (∀ N1 : Mem, N1 = (m_i M a0 1 (M.1 a1 1)) → B_X9_copyFrom G K 10 [(0, .ref a0), (1, .ref a1), (2, .int 0)] [] N1)) : B_X9_copyFrom G K 0 [(0, .ref a0), (1, .ref a1)] [] M := by
  refine BT.aload_n dX9_copyFrom_0 rfl 0 rfl ?_
  refine BT.aload_n dX9_copyFrom_1 rfl 1 rfl ?_
  refine BT.getI fl_X9_29 ha1.1 rfl dX9_copyFrom_2 ?_
  refine BT.putI fl_X9_29 ft_9_1 ha0.1 rfl dX9_copyFrom_5 ?_
  refine BT.topm (fun N1 f1 => ?_)
  refine BT.iconst (v := 0) dX9_copyFrom_8 (by decide) ?_
  refine BT.istore_n (L' := [(2, .int 0), (0, .ref a0), (1, .ref a1)]) dX9_copyFrom_9 rfl (by decide) rfl ?_
  refine BT.sub [1, 2, 0] rfl ?_
  exact (h N1 f1)
set_option maxRecDepth 4000 in
theorem k_X9_copyFrom_10 {G : GT} {K : Int32 → Mem → Prop} {M : Mem} {a0 : Nat} {a1 : Nat} {v2 : Int32} (ha0 : WorldC a0) (ha1 : WorldC a1) (h : ((M.1 a0 1) ≤ v2 → (∀ N3 : Mem, N3 = (m_c M (a1 + 42) 0 (a0 + 42) 0 8) → (∀ N4 : Mem, N4 = (m_i N3 a0 4 (N3.1 a1 4)) → B_X9_copyFrom G K 64 [(0, .ref a0), (1, .ref a1), (2, .int 0)] [] N4))) ∧ (¬ (M.1 a0 1) ≤ v2 → (vp_in v2 8) ∧ (vp_in v2 8) ∧ (((a0 + 2) + 5 * (Int32.toNatClampNeg v2)) + 4 < ((a1 + 2) + 5 * (Int32.toNatClampNeg v2)) ∨ ((a1 + 2) + 5 * (Int32.toNatClampNeg v2)) + 4 < ((a0 + 2) + 5 * (Int32.toNatClampNeg v2))) ∧ (M.1 ((a1 + 2) + 5 * (Int32.toNatClampNeg v2)) 10 = 0 ∨ M.1 ((a1 + 2) + 5 * (Int32.toNatClampNeg v2)) 10 = 1) ∧ (∀ N5 : Mem, ((∀ d, ¬ (((a0 + 2) + 5 * (Int32.toNatClampNeg v2)) ≤ d ∧ d ≤ ((a0 + 2) + 5 * (Int32.toNatClampNeg v2)) + 4) → N5.1 d = M.1 d) ∧ TxEq N5.1 ((a0 + 2) + 5 * (Int32.toNatClampNeg v2)) M.1 ((a1 + 2) + 5 * (Int32.toNatClampNeg v2)) ∧ (N5.1 ((a0 + 2) + 5 * (Int32.toNatClampNeg v2)) 0 = M.1 ((a1 + 2) + 5 * (Int32.toNatClampNeg v2)) 0 ∧ N5.1 ((a0 + 2) + 5 * (Int32.toNatClampNeg v2)) 1 = M.1 ((a1 + 2) + 5 * (Int32.toNatClampNeg v2)) 1) ∧ N5.2 = M.2) → B_X9_copyFrom G K 10 [(0, .ref a0), (1, .ref a1), (2, .int (v2 + 1))] [] N5))) : B_X9_copyFrom G K 10 [(0, .ref a0), (1, .ref a1), (2, .int v2)] [] M := by
  refine BT.iload_n dX9_copyFrom_10 rfl 2 rfl ?_
  refine BT.aload_n dX9_copyFrom_11 rfl 0 rfl ?_
  refine BT.getI fl_X9_29 ha0.1 rfl dX9_copyFrom_12 ?_
  refine BT.icmp_ge (tgt := 39) dX9_copyFrom_15 (by decide) (fun c => ?_) (fun c => ?_)
  · have c1 := c
    refine BT.aload_n dX9_copyFrom_39 rfl 1 rfl ?_
    refine BT.getR (r := (a1 + 42)) fl_X9_18 ha1.1 rfl dX9_copyFrom_40 ?_
    refine BT.iconst (v := 0) dX9_copyFrom_43 (by decide) ?_
    refine BT.aload_n dX9_copyFrom_44 rfl 0 rfl ?_
    refine BT.getR (r := (a0 + 42)) fl_X9_18 ha0.1 rfl dX9_copyFrom_45 ?_
    refine BT.iconst (v := 0) dX9_copyFrom_48 (by decide) ?_
    refine BT.bipush (v := 8) dX9_copyFrom_49 (by decide) ?_
    refine BT.acopy lk_X9_67 ac_1 ac_2 ac_3 ha1.2.2.2.1 ha0.2.2.2.1 (by decide) (by decide) (by decide) (by decide) (by decide) (Nat.le_of_ble_eq_true rfl) (by decide) (by decide) dX9_copyFrom_51 ?_
    refine BT.topm (fun N3 f3 => ?_)
    refine BT.aload_n dX9_copyFrom_54 rfl 0 rfl ?_
    refine BT.aload_n dX9_copyFrom_55 rfl 1 rfl ?_
    refine BT.getI fl_X9_33 ha1.1 rfl dX9_copyFrom_56 ?_
    refine BT.putI fl_X9_33 ft_9_4 ha0.1 rfl dX9_copyFrom_59 ?_
    refine BT.topm (fun N4 f4 => ?_)
    refine BT.iconst (v := 0) dX9_copyFrom_62 (by decide) ?_
    refine BT.istore_n (L' := [(2, .int 0), (0, .ref a0), (1, .ref a1)]) dX9_copyFrom_63 rfl (by decide) rfl ?_
    refine BT.sub [1, 2, 0] rfl ?_
    exact (((h.1 c1) N3 f3) N4 f4)
  · have c2 := c
    refine BT.aload_n dX9_copyFrom_18 rfl 0 rfl ?_
    refine BT.getR (r := (a0 + 1)) fl_X9_11 ha0.1 rfl dX9_copyFrom_19 ?_
    refine BT.iload_n dX9_copyFrom_22 rfl 2 rfl ?_
    refine BT.aald ha0.2.1 (by decide) (h.2 c2).1 dX9_copyFrom_23 ?_
    refine BT.aload_n dX9_copyFrom_24 rfl 1 rfl ?_
    refine BT.getR (r := (a1 + 1)) fl_X9_11 ha1.1 rfl dX9_copyFrom_25 ?_
    refine BT.iload_n dX9_copyFrom_28 rfl 2 rfl ?_
    refine BT.aald ha1.2.1 (by decide) (h.2 c2).2.1 dX9_copyFrom_29 ?_
    refine BT.mcVvp [.ref ((a1 + 2) + 5 * (Int32.toNatClampNeg v2))] (t_X3_copyFrom (ha0.2.2.1 (h.2 c2).1) (ha1.2.2.1 (h.2 c2).2.1) (h.2 c2).2.2.1 (h.2 c2).2.2.2.1 (fun N hN => ⟨rfl, hN⟩)) mb_X3_copyFrom mv_X3_copyFrom lk_X9_64 rfl (by decide) rfl (recvRep (ha0.2.2.1 (h.2 c2).1).1 rfl) (Nat.le_of_ble_eq_true rfl) dX9_copyFrom_30 (P := fun N5 => (∀ d, ¬ (((a0 + 2) + 5 * (Int32.toNatClampNeg v2)) ≤ d ∧ d ≤ ((a0 + 2) + 5 * (Int32.toNatClampNeg v2)) + 4) → N5.1 d = M.1 d) ∧ TxEq N5.1 ((a0 + 2) + 5 * (Int32.toNatClampNeg v2)) M.1 ((a1 + 2) + 5 * (Int32.toNatClampNeg v2)) ∧ (N5.1 ((a0 + 2) + 5 * (Int32.toNatClampNeg v2)) 0 = M.1 ((a1 + 2) + 5 * (Int32.toNatClampNeg v2)) 0 ∧ N5.1 ((a0 + 2) + 5 * (Int32.toNatClampNeg v2)) 1 = M.1 ((a1 + 2) + 5 * (Int32.toNatClampNeg v2)) 1) ∧ N5.2 = M.2) (fun N5 g5 => ?_)
    show B_X9_copyFrom G K 33 [(0, .ref a0), (1, .ref a1), (2, .int v2)] [] N5
    refine BT.iinc (j := 2) (v := (v2 + 1)) (L' := [(2, .int (v2 + 1)), (0, .ref a0), (1, .ref a1)]) dX9_copyFrom_33 rfl rfl (by decide) rfl ?_
    refine BT.goto (tgt := 10) dX9_copyFrom_36 (by decide) ?_
    refine BT.sub [1, 2, 0] rfl ?_
    exact ((h.2 c2).2.2.2.2 N5 g5)
set_option maxRecDepth 4000 in
theorem k_X9_copyFrom_64 {G : GT} {K : Int32 → Mem → Prop} {M : Mem} {a0 : Nat} {a1 : Nat} {v2 : Int32} (ha0 : WorldC a0) (ha1 : WorldC a1) (h : ((M.1 a0 4) ≤ v2 → (∀ N3 : Mem, N3 = (m_i M a0 5 (M.1 a1 5)) → (∀ N4 : Mem, N4 = (m_i N3 a0 6 (N3.1 a1 6)) → (∀ N5 : Mem, N5 = (m_i N4 a0 7 (N4.1 a1 7)) → K 0 N5)))) ∧ (¬ (M.1 a0 4) ≤ v2 → (vp_in v2 8) ∧ (vp_in v2 8) ∧ (¬ ((a1 + 44) + (Int32.toNatClampNeg v2)) = ((a0 + 44) + (Int32.toNatClampNeg v2))) ∧ (∀ N6 : Mem, (PcN M N6 ((a0 + 44) + (Int32.toNatClampNeg v2)) ((a1 + 44) + (Int32.toNatClampNeg v2))) → B_X9_copyFrom G K 64 [(0, .ref a0), (1, .ref a1), (2, .int (v2 + 1))] [] N6))) : B_X9_copyFrom G K 64 [(0, .ref a0), (1, .ref a1), (2, .int v2)] [] M := by
  refine BT.iload_n dX9_copyFrom_64 rfl 2 rfl ?_
  refine BT.aload_n dX9_copyFrom_65 rfl 0 rfl ?_
  refine BT.getI fl_X9_33 ha0.1 rfl dX9_copyFrom_66 ?_
  refine BT.icmp_ge (tgt := 93) dX9_copyFrom_69 (by decide) (fun c => ?_) (fun c => ?_)
  · have c1 := c
    refine BT.aload_n dX9_copyFrom_93 rfl 0 rfl ?_
    refine BT.aload_n dX9_copyFrom_94 rfl 1 rfl ?_
    refine BT.getI fl_X9_76 ha1.1 rfl dX9_copyFrom_95 ?_
    refine BT.putI fl_X9_76 ft_9_5 ha0.1 rfl dX9_copyFrom_98 ?_
    refine BT.topm (fun N3 f3 => ?_)
    refine BT.aload_n dX9_copyFrom_101 rfl 0 rfl ?_
    refine BT.aload_n dX9_copyFrom_102 rfl 1 rfl ?_
    refine BT.getI fl_X9_79 ha1.1 rfl dX9_copyFrom_103 ?_
    refine BT.putI fl_X9_79 ft_9_6 ha0.1 rfl dX9_copyFrom_106 ?_
    refine BT.topm (fun N4 f4 => ?_)
    refine BT.aload_n dX9_copyFrom_109 rfl 0 rfl ?_
    refine BT.aload_n dX9_copyFrom_110 rfl 1 rfl ?_
    refine BT.getI fl_X9_82 ha1.1 rfl dX9_copyFrom_111 ?_
    refine BT.putI fl_X9_82 ft_9_7 ha0.1 rfl dX9_copyFrom_114 ?_
    refine BT.topm (fun N5 f5 => ?_)
    exact BT.vret dX9_copyFrom_117 rfl (by decide) (by decide) ((((h.1 c1) N3 f3) N4 f4) N5 f5)
  · have c2 := c
    refine BT.aload_n dX9_copyFrom_72 rfl 0 rfl ?_
    refine BT.getR (r := (a0 + 43)) fl_X9_24 ha0.1 rfl dX9_copyFrom_73 ?_
    refine BT.iload_n dX9_copyFrom_76 rfl 2 rfl ?_
    refine BT.aald1 ha0.2.2.2.2.1 (by decide) (h.2 c2).1 dX9_copyFrom_77 ?_
    refine BT.aload_n dX9_copyFrom_78 rfl 1 rfl ?_
    refine BT.getR (r := (a1 + 43)) fl_X9_24 ha1.1 rfl dX9_copyFrom_79 ?_
    refine BT.iload_n dX9_copyFrom_82 rfl 2 rfl ?_
    refine BT.aald1 ha1.2.2.2.2.1 (by decide) (h.2 c2).2.1 dX9_copyFrom_83 ?_
    refine BT.mcVvp [.ref ((a1 + 44) + (Int32.toNatClampNeg v2))] (t_X6_copyFrom (ha0.2.2.2.2.2 (h.2 c2).1) (ha1.2.2.2.2.2 (h.2 c2).2.1) (h.2 c2).2.2.1 (fun N hN => ⟨rfl, hN⟩)) mb_X6_copyFrom mv_X6_copyFrom lk_X9_73 rfl (by decide) rfl (recvRep (ha0.2.2.2.2.2 (h.2 c2).1) rfl) (Nat.le_of_ble_eq_true rfl) dX9_copyFrom_84 (P := fun N6 => PcN M N6 ((a0 + 44) + (Int32.toNatClampNeg v2)) ((a1 + 44) + (Int32.toNatClampNeg v2))) (fun N6 g6 => ?_)
    show B_X9_copyFrom G K 87 [(0, .ref a0), (1, .ref a1), (2, .int v2)] [] N6
    refine BT.iinc (j := 2) (v := (v2 + 1)) (L' := [(2, .int (v2 + 1)), (0, .ref a0), (1, .ref a1)]) dX9_copyFrom_87 rfl rfl (by decide) rfl ?_
    refine BT.goto (tgt := 64) dX9_copyFrom_90 (by decide) ?_
    refine BT.sub [1, 2, 0] rfl ?_
    exact ((h.2 c2).2.2.2 N6 g6)

theorem t_X9_copyFrom {G : GT} {K : Int32 → Mem → Prop} {M : Mem} {a0 a1 : Nat} (ha0 : WorldC a0) (ha1 : WorldC a1) (hd : a0 + 52 ≤ a1 ∨ a1 + 52 ≤ a0) (hex : ∃ n p, n ≤ 8 ∧ p ≤ 8 ∧ M.1 a1 1 = nI n ∧ M.1 a1 4 = nI p ∧ ∀ l, l < n → M.1 ((a1 + 2) + 5 * l) 10 = 0 ∨ M.1 ((a1 + 2) + 5 * l) 10 = 1) (h : ∀ N, WdN M N a0 a1 (Int32.toNatClampNeg (M.1 a1 1)) (Int32.toNatClampNeg (M.1 a1 4)) → K 0 N) : T_X9_copyFrom G [.ref a0, .ref a1] M K := by
  obtain ⟨n, p, hn8, hp8, en, ep, h01⟩ := hex
  rw [en, ep, ix_nI (by omega), ix_nI (by omega)] at h
  refine e_X9_copyFrom (k_X9_copyFrom_0 ha0 ha1 (fun N1 g1 => ?_))
  -- the first loop: laws
  have src : ∀ N : Mem, (∀ d, ¬ (a0 ≤ d ∧ d < a0 + 52) → N.1 d = M.1 d) → ∀ d, a1 ≤ d → d < a1 + 52 → N.1 d = M.1 d := fun N hN d h1 h2 => hN d (by omega)
  refine up_loop (P := fun j => ∀ N : Mem, ((∀ d, ¬ (a0 ≤ d ∧ d < a0 + 52) → N.1 d = M.1 d) ∧ N.2 = M.2 ∧ N.1 a0 1 = M.1 a1 1 ∧ ∀ l, l < j → TxEq N.1 ((a0 + 2) + 5 * l) M.1 ((a1 + 2) + 5 * l) ∧ N.1 ((a0 + 2) + 5 * l) 0 = M.1 ((a1 + 2) + 5 * l) 0 ∧ N.1 ((a0 + 2) + 5 * l) 1 = M.1 ((a1 + 2) + 5 * l) 1) → B_X9_copyFrom G K 10 [(0, .ref a0), (1, .ref a1), (2, .int (nI j))] [] N) n (fun N hN => ?_) (fun j hj ih N hN => ?_) 0 (Nat.zero_le _) N1 ⟨fun d hd2 => by rw [g1, mi_off (by omega)], by rw [g1]; rfl, by rw [g1, m_i_at], fun l hl => absurd hl (Nat.not_lt_zero l)⟩
  · obtain ⟨s1, s2, s3, s4⟩ := hN
    refine k_X9_copyFrom_10 ha0 ha1 ⟨fun _ N3 g3 N4 g4 => ?_, fun c => ?_⟩
    · have b3 : ∀ d, ¬ d = a0 + 42 → N3.1 d = N.1 d := fun d hd2 => by rw [g3, m_c_off hd2]
      have b4 : ∀ d, ¬ d = a0 + 42 → ¬ d = a0 → N4.1 d = N.1 d := fun d h1 h2 => by rw [g4, mi_off h2, b3 d h1]
      have lf : ∀ i, i < 8 → N4.1 (a0 + 42) i = M.1 (a1 + 42) i := fun i hi => by rw [g4, mi_off (by omega), g3, m_c_at0 hi, s1 (a1 + 42) (by omega)]
      have e44 : N4.1 a0 4 = M.1 a1 4 := by rw [g4, m_i_at, b3 a1 (by omega), s1 a1 (by omega)]
      -- the second loop: pieces
      refine up_loop (P := fun j => ∀ N : Mem, ((∀ d, ¬ (a0 + 44 ≤ d ∧ d < a0 + 52) → N.1 d = N4.1 d) ∧ N.2 = M.2 ∧ ∀ q, q < j → ∀ k, k < 5 → N.1 ((a0 + 44) + q) k = M.1 ((a1 + 44) + q) k) → B_X9_copyFrom G K 64 [(0, .ref a0), (1, .ref a1), (2, .int (nI j))] [] N) p (fun N5 hN5 => ?_) (fun j hj ih N5 hN5 => ?_) 0 (Nat.zero_le _) N4 ⟨fun _ _ => rfl, by rw [g4, g3]; exact s2, fun q hq => absurd hq (Nat.not_lt_zero q)⟩
      · obtain ⟨u1, u2, u3⟩ := hN5
        refine k_X9_copyFrom_64 ha0 ha1 ⟨fun _ N6 g6 N7 g7 N8 g8 => ?_, fun c => ?_⟩
        · have v1 : ∀ d, ¬ d = a0 → N8.1 d = N5.1 d := fun d hd2 => by rw [g8, mi_off hd2, g7, mi_off hd2, g6, mi_off hd2]
          have vs : N5.1 a1 = M.1 a1 := by rw [u1 a1 (by omega), b4 a1 (by omega) (by omega), s1 a1 (by omega)]
          have v2 : ∀ k, k < 5 → N8.1 a0 k = N5.1 a0 k := fun k hk => by rw [g8, m_i_ne (by omega), g7, m_i_ne (by omega), g6, m_i_ne (by omega)]
          refine h N8 ⟨fun d hd2 => ?_, by rw [g8, g7, g6]; exact u2, ?_, ?_, ?_, ?_, ?_, fun i hi => ?_, fun l hl => ?_, fun q hq k hk => ?_⟩
          · rw [v1 d (by omega), u1 d (by omega), b4 d (by omega) (by omega), s1 d (by omega)]
          · rw [v2 1 (by decide), u1 a0 (by omega), g4, m_i_ne (by omega), b3 a0 (by omega), s3]
          · rw [v2 4 (by decide), u1 a0 (by omega), e44]
          · rw [g8, m_i_ne (by omega), g7, m_i_ne (by omega), g6, m_i_at, vs]
          · rw [g8, m_i_ne (by omega), g7, m_i_at, g6, mi_off (by omega), vs]
          · rw [g8, m_i_at, g7, mi_off (by omega), g6, mi_off (by omega), vs]
          · rw [v1 (a0 + 42) (by omega), u1 (a0 + 42) (by omega), lf i hi]
          · have hc : ∀ d, (a0 + 2) + 5 * l ≤ d → d ≤ (a0 + 2) + 5 * l + 4 → N8.1 d = N.1 d := fun d h1 h2 => by rw [v1 d (by omega), u1 d (by omega), b4 d (by omega) (by omega)]
            obtain ⟨w1, w2, w3⟩ := s4 l hl
            exact ⟨TxEq_congr w1 hc, by rw [hc _ (by omega) (by omega)]; exact w2, by rw [hc _ (by omega) (by omega)]; exact w3⟩
          · rw [v1 _ (by omega)]
            exact u3 q hq k hk
        · rw [u1 a0 (by omega), e44, ep] at c
          exact absurd (Int32.le_refl _) c
      · obtain ⟨u1, u2, u3⟩ := hN5
        refine k_X9_copyFrom_64 ha0 ha1 ?_
        simp only [ix_nI (show j < 2 ^ 31 by omega), nI_1]
        refine ⟨fun c => ?_, fun _ => ⟨vp_nI (by omega) (by decide), vp_nI (by omega) (by decide), by omega, fun N6 g6 => ih N6 ⟨fun d hd2 => ?_, g6.2.2.trans u2, fun q hq k hk => ?_⟩⟩⟩
        · rw [u1 a0 (by omega), e44, ep, nI_leI (by omega) (by omega)] at c
          omega
        · rw [g6.1 d (by omega), u1 d hd2]
        · rcases Nat.lt_succ_iff_lt_or_eq.mp hq with z | rfl
          · rw [g6.1 _ (by omega)]; exact u3 q z k hk
          · rw [g6.2.1 k hk, u1 _ (by omega), b4 _ (by omega) (by omega), s1 _ (by omega)]
    · rw [s3, en] at c
      exact absurd (Int32.le_refl _) c
  · obtain ⟨s1, s2, s3, s4⟩ := hN
    refine k_X9_copyFrom_10 ha0 ha1 ?_
    simp only [ix_nI (show j < 2 ^ 31 by omega), nI_1]
    refine ⟨fun c => ?_, fun _ => ⟨vp_nI (by omega) (by decide), vp_nI (by omega) (by decide), by omega, by rw [s1 _ (by omega)]; exact h01 j hj, fun N5 g5 => ih N5 ?_⟩⟩
    · rw [s3, en, nI_leI (by omega) (by omega)] at c
      omega
    · obtain ⟨t1, t2, t3, t4⟩ := g5
      refine ⟨fun d hd2 => (t1 d (by omega)).trans (s1 d hd2), t4.trans s2, by rw [t1 a0 (by omega), s3], fun l hl => ?_⟩
      rcases Nat.lt_succ_iff_lt_or_eq.mp hl with z | rfl
      · obtain ⟨w1, w2, w3⟩ := s4 l z
        have hc : ∀ d, (a0 + 2) + 5 * l ≤ d → d ≤ (a0 + 2) + 5 * l + 4 → N5.1 d = N.1 d := fun d h1 h2 => t1 d (by omega)
        exact ⟨TxEq_congr w1 hc, by rw [hc _ (by omega) (by omega)]; exact w2, by rw [hc _ (by omega) (by omega)]; exact w3⟩
      · exact ⟨TxEq_congr2 t2 (fun d h1 h2 => (s1 d (by omega)).symm), by rw [t3.1, s1 _ (by omega)], by rw [t3.2, s1 _ (by omega)]⟩

