/-! ===== 20.laws ===== -/
/-- the text of the law V c is that of the law W o -/
def TxEq (V : WT) (c : Nat) (W : WT) (o : Nat) : Prop :=
  (V c 2 = W o 2 ∧ V c 7 = W o 7 ∧ V c 8 = W o 8 ∧ V c 9 = W o 9 ∧ V c 10 = W o 10 ∧ V c 11 = W o 11 ∧ V c 12 = W o 12 ∧ V c 13 = W o 13 ∧ V c 14 = W o 14) ∧ (∀ i, i < 6 → V (c + 1) i = W (o + 1) i ∧ V (c + 2) i = W (o + 2) i) ∧ (∀ i, i < 32 → V (c + 3) i = W (o + 3) i ∧ V (c + 4) i = W (o + 4) i)
/-- N is M, but for the law c, whose text is now that of o -/
def TkN (M N : Mem) (c o : Nat) : Prop := (∀ d, ¬ (c ≤ d ∧ d ≤ c + 4) → N.1 d = M.1 d) ∧ TxEq N.1 c M.1 o ∧ (N.1 c 0 = M.1 c 0 ∧ N.1 c 1 = M.1 c 1) ∧ N.2 = M.2
theorem m_c_off {M : Mem} {a sp d dp n i : Nat} (h : ¬ i = d) : (m_c M a sp d dp n).1 i = M.1 i := by
  funext j
  exact if_neg (fun q => h q.1)
theorem m_c_at0 {M : Mem} {a d n j : Nat} (h : j < n) : (m_c M a 0 d 0 n).1 d j = M.1 a j := by
  have e : (m_c M a 0 d 0 n).1 d j = M.1 a (0 + (j - 0)) := if_pos ⟨rfl, Nat.zero_le _, by omega⟩
  rw [e, Nat.sub_zero, Nat.zero_add]
/-- like TkN, of a piece -/
def PcN (M N : Mem) (c o : Nat) : Prop := (∀ d, ¬ d = c → N.1 d = M.1 d) ∧ (∀ k, k < 5 → N.1 c k = M.1 o k) ∧ N.2 = M.2

/-! BetweenLaws$Law.takeText(LBetweenLaws$Law;)V -/
abbrev rm_X3_takeText : Room := { frames := 1, cells := 0, slots := 0, locals := 26 }
abbrev B_X3_takeText (G : GT) (K : Int32 → Mem → Prop) := BT G (Rep G) RX3 "takeText" cX3_takeText 2 none rm_X3_takeText K 0 0
abbrev T_X3_takeText (G : GT) (as : List Value) (M : Mem) (K : Int32 → Mem → Prop) : Prop := MT G (Rep G) yX3_takeText cX3_takeText 2 none rm_X3_takeText as M K
theorem e_X3_takeText {G : GT} {K : Int32 → Mem → Prop} {M : Mem} {a0 : Nat} {a1 : Nat} (h : B_X3_takeText G K 0 [(0, .ref a0), (1, .ref a1)] [] M) : T_X3_takeText G [.ref a0, .ref a1] M K := MT.of (by decide +kernel) rfl rfl (Nat.le_of_ble_eq_true rfl) rfl h
set_option maxRecDepth 4000 in
theorem k_X3_takeText_0 {G : GT} {K : Int32 → Mem → Prop} {M : Mem} {a0 : Nat} {a1 : Nat} (ha0 : LawC a0) (ha1 : LawC a1) (h : (∀ N1 : Mem, N1 = (m_i M a0 2 (M.1 a1 2)) → (∀ N2 : Mem, N2 = (m_c N1 (a1 + 1) 0 (a0 + 1) 0 6) → (∀ N3 : Mem, N3 = (m_c N2 (a1 + 2) 0 (a0 + 2) 0 6) → (∀ N4 : Mem, N4 = (m_c N3 (a1 + 3) 0 (a0 + 3) 0 32) → (∀ N5 : Mem, N5 = (m_c N4 (a1 + 4) 0 (a0 + 4) 0 32) → (∀ N6 : Mem, N6 = (m_i N5 a0 7 (N5.1 a1 7)) → (∀ N7 : Mem, N7 = (m_i N6 a0 8 (N6.1 a1 8)) → (∀ N8 : Mem, N8 = (m_i N7 a0 9 (N7.1 a1 9)) → ((N8.1 a1 10) = 0 ∨ (N8.1 a1 10) = 1) ∧ (∀ N9 : Mem, N9 = (m_i N8 a0 10 (N8.1 a1 10)) → (∀ N10 : Mem, N10 = (m_i N9 a0 11 (N9.1 a1 11)) → (∀ N11 : Mem, N11 = (m_i N10 a0 12 (N10.1 a1 12)) → (∀ N12 : Mem, N12 = (m_i N11 a0 13 (N11.1 a1 13)) → (∀ N13 : Mem, N13 = (m_i N12 a0 14 (N12.1 a1 14)) → K 0 N13)))))))))))))) : B_X3_takeText G K 0 [(0, .ref a0), (1, .ref a1)] [] M := by
  refine BT.aload_n dX3_takeText_0 rfl 0 rfl ?_
  refine BT.aload_n dX3_takeText_1 rfl 1 rfl ?_
  refine BT.getI fl_X3_24 ha1.1 rfl dX3_takeText_2 ?_
  refine BT.putI fl_X3_24 ft_3_2 ha0.1 rfl dX3_takeText_5 ?_
  refine BT.topm (fun N1 f1 => ?_)
  refine BT.aload_n dX3_takeText_8 rfl 1 rfl ?_
  refine BT.getR (r := (a1 + 1)) fl_X3_9 ha1.1 rfl dX3_takeText_9 ?_
  refine BT.iconst (v := 0) dX3_takeText_12 (by decide) ?_
  refine BT.aload_n dX3_takeText_13 rfl 0 rfl ?_
  refine BT.getR (r := (a0 + 1)) fl_X3_9 ha0.1 rfl dX3_takeText_14 ?_
  refine BT.iconst (v := 0) dX3_takeText_17 (by decide) ?_
  refine BT.bipush (v := 6) dX3_takeText_18 (by decide) ?_
  refine BT.acopy lk_X3_62 ac_1 ac_2 ac_3 ha1.2.1 ha0.2.1 (by decide) (by decide) (by decide) (by decide) (by decide) (Nat.le_of_ble_eq_true rfl) (by decide) (by decide) dX3_takeText_20 ?_
  refine BT.topm (fun N2 f2 => ?_)
  refine BT.aload_n dX3_takeText_23 rfl 1 rfl ?_
  refine BT.getR (r := (a1 + 2)) fl_X3_15 ha1.1 rfl dX3_takeText_24 ?_
  refine BT.iconst (v := 0) dX3_takeText_27 (by decide) ?_
  refine BT.aload_n dX3_takeText_28 rfl 0 rfl ?_
  refine BT.getR (r := (a0 + 2)) fl_X3_15 ha0.1 rfl dX3_takeText_29 ?_
  refine BT.iconst (v := 0) dX3_takeText_32 (by decide) ?_
  refine BT.bipush (v := 6) dX3_takeText_33 (by decide) ?_
  refine BT.acopy lk_X3_62 ac_1 ac_2 ac_3 ha1.2.2.1 ha0.2.2.1 (by decide) (by decide) (by decide) (by decide) (by decide) (Nat.le_of_ble_eq_true rfl) (by decide) (by decide) dX3_takeText_35 ?_
  refine BT.topm (fun N3 f3 => ?_)
  refine BT.aload_n dX3_takeText_38 rfl 1 rfl ?_
  refine BT.getR (r := (a1 + 3)) fl_X3_18 ha1.1 rfl dX3_takeText_39 ?_
  refine BT.iconst (v := 0) dX3_takeText_42 (by decide) ?_
  refine BT.aload_n dX3_takeText_43 rfl 0 rfl ?_
  refine BT.getR (r := (a0 + 3)) fl_X3_18 ha0.1 rfl dX3_takeText_44 ?_
  refine BT.iconst (v := 0) dX3_takeText_47 (by decide) ?_
  refine BT.bipush (v := 32) dX3_takeText_48 (by decide) ?_
  refine BT.acopy lk_X3_62 ac_1 ac_2 ac_3 ha1.2.2.2.1 ha0.2.2.2.1 (by decide) (by decide) (by decide) (by decide) (by decide) (Nat.le_of_ble_eq_true rfl) (by decide) (by decide) dX3_takeText_50 ?_
  refine BT.topm (fun N4 f4 => ?_)
  refine BT.aload_n dX3_takeText_53 rfl 1 rfl ?_
  refine BT.getR (r := (a1 + 4)) fl_X3_21 ha1.1 rfl dX3_takeText_54 ?_
  refine BT.iconst (v := 0) dX3_takeText_57 (by decide) ?_
  refine BT.aload_n dX3_takeText_58 rfl 0 rfl ?_
  refine BT.getR (r := (a0 + 4)) fl_X3_21 ha0.1 rfl dX3_takeText_59 ?_
  refine BT.iconst (v := 0) dX3_takeText_62 (by decide) ?_
  refine BT.bipush (v := 32) dX3_takeText_63 (by decide) ?_
  refine BT.acopy lk_X3_62 ac_1 ac_2 ac_3 ha1.2.2.2.2 ha0.2.2.2.2 (by decide) (by decide) (by decide) (by decide) (by decide) (Nat.le_of_ble_eq_true rfl) (by decide) (by decide) dX3_takeText_65 ?_
  refine BT.topm (fun N5 f5 => ?_)
  refine BT.aload_n dX3_takeText_68 rfl 0 rfl ?_
  refine BT.aload_n dX3_takeText_69 rfl 1 rfl ?_
  refine BT.getI fl_X3_28 ha1.1 rfl dX3_takeText_70 ?_
  refine BT.putI fl_X3_28 ft_3_7 ha0.1 rfl dX3_takeText_73 ?_
  refine BT.topm (fun N6 f6 => ?_)
  refine BT.aload_n dX3_takeText_76 rfl 0 rfl ?_
  refine BT.aload_n dX3_takeText_77 rfl 1 rfl ?_
  refine BT.getI fl_X3_31 ha1.1 rfl dX3_takeText_78 ?_
  refine BT.putI fl_X3_31 ft_3_8 ha0.1 rfl dX3_takeText_81 ?_
  refine BT.topm (fun N7 f7 => ?_)
  refine BT.aload_n dX3_takeText_84 rfl 0 rfl ?_
  refine BT.aload_n dX3_takeText_85 rfl 1 rfl ?_
  refine BT.getI fl_X3_34 ha1.1 rfl dX3_takeText_86 ?_
  refine BT.putI fl_X3_34 ft_3_9 ha0.1 rfl dX3_takeText_89 ?_
  refine BT.topm (fun N8 f8 => ?_)
  refine BT.aload_n dX3_takeText_92 rfl 0 rfl ?_
  refine BT.aload_n dX3_takeText_93 rfl 1 rfl ?_
  refine BT.getI fl_X3_37 ha1.1 rfl dX3_takeText_94 ?_
  refine BT.putZ fl_X3_37 ft_3_10 ha0.1 rfl ((((((((h N1 f1) N2 f2) N3 f3) N4 f4) N5 f5) N6 f6) N7 f7) N8 f8).1 dX3_takeText_97 ?_
  refine BT.topm (fun N9 f9 => ?_)
  refine BT.aload_n dX3_takeText_100 rfl 0 rfl ?_
  refine BT.aload_n dX3_takeText_101 rfl 1 rfl ?_
  refine BT.getI fl_X3_41 ha1.1 rfl dX3_takeText_102 ?_
  refine BT.putI fl_X3_41 ft_3_11 ha0.1 rfl dX3_takeText_105 ?_
  refine BT.topm (fun N10 f10 => ?_)
  refine BT.aload_n dX3_takeText_108 rfl 0 rfl ?_
  refine BT.aload_n dX3_takeText_109 rfl 1 rfl ?_
  refine BT.getI fl_X3_44 ha1.1 rfl dX3_takeText_110 ?_
  refine BT.putI fl_X3_44 ft_3_12 ha0.1 rfl dX3_takeText_113 ?_
  refine BT.topm (fun N11 f11 => ?_)
  refine BT.aload_n dX3_takeText_116 rfl 0 rfl ?_
  refine BT.aload_n dX3_takeText_117 rfl 1 rfl ?_
  refine BT.getI fl_X3_47 ha1.1 rfl dX3_takeText_118 ?_
  refine BT.putI fl_X3_47 ft_3_13 ha0.1 rfl dX3_takeText_121 ?_
  refine BT.topm (fun N12 f12 => ?_)
  refine BT.aload_n dX3_takeText_124 rfl 0 rfl ?_
  refine BT.aload_n dX3_takeText_125 rfl 1 rfl ?_
  refine BT.getI fl_X3_50 ha1.1 rfl dX3_takeText_126 ?_
  refine BT.putI fl_X3_50 ft_3_14 ha0.1 rfl dX3_takeText_129 ?_
  refine BT.topm (fun N13 f13 => ?_)
  exact BT.vret dX3_takeText_132 rfl (by decide) (by decide) (((((((((((((h N1 f1) N2 f2) N3 f3) N4 f4) N5 f5) N6 f6) N7 f7) N8 f8).2 N9 f9) N10 f10) N11 f11) N12 f12) N13 f13)

theorem t_X3_takeText {G : GT} {K : Int32 → Mem → Prop} {M : Mem} {a0 a1 : Nat} (ha0 : LawC a0) (ha1 : LawC a1) (hd : a0 + 4 < a1 ∨ a1 + 4 < a0) (hz : M.1 a1 10 = 0 ∨ M.1 a1 10 = 1) (h : ∀ N, TkN M N a0 a1 → K 0 N) : T_X3_takeText G [.ref a0, .ref a1] M K := by
  have f00 : ¬ a1 = a0 := by omega
  have f01 : ¬ a1 = a0 + 1 := by omega
  have f02 : ¬ a1 = a0 + 2 := by omega
  have f03 : ¬ a1 = a0 + 3 := by omega
  have f04 : ¬ a1 = a0 + 4 := by omega
  have f10 : ¬ a1 + 1 = a0 := by omega
  have f11 : ¬ a1 + 1 = a0 + 1 := by omega
  have f12 : ¬ a1 + 1 = a0 + 2 := by omega
  have f13 : ¬ a1 + 1 = a0 + 3 := by omega
  have f14 : ¬ a1 + 1 = a0 + 4 := by omega
  have f20 : ¬ a1 + 2 = a0 := by omega
  have f21 : ¬ a1 + 2 = a0 + 1 := by omega
  have f22 : ¬ a1 + 2 = a0 + 2 := by omega
  have f23 : ¬ a1 + 2 = a0 + 3 := by omega
  have f24 : ¬ a1 + 2 = a0 + 4 := by omega
  have f30 : ¬ a1 + 3 = a0 := by omega
  have f31 : ¬ a1 + 3 = a0 + 1 := by omega
  have f32 : ¬ a1 + 3 = a0 + 2 := by omega
  have f33 : ¬ a1 + 3 = a0 + 3 := by omega
  have f34 : ¬ a1 + 3 = a0 + 4 := by omega
  have f40 : ¬ a1 + 4 = a0 := by omega
  have f41 : ¬ a1 + 4 = a0 + 1 := by omega
  have f42 : ¬ a1 + 4 = a0 + 2 := by omega
  have f43 : ¬ a1 + 4 = a0 + 3 := by omega
  have f44 : ¬ a1 + 4 = a0 + 4 := by omega
  refine e_X3_takeText (k_X3_takeText_0 ha0 ha1 ?_)
  intro N1 g1 N2 g2 N3 g3 N4 g4 N5 g5 N6 g6 N7 g7 N8 g8
  have q8 : N8.1 a1 10 = M.1 a1 10 := by
    rw [g8, m_i_ne (by omega), g7, m_i_ne (by omega), g6, m_i_ne (by omega), g5, m_c_off f04, g4, m_c_off f03, g3, m_c_off f02, g2, m_c_off f01, g1, m_i_ne (by omega)]
  refine ⟨by rw [q8]; exact hz, ?_⟩
  intro N9 g9 N10 g10 N11 g11 N12 g12 N13 g13
  -- the source stays
  have src : ∀ d, ¬ (a0 ≤ d ∧ d ≤ a0 + 4) → N1.1 d = M.1 d ∧ N2.1 d = M.1 d ∧ N3.1 d = M.1 d ∧ N4.1 d = M.1 d ∧ N5.1 d = M.1 d ∧ N6.1 d = M.1 d ∧ N7.1 d = M.1 d ∧ N8.1 d = M.1 d ∧ N9.1 d = M.1 d ∧ N10.1 d = M.1 d ∧ N11.1 d = M.1 d ∧ N12.1 d = M.1 d ∧ N13.1 d = M.1 d := by
    intro d hd2
    have b1 : N1.1 d = M.1 d := by rw [g1, mi_off (by omega)]
    have b2 : N2.1 d = M.1 d := by rw [g2, m_c_off (by omega), b1]
    have b3 : N3.1 d = M.1 d := by rw [g3, m_c_off (by omega), b2]
    have b4 : N4.1 d = M.1 d := by rw [g4, m_c_off (by omega), b3]
    have b5 : N5.1 d = M.1 d := by rw [g5, m_c_off (by omega), b4]
    have b6 : N6.1 d = M.1 d := by rw [g6, mi_off (by omega), b5]
    have b7 : N7.1 d = M.1 d := by rw [g7, mi_off (by omega), b6]
    have b8 : N8.1 d = M.1 d := by rw [g8, mi_off (by omega), b7]
    have b9 : N9.1 d = M.1 d := by rw [g9, mi_off (by omega), b8]
    have b10 : N10.1 d = M.1 d := by rw [g10, mi_off (by omega), b9]
    have b11 : N11.1 d = M.1 d := by rw [g11, mi_off (by omega), b10]
    have b12 : N12.1 d = M.1 d := by rw [g12, mi_off (by omega), b11]
    have b13 : N13.1 d = M.1 d := by rw [g13, mi_off (by omega), b12]
    exact ⟨b1, b2, b3, b4, b5, b6, b7, b8, b9, b10, b11, b12, b13⟩
  have s0 := src a1 (by omega)
  have hi : ∀ d, ¬ d = a0 → N13.1 d = N5.1 d := by
    intro d hd2
    rw [g13, mi_off hd2, g12, mi_off hd2, g11, mi_off hd2, g10, mi_off hd2, g9, mi_off hd2, g8, mi_off hd2, g7, mi_off hd2, g6, mi_off hd2]
  have lo : ∀ k, k < 7 → N13.1 a0 k = N1.1 a0 k := by
    intro k hk
    rw [g13, m_i_ne (by omega), g12, m_i_ne (by omega), g11, m_i_ne (by omega), g10, m_i_ne (by omega), g9, m_i_ne (by omega), g8, m_i_ne (by omega), g7, m_i_ne (by omega), g6, m_i_ne (by omega), g5, m_c_off (by omega), g4, m_c_off (by omega), g3, m_c_off (by omega), g2, m_c_off (by omega)]
  refine h N13 ⟨fun d hd2 => (src d hd2).2.2.2.2.2.2.2.2.2.2.2.2, ⟨⟨?_, ?_, ?_, ?_, ?_, ?_, ?_, ?_, ?_⟩, fun i hi6 => ⟨?_, ?_⟩, fun i hi32 => ⟨?_, ?_⟩⟩, ⟨?_, ?_⟩, ?_⟩
  · rw [lo 2 (by decide), g1, m_i_at]
  · rw [g13, m_i_ne (by omega), g12, m_i_ne (by omega), g11, m_i_ne (by omega), g10, m_i_ne (by omega), g9, m_i_ne (by omega), g8, m_i_ne (by omega), g7, m_i_ne (by omega), g6, m_i_at, s0.2.2.2.2.1]
  · rw [g13, m_i_ne (by omega), g12, m_i_ne (by omega), g11, m_i_ne (by omega), g10, m_i_ne (by omega), g9, m_i_ne (by omega), g8, m_i_ne (by omega), g7, m_i_at, s0.2.2.2.2.2.1]
  · rw [g13, m_i_ne (by omega), g12, m_i_ne (by omega), g11, m_i_ne (by omega), g10, m_i_ne (by omega), g9, m_i_ne (by omega), g8, m_i_at, s0.2.2.2.2.2.2.1]
  · rw [g13, m_i_ne (by omega), g12, m_i_ne (by omega), g11, m_i_ne (by omega), g10, m_i_ne (by omega), g9, m_i_at, s0.2.2.2.2.2.2.2.1]
  · rw [g13, m_i_ne (by omega), g12, m_i_ne (by omega), g11, m_i_ne (by omega), g10, m_i_at, s0.2.2.2.2.2.2.2.2.1]
  · rw [g13, m_i_ne (by omega), g12, m_i_ne (by omega), g11, m_i_at, s0.2.2.2.2.2.2.2.2.2.1]
  · rw [g13, m_i_ne (by omega), g12, m_i_at, s0.2.2.2.2.2.2.2.2.2.2.1]
  · rw [g13, m_i_at, s0.2.2.2.2.2.2.2.2.2.2.2.1]
  · rw [hi (a0 + 1) (by omega), g5, m_c_off (by omega), g4, m_c_off (by omega), g3, m_c_off (by omega), g2, m_c_at0 hi6, (src (a1 + 1) (by omega)).1]
  · rw [hi (a0 + 2) (by omega), g5, m_c_off (by omega), g4, m_c_off (by omega), g3, m_c_at0 hi6, (src (a1 + 2) (by omega)).2.1]
  · rw [hi (a0 + 3) (by omega), g5, m_c_off (by omega), g4, m_c_at0 hi32, (src (a1 + 3) (by omega)).2.2.1]
  · rw [hi (a0 + 4) (by omega), g5, m_c_at0 hi32, (src (a1 + 4) (by omega)).2.2.2.1]
  · rw [lo 0 (by decide), g1, m_i_ne (by omega)]
  · rw [lo 1 (by decide), g1, m_i_ne (by omega)]
  · subst g1 g2 g3 g4 g5 g6 g7 g8 g9 g10 g11 g12 g13
    rfl

/-! BetweenLaws$Law.copyFrom(LBetweenLaws$Law;)V -/
abbrev rm_X3_copyFrom : Room := { frames := 2, cells := 0, slots := 0, locals := 47 }
abbrev B_X3_copyFrom (G : GT) (K : Int32 → Mem → Prop) := BT G (Rep G) RX3 "copyFrom" cX3_copyFrom 2 none rm_X3_copyFrom K 0 0
abbrev T_X3_copyFrom (G : GT) (as : List Value) (M : Mem) (K : Int32 → Mem → Prop) : Prop := MT G (Rep G) yX3_copyFrom cX3_copyFrom 2 none rm_X3_copyFrom as M K
theorem e_X3_copyFrom {G : GT} {K : Int32 → Mem → Prop} {M : Mem} {a0 : Nat} {a1 : Nat} (h : B_X3_copyFrom G K 0 [(0, .ref a0), (1, .ref a1)] [] M) : T_X3_copyFrom G [.ref a0, .ref a1] M K := MT.of (by decide +kernel) rfl rfl (Nat.le_of_ble_eq_true rfl) rfl h
set_option maxRecDepth 4000 in
theorem k_X3_copyFrom_0 {G : GT} {K : Int32 → Mem → Prop} {M : Mem} {a0 : Nat} {a1 : Nat} (ha0 : LawC a0) (ha1 : LawC a1) (h : (a0 + 4 < a1 ∨ a1 + 4 < a0) ∧ (M.1 a1 10 = 0 ∨ M.1 a1 10 = 1) ∧ (∀ N1 : Mem, (TkN M N1 a0 a1) → (∀ N2 : Mem, N2 = (m_i N1 a0 0 (N1.1 a1 0)) → (∀ N3 : Mem, N3 = (m_i N2 a0 1 (N2.1 a1 1)) → K 0 N3)))) : B_X3_copyFrom G K 0 [(0, .ref a0), (1, .ref a1)] [] M := by
  refine BT.aload_n dX3_copyFrom_0 rfl 0 rfl ?_
  refine BT.aload_n dX3_copyFrom_1 rfl 1 rfl ?_
  refine BT.mcVvp [.ref a1] (t_X3_takeText ha0 ha1 h.1 h.2.1 (fun N hN => ⟨rfl, hN⟩)) mb_X3_takeText mv_X3_takeText lk_X3_68 rfl (by decide) rfl (recvRep ha0.1 rfl) (Nat.le_of_ble_eq_true rfl) dX3_copyFrom_2 (P := fun N1 => TkN M N1 a0 a1) (fun N1 g1 => ?_)
  show B_X3_copyFrom G K 5 [(0, .ref a0), (1, .ref a1)] [] N1
  refine BT.aload_n dX3_copyFrom_5 rfl 0 rfl ?_
  refine BT.aload_n dX3_copyFrom_6 rfl 1 rfl ?_
  refine BT.getI fl_X3_72 ha1.1 rfl dX3_copyFrom_7 ?_
  refine BT.putI fl_X3_72 ft_3_0 ha0.1 rfl dX3_copyFrom_10 ?_
  refine BT.topm (fun N2 f2 => ?_)
  refine BT.aload_n dX3_copyFrom_13 rfl 0 rfl ?_
  refine BT.aload_n dX3_copyFrom_14 rfl 1 rfl ?_
  refine BT.getI fl_X3_75 ha1.1 rfl dX3_copyFrom_15 ?_
  refine BT.putI fl_X3_75 ft_3_1 ha0.1 rfl dX3_copyFrom_18 ?_
  refine BT.topm (fun N3 f3 => ?_)
  exact BT.vret dX3_copyFrom_21 rfl (by decide) (by decide) (((h.2.2 N1 g1) N2 f2) N3 f3)

theorem t_X3_copyFrom {G : GT} {K : Int32 → Mem → Prop} {M : Mem} {a0 a1 : Nat} (ha0 : LawC a0) (ha1 : LawC a1) (hd : a0 + 4 < a1 ∨ a1 + 4 < a0) (hz : M.1 a1 10 = 0 ∨ M.1 a1 10 = 1) (h : ∀ N, ((∀ d, ¬ (a0 ≤ d ∧ d ≤ a0 + 4) → N.1 d = M.1 d) ∧ TxEq N.1 a0 M.1 a1 ∧ (N.1 a0 0 = M.1 a1 0 ∧ N.1 a0 1 = M.1 a1 1) ∧ N.2 = M.2) → K 0 N) : T_X3_copyFrom G [.ref a0, .ref a1] M K := by
  refine e_X3_copyFrom (k_X3_copyFrom_0 ha0 ha1 ⟨hd, hz, fun N1 g1 N2 g2 N3 g3 => ?_⟩)
  obtain ⟨t1, ⟨t2, t3, t4⟩, t5, t6⟩ := g1
  have e : ∀ d, ¬ d = a0 → N3.1 d = N1.1 d := fun d hd2 => by rw [g3, mi_off hd2, g2, mi_off hd2]
  have e2 : ∀ k, 2 ≤ k → N3.1 a0 k = N1.1 a0 k := fun k hk => by rw [g3, m_i_ne (by omega), g2, m_i_ne (by omega)]
  have s1 : N1.1 a1 = M.1 a1 := t1 a1 (by omega)
  refine h N3 ⟨fun d hd2 => (e d (by omega)).trans (t1 d hd2), ⟨?_, fun i hi => ?_, fun i hi => ?_⟩, ⟨?_, ?_⟩, ?_⟩
  · rw [e2 2 (by decide), e2 7 (by decide), e2 8 (by decide), e2 9 (by decide), e2 10 (by decide), e2 11 (by decide), e2 12 (by decide), e2 13 (by decide), e2 14 (by decide)]
    exact t2
  · rw [e (a0 + 1) (by omega), e (a0 + 2) (by omega)]
    exact t3 i hi
  · rw [e (a0 + 3) (by omega), e (a0 + 4) (by omega)]
    exact t4 i hi
  · rw [g3, m_i_ne (by omega), g2, m_i_at, s1]
  · rw [g3, m_i_at, g2, mi_off (by omega), s1]
  · rw [g3, g2]
    exact t6

/-! BetweenLaws$Piece.copyFrom(LBetweenLaws$Piece;)V -/
abbrev rm_X6_copyFrom : Room := { frames := 0, cells := 0, slots := 0, locals := 0 }
abbrev B_X6_copyFrom (G : GT) (K : Int32 → Mem → Prop) := BT G (Rep G) RX6 "copyFrom" cX6_copyFrom 2 none rm_X6_copyFrom K 0 0
abbrev T_X6_copyFrom (G : GT) (as : List Value) (M : Mem) (K : Int32 → Mem → Prop) : Prop := MT G (Rep G) yX6_copyFrom cX6_copyFrom 2 none rm_X6_copyFrom as M K
theorem e_X6_copyFrom {G : GT} {K : Int32 → Mem → Prop} {M : Mem} {a0 : Nat} {a1 : Nat} (h : B_X6_copyFrom G K 0 [(0, .ref a0), (1, .ref a1)] [] M) : T_X6_copyFrom G [.ref a0, .ref a1] M K := MT.of (by decide +kernel) rfl rfl (Nat.le_of_ble_eq_true rfl) rfl h
set_option maxRecDepth 4000 in
theorem k_X6_copyFrom_0 {G : GT} {K : Int32 → Mem → Prop} {M : Mem} {a0 : Nat} {a1 : Nat} (ha0 : PieceC a0) (ha1 : PieceC a1) (h : (∀ N1 : Mem, N1 = (m_i M a0 0 (M.1 a1 0)) → (∀ N2 : Mem, N2 = (m_i N1 a0 1 (N1.1 a1 1)) → (∀ N3 : Mem, N3 = (m_i N2 a0 2 (N2.1 a1 2)) → (∀ N4 : Mem, N4 = (m_i N3 a0 3 (N3.1 a1 3)) → (∀ N5 : Mem, N5 = (m_i N4 a0 4 (N4.1 a1 4)) → K 0 N5)))))) : B_X6_copyFrom G K 0 [(0, .ref a0), (1, .ref a1)] [] M := by
  refine BT.aload_n dX6_copyFrom_0 rfl 0 rfl ?_
  refine BT.aload_n dX6_copyFrom_1 rfl 1 rfl ?_
  refine BT.getI fl_X6_9 ha1 rfl dX6_copyFrom_2 ?_
  refine BT.putI fl_X6_9 ft_6_0 ha0 rfl dX6_copyFrom_5 ?_
  refine BT.topm (fun N1 f1 => ?_)
  refine BT.aload_n dX6_copyFrom_8 rfl 0 rfl ?_
  refine BT.aload_n dX6_copyFrom_9 rfl 1 rfl ?_
  refine BT.getI fl_X6_15 ha1 rfl dX6_copyFrom_10 ?_
  refine BT.putI fl_X6_15 ft_6_1 ha0 rfl dX6_copyFrom_13 ?_
  refine BT.topm (fun N2 f2 => ?_)
  refine BT.aload_n dX6_copyFrom_16 rfl 0 rfl ?_
  refine BT.aload_n dX6_copyFrom_17 rfl 1 rfl ?_
  refine BT.getI fl_X6_18 ha1 rfl dX6_copyFrom_18 ?_
  refine BT.putI fl_X6_18 ft_6_2 ha0 rfl dX6_copyFrom_21 ?_
  refine BT.topm (fun N3 f3 => ?_)
  refine BT.aload_n dX6_copyFrom_24 rfl 0 rfl ?_
  refine BT.aload_n dX6_copyFrom_25 rfl 1 rfl ?_
  refine BT.getI fl_X6_21 ha1 rfl dX6_copyFrom_26 ?_
  refine BT.putI fl_X6_21 ft_6_3 ha0 rfl dX6_copyFrom_29 ?_
  refine BT.topm (fun N4 f4 => ?_)
  refine BT.aload_n dX6_copyFrom_32 rfl 0 rfl ?_
  refine BT.aload_n dX6_copyFrom_33 rfl 1 rfl ?_
  refine BT.getI fl_X6_24 ha1 rfl dX6_copyFrom_34 ?_
  refine BT.putI fl_X6_24 ft_6_4 ha0 rfl dX6_copyFrom_37 ?_
  refine BT.topm (fun N5 f5 => ?_)
  exact BT.vret dX6_copyFrom_40 rfl (by decide) (by decide) (((((h N1 f1) N2 f2) N3 f3) N4 f4) N5 f5)

theorem t_X6_copyFrom {G : GT} {K : Int32 → Mem → Prop} {M : Mem} {a0 a1 : Nat} (ha0 : PieceC a0) (ha1 : PieceC a1) (hd : ¬ a1 = a0) (h : ∀ N, PcN M N a0 a1 → K 0 N) : T_X6_copyFrom G [.ref a0, .ref a1] M K := by
  refine e_X6_copyFrom (k_X6_copyFrom_0 ha0 ha1 ?_)
  intro N1 g1 N2 g2 N3 g3 N4 g4 N5 g5
  have src : ∀ d, ¬ d = a0 → N1.1 d = M.1 d ∧ N2.1 d = M.1 d ∧ N3.1 d = M.1 d ∧ N4.1 d = M.1 d ∧ N5.1 d = M.1 d := by
    intro d hd2
    have b1 : N1.1 d = M.1 d := by rw [g1, mi_off hd2]
    have b2 : N2.1 d = M.1 d := by rw [g2, mi_off hd2, b1]
    have b3 : N3.1 d = M.1 d := by rw [g3, mi_off hd2, b2]
    have b4 : N4.1 d = M.1 d := by rw [g4, mi_off hd2, b3]
    have b5 : N5.1 d = M.1 d := by rw [g5, mi_off hd2, b4]
    exact ⟨b1, b2, b3, b4, b5⟩
  have s0 := src a1 hd
  refine h N5 ⟨fun d hd2 => (src d hd2).2.2.2.2, fun k hk => ?_, ?_⟩
  · match k, hk with
    | 0, _ => rw [g5, m_i_ne (by omega), g4, m_i_ne (by omega), g3, m_i_ne (by omega), g2, m_i_ne (by omega), g1, m_i_at]
    | 1, _ => rw [g5, m_i_ne (by omega), g4, m_i_ne (by omega), g3, m_i_ne (by omega), g2, m_i_at, s0.1]
    | 2, _ => rw [g5, m_i_ne (by omega), g4, m_i_ne (by omega), g3, m_i_at, s0.2.1]
    | 3, _ => rw [g5, m_i_ne (by omega), g4, m_i_at, s0.2.2.1]
    | 4, _ => rw [g5, m_i_at, s0.2.2.2.1]
    | k + 5, h => exact absurd h (by omega)
  · subst g1 g2 g3 g4 g5
    rfl

