/-! ===== 52.change ===== -/
/-! BetweenLaws.change(III)I -/
abbrev rm_X10_change : Room := { frames := 2, cells := 0, slots := 0, locals := 42 }
abbrev B_X10_change (G : GT) (K : Int32 → Mem → Prop) := BT G (Rep G) RX10 "change" cX10_change 7 (some .int) rm_X10_change K 0 0
abbrev T_X10_change (G : GT) (as : List Value) (M : Mem) (K : Int32 → Mem → Prop) : Prop := MT G (Rep G) yX10_change cX10_change 7 (some .int) rm_X10_change as M K
theorem e_X10_change {G : GT} {K : Int32 → Mem → Prop} {M : Mem} {v1 : Int32} {v2 : Int32} {v3 : Int32} (h : B_X10_change G K 0 [(0, .ref 0), (1, .int v1), (2, .int v2), (3, .int v3)] [] M) : T_X10_change G [.ref 0, .int v1, .int v2, .int v3] M K := MT.of (by decide +kernel) rfl rfl (Nat.le_of_ble_eq_true rfl) rfl h
set_option maxRecDepth 4000 in
theorem k_X10_change_0 {G : GT} {K : Int32 → Mem → Prop} {M : Mem} {v1 : Int32} {v2 : Int32} {v3 : Int32} (h : (((0 : Int32) ≤ v1 ∧ v1 < (M.1 8 4)) → ((1 ≤ v2 ∧ v2 ≤ 3) → (vp_in v1 8) ∧ (¬ v2 = 3 → (v3 = (-1) → (¬ v3 = (-1) → (¬ v2 = 1 → K (M.1 (52 + (Int32.toNatClampNeg v1)) 2) (m_i M (52 + (Int32.toNatClampNeg v1)) 2 v3)) ∧ (v2 = 1 → K (M.1 (52 + (Int32.toNatClampNeg v1)) 1) (m_i M (52 + (Int32.toNatClampNeg v1)) 1 v3))) ∧ (v3 = (-1) → (¬ v2 = 1 → K (M.1 (52 + (Int32.toNatClampNeg v1)) 2) (m_i M (52 + (Int32.toNatClampNeg v1)) 2 (-6))) ∧ (v2 = 1 → K (M.1 (52 + (Int32.toNatClampNeg v1)) 1) (m_i M (52 + (Int32.toNatClampNeg v1)) 1 (-6))))) ∧ (¬ v3 = (-1) → (((M.1 (52 + (Int32.toNatClampNeg v1)) 0) ≤ v3 ∧ v3 ≤ 99) → (¬ v3 = (-1) → (¬ v2 = 1 → K (M.1 (52 + (Int32.toNatClampNeg v1)) 2) (m_i M (52 + (Int32.toNatClampNeg v1)) 2 v3)) ∧ (v2 = 1 → K (M.1 (52 + (Int32.toNatClampNeg v1)) 1) (m_i M (52 + (Int32.toNatClampNeg v1)) 1 v3))) ∧ (v3 = (-1) → (¬ v2 = 1 → K (M.1 (52 + (Int32.toNatClampNeg v1)) 2) (m_i M (52 + (Int32.toNatClampNeg v1)) 2 (-6))) ∧ (v2 = 1 → K (M.1 (52 + (Int32.toNatClampNeg v1)) 1) (m_i M (52 + (Int32.toNatClampNeg v1)) 1 (-6))))) ∧ (¬ ((M.1 (52 + (Int32.toNatClampNeg v1)) 0) ≤ v3 ∧ v3 ≤ 99) → K (-2) M))) ∧ (v2 = 3 → (((0 : Int32) ≤ v3 ∧ v3 ≤ 31) → K (M.1 (52 + (Int32.toNatClampNeg v1)) 3) (m_i M (52 + (Int32.toNatClampNeg v1)) 3 v3)) ∧ (¬ ((0 : Int32) ≤ v3 ∧ v3 ≤ 31) → K (-2) M))) ∧ (¬ (1 ≤ v2 ∧ v2 ≤ 3) → K (-2) M)) ∧ (¬ ((0 : Int32) ≤ v1 ∧ v1 < (M.1 8 4)) → K (-1) M)) : B_X10_change G K 0 [(0, .ref 0), (1, .int v1), (2, .int v2), (3, .int v3)] [] M := by
  refine BT.aload_n dX10_change_0 rfl 0 rfl ?_
  refine BT.getR (r := 8) fl_X10_26 ho_0 rfl dX10_change_1 ?_
  refine BT.iload_n dX10_change_4 rfl 1 rfl ?_
  refine BT.mcV [.int v1] (t_X9_hasPiece  ?_) mb_X9_hasPiece mv_X9_hasPiece lk_X10_186 rfl (by decide) rfl (recvRep ho_8 rfl) (Nat.le_of_ble_eq_true rfl) dX10_change_5
  show B_X10_change G K 8 [(0, .ref 0), (1, .int v1), (2, .int v2), (3, .int v3)] [.int (bi ((0 : Int32) ≤ v1 ∧ v1 < (M.1 8 4)))] M
  refine BT.if_ne (tgt := 13) dX10_change_8 (by decide) (fun c => ?_) (fun c => ?_)
  · have c2 := bi_ne0.mp c
    refine BT.iload_n dX10_change_13 rfl 2 rfl ?_
    refine BT.iconst (v := 1) dX10_change_14 (by decide) ?_
    refine BT.iconst (v := 3) dX10_change_15 (by decide) ?_
    refine BT.mcS [.int v2, .int 1, .int 3] (t_X10_within  ?_) mb_X10_within ms_X10_within lk_X10_82 rfl (by decide) rfl (Nat.le_of_ble_eq_true rfl) dX10_change_16
    show B_X10_change G K 19 [(0, .ref 0), (1, .int v1), (2, .int v2), (3, .int v3)] [.int (bi (1 ≤ v2 ∧ v2 ≤ 3))] M
    refine BT.if_ne (tgt := 25) dX10_change_19 (by decide) (fun c => ?_) (fun c => ?_)
    · have c5 := bi_ne0.mp c
      refine BT.aload_n dX10_change_25 rfl 0 rfl ?_
      refine BT.getR (r := 8) fl_X10_26 ho_0 rfl dX10_change_26 ?_
      refine BT.getR (r := 51) fl_X10_189 ho_8 rfl dX10_change_29 ?_
      refine BT.iload_n dX10_change_32 rfl 1 rfl ?_
      refine BT.aald1 ha_51 (by decide) ((h.1 c2).1 c5).1 dX10_change_33 ?_
      refine BT.astore (L' := [(4, .ref (52 + (Int32.toNatClampNeg v1))), (0, .ref 0), (1, .int v1), (2, .int v2), (3, .int v3)]) dX10_change_34 (by decide) rfl ?_
      refine BT.iload_n dX10_change_36 rfl 3 rfl ?_
      refine BT.iconst (v := 3) dX10_change_37 (by decide) ?_
      refine BT.icmp_ne (tgt := 67) dX10_change_38 (by decide) (fun c => ?_) (fun c => ?_)
      · have c7 := c
        refine BT.iload_n dX10_change_67 rfl 4 rfl ?_
        refine BT.iconst (v := (-1)) dX10_change_68 (by decide) ?_
        refine BT.icmp_eq (tgt := 89) dX10_change_69 (by decide) (fun c => ?_) (fun c => ?_)
        · have c9 := c
          refine BT.iload_n dX10_change_89 rfl 4 rfl ?_
          refine BT.iconst (v := (-1)) dX10_change_90 (by decide) ?_
          refine BT.icmp_ne (tgt := 99) dX10_change_91 (by decide) (fun c => ?_) (fun c => ?_)
          · have c11 := c
            refine BT.iload_n dX10_change_99 rfl 4 rfl ?_
            refine BT.istore (L' := [(6, .int v3), (4, .ref (52 + (Int32.toNatClampNeg v1))), (0, .ref 0), (1, .int v1), (2, .int v2), (3, .int v3)]) dX10_change_100 (by decide) rfl ?_
            refine BT.iload_n dX10_change_102 rfl 4 rfl ?_
            refine BT.iconst (v := 1) dX10_change_103 (by decide) ?_
            refine BT.icmp_ne (tgt := 124) dX10_change_104 (by decide) (fun c => ?_) (fun c => ?_)
            · have c13 := c
              refine BT.aload dX10_change_124 1 rfl ?_
              refine BT.getI fl_X10_201 (pieceC8 ((h.1 c2).1 c5).1) rfl dX10_change_126 ?_
              refine BT.istore (L' := [(5, .int (M.1 (52 + (Int32.toNatClampNeg v1)) 2)), (6, .int v3), (4, .ref (52 + (Int32.toNatClampNeg v1))), (0, .ref 0), (1, .int v1), (2, .int v2), (3, .int v3)]) dX10_change_129 (by decide) rfl ?_
              refine BT.aload dX10_change_131 2 rfl ?_
              refine BT.iload dX10_change_133 1 rfl ?_
              refine BT.putI fl_X10_201 ft_6_2 (pieceC8 ((h.1 c2).1 c5).1) rfl dX10_change_135 ?_
              refine BT.iload dX10_change_138 0 rfl ?_
              exact BT.iret dX10_change_140 rfl (by decide) (by decide) ((((((h.1 c2).1 c5).2.1 c7).1 c9).1 c11).1 c13)
            · have c14 := c
              refine BT.aload dX10_change_107 1 rfl ?_
              refine BT.getI fl_X10_198 (pieceC8 ((h.1 c2).1 c5).1) rfl dX10_change_109 ?_
              refine BT.istore (L' := [(5, .int (M.1 (52 + (Int32.toNatClampNeg v1)) 1)), (6, .int v3), (4, .ref (52 + (Int32.toNatClampNeg v1))), (0, .ref 0), (1, .int v1), (2, .int v2), (3, .int v3)]) dX10_change_112 (by decide) rfl ?_
              refine BT.aload dX10_change_114 2 rfl ?_
              refine BT.iload dX10_change_116 1 rfl ?_
              refine BT.putI fl_X10_198 ft_6_1 (pieceC8 ((h.1 c2).1 c5).1) rfl dX10_change_118 ?_
              refine BT.goto (tgt := 138) dX10_change_121 (by decide) ?_
              refine BT.iload dX10_change_138 0 rfl ?_
              exact BT.iret dX10_change_140 rfl (by decide) (by decide) ((((((h.1 c2).1 c5).2.1 c7).1 c9).1 c11).2 c14)
          · have c12 := c
            refine BT.bipush (v := (-6)) dX10_change_94 (by decide) ?_
            refine BT.goto (tgt := 100) dX10_change_96 (by decide) ?_
            refine BT.istore (L' := [(6, .int (-6)), (4, .ref (52 + (Int32.toNatClampNeg v1))), (0, .ref 0), (1, .int v1), (2, .int v2), (3, .int v3)]) dX10_change_100 (by decide) rfl ?_
            refine BT.iload_n dX10_change_102 rfl 4 rfl ?_
            refine BT.iconst (v := 1) dX10_change_103 (by decide) ?_
            refine BT.icmp_ne (tgt := 124) dX10_change_104 (by decide) (fun c => ?_) (fun c => ?_)
            · have c15 := c
              refine BT.aload dX10_change_124 1 rfl ?_
              refine BT.getI fl_X10_201 (pieceC8 ((h.1 c2).1 c5).1) rfl dX10_change_126 ?_
              refine BT.istore (L' := [(5, .int (M.1 (52 + (Int32.toNatClampNeg v1)) 2)), (6, .int (-6)), (4, .ref (52 + (Int32.toNatClampNeg v1))), (0, .ref 0), (1, .int v1), (2, .int v2), (3, .int v3)]) dX10_change_129 (by decide) rfl ?_
              refine BT.aload dX10_change_131 2 rfl ?_
              refine BT.iload dX10_change_133 1 rfl ?_
              refine BT.putI fl_X10_201 ft_6_2 (pieceC8 ((h.1 c2).1 c5).1) rfl dX10_change_135 ?_
              refine BT.iload dX10_change_138 0 rfl ?_
              exact BT.iret dX10_change_140 rfl (by decide) (by decide) ((((((h.1 c2).1 c5).2.1 c7).1 c9).2 c12).1 c15)
            · have c16 := c
              refine BT.aload dX10_change_107 1 rfl ?_
              refine BT.getI fl_X10_198 (pieceC8 ((h.1 c2).1 c5).1) rfl dX10_change_109 ?_
              refine BT.istore (L' := [(5, .int (M.1 (52 + (Int32.toNatClampNeg v1)) 1)), (6, .int (-6)), (4, .ref (52 + (Int32.toNatClampNeg v1))), (0, .ref 0), (1, .int v1), (2, .int v2), (3, .int v3)]) dX10_change_112 (by decide) rfl ?_
              refine BT.aload dX10_change_114 2 rfl ?_
              refine BT.iload dX10_change_116 1 rfl ?_
              refine BT.putI fl_X10_198 ft_6_1 (pieceC8 ((h.1 c2).1 c5).1) rfl dX10_change_118 ?_
              refine BT.goto (tgt := 138) dX10_change_121 (by decide) ?_
              refine BT.iload dX10_change_138 0 rfl ?_
              exact BT.iret dX10_change_140 rfl (by decide) (by decide) ((((((h.1 c2).1 c5).2.1 c7).1 c9).2 c12).2 c16)
        · have c10 := c
          refine BT.iload_n dX10_change_72 rfl 4 rfl ?_
          refine BT.aload dX10_change_73 0 rfl ?_
          refine BT.getI fl_X10_193 (pieceC8 ((h.1 c2).1 c5).1) rfl dX10_change_75 ?_
          refine BT.bipush (v := 99) dX10_change_78 (by decide) ?_
          refine BT.mcS [.int v3, .int (M.1 (52 + (Int32.toNatClampNeg v1)) 0), .int 99] (t_X10_within  ?_) mb_X10_within ms_X10_within lk_X10_82 rfl (by decide) rfl (Nat.le_of_ble_eq_true rfl) dX10_change_80
          show B_X10_change G K 83 [(4, .ref (52 + (Int32.toNatClampNeg v1))), (0, .ref 0), (1, .int v1), (2, .int v2), (3, .int v3)] [.int (bi ((M.1 (52 + (Int32.toNatClampNeg v1)) 0) ≤ v3 ∧ v3 ≤ 99))] M
          refine BT.if_ne (tgt := 89) dX10_change_83 (by decide) (fun c => ?_) (fun c => ?_)
          · have c18 := bi_ne0.mp c
            refine BT.iload_n dX10_change_89 rfl 4 rfl ?_
            refine BT.iconst (v := (-1)) dX10_change_90 (by decide) ?_
            refine BT.icmp_ne (tgt := 99) dX10_change_91 (by decide) (fun c => ?_) (fun c => ?_)
            · have c20 := c
              refine BT.iload_n dX10_change_99 rfl 4 rfl ?_
              refine BT.istore (L' := [(6, .int v3), (4, .ref (52 + (Int32.toNatClampNeg v1))), (0, .ref 0), (1, .int v1), (2, .int v2), (3, .int v3)]) dX10_change_100 (by decide) rfl ?_
              refine BT.iload_n dX10_change_102 rfl 4 rfl ?_
              refine BT.iconst (v := 1) dX10_change_103 (by decide) ?_
              refine BT.icmp_ne (tgt := 124) dX10_change_104 (by decide) (fun c => ?_) (fun c => ?_)
              · have c22 := c
                refine BT.aload dX10_change_124 1 rfl ?_
                refine BT.getI fl_X10_201 (pieceC8 ((h.1 c2).1 c5).1) rfl dX10_change_126 ?_
                refine BT.istore (L' := [(5, .int (M.1 (52 + (Int32.toNatClampNeg v1)) 2)), (6, .int v3), (4, .ref (52 + (Int32.toNatClampNeg v1))), (0, .ref 0), (1, .int v1), (2, .int v2), (3, .int v3)]) dX10_change_129 (by decide) rfl ?_
                refine BT.aload dX10_change_131 2 rfl ?_
                refine BT.iload dX10_change_133 1 rfl ?_
                refine BT.putI fl_X10_201 ft_6_2 (pieceC8 ((h.1 c2).1 c5).1) rfl dX10_change_135 ?_
                refine BT.iload dX10_change_138 0 rfl ?_
                exact BT.iret dX10_change_140 rfl (by decide) (by decide) (((((((h.1 c2).1 c5).2.1 c7).2 c10).1 c18).1 c20).1 c22)
              · have c23 := c
                refine BT.aload dX10_change_107 1 rfl ?_
                refine BT.getI fl_X10_198 (pieceC8 ((h.1 c2).1 c5).1) rfl dX10_change_109 ?_
                refine BT.istore (L' := [(5, .int (M.1 (52 + (Int32.toNatClampNeg v1)) 1)), (6, .int v3), (4, .ref (52 + (Int32.toNatClampNeg v1))), (0, .ref 0), (1, .int v1), (2, .int v2), (3, .int v3)]) dX10_change_112 (by decide) rfl ?_
                refine BT.aload dX10_change_114 2 rfl ?_
                refine BT.iload dX10_change_116 1 rfl ?_
                refine BT.putI fl_X10_198 ft_6_1 (pieceC8 ((h.1 c2).1 c5).1) rfl dX10_change_118 ?_
                refine BT.goto (tgt := 138) dX10_change_121 (by decide) ?_
                refine BT.iload dX10_change_138 0 rfl ?_
                exact BT.iret dX10_change_140 rfl (by decide) (by decide) (((((((h.1 c2).1 c5).2.1 c7).2 c10).1 c18).1 c20).2 c23)
            · have c21 := c
              refine BT.bipush (v := (-6)) dX10_change_94 (by decide) ?_
              refine BT.goto (tgt := 100) dX10_change_96 (by decide) ?_
              refine BT.istore (L' := [(6, .int (-6)), (4, .ref (52 + (Int32.toNatClampNeg v1))), (0, .ref 0), (1, .int v1), (2, .int v2), (3, .int v3)]) dX10_change_100 (by decide) rfl ?_
              refine BT.iload_n dX10_change_102 rfl 4 rfl ?_
              refine BT.iconst (v := 1) dX10_change_103 (by decide) ?_
              refine BT.icmp_ne (tgt := 124) dX10_change_104 (by decide) (fun c => ?_) (fun c => ?_)
              · have c24 := c
                refine BT.aload dX10_change_124 1 rfl ?_
                refine BT.getI fl_X10_201 (pieceC8 ((h.1 c2).1 c5).1) rfl dX10_change_126 ?_
                refine BT.istore (L' := [(5, .int (M.1 (52 + (Int32.toNatClampNeg v1)) 2)), (6, .int (-6)), (4, .ref (52 + (Int32.toNatClampNeg v1))), (0, .ref 0), (1, .int v1), (2, .int v2), (3, .int v3)]) dX10_change_129 (by decide) rfl ?_
                refine BT.aload dX10_change_131 2 rfl ?_
                refine BT.iload dX10_change_133 1 rfl ?_
                refine BT.putI fl_X10_201 ft_6_2 (pieceC8 ((h.1 c2).1 c5).1) rfl dX10_change_135 ?_
                refine BT.iload dX10_change_138 0 rfl ?_
                exact BT.iret dX10_change_140 rfl (by decide) (by decide) (((((((h.1 c2).1 c5).2.1 c7).2 c10).1 c18).2 c21).1 c24)
              · have c25 := c
                refine BT.aload dX10_change_107 1 rfl ?_
                refine BT.getI fl_X10_198 (pieceC8 ((h.1 c2).1 c5).1) rfl dX10_change_109 ?_
                refine BT.istore (L' := [(5, .int (M.1 (52 + (Int32.toNatClampNeg v1)) 1)), (6, .int (-6)), (4, .ref (52 + (Int32.toNatClampNeg v1))), (0, .ref 0), (1, .int v1), (2, .int v2), (3, .int v3)]) dX10_change_112 (by decide) rfl ?_
                refine BT.aload dX10_change_114 2 rfl ?_
                refine BT.iload dX10_change_116 1 rfl ?_
                refine BT.putI fl_X10_198 ft_6_1 (pieceC8 ((h.1 c2).1 c5).1) rfl dX10_change_118 ?_
                refine BT.goto (tgt := 138) dX10_change_121 (by decide) ?_
                refine BT.iload dX10_change_138 0 rfl ?_
                exact BT.iret dX10_change_140 rfl (by decide) (by decide) (((((((h.1 c2).1 c5).2.1 c7).2 c10).1 c18).2 c21).2 c25)
          · have c19 := bi_eq0.mp c
            refine BT.bipush (v := (-2)) dX10_change_86 (by decide) ?_
            exact BT.iret dX10_change_88 rfl (by decide) (by decide) (((((h.1 c2).1 c5).2.1 c7).2 c10).2 c19)
      · have c8 := c
        refine BT.iload_n dX10_change_41 rfl 4 rfl ?_
        refine BT.mcS [.int v3] (t_X10_isMarks  ?_) mb_X10_isMarks ms_X10_isMarks lk_X10_176 rfl (by decide) rfl (Nat.le_of_ble_eq_true rfl) dX10_change_42
        show B_X10_change G K 45 [(4, .ref (52 + (Int32.toNatClampNeg v1))), (0, .ref 0), (1, .int v1), (2, .int v2), (3, .int v3)] [.int (bi ((0 : Int32) ≤ v3 ∧ v3 ≤ 31))] M
        refine BT.if_ne (tgt := 51) dX10_change_45 (by decide) (fun c => ?_) (fun c => ?_)
        · have c27 := bi_ne0.mp c
          refine BT.aload dX10_change_51 0 rfl ?_
          refine BT.getI fl_X10_204 (pieceC8 ((h.1 c2).1 c5).1) rfl dX10_change_53 ?_
          refine BT.istore (L' := [(5, .int (M.1 (52 + (Int32.toNatClampNeg v1)) 3)), (4, .ref (52 + (Int32.toNatClampNeg v1))), (0, .ref 0), (1, .int v1), (2, .int v2), (3, .int v3)]) dX10_change_56 (by decide) rfl ?_
          refine BT.aload dX10_change_58 1 rfl ?_
          refine BT.iload_n dX10_change_60 rfl 5 rfl ?_
          refine BT.putI fl_X10_204 ft_6_3 (pieceC8 ((h.1 c2).1 c5).1) rfl dX10_change_61 ?_
          refine BT.iload dX10_change_64 0 rfl ?_
          exact BT.iret dX10_change_66 rfl (by decide) (by decide) ((((h.1 c2).1 c5).2.2 c8).1 c27)
        · have c28 := bi_eq0.mp c
          refine BT.bipush (v := (-2)) dX10_change_48 (by decide) ?_
          exact BT.iret dX10_change_50 rfl (by decide) (by decide) ((((h.1 c2).1 c5).2.2 c8).2 c28)
    · have c6 := bi_eq0.mp c
      refine BT.bipush (v := (-2)) dX10_change_22 (by decide) ?_
      exact BT.iret dX10_change_24 rfl (by decide) (by decide) ((h.1 c2).2 c6)
  · have c3 := bi_eq0.mp c
    refine BT.iconst (v := (-1)) dX10_change_11 (by decide) ?_
    exact BT.iret dX10_change_12 rfl (by decide) (by decide) (h.2 c3)

/-- what a change asks -/
def chOk (b w v : Int32) : Prop := (w = 3 ∧ (0 : Int32) ≤ v ∧ v ≤ 31) ∨ ((w = 1 ∨ w = 2) ∧ (v = -1 ∨ (b ≤ v ∧ v ≤ 99)))
abbrev chVal (w v : Int32) : Int32 := if w = 3 then v else wishOf v
theorem two12 {w : Int32} (h : (1 : Int32) ≤ w ∧ w ≤ 3) (h3 : ¬ w = 3) (h1 : ¬ w = 1) : w = 2 := by
  obtain ⟨i, hi, ei⟩ := i_nat (x := w) (N := 4) (by decide) (Int32.le_trans (by decide) h.1) (Int32.lt_of_le_of_lt h.2 (by decide))
  match i, hi with
  | 0, _ => rw [ei] at h; exact absurd h.1 (by decide)
  | 1, _ => exact absurd ei h1
  | 2, _ => exact ei
  | 3, _ => exact absurd ei h3
theorem t_X10_change {G : GT} {K : Int32 → Mem → Prop} {M : Mem} {v1 v2 v3 : Int32} (hw : WOk (wv M)) (h1 : ¬ ((0 : Int32) ≤ v1 ∧ v1 < wv M 8 4) → K (-1) M) (h2 : ((0 : Int32) ≤ v1 ∧ v1 < wv M 8 4) → ¬ chOk (wv M (ppc v1) 0) v2 v3 → K (-2) M) (hok : ((0 : Int32) ≤ v1 ∧ v1 < wv M 8 4) → chOk (wv M (ppc v1) 0) v2 v3 → K (wv M (ppc v1) (Int32.toNatClampNeg v2)) (m_i M (ppc v1) (Int32.toNatClampNeg v2) (chVal v2 v3))) : T_X10_change G [.ref 0, .int v1, .int v2, .int v3] M K := by
  refine e_X10_change (k_X10_change_0 ?_)
  rw [← wv_at (M := M) (c := 8) (k := 4) (by decide)]
  refine ⟨fun c => ?_, fun c => h1 c⟩
  obtain ⟨i1, i2, i3⟩ := pc_ix hw c
  have h2 := h2 c
  have hok := hok c
  have e : ∀ k, wv M (ppc v1) k = M.1 (52 + Int32.toNatClampNeg v1) k := fun k => wv_at (c := 52 + Int32.toNatClampNeg v1) (by omega)
  rw [e, e] at hok
  rw [e] at h2
  have set12 : (v3 = -1 ∨ (M.1 (52 + Int32.toNatClampNeg v1) 0 ≤ v3 ∧ v3 ≤ 99)) → (1 : Int32) ≤ v2 ∧ v2 ≤ 3 → ¬ v2 = 3 → ∀ x, x = wishOf v3 → (¬ v2 = 1 → K (M.1 (52 + Int32.toNatClampNeg v1) 2) (m_i M (52 + Int32.toNatClampNeg v1) 2 x)) ∧ (v2 = 1 → K (M.1 (52 + Int32.toNatClampNeg v1) 1) (m_i M (52 + Int32.toNatClampNeg v1) 1 x)) := by
    intro q c2 c3 x ex
    refine ⟨fun c4 => ?_, fun c4 => ?_⟩
    · have e2 := two12 c2 c3 c4
      subst e2
      have := hok (Or.inr ⟨Or.inr rfl, q⟩)
      unfold chVal at this
      rw [if_neg c3, ← ex] at this
      exact this
    · subst c4
      have := hok (Or.inr ⟨Or.inl rfl, q⟩)
      unfold chVal at this
      rw [if_neg c3, ← ex] at this
      exact this
  refine ⟨fun c2 => ⟨vp8 i2 i3, fun c3 => ⟨fun c4 => ⟨fun z => absurd c4 z, fun _ => ?_⟩, fun c4 => ⟨fun c5 => ⟨fun _ => ?_, fun z => absurd z c4⟩, fun c5 => h2 ?_⟩⟩, fun c3 => ⟨fun c4 => ?_, fun c4 => h2 ?_⟩⟩, fun c2 => h2 ?_⟩
  · exact set12 (Or.inl c4) c2 c3 (-6) (by unfold wishOf; rw [if_pos c4])
  · exact set12 (Or.inr c5) c2 c3 v3 (by unfold wishOf; rw [if_neg c4])
  · rintro (q | q)
    · exact c3 q.1
    · exact q.2.elim c4 c5
  · subst c3
    have := hok (Or.inl ⟨rfl, c4⟩)
    unfold chVal at this
    rw [if_pos rfl] at this
    exact this
  · rintro (q | q)
    · exact c4 q.2
    · rw [c3] at q; rcases q.1 with z | z <;> exact absurd z (by decide)
  · rintro (q | q)
    · exact c2 (by rw [q.1]; decide)
    · rcases q.1 with z | z <;> exact c2 (by rw [z]; decide)

