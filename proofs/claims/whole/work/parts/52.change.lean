/-! ===== 52.change ===== -/
/-! BetweenLaws.change(III)I -/
abbrev rm_X10_change : Room := { frames := 2, cells := 0, slots := 0, locals := 42 }
abbrev B_X10_change (G : GT) (K : Int32 → Mem → Prop) := BT G (Rep G) RX10 "change" cX10_change 7 (some .int) rm_X10_change K 0 0
abbrev T_X10_change (G : GT) (as : List Value) (M : Mem) (K : Int32 → Mem → Prop) : Prop := MT G (Rep G) yX10_change cX10_change 7 (some .int) rm_X10_change as M K
theorem e_X10_change {G : GT} {K : Int32 → Mem → Prop} {M : Mem} {v1 : Int32} {v2 : Int32} {v3 : Int32} (h : B_X10_change G K 0 [(0, .ref 0), (1, .int v1), (2, .int v2), (3, .int v3)] [] M) : T_X10_change G [.ref 0, .int v1, .int v2, .int v3] M K := MT.of (by decide +kernel) rfl rfl (Nat.le_of_ble_eq_true rfl) rfl h
set_option maxRecDepth 4000 in
theorem k_X10_change_0 {G : GT} {K : Int32 → Mem → Prop} {M : Mem} {v1 : Int32} {v2 : Int32} {v3 : Int32} (h : (((0 : Int32) ≤ v1 ∧ v1 < (M.1 8 4)) → ((1 ≤ v2 ∧ v2 ≤ 3) → (vp_in v1 8) ∧ (¬ v2 = 3 → (v3 = (-1) → (¬ v3 = (-1) → (¬ v2 = 1 → K (M.1 (52 + (Int32.toNatClampNeg v1)) 2) (m_i M (52 + (Int32.toNatClampNeg v1)) 2 v3)) ∧ (v2 = 1 → K (M.1 (52 + (Int32.toNatClampNeg v1)) 1) (m_i M (52 + (Int32.toNatClampNeg v1)) 1 v3))) ∧ (v3 = (-1) → (¬ v2 = 1 → K (M.1 (52 + (Int32.toNatClampNeg v1)) 2) (m_i M (52 + (Int32.toNatClampNeg v1)) 2 (-6))) ∧ (v2 = 1 → K (M.1 (52 + (Int32.toNatClampNeg v1)) 1) (m_i M (52 + (Int32.toNatClampNeg v1)) 1 (-6))))) ∧ (¬ v3 = (-1) → (((M.1 (52 + (Int32.toNatClampNeg v1)) 0) ≤ v3 ∧ v3 ≤ 99) → (¬ v3 = (-1) → (¬ v2 = 1 → K (M.1 (52 + (Int32.toNatClampNeg v1)) 2) (m_i M (52 + (Int32.toNatClampNeg v1)) 2 v3)) ∧ (v2 = 1 → K (M.1 (52 + (Int32.toNatClampNeg v1)) 1) (m_i M (52 + (Int32.toNatClampNeg v1)) 1 v3))) ∧ (v3 = (-1) → (¬ v2 = 1 → K (M.1 (52 + (Int32.toNatClampNeg v1)) 2) (m_i M (52 + (Int32.toNatClampNeg v1)) 2 (-6))) ∧ (v2 = 1 → K (M.1 (52 + (Int32.toNatClampNeg v1)) 1) (m_i M (52 + (Int32.toNatClampNeg v1)) 1 (-6))))) ∧ (¬ ((M.1 (52 + (Int32.toNatClampNeg v1)) 0) ≤ v3 ∧ v3 ≤ 99) → K (-2) M))) ∧ (v2 = 3 → (((0 : Int32) ≤ v3 ∧ v3 ≤ 31) → K (M.1 (52 + (Int32.toNatClampNeg v1)) 3) (m_i M (52 + (Int32.toNatClampNeg v1)) 3 v3)) ∧ (¬ ((0 : Int32) ≤ v3 ∧ v3 ≤ 31) → K (-2) M))) ∧ (¬ (1 ≤ v2 ∧ v2 ≤ 3) → K (-2) M)) ∧ (¬ ((0 : Int32) ≤ v1 ∧ v1 < (M.1 8 4)) → K (-1) M)) : B_X10_change G K 0 [(0, .ref 0), (1, .int v1), (2, .int v2), (3, .int v3)] [] M := by
  refine BT.aload_n dX10_change_0 rfl 0 rfl ?_
  refine BT.getR (r := 8) fl_X10_26 ho_0 rfl dX10_change_1 ?_
  refine BT.iload_n dX10_change_4 rfl 1 rfl ?_
  refine BT.mcV [.int v1] (t_X9_hasPiece  ?_) mb_X9_hasPiece mv_X9_hasPiece lk_X10_186 rfl (by decide) rfl (recvRep ho_8 rfl) (Nat.le_of_ble_eq_true rfl) dX10_change_5
  show B_X10_change G K 8 [(0, .ref 0), (1, .int v1), (2, .int v2), (3, .int v3)] [.int (bi ((0 : Int32) ≤ v1 ∧ v1 < (M.1 8 4)))] M
  refine BT.if_ne (tgt := 13) dX10_change_8 (by decide) (fun c => ?_) (fun c => ?_)
  · have c2 := bi_ne0.mp c
    refine BT.iload_n dX10_change_13 rfl 2 rfl ?_
    refine BT.iconst (v := 1) dX10_change_14 (by decide) ?_
    refine BT.iconst (v := 3) dX10_change_15 (by decide) ?_
    refine BT.mcS [.int v2, .int 1, .int 3] (t_X10_within  ?_) mb_X10_within ms_X10_within lk_X10_82 rfl (by decide) rfl (Nat.le_of_ble_eq_true rfl) dX10_change_16
    show B_X10_change G K 19 [(0, .ref 0), (1, .int v1), (2, .int v2), (3, .int v3)] [.int (bi (1 ≤ v2 ∧ v2 ≤ 3))] M
    refine BT.if_ne (tgt := 25) dX10_change_19 (by decide) (fun c => ?_) (fun c => ?_)
    · have c5 := bi_ne0.mp c
      refine BT.aload_n dX10_change_25 rfl 0 rfl ?_
      refine BT.getR (r := 8) fl_X10_26 ho_0 rfl dX10_change_26 ?_
      refine BT.getR (r := 51) fl_X10_189 ho_8 rfl dX10_change_29 ?_
      refine BT.iload_n dX10_change_32 rfl 1 rfl ?_
      refine BT.aald1 ha_51 (by decide) ((h.1 c2).1 c5).1 dX10_change_33 ?_
      refine BT.astore (L' := [(4, .ref (52 + (Int32.toNatClampNeg v1))), (0, .ref 0), (1, .int v1), (2, .int v2), (3, .int v3)]) dX10_change_34 (by decide) rfl ?_
      refine BT.iload_n dX10_change_36 rfl 3 rfl ?_
      refine BT.iconst (v := 3) dX10_change_37 (by decide) ?_
      refine BT.icmp_ne (tgt := 67) dX10_change_38 (by decide) (fun c => ?_) (fun c => ?_)
      · have c7 := c
        refine BT.iload_n dX10_change_67 rfl 4 rfl ?_
        refine BT.iconst (v := (-1)) dX10_change_68 (by decide) ?_
        refine BT.icmp_eq (tgt := 89) dX10_change_69 (by decide) (fun c => ?_) (fun c => ?_)
        · have c9 := c
          refine BT.iload_n dX10_change_89 rfl 4 rfl ?_
          refine BT.iconst (v := (-1)) dX10_change_90 (by decide) ?_
          refine BT.icmp_ne (tgt := 99) dX10_change_91 (by decide) (fun c => ?_) (fun c => ?_)
          · have c11 := c
            refine BT.iload_n dX10_change_99 rfl 4 rfl ?_
            refine BT.istore (L' := [(6, .int v3), (4, .ref (52 + (Int32.toNatClampNeg v1))), (0, .ref 0), (1, .int v1), (2, .int v2), (3, .int v3)]) dX10_change_100 (by decide) rfl ?_
            refine BT.iload_n dX10_change_102 rfl 4 rfl ?_
            refine BT.iconst (v := 1) dX10_change_103 (by decide) ?_
            refine BT.icmp_ne (tgt := 124) dX10_change_104 (by decide) (fun c => ?_) (fun c => ?_)
            · have c13 := c
              refine BT.aload dX10_change_124 1 rfl ?_
              refine BT.getI fl_X10_201 (pieceC8 ((h.1 c2).1 c5).1) rfl dX10_change_126 ?_
              refine BT.istore (L' := [(5, .int (M.1 (52 + (Int32.toNatClampNeg v1)) 2)), (6, .int v3), (4, .ref (52 + (Int32.toNatClampNeg v1))), (0, .ref 0), (1, .int v1), (2, .int v2), (3, .int v3)]) dX10_change_129 (by decide) rfl ?_
              refine BT.aload dX10_change_131 2 rfl ?_
              refine BT.iload dX10_change_133 1 rfl ?_
              refine BT.putI fl_X10_201 ft_6_2 (pieceC8 ((h.1 c2).1 c5).1) rfl dX10_change_135 ?_
              refine BT.iload dX10_change_138 0 rfl ?_
              exact BT.iret dX10_change_140 rfl (by decide) (by decide) ((((((h.1 c2).1 c5).2.1 c7).1 c9).1 c11).1 c13)
            · have c14 := c
              refine BT.aload dX10_change_107 1 rfl ?_
              refine BT.getI fl_X10_198 (pieceC8 ((h.1 c2).1 c5).1) rfl dX10_change_109 ?_
              refine BT.istore (L' := [(5, .int (M.1 (52 + (Int32.toNatClampNeg v1)) 1)), (6, .int v3), (4, .ref (52 + (Int32.toNatClampNeg v1))), (0, .ref 0), (1, .int v1), (2, .int v2), (3, .int v3)]) dX10_change_112 (by decide) rfl ?_
              refine BT.aload dX10_change_114 2 rfl ?_
              refine BT.iload dX10_change_116 1 rfl ?_
              refine BT.putI fl_X10_198 ft_6_1 (pieceC8 ((h.1 c2).1 c5).1) rfl dX10_change_118 ?_
              refine BT.goto (tgt := 138) dX10_change_121 (by decide) ?_
              refine BT.iload dX10_change_138 0 rfl ?_
              exact BT.iret dX10_change_140 rfl (by decide) (by decide) ((((((h.1 c2).1 c5).2.1 c7).1 c9).1 c11).2 c14)
          · have c12 := c
            refine BT.bipush (v := (-6)) dX10_change_94 (by decide) ?_
            refine BT.goto (tgt := 100) dX10_change_96 (by decide) ?_
            refine BT.istore (L' := [(6, .int (-6)), (4, .ref (52 + (Int32.toNatClampNeg v1))), (0, .ref 0), (1, .int v1), (2, .int v2), (3, .int v3)]) dX10_change_100 (by decide) rfl ?_
            refine BT.iload_n dX10_change_102 rfl 4 rfl ?_
            refine BT.iconst (v := 1) dX10_change_103 (by decide) ?_
            refine BT.icmp_ne (tgt := 124) dX10_change_104 (by decide) (fun c => ?_) (fun c => ?_)
            · have c15 := c
              refine BT.aload dX10_change_124 1 rfl ?_
              refine BT.getI fl_X10_201 (pieceC8 ((h.1 c2).1 c5).1) rfl dX10_change_126 ?_
              refine BT.istore (L' := [(5, .int (M.1 (52 + (Int32.toNatClampNeg v1)) 2)), (6, .int (-6)), (4, .ref (52 + (Int32.toNatClampNeg v1))), (0, .ref 0), (1, .int v1), (2, .int v2), (3, .int v3)]) dX10_change_129 (by decide) rfl ?_
              refine BT.aload dX10_change_131 2 rfl ?_
              refine BT.iload dX10_change_133 1 rfl ?_
              refine BT.putI fl_X10_201 ft_6_2 (pieceC8 ((h.1 c2).1 c5).1) rfl dX10_change_135 ?_
              refine BT.iload dX10_change_138 0 rfl ?_
              exact BT.iret dX10_change_140 rfl (by decide) (by decide) ((((((h.1 c2).1 c5).2.1 c7).1 c9).2 c12).1 c15)
            · have c16 := c
              refine BT.aload dX10_change_107 1 rfl ?_
              refine BT.getI fl_X10_198 (pieceC8 ((h.1 c2).1 c5).1) rfl dX10_change_109 ?_
              refine BT.istore (L' := [(5, .int (M.1 (52 + (Int32.toNatClampNeg v1)) 1)), (6, .int (-6)), (4, .ref (52 + (Int32.toNatClampNeg v1))), (0, .ref 0), (1, .int v1), (2, .int v2), (3, .int v3)]) dX10_change_112 (by decide) rfl ?_
              refine BT.aload dX10_change_114 2 rfl ?_
              refine BT.iload dX10_change_116 1 rfl ?_
              refine BT.putI fl_X10_198 ft_6_1 (pieceC8 ((h.1 c2).1 c5).1) rfl dX10_change_118 ?_
              refine BT.goto (tgt := 138) dX10_change_121 (by decide) ?_
              refine BT.iload dX10_change_138 0 rfl ?_
              exact BT.iret dX10_change_140 rfl (by decide) (by decide) ((((((h.1 c2).1 c5).2.1 c7).1 c9).2 c12).2 c16)
        · have c10 := c
          refine BT.iload_n dX10_change_72 rfl 4 rfl ?_
          refine BT.aload dX10_change_73 0 rfl ?_
          refine BT.getI fl_X10_193 (pieceC8 ((h.1 c2).1 c5).1) rfl dX10_change_75 ?_
          refine BT.bipush (v := 99) dX10_change_78 (by decide) ?_
          refine BT.mcS [.int v3, .int (M.1 (52 + (Int32.toNatClampNeg v1)) 0), .int 99] (t_X10_within  ?_) mb_X10_within ms_X10_within lk_X10_82 rfl (by decide) rfl (Nat.le_of_ble_eq_true rfl) dX10_change_80
          show B_X10_change G K 83 [(4, .ref (52 + (Int32.toNatClampNeg v1))), (0, .ref 0), (1, .int v1), (2, .int v2), (3, .int v3)] [.int (bi ((M.1 (52 + (Int32.toNatClampNeg v1)) 0) ≤ v3 ∧ v3 ≤ 99))] M
          refine BT.if_ne (tgt := 89) dX10_change_83 (by decide) (fun c => ?_) (fun c => ?_)
          · have c18 := bi_ne0.mp c
            refine BT.iload_n dX10_change_89 rfl 4 rfl ?_
            refine BT.iconst (v := (-1)) dX10_change_90 (by decide) ?_
            refine BT.icmp_ne (tgt := 99) dX10_change_91 (by decide) (fun c => ?_) (fun c => ?_)
            · have c20 := c
              refine BT.iload_n dX10_change_99 rfl 4 rfl ?_
              refine BT.istore (L' := [(6, .int v3), (4, .ref (52 + (Int32.toNatClampNeg v1))), (0, .ref 0), (1, .int v1), (2, .int v2), (3, .int v3)]) dX10_change_100 (by decide) rfl ?_
              refine BT.iload_n dX10_change_102 rfl 4 rfl ?_
              refine BT.iconst (v := 1) dX10_change_103 (by decide) ?_
              refine BT.icmp_ne (tgt := 124) dX10_change_104 (by decide) (fun c => ?_) (fun c => ?_)
              · have c22 := c
                refine BT.aload dX10_change_124 1 rfl ?_
                refine BT.getI fl_X10_201 (pieceC8 ((h.1 c2).1 c5).1) rfl dX10_change_126 ?_
                refine BT.istore (L' := [(5, .int (M.1 (52 + (Int32.toNatClampNeg v1)) 2)), (6, .int v3), (4, .ref (52 + (Int32.toNatClampNeg v1))), (0, .ref 0), (1, .int v1), (2, .int v2), (3, .int v3)]) dX10_change_129 (by decide) rfl ?_
                refine BT.aload dX10_change_131 2 rfl ?_
                refine BT.iload dX10_change_133 1 rfl ?_
                refine BT.putI fl_X10_201 ft_6_2 (pieceC8 ((h.1 c2).1 c5).1) rfl dX10_change_135 ?_
                refine BT.iload dX10_change_138 0 rfl ?_
                exact BT.iret dX10_change_140 rfl (by decide) (by decide) (((((((h.1 c2).1 c5).2.1 c7).2 c10).1 c18).1 c20).1 c22)
              · have c23 := c
                refine BT.aload dX10_change_107 1 rfl ?_
                refine BT.getI fl_X10_198 (pieceC8 ((h.1 c2).1 c5).1) rfl dX10_change_109 ?_
                refine BT.istore (L' := [(5, .int (M.1 (52 + (Int32.toNatClampNeg v1)) 1)), (6, .int v3), (4, .ref (52 + (Int32.toNatClampNeg v1))), (0, .ref 0), (1, .int v1), (2, .int v2), (3, .int v3)]) dX10_change_112 (by decide) rfl ?_
                refine BT.aload dX10_change_114 2 rfl ?_
                refine BT.iload dX10_change_116 1 rfl ?_
                refine BT.putI fl_X10_198 ft_6_1 (pieceC8 ((h.1 c2).1 c5).1) rfl dX10_change_118 ?_
                refine BT.goto (tgt := 138) dX10_change_121 (by decide) ?_
                refine BT.iload dX10_change_138 0 rfl ?_
                exact BT.iret dX10_change_140 rfl (by decide) (by decide) (((((((h.1 c2).1 c5).2.1 c7).2 c10).1 c18).1 c20).2 c23)
            · have c21 := c
              refine BT.bipush (v := (-6)) dX10_change_94 (by decide) ?_
              refine BT.goto (tgt := 100) dX10_change_96 (by decide) ?_
              refine BT.istore (L' := [(6, .int (-6)), (4, .ref (52 + (Int32.toNatClampNeg v1))), (0, .ref 0), (1, .int v1), (2, .int v2), (3, .int v3)]) dX10_change_100 (by decide) rfl ?_
              refine BT.iload_n dX10_change_102 rfl 4 rfl ?_
              refine BT.iconst (v := 1) dX10_change_103 (by decide) ?_
              refine BT.icmp_ne (tgt := 124) dX10_change_104 (by decide) (fun c => ?_) (fun c => ?_)
              · have c24 := c
                refine BT.aload dX10_change_124 1 rfl ?_
                refine BT.getI fl_X10_201 (pieceC8 ((h.1 c2).1 c5).1) rfl dX10_change_126 ?_
                refine BT.istore (L' := [(5, .int (M.1 (52 + (Int32.toNatClampNeg v1)) 2)), (6, .int (-6)), (4, .ref (52 + (Int32.toNatClampNeg v1))), (0, .ref 0), (1, .int v1), (2, .int v2), (3, .int v3)]) dX10_change_129 (by decide) rfl ?_
                refine BT.aload dX10_change_131 2 rfl ?_
                refine BT.iload dX10_change_133 1 rfl ?_
                refine BT.putI fl_X10_201 ft_6_2 (pieceC8 ((h.1 c2).1 c5).1) rfl dX10_change_135 ?_
                refine BT.iload dX10_change_138 0 rfl ?_
                exact BT.iret dX10_change_140 rfl (by decide) (by decide) (((((((h.1 c2).1 c5).2.1 c7).2 c10).1 c18).2 c21).1 c24)
              · have c25 := c
                refine BT.aload dX10_change_107 1 rfl ?_
                refine BT.getI fl_X10_198 (pieceC8 ((h.1 c2).1 c5).1) rfl dX10_change_109 ?_
                refine BT.istore (L' := [(5, .int (M.1 (52 + (Int32.toNatClampNeg v1)) 1)), (6, .int (-6)), (4, .ref (52 + (Int32.toNatClampNeg v1))), (0, .ref 0), (1, .int v1), (2, .int v2), (3, .int v3)]) dX10_change_112 (by decide) rfl ?_
                refine BT.aload dX10_change_114 2 rfl ?_
                refine BT.iload dX10_change_116 1 rfl ?_
                refine BT.putI fl_X10_198 ft_6_1 (pieceC8 ((h.1 c2).1 c5).1) rfl dX10_change_118 ?_
                refine BT.goto (tgt := 138) dX10_change_121 (by decide) ?_
                refine BT.iload dX10_change_138 0 rfl ?_
                exact BT.iret dX10_change_140 rfl (by decide) (by decide) (((((((h.1 c2).1 c5).2.1 c7).2 c10).1 c18).2 c21).2 c25)
          · have c19 := bi_eq0.mp c
            refine BT.bipush (v := (-2)) dX10_change_86 (by decide) ?_
            exact BT.iret dX10_change_88 rfl (by decide) (by decide) (((((h.1 c2).1 c5).2.1 c7).2 c10).2 c19)
      · have c8 := c
        refine BT.iload_n dX10_change_41 rfl 4 rfl ?_
        refine BT.mcS [.int v3] (t_X10_isMarks  ?_) mb_X10_isMarks ms_X10_isMarks lk_X10_176 rfl (by decide) rfl (Nat.le_of_ble_eq_true rfl) dX10_change_42
        show B_X10_change G K 45 [(4, .ref (52 + (Int32.toNatClampNeg v1))), (0, .ref 0), (1, .int v1), (2, .int v2), (3, .int v3)] [.int (bi ((0 : Int32) ≤ v3 ∧ v3 ≤ 31))] M
        refine BT.if_ne (tgt := 51) dX10_change_45 (by decide) (fun c => ?_) (fun c => ?_)
        · have c27 := bi_ne0.mp c
          refine BT.aload dX10_change_51 0 rfl ?_
          refine BT.getI fl_X10_204 (pieceC8 ((h.1 c2).1 c5).1) rfl dX10_change_53 ?_
          refine BT.istore (L' := [(5, .int (M.1 (52 + (Int32.toNatClampNeg v1)) 3)), (4, .ref (52 + (Int32.toNatClampNeg v1))), (0, .ref 0), (1, .int v1), (2, .int v2), (3, .int v3)]) dX10_change_56 (by decide) rfl ?_
          refine BT.aload dX10_change_58 1 rfl ?_
          refine BT.iload_n dX10_change_60 rfl 5 rfl ?_
          refine BT.putI fl_X10_204 ft_6_3 (pieceC8 ((h.1 c2).1 c5).1) rfl dX10_change_61 ?_
          refine BT.iload dX10_change_64 0 rfl ?_
          exact BT.iret dX10_change_66 rfl (by decide) (by decide) ((((h.1 c2).1 c5).2.2 c8).1 c27)
        · have c28 := bi_eq0.mp c
          refine BT.bipush (v := (-2)) dX10_change_48 (by decide) ?_
          exact BT.iret dX10_change_50 rfl (by decide) (by decide) ((((h.1 c2).1 c5).2.2 c8).2 c28)
    · have c6 := bi_eq0.mp c
      refine BT.bipush (v := (-2)) dX10_change_22 (by decide) ?_
      exact BT.iret dX10_change_24 rfl (by decide) (by decide) ((h.1 c2).2 c6)
  · have c3 := bi_eq0.mp c
    refine BT.iconst (v := (-1)) dX10_change_11 (by decide) ?_
    exact BT.iret dX10_change_12 rfl (by decide) (by decide) (h.2 c3)

/-- what a change asks -/
def chOk (b w v : Int32) : Prop := (w = 3 ∧ (0 : Int32) ≤ v ∧ v ≤ 31) ∨ ((w = 1 ∨ w = 2) ∧ (v = -1 ∨ (b ≤ v ∧ v ≤ 99)))
abbrev chVal (w v : Int32) : Int32 := if w = 3 then v else wishOf v
theorem two12 {w : Int32} (h : (1 : Int32) ≤ w ∧ w ≤ 3) (h3 : ¬ w = 3) (h1 : ¬ w = 1) : w = 2 := by
  obtain ⟨i, hi, ei⟩ := i_nat (x := w) (N := 4) (by decide) (Int32.le_trans (by decide) h.1) (Int32.lt_of_le_of_lt h.2 (by decide))
  match i, hi with
  | 0, _ => rw [ei] at h; exact absurd h.1 (by decide)
  | 1, _ => exact absurd ei h1
  | 2, _ => exact ei
  | 3, _ => exact absurd ei h3
theorem t_X10_change {G : GT} {K : Int32 → Mem → Prop} {M : Mem} {v1 v2 v3 : Int32} (hw : WOk (wv M)) (h1 : ¬ ((0 : Int32) ≤ v1 ∧ v1 < wv M 8 4) → K (-1) M) (h2 : ((0 : Int32) ≤ v1 ∧ v1 < wv M 8 4) → ¬ chOk (wv M (ppc v1) 0) v2 v3 → K (-2) M) (hok : ((0 : Int32) ≤ v1 ∧ v1 < wv M 8 4) → chOk (wv M (ppc v1) 0) v2 v3 → K (wv M (ppc v1) (Int32.toNatClampNeg v2)) (m_i M (ppc v1) (Int32.toNatClampNeg v2) (chVal v2 v3))) : T_X10_change G [.ref 0, .int v1, .int v2, .int v3] M K := by
  refine e_X10_change (k_X10_change_0 ?_)
  rw [← wv_at (M := M) (c := 8) (k := 4) (by decide)]
  refine ⟨fun c => ?_, fun c => h1 c⟩
  obtain ⟨i1, i2, i3⟩ := pc_ix hw c
  have h2 := h2 c
  have hok := hok c
  have e : ∀ k, wv M (ppc v1) k = M.1 (52 + Int32.toNatClampNeg v1) k := fun k => wv_at (c := 52 + Int32.toNatClampNeg v1) (by omega)
  rw [e, e] at hok
  rw [e] at h2
  have set12 : (v3 = -1 ∨ (M.1 (52 + Int32.toNatClampNeg v1) 0 ≤ v3 ∧ v3 ≤ 99)) → (1 : Int32) ≤ v2 ∧ v2 ≤ 3 → ¬ v2 = 3 → ∀ x, x = wishOf v3 → (¬ v2 = 1 → K (M.1 (52 + Int32.toNatClampNeg v1) 2) (m_i M (52 + Int32.toNatClampNeg v1) 2 x)) ∧ (v2 = 1 → K (M.1 (52 + Int32.toNatClampNeg v1) 1) (m_i M (52 + Int32.toNatClampNeg v1) 1 x)) := by
    intro q c2 c3 x ex
    refine ⟨fun c4 => ?_, fun c4 => ?_⟩
    · have e2 := two12 c2 c3 c4
      subst e2
      have := hok (Or.inr ⟨Or.inr rfl, q⟩)
      unfold chVal at this
      rw [if_neg c3, ← ex] at this
      exact this
    · subst c4
      have := hok (Or.inr ⟨Or.inl rfl, q⟩)
      unfold chVal at this
      rw [if_neg c3, ← ex] at this
      exact this
  refine ⟨fun c2 => ⟨vp8 i2 i3, fun c3 => ⟨fun c4 => ⟨fun z => absurd c4 z, fun _ => ?_⟩, fun c4 => ⟨fun c5 => ⟨fun _ => ?_, fun z => absurd z c4⟩, fun c5 => h2 ?_⟩⟩, fun c3 => ⟨fun c4 => ?_, fun c4 => h2 ?_⟩⟩, fun c2 => h2 ?_⟩
  · exact set12 (Or.inl c4) c2 c3 (-6) (by unfold wishOf; rw [if_pos c4])
  · exact set12 (Or.inr c5) c2 c3 v3 (by unfold wishOf; rw [if_neg c4])
  · rintro (q | q)
    · exact c3 q.1
    · exact q.2.elim c4 c5
  · subst c3
    have := hok (Or.inl ⟨rfl, c4⟩)
    unfold chVal at this
    rw [if_pos rfl] at this
    exact this
  · rintro (q | q)
    · exact c4 q.2
    · rw [c3] at q; rcases q.1 with z | z <;> exact absurd z (by decide)
  · rintro (q | q)
    · exact c2 (by rw [q.1]; decide)
    · rcases q.1 with z | z <;> exact c2 (by rw [z]; decide)

/-! BetweenLawsModel.change(III)I -/
abbrev rm_X11_change : Room := { frames := 2, cells := 0, slots := 0, locals := 46 }
abbrev B_X11_change (G : GT) (K : Int32 → Mem → Prop) := BT G (Rep G) RX11 "change" cX11_change 7 (some .int) rm_X11_change K 0 0
abbrev T_X11_change (G : GT) (as : List Value) (M : Mem) (K : Int32 → Mem → Prop) : Prop := MT G (Rep G) yX11_change cX11_change 7 (some .int) rm_X11_change as M K
theorem e_X11_change {G : GT} {K : Int32 → Mem → Prop} {M : Mem} {v1 : Int32} {v2 : Int32} {v3 : Int32} (h : B_X11_change G K 0 [(0, .ref 175), (1, .int v1), (2, .int v2), (3, .int v3)] [] M) : T_X11_change G [.ref 175, .int v1, .int v2, .int v3] M K := MT.of (by decide +kernel) rfl rfl (Nat.le_of_ble_eq_true rfl) rfl h
set_option maxRecDepth 4000 in
theorem k_X11_change_0 {G : GT} {K : Int32 → Mem → Prop} {M : Mem} {W : WT} {v1 : Int32} {v2 : Int32} {v3 : Int32} (h : (RP W M) ∧ (((0 : Int32) ≤ v1 ∧ v1 < W 8 4) → (¬ v2 = 3 → (¬ ((1 : Int32) ≤ v2 ∧ v2 ≤ (2 : Int32)) → B_X11_change G K 67 [(0, .ref 175), (1, .int v1), (2, .int v2), (3, .int v3)] [.int 0] M) ∧ (((1 : Int32) ≤ v2 ∧ v2 ≤ (2 : Int32)) → (v3 = (-1) → B_X11_change G K 67 [(0, .ref 175), (1, .int v1), (2, .int v2), (3, .int v3)] [.int 1] M) ∧ (¬ v3 = (-1) → (vp_in v1 9) ∧ (¬ ((M.1 189 (Int32.toNatClampNeg v1)) ≤ v3 ∧ v3 ≤ (99 : Int32)) → B_X11_change G K 67 [(0, .ref 175), (1, .int v1), (2, .int v2), (3, .int v3)] [.int 0] M) ∧ (((M.1 189 (Int32.toNatClampNeg v1)) ≤ v3 ∧ v3 ≤ (99 : Int32)) → B_X11_change G K 67 [(0, .ref 175), (1, .int v1), (2, .int v2), (3, .int v3)] [.int 1] M)))) ∧ (v2 = 3 → B_X11_change G K 67 [(0, .ref 175), (1, .int v1), (2, .int v2), (3, .int v3)] [.int (bi ((0 : Int32) ≤ v3 ∧ v3 ≤ (31 : Int32)))] M)) ∧ (¬ ((0 : Int32) ≤ v1 ∧ v1 < W 8 4) → K (-1) M)) : B_X11_change G K 0 [(0, .ref 175), (1, .int v1), (2, .int v2), (3, .int v3)] [] M := by
  refine BT.aload_n dX11_change_0 rfl 0 rfl ?_
  refine BT.iload_n dX11_change_1 rfl 1 rfl ?_
  refine BT.mcV [.int v1] (t_X11_isPiece h.1 ?_) mb_X11_isPiece mv_X11_isPiece lk_X11_198 rfl (by decide) rfl (recvRep ho_175 rfl) (Nat.le_of_ble_eq_true rfl) dX11_change_2
  show B_X11_change G K 5 [(0, .ref 175), (1, .int v1), (2, .int v2), (3, .int v3)] [.int (bi ((0 : Int32) ≤ v1 ∧ v1 < W 8 4))] M
  refine BT.if_ne (tgt := 10) dX11_change_5 (by decide) (fun c => ?_) (fun c => ?_)
  · have c2 := bi_ne0.mp c
    refine BT.iload_n dX11_change_10 rfl 2 rfl ?_
    refine BT.iconst (v := 3) dX11_change_11 (by decide) ?_
    refine BT.icmp_ne (tgt := 27) dX11_change_12 (by decide) (fun c => ?_) (fun c => ?_)
    · have c4 := c
      refine BT.iload_n dX11_change_27 rfl 2 rfl ?_
      refine BT.i2l dX11_change_28 ?_
      refine BT.lconst (v := 1) dX11_change_29 (by decide) ?_
      refine BT.ldc2 dX11_change_30 kc_X11_179 ?_
      refine BT.mcS [.long (Int32.toInt64 v2), .long 1, .long 2] (t_X11_in (x := v2) (y := (1 : Int32)) (z := (2 : Int32)) rfl (by decide) (by decide) ?_) mb_X11_in ms_X11_in lk_X11_86 rfl (by decide) rfl (Nat.le_of_ble_eq_true rfl) dX11_change_33
      show B_X11_change G K 36 [(0, .ref 175), (1, .int v1), (2, .int v2), (3, .int v3)] [.int (bi ((1 : Int32) ≤ v2 ∧ v2 ≤ (2 : Int32)))] M
      refine BT.if_eq (tgt := 66) dX11_change_36 (by decide) (fun c => ?_) (fun c => ?_)
      · have c6 := bi_eq0.mp c
        refine BT.iconst (v := 0) dX11_change_66 (by decide) ?_
        exact (((h.2.1 c2).1 c4).1 c6)
      · have c7 := bi_ne0.mp c
        refine BT.iload_n dX11_change_39 rfl 3 rfl ?_
        refine BT.iconst (v := (-1)) dX11_change_40 (by decide) ?_
        refine BT.icmp_eq (tgt := 62) dX11_change_41 (by decide) (fun c => ?_) (fun c => ?_)
        · have c8 := c
          refine BT.iconst (v := 1) dX11_change_62 (by decide) ?_
          refine BT.goto (tgt := 67) dX11_change_63 (by decide) ?_
          exact ((((h.2.1 c2).1 c4).2 c7).1 c8)
        · have c9 := c
          refine BT.iload_n dX11_change_44 rfl 3 rfl ?_
          refine BT.i2l dX11_change_45 ?_
          refine BT.aload_n dX11_change_46 rfl 0 rfl ?_
          refine BT.getR (r := 189) fl_X11_53 ho_175 rfl dX11_change_47 ?_
          refine BT.iload_n dX11_change_50 rfl 1 rfl ?_
          refine BT.iald ha_189 ((((h.2.1 c2).1 c4).2 c7).2 c9).1 dX11_change_51 ?_
          refine BT.i2l dX11_change_52 ?_
          refine BT.ldc2 dX11_change_53 kc_X11_84 ?_
          refine BT.mcS [.long (Int32.toInt64 v3), .long (Int32.toInt64 (M.1 189 (Int32.toNatClampNeg v1))), .long 99] (t_X11_in (x := v3) (y := (M.1 189 (Int32.toNatClampNeg v1))) (z := (99 : Int32)) rfl rfl (by decide) ?_) mb_X11_in ms_X11_in lk_X11_86 rfl (by decide) rfl (Nat.le_of_ble_eq_true rfl) dX11_change_56
          show B_X11_change G K 59 [(0, .ref 175), (1, .int v1), (2, .int v2), (3, .int v3)] [.int (bi ((M.1 189 (Int32.toNatClampNeg v1)) ≤ v3 ∧ v3 ≤ (99 : Int32)))] M
          refine BT.if_eq (tgt := 66) dX11_change_59 (by decide) (fun c => ?_) (fun c => ?_)
          · have c10 := bi_eq0.mp c
            refine BT.iconst (v := 0) dX11_change_66 (by decide) ?_
            exact (((((h.2.1 c2).1 c4).2 c7).2 c9).2.1 c10)
          · have c11 := bi_ne0.mp c
            refine BT.iconst (v := 1) dX11_change_62 (by decide) ?_
            refine BT.goto (tgt := 67) dX11_change_63 (by decide) ?_
            exact (((((h.2.1 c2).1 c4).2 c7).2 c9).2.2 c11)
    · have c5 := c
      refine BT.iload_n dX11_change_15 rfl 3 rfl ?_
      refine BT.i2l dX11_change_16 ?_
      refine BT.lconst (v := 0) dX11_change_17 (by decide) ?_
      refine BT.ldc2 dX11_change_18 kc_X11_193 ?_
      refine BT.mcS [.long (Int32.toInt64 v3), .long 0, .long 31] (t_X11_in (x := v3) (y := (0 : Int32)) (z := (31 : Int32)) rfl (by decide) (by decide) ?_) mb_X11_in ms_X11_in lk_X11_86 rfl (by decide) rfl (Nat.le_of_ble_eq_true rfl) dX11_change_21
      show B_X11_change G K 24 [(0, .ref 175), (1, .int v1), (2, .int v2), (3, .int v3)] [.int (bi ((0 : Int32) ≤ v3 ∧ v3 ≤ (31 : Int32)))] M
      refine BT.goto (tgt := 67) dX11_change_24 (by decide) ?_
      exact ((h.2.1 c2).2 c5)
  · have c3 := bi_eq0.mp c
    refine BT.iconst (v := (-1)) dX11_change_8 (by decide) ?_
    exact BT.iret dX11_change_9 rfl (by decide) (by decide) (h.2.2 c3)
set_option maxRecDepth 4000 in
theorem k_X11_change_67 {G : GT} {K : Int32 → Mem → Prop} {M : Mem} {v1 : Int32} {v2 : Int32} {v3 : Int32} {s0 : Int32} (h : (¬ s0 = 0 → (3 ≤ v2 → B_X11_change G K 92 [(0, .ref 175), (1, .int v1), (2, .int v2)] [.int v3] M) ∧ (¬ 3 ≤ v2 → (0 ≤ v3 → B_X11_change G K 92 [(0, .ref 175), (1, .int v1), (2, .int v2)] [.int v3] M) ∧ (¬ 0 ≤ v3 → B_X11_change G K 92 [(0, .ref 175), (1, .int v1), (2, .int v2)] [.int (-6)] M))) ∧ (s0 = 0 → K (-2) M)) : B_X11_change G K 67 [(0, .ref 175), (1, .int v1), (2, .int v2), (3, .int v3)] [.int s0] M := by
  refine BT.istore (L' := [(4, .int s0), (0, .ref 175), (1, .int v1), (2, .int v2), (3, .int v3)]) dX11_change_67 (by decide) rfl ?_
  refine BT.iload dX11_change_69 0 rfl ?_
  refine BT.if_ne (tgt := 77) dX11_change_71 (by decide) (fun c => ?_) (fun c => ?_)
  · have c1 := c
    refine BT.iload_n dX11_change_77 rfl 3 rfl ?_
    refine BT.iconst (v := 3) dX11_change_78 (by decide) ?_
    refine BT.icmp_ge (tgt := 91) dX11_change_79 (by decide) (fun c => ?_) (fun c => ?_)
    · have c3 := c
      refine BT.iload_n dX11_change_91 rfl 4 rfl ?_
      refine BT.sub [1, 2, 3] rfl ?_
      exact ((h.1 c1).1 c3)
    · have c4 := c
      refine BT.iload_n dX11_change_82 rfl 4 rfl ?_
      refine BT.if_ge (tgt := 91) dX11_change_83 (by decide) (fun c => ?_) (fun c => ?_)
      · have c5 := c
        refine BT.iload_n dX11_change_91 rfl 4 rfl ?_
        refine BT.sub [1, 2, 3] rfl ?_
        exact (((h.1 c1).2 c4).1 c5)
      · have c6 := c
        refine BT.bipush (v := (-6)) dX11_change_86 (by decide) ?_
        refine BT.goto (tgt := 92) dX11_change_88 (by decide) ?_
        refine BT.sub [1, 2, 3] rfl ?_
        exact (((h.1 c1).2 c4).2 c6)
  · have c2 := c
    refine BT.bipush (v := (-2)) dX11_change_74 (by decide) ?_
    exact BT.iret dX11_change_76 rfl (by decide) (by decide) (h.2 c2)
set_option maxRecDepth 4000 in
theorem k_X11_change_92 {G : GT} {K : Int32 → Mem → Prop} {M : Mem} {v1 : Int32} {v2 : Int32} {s0 : Int32} (h : (¬ v2 = 1 → (¬ v2 = 2 → (vp_in v1 9) ∧ B_X11_change G K 128 [(0, .ref 175), (1, .int v1), (2, .int v2), (5, .int s0)] [.int (M.1 192 (Int32.toNatClampNeg v1))] M) ∧ (v2 = 2 → (vp_in v1 9) ∧ B_X11_change G K 128 [(0, .ref 175), (1, .int v1), (2, .int v2), (5, .int s0)] [.int (M.1 191 (Int32.toNatClampNeg v1))] M)) ∧ (v2 = 1 → (vp_in v1 9) ∧ B_X11_change G K 128 [(0, .ref 175), (1, .int v1), (2, .int v2), (5, .int s0)] [.int (M.1 190 (Int32.toNatClampNeg v1))] M)) : B_X11_change G K 92 [(0, .ref 175), (1, .int v1), (2, .int v2)] [.int s0] M := by
  refine BT.istore (L' := [(5, .int s0), (0, .ref 175), (1, .int v1), (2, .int v2)]) dX11_change_92 (by decide) rfl ?_
  refine BT.iload_n dX11_change_94 rfl 3 rfl ?_
  refine BT.iconst (v := 1) dX11_change_95 (by decide) ?_
  refine BT.icmp_ne (tgt := 108) dX11_change_96 (by decide) (fun c => ?_) (fun c => ?_)
  · have c1 := c
    refine BT.iload_n dX11_change_108 rfl 3 rfl ?_
    refine BT.iconst (v := 2) dX11_change_109 (by decide) ?_
    refine BT.icmp_ne (tgt := 122) dX11_change_110 (by decide) (fun c => ?_) (fun c => ?_)
    · have c3 := c
      refine BT.aload_n dX11_change_122 rfl 1 rfl ?_
      refine BT.getR (r := 192) fl_X11_62 ho_175 rfl dX11_change_123 ?_
      refine BT.iload_n dX11_change_126 rfl 2 rfl ?_
      refine BT.iald ha_192 ((h.1 c1).1 c3).1 dX11_change_127 ?_
      refine BT.sub [1, 2, 3, 0] rfl ?_
      exact ((h.1 c1).1 c3).2
    · have c4 := c
      refine BT.aload_n dX11_change_113 rfl 1 rfl ?_
      refine BT.getR (r := 191) fl_X11_59 ho_175 rfl dX11_change_114 ?_
      refine BT.iload_n dX11_change_117 rfl 2 rfl ?_
      refine BT.iald ha_191 ((h.1 c1).2 c4).1 dX11_change_118 ?_
      refine BT.goto (tgt := 128) dX11_change_119 (by decide) ?_
      refine BT.sub [1, 2, 3, 0] rfl ?_
      exact ((h.1 c1).2 c4).2
  · have c2 := c
    refine BT.aload_n dX11_change_99 rfl 1 rfl ?_
    refine BT.getR (r := 190) fl_X11_56 ho_175 rfl dX11_change_100 ?_
    refine BT.iload_n dX11_change_103 rfl 2 rfl ?_
    refine BT.iald ha_190 (h.2 c2).1 dX11_change_104 ?_
    refine BT.goto (tgt := 128) dX11_change_105 (by decide) ?_
    refine BT.sub [1, 2, 3, 0] rfl ?_
    exact (h.2 c2).2
set_option maxRecDepth 4000 in
theorem k_X11_change_128 {G : GT} {K : Int32 → Mem → Prop} {M : Mem} {v1 : Int32} {v2 : Int32} {v5 : Int32} {s0 : Int32} (h : (¬ v2 = 1 → (¬ v2 = 2 → (vp_in v1 9) ∧ K s0 (m_i M 192 (Int32.toNatClampNeg v1) v5)) ∧ (v2 = 2 → (vp_in v1 9) ∧ K s0 (m_i M 191 (Int32.toNatClampNeg v1) v5))) ∧ (v2 = 1 → (vp_in v1 9) ∧ K s0 (m_i M 190 (Int32.toNatClampNeg v1) v5))) : B_X11_change G K 128 [(0, .ref 175), (1, .int v1), (2, .int v2), (5, .int v5)] [.int s0] M := by
  refine BT.istore (L' := [(6, .int s0), (0, .ref 175), (1, .int v1), (2, .int v2), (5, .int v5)]) dX11_change_128 (by decide) rfl ?_
  refine BT.iload_n dX11_change_130 rfl 3 rfl ?_
  refine BT.iconst (v := 1) dX11_change_131 (by decide) ?_
  refine BT.icmp_ne (tgt := 146) dX11_change_132 (by decide) (fun c => ?_) (fun c => ?_)
  · have c1 := c
    refine BT.iload_n dX11_change_146 rfl 3 rfl ?_
    refine BT.iconst (v := 2) dX11_change_147 (by decide) ?_
    refine BT.icmp_ne (tgt := 162) dX11_change_148 (by decide) (fun c => ?_) (fun c => ?_)
    · have c3 := c
      refine BT.aload_n dX11_change_162 rfl 1 rfl ?_
      refine BT.getR (r := 192) fl_X11_62 ho_175 rfl dX11_change_163 ?_
      refine BT.iload_n dX11_change_166 rfl 2 rfl ?_
      refine BT.iload dX11_change_167 4 rfl ?_
      refine BT.iast ha_192 ((h.1 c1).1 c3).1 dX11_change_169 ?_
      refine BT.iload dX11_change_170 0 rfl ?_
      exact BT.iret dX11_change_172 rfl (by decide) (by decide) ((h.1 c1).1 c3).2
    · have c4 := c
      refine BT.aload_n dX11_change_151 rfl 1 rfl ?_
      refine BT.getR (r := 191) fl_X11_59 ho_175 rfl dX11_change_152 ?_
      refine BT.iload_n dX11_change_155 rfl 2 rfl ?_
      refine BT.iload dX11_change_156 4 rfl ?_
      refine BT.iast ha_191 ((h.1 c1).2 c4).1 dX11_change_158 ?_
      refine BT.goto (tgt := 170) dX11_change_159 (by decide) ?_
      refine BT.iload dX11_change_170 0 rfl ?_
      exact BT.iret dX11_change_172 rfl (by decide) (by decide) ((h.1 c1).2 c4).2
  · have c2 := c
    refine BT.aload_n dX11_change_135 rfl 1 rfl ?_
    refine BT.getR (r := 190) fl_X11_56 ho_175 rfl dX11_change_136 ?_
    refine BT.iload_n dX11_change_139 rfl 2 rfl ?_
    refine BT.iload dX11_change_140 4 rfl ?_
    refine BT.iast ha_190 (h.2 c2).1 dX11_change_142 ?_
    refine BT.goto (tgt := 170) dX11_change_143 (by decide) ?_
    refine BT.iload dX11_change_170 0 rfl ?_
    exact BT.iret dX11_change_172 rfl (by decide) (by decide) (h.2 c2).2

theorem t_X11_change {G : GT} {K : Int32 → Mem → Prop} {M : Mem} {W : WT} {v1 v2 v3 : Int32} (hQ : RP W M) (h1 : ¬ ((0 : Int32) ≤ v1 ∧ v1 < W 8 4) → K (-1) M) (h2 : ((0 : Int32) ≤ v1 ∧ v1 < W 8 4) → ¬ chOk (W (ppc v1) 0) v2 v3 → K (-2) M) (hok : ((0 : Int32) ≤ v1 ∧ v1 < W 8 4) → chOk (W (ppc v1) 0) v2 v3 → K (W (ppc v1) (Int32.toNatClampNeg v2)) (m_i M (189 + Int32.toNatClampNeg v2) (Int32.toNatClampNeg v1) (chVal v2 v3))) : T_X11_change G [.ref 175, .int v1, .int v2, .int v3] M K := by
  have main : ((0 : Int32) ≤ v1 ∧ v1 < W 8 4) → (chOk (W (ppc v1) 0) v2 v3 → B_X11_change G K 67 [(0, .ref 175), (1, .int v1), (2, .int v2), (3, .int v3)] [.int 1] M) ∧ (¬ chOk (W (ppc v1) 0) v2 v3 → B_X11_change G K 67 [(0, .ref 175), (1, .int v1), (2, .int v2), (3, .int v3)] [.int 0] M) := by
    intro c
    obtain ⟨i1, i2, i3, hP, ez⟩ := hQ.ix c
    obtain ⟨p0, p1, hPW, e0, e1, e2, e3⟩ := hP.at
    rw [ez] at hPW e0 e1 e2 e3
    have vp : vp_in v1 9 := by rw [p1]; exact vp_nI p0 (by decide)
    refine ⟨fun q => ?_, fun q => k_X11_change_67 ⟨fun z => absurd rfl z, fun _ => h2 c q⟩⟩
    have hok := hok c q
    -- with the value known
    have go : ∀ x, x = chVal v2 v3 → B_X11_change G K 92 [(0, .ref 175), (1, .int v1), (2, .int v2)] [.int x] M := by
      intro x ex
      rw [← ex] at hok
      refine k_X11_change_92 ⟨fun c4 => ⟨fun c5 => ⟨vp, k_X11_change_128 ⟨fun _ => ⟨fun _ => ⟨vp, ?_⟩, fun z => absurd z c5⟩, fun z => absurd z c4⟩⟩, fun c5 => ⟨vp, k_X11_change_128 ⟨fun _ => ⟨fun z => absurd c5 z, fun _ => ⟨vp, ?_⟩⟩, fun z => absurd z c4⟩⟩⟩, fun c4 => ⟨vp, k_X11_change_128 ⟨fun z => absurd c4 z, fun _ => ⟨vp, ?_⟩⟩⟩⟩
      · have e : v2 = 3 := by
          rcases q with q | q
          · exact q.1
          · rcases q.1 with z | z
            · exact absurd z c4
            · exact absurd z c5
        subst e
        rw [e3]; exact hok
      · subst c5
        rw [e2]; exact hok
      · subst c4
        rw [e1]; exact hok
    refine k_X11_change_67 ⟨fun _ => ⟨fun c3 => go v3 ?_, fun c3 => ⟨fun c4 => go v3 ?_, fun c4 => go (-6) ?_⟩⟩, fun z => absurd z (by decide)⟩
    · unfold chVal
      rcases q with q | q
      · rw [if_pos q.1]
      · rcases q.1 with z | z <;> (rw [z] at c3; exact absurd c3 (by decide))
    · have n3 : ¬ v2 = 3 := fun z => c3 (by rw [z]; decide)
      unfold chVal wishOf
      rw [if_neg n3, if_neg (fun z => by rw [z] at c4; exact absurd c4 (by decide))]
    · have n3 : ¬ v2 = 3 := fun z => c3 (by rw [z]; decide)
      unfold chVal wishOf
      rcases q with q | q
      · exact absurd q.1 n3
      · rcases q.2 with z | z
        · rw [if_neg n3, if_pos z]
        · obtain ⟨⟨b, hb, eb⟩, -⟩ := hPW
          have eb' : W (ppc v1) 0 = nI b := eb
          rw [eb'] at z
          exact absurd (Int32.le_trans (nI_pos' (by omega)) z.1) c4
  refine e_X11_change (k_X11_change_0 (W := W) ⟨hQ, fun c => ?_, fun c => h1 c⟩)
  obtain ⟨m1, m0⟩ := main c
  obtain ⟨i1, i2, i3, hP, ez⟩ := hQ.ix c
  obtain ⟨p0, p1, -, e0, -⟩ := hP.at
  rw [ez] at e0
  have vp : vp_in v1 9 := by rw [p1]; exact vp_nI p0 (by decide)
  have two : ∀ w : Int32, (1 : Int32) ≤ w ∧ w ≤ 2 ↔ (w = 1 ∨ w = 2) := by
    intro w
    constructor
    · intro z
      by_cases w1 : w = 1
      · exact Or.inl w1
      · refine Or.inr (two12 ⟨z.1, Int32.le_trans z.2 (by decide)⟩ (fun y => ?_) w1)
        rw [y] at z; exact absurd z.2 (by decide)
    · rintro (z | z) <;> rw [z] <;> decide
  rw [e0]
  refine ⟨fun c3 => ⟨fun c4 => m0 ?_, fun c4 => ⟨fun c5 => m1 (Or.inr ⟨(two _).mp c4, Or.inl c5⟩), fun c5 => ⟨vp, fun c6 => m0 ?_, fun c6 => m1 (Or.inr ⟨(two _).mp c4, Or.inr c6⟩)⟩⟩⟩, fun c3 => ?_⟩
  · rintro (q | q)
    · exact c3 q.1
    · exact c4 ((two _).mpr q.1)
  · rintro (q | q)
    · exact c3 q.1
    · exact q.2.elim c5 c6
  · by_cases c7 : (0 : Int32) ≤ v3 ∧ v3 ≤ 31
    · rw [bi_t c7]; exact m1 (Or.inl ⟨c3, c7⟩)
    · rw [bi_f c7]
      refine m0 ?_
      rintro (q | q)
      · exact c7 q.2
      · rw [c3] at q; rcases q.1 with z | z <;> exact absurd z (by decide)

