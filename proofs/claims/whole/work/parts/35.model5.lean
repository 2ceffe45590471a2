/-! ===== 35.model5 ===== -/
/-! BetweenLawsModel.plainGift(II)I -/
abbrev rm_X11_plainGift : Room := { frames := 5, cells := 0, slots := 0, locals := 122 }
abbrev B_X11_plainGift (G : GT) (K : Int32 → Mem → Prop) := BT G (Rep G) RX11 "plainGift" cX11_plainGift 9 (some .int) rm_X11_plainGift K 0 0
abbrev T_X11_plainGift (G : GT) (as : List Value) (M : Mem) (K : Int32 → Mem → Prop) : Prop := MT G (Rep G) yX11_plainGift cX11_plainGift 9 (some .int) rm_X11_plainGift as M K
theorem e_X11_plainGift {G : GT} {K : Int32 → Mem → Prop} {M : Mem} {v1 : Int32} {v2 : Int32} (h : B_X11_plainGift G K 0 [(0, .ref 175), (1, .int v1), (2, .int v2)] [] M) : T_X11_plainGift G [.ref 175, .int v1, .int v2] M K := MT.of (by decide +kernel) rfl rfl (Nat.le_of_ble_eq_true rfl) rfl h
set_option maxRecDepth 4000 in
theorem k_X11_plainGift_0 {G : GT} {K : Int32 → Mem → Prop} {M : Mem} {W : WT} {v1 : Int32} {v2 : Int32} (h : (PR W M v1) ∧ (∀ r1 : Int32, r1 = (c_dayOn W (zp v1) v2) → (RG W M) ∧ (∀ r2 : Int32, r2 = (w_undone W r1) → (RG W M) ∧ (PR W M v1) ∧ (∀ r3 : Int32, r3 = (w_gov W (zp v1) r1) → ∀ N3 : Mem, N3 = (m_i M 175 30 (w_gov2 W (zp v1) r1).2) → B_X11_plainGift G K 30 [(0, .ref 175), (1, .int v1), (4, .int r2), (5, .int r3), (6, .int 0)] [] (m_i N3 175 32 0))))) : B_X11_plainGift G K 0 [(0, .ref 175), (1, .int v1), (2, .int v2)] [] M := by
  refine BT.aload_n dX11_plainGift_0 rfl 0 rfl ?_
  refine BT.iload_n dX11_plainGift_1 rfl 1 rfl ?_
  refine BT.iload_n dX11_plainGift_2 rfl 2 rfl ?_
  refine BT.mcVr [.int v1, .int v2] (t_X11_sameDay h.1 ⟨rfl, rfl⟩) mb_X11_sameDay mv_X11_sameDay lk_X11_237 rfl (by decide) rfl (recvRep ho_175 rfl) (Nat.le_of_ble_eq_true rfl) dX11_plainGift_3 (fun r1 e1 => ?_)
  show B_X11_plainGift G K 6 [(0, .ref 175), (1, .int v1), (2, .int v2)] [.int r1] M
  refine BT.istore_n (L' := [(3, .int r1), (0, .ref 175), (1, .int v1), (2, .int v2)]) dX11_plainGift_6 rfl (by decide) rfl ?_
  refine BT.aload_n dX11_plainGift_7 rfl 1 rfl ?_
  refine BT.iload_n dX11_plainGift_8 rfl 0 rfl ?_
  refine BT.mcVr [.int r1] (t_X11_undoneOf (h.2 r1 e1).1 ⟨rfl, rfl⟩) mb_X11_undoneOf mv_X11_undoneOf lk_X11_181 rfl (by decide) rfl (recvRep ho_175 rfl) (Nat.le_of_ble_eq_true rfl) dX11_plainGift_9 (fun r2 e2 => ?_)
  show B_X11_plainGift G K 12 [(3, .int r1), (0, .ref 175), (1, .int v1), (2, .int v2)] [.int r2] M
  refine BT.istore (L' := [(4, .int r2), (3, .int r1), (0, .ref 175), (1, .int v1), (2, .int v2)]) dX11_plainGift_12 (by decide) rfl ?_
  refine BT.aload_n dX11_plainGift_14 rfl 2 rfl ?_
  refine BT.iload_n dX11_plainGift_15 rfl 3 rfl ?_
  refine BT.iload_n dX11_plainGift_16 rfl 1 rfl ?_
  refine BT.mcVn [.int v1, .int r1] (t_X11_governing ((h.2 r1 e1).2 r2 e2).1 ((h.2 r1 e1).2 r2 e2).2.1 ⟨rfl, rfl⟩) mb_X11_governing mv_X11_governing lk_X11_240 rfl (by decide) rfl (recvRep ho_175 rfl) (Nat.le_of_ble_eq_true rfl) dX11_plainGift_17 (fun r3 e3 N3 g3 => ?_)
  show B_X11_plainGift G K 20 [(4, .int r2), (3, .int r1), (0, .ref 175), (1, .int v1), (2, .int v2)] [.int r3] N3
  refine BT.istore (L' := [(5, .int r3), (4, .int r2), (3, .int r1), (0, .ref 175), (1, .int v1), (2, .int v2)]) dX11_plainGift_20 (by decide) rfl ?_
  refine BT.iconst (v := 0) dX11_plainGift_22 (by decide) ?_
  refine BT.istore (L' := [(6, .int 0), (5, .int r3), (4, .int r2), (3, .int r1), (0, .ref 175), (1, .int v1), (2, .int v2)]) dX11_plainGift_23 (by decide) rfl ?_
  refine BT.aload_n dX11_plainGift_25 rfl 4 rfl ?_
  refine BT.iconst (v := 0) dX11_plainGift_26 (by decide) ?_
  refine BT.putI fl_X11_251 ft_11_32 ho_175 rfl dX11_plainGift_27 ?_
  refine BT.sub [4, 5, 2, 1, 0] rfl ?_
  exact (((h.2 r1 e1).2 r2 e2).2.2 r3 e3 N3 g3)
set_option maxRecDepth 4000 in
theorem k_X11_plainGift_30 {G : GT} {K : Int32 → Mem → Prop} {M : Mem} {W : WT} {v1 : Int32} {v4 : Int32} {v5 : Int32} {v6 : Int32} (h : (RG W M) ∧ (¬ ((0 : Int32) ≤ v5 ∧ v5 < W 8 1) → (RG W M) ∧ (¬ ((0 : Int32) ≤ v5 ∧ v5 < W 8 1) → K (-6) M) ∧ (((0 : Int32) ≤ v5 ∧ v5 < W 8 1) → K (-3) M)) ∧ (((0 : Int32) ≤ v5 ∧ v5 < W 8 1) → (¬ ((v6 >>> (v5 &&& 31)) &&& 1) = 0 → (RG W M) ∧ (¬ ((0 : Int32) ≤ v5 ∧ v5 < W 8 1) → K (-6) M) ∧ (((0 : Int32) ≤ v5 ∧ v5 < W 8 1) → K (-3) M)) ∧ (((v6 >>> (v5 &&& 31)) &&& 1) = 0 → (RG W M) ∧ ((0 : Int32) ≤ v5 ∧ v5 < W 8 1) ∧ (PR W M v1) ∧ (∀ r12 : Int32, r12 = (z_fit W v5 v1) → (r12 < 0 → K (-6) M) ∧ (¬ r12 < 0 → (¬ ((v4 >>> (v5 &&& 31)) &&& 1) = 1 → (vp_in (M.1 175 32) 8) ∧ (vp_in (((6 : Int32) * v5) + r12) 48) ∧ (∀ y17 : Int32, y17 = ((m_i (m_i M 194 (Int32.toNatClampNeg (M.1 175 32)) v5) 175 32 (((m_i M 194 (Int32.toNatClampNeg (M.1 175 32)) v5).1 175 32) + 1)).1 181 (Int32.toNatClampNeg (((6 : Int32) * v5) + r12))) → (100 ≤ y17 → B_X11_plainGift G K 30 [(0, .ref 175), (1, .int v1), (4, .int v4), (5, .int (y17 - 100)), (6, .int (v6 ||| ((1 : Int32) <<< (v5 &&& 31))))] [] (m_i (m_i M 194 (Int32.toNatClampNeg (M.1 175 32)) v5) 175 32 (((m_i M 194 (Int32.toNatClampNeg (M.1 175 32)) v5).1 175 32) + 1))) ∧ (¬ 100 ≤ y17 → K y17 (m_i (m_i M 194 (Int32.toNatClampNeg (M.1 175 32)) v5) 175 32 (((m_i M 194 (Int32.toNatClampNeg (M.1 175 32)) v5).1 175 32) + 1))))) ∧ (((v4 >>> (v5 &&& 31)) &&& 1) = 1 → K (-6) M)))))) : B_X11_plainGift G K 30 [(0, .ref 175), (1, .int v1), (4, .int v4), (5, .int v5), (6, .int v6)] [] M := by
  refine BT.aload_n dX11_plainGift_30 rfl 0 rfl ?_
  refine BT.iload dX11_plainGift_31 3 rfl ?_
  refine BT.mcV [.int v5] (t_X11_isLaw h.1 ?_) mb_X11_isLaw mv_X11_isLaw lk_X11_169 rfl (by decide) rfl (recvRep ho_175 rfl) (Nat.le_of_ble_eq_true rfl) dX11_plainGift_33
  show B_X11_plainGift G K 36 [(0, .ref 175), (1, .int v1), (4, .int v4), (5, .int v5), (6, .int v6)] [.int (bi ((0 : Int32) ≤ v5 ∧ v5 < W 8 1))] M
  refine BT.if_eq (tgt := 142) dX11_plainGift_36 (by decide) (fun c => ?_) (fun c => ?_)
  · have c2 := bi_eq0.mp c
    refine BT.aload_n dX11_plainGift_142 rfl 0 rfl ?_
    refine BT.iload dX11_plainGift_143 3 rfl ?_
    refine BT.mcV [.int v5] (t_X11_isLaw (h.2.1 c2).1 ?_) mb_X11_isLaw mv_X11_isLaw lk_X11_169 rfl (by decide) rfl (recvRep ho_175 rfl) (Nat.le_of_ble_eq_true rfl) dX11_plainGift_145
    show B_X11_plainGift G K 148 [(0, .ref 175), (1, .int v1), (4, .int v4), (5, .int v5), (6, .int v6)] [.int (bi ((0 : Int32) ≤ v5 ∧ v5 < W 8 1))] M
    refine BT.if_eq (tgt := 156) dX11_plainGift_148 (by decide) (fun c => ?_) (fun c => ?_)
    · have c5 := bi_eq0.mp c
      refine BT.bipush (v := (-6)) dX11_plainGift_156 (by decide) ?_
      exact BT.iret dX11_plainGift_158 rfl (by decide) (by decide) ((h.2.1 c2).2.1 c5)
    · have c6 := bi_ne0.mp c
      refine BT.bipush (v := (-3)) dX11_plainGift_151 (by decide) ?_
      refine BT.goto (tgt := 158) dX11_plainGift_153 (by decide) ?_
      exact BT.iret dX11_plainGift_158 rfl (by decide) (by decide) ((h.2.1 c2).2.2 c6)
  · have c3 := bi_ne0.mp c
    refine BT.iload dX11_plainGift_39 4 rfl ?_
    refine BT.iload dX11_plainGift_41 3 rfl ?_
    refine BT.ishr dX11_plainGift_43 ?_
    refine BT.iconst (v := 1) dX11_plainGift_44 (by decide) ?_
    refine BT.iand dX11_plainGift_45 ?_
    refine BT.if_ne (tgt := 142) dX11_plainGift_46 (by decide) (fun c => ?_) (fun c => ?_)
    · have c7 := c
      refine BT.aload_n dX11_plainGift_142 rfl 0 rfl ?_
      refine BT.iload dX11_plainGift_143 3 rfl ?_
      refine BT.mcV [.int v5] (t_X11_isLaw ((h.2.2 c3).1 c7).1 ?_) mb_X11_isLaw mv_X11_isLaw lk_X11_169 rfl (by decide) rfl (recvRep ho_175 rfl) (Nat.le_of_ble_eq_true rfl) dX11_plainGift_145
      show B_X11_plainGift G K 148 [(0, .ref 175), (1, .int v1), (4, .int v4), (5, .int v5), (6, .int v6)] [.int (bi ((0 : Int32) ≤ v5 ∧ v5 < W 8 1))] M
      refine BT.if_eq (tgt := 156) dX11_plainGift_148 (by decide) (fun c => ?_) (fun c => ?_)
      · have c10 := bi_eq0.mp c
        refine BT.bipush (v := (-6)) dX11_plainGift_156 (by decide) ?_
        exact BT.iret dX11_plainGift_158 rfl (by decide) (by decide) (((h.2.2 c3).1 c7).2.1 c10)
      · have c11 := bi_ne0.mp c
        refine BT.bipush (v := (-3)) dX11_plainGift_151 (by decide) ?_
        refine BT.goto (tgt := 158) dX11_plainGift_153 (by decide) ?_
        exact BT.iret dX11_plainGift_158 rfl (by decide) (by decide) (((h.2.2 c3).1 c7).2.2 c11)
    · have c8 := c
      refine BT.aload_n dX11_plainGift_49 rfl 0 rfl ?_
      refine BT.iload dX11_plainGift_50 3 rfl ?_
      refine BT.iload_n dX11_plainGift_52 rfl 1 rfl ?_
      refine BT.mcVr [.int v5, .int v1] (t_X11_fitting ((h.2.2 c3).2 c8).1 ((h.2.2 c3).2 c8).2.1 ((h.2.2 c3).2 c8).2.2.1 ⟨rfl, rfl⟩) mb_X11_fitting mv_X11_fitting lk_X11_210 rfl (by decide) rfl (recvRep ho_175 rfl) (Nat.le_of_ble_eq_true rfl) dX11_plainGift_53 (fun r12 e12 => ?_)
      show B_X11_plainGift G K 56 [(0, .ref 175), (1, .int v1), (4, .int v4), (5, .int v5), (6, .int v6)] [.int r12] M
      refine BT.istore (L' := [(7, .int r12), (0, .ref 175), (1, .int v1), (4, .int v4), (5, .int v5), (6, .int v6)]) dX11_plainGift_56 (by decide) rfl ?_
      refine BT.iload dX11_plainGift_58 0 rfl ?_
      refine BT.if_lt (tgt := 74) dX11_plainGift_60 (by decide) (fun c => ?_) (fun c => ?_)
      · have c13 := c
        refine BT.bipush (v := (-6)) dX11_plainGift_74 (by decide) ?_
        exact BT.iret dX11_plainGift_76 rfl (by decide) (by decide) ((((h.2.2 c3).2 c8).2.2.2 r12 e12).1 c13)
      · have c14 := c
        refine BT.iload dX11_plainGift_63 3 rfl ?_
        refine BT.iload dX11_plainGift_65 4 rfl ?_
        refine BT.ishr dX11_plainGift_67 ?_
        refine BT.iconst (v := 1) dX11_plainGift_68 (by decide) ?_
        refine BT.iand dX11_plainGift_69 ?_
        refine BT.iconst (v := 1) dX11_plainGift_70 (by decide) ?_
        refine BT.icmp_ne (tgt := 77) dX11_plainGift_71 (by decide) (fun c => ?_) (fun c => ?_)
        · have c15 := c
          refine BT.aload_n dX11_plainGift_77 rfl 1 rfl ?_
          refine BT.getR (r := 194) fl_X11_68 ho_175 rfl dX11_plainGift_78 ?_
          refine BT.aload_n dX11_plainGift_81 rfl 1 rfl ?_
          refine BT.getI fl_X11_251 ho_175 rfl dX11_plainGift_82 ?_
          refine BT.iload dX11_plainGift_85 4 rfl ?_
          refine BT.iast ha_194 (((((h.2.2 c3).2 c8).2.2.2 r12 e12).2 c14).1 c15).1 dX11_plainGift_87 ?_
          refine BT.aload_n dX11_plainGift_88 rfl 1 rfl ?_
          refine BT.dup dX11_plainGift_89 rfl ?_
          refine BT.getI fl_X11_251 ho_175 rfl dX11_plainGift_90 ?_
          refine BT.iconst (v := 1) dX11_plainGift_93 (by decide) ?_
          refine BT.iadd dX11_plainGift_94 ?_
          refine BT.putI fl_X11_251 ft_11_32 ho_175 rfl dX11_plainGift_95 ?_
          refine BT.iload dX11_plainGift_98 5 rfl ?_
          refine BT.iconst (v := 1) dX11_plainGift_100 (by decide) ?_
          refine BT.iload dX11_plainGift_101 4 rfl ?_
          refine BT.ishl dX11_plainGift_103 ?_
          refine BT.ior dX11_plainGift_104 ?_
          refine BT.istore (L' := [(6, .int (v6 ||| ((1 : Int32) <<< (v5 &&& 31)))), (7, .int r12), (0, .ref 175), (1, .int v1), (4, .int v4), (5, .int v5)]) dX11_plainGift_105 (by decide) rfl ?_
          refine BT.aload_n dX11_plainGift_107 rfl 2 rfl ?_
          refine BT.getR (r := 181) fl_X11_25 ho_175 rfl dX11_plainGift_108 ?_
          refine BT.bipush (v := 6) dX11_plainGift_111 (by decide) ?_
          refine BT.iload dX11_plainGift_113 5 rfl ?_
          refine BT.imul dX11_plainGift_115 ?_
          refine BT.iload dX11_plainGift_116 1 rfl ?_
          refine BT.iadd dX11_plainGift_118 ?_
          refine BT.iald ha_181 (((((h.2.2 c3).2 c8).2.2.2 r12 e12).2 c14).1 c15).2.1 dX11_plainGift_119 ?_
          refine BT.topi (fun y17 f17 => ?_)
          refine BT.istore (L' := [(8, .int y17), (6, .int (v6 ||| ((1 : Int32) <<< (v5 &&& 31)))), (7, .int r12), (0, .ref 175), (1, .int v1), (4, .int v4), (5, .int v5)]) dX11_plainGift_120 (by decide) rfl ?_
          refine BT.iload dX11_plainGift_122 0 rfl ?_
          refine BT.bipush (v := 100) dX11_plainGift_124 (by decide) ?_
          refine BT.icmp_ge (tgt := 132) dX11_plainGift_126 (by decide) (fun c => ?_) (fun c => ?_)
          · have c18 := c
            refine BT.iload dX11_plainGift_132 0 rfl ?_
            refine BT.bipush (v := 100) dX11_plainGift_134 (by decide) ?_
            refine BT.isub dX11_plainGift_136 ?_
            refine BT.istore (L' := [(5, .int (y17 - 100)), (8, .int y17), (6, .int (v6 ||| ((1 : Int32) <<< (v5 &&& 31)))), (7, .int r12), (0, .ref 175), (1, .int v1), (4, .int v4)]) dX11_plainGift_137 (by decide) rfl ?_
            refine BT.goto (tgt := 30) dX11_plainGift_139 (by decide) ?_
            refine BT.sub [4, 5, 6, 0, 2] rfl ?_
            exact (((((((h.2.2 c3).2 c8).2.2.2 r12 e12).2 c14).1 c15).2.2 y17 f17).1 c18)
          · have c19 := c
            refine BT.iload dX11_plainGift_129 0 rfl ?_
            exact BT.iret dX11_plainGift_131 rfl (by decide) (by decide) (((((((h.2.2 c3).2 c8).2.2.2 r12 e12).2 c14).1 c15).2.2 y17 f17).2 c19)
        · have c16 := c
          refine BT.bipush (v := (-6)) dX11_plainGift_74 (by decide) ?_
          exact BT.iret dX11_plainGift_76 rfl (by decide) (by decide) (((((h.2.2 c3).2 c8).2.2.2 r12 e12).2 c14).2 c16)

theorem t_X11_plainGift {G : GT} {K : Int32 → Mem → Prop} {M : Mem} {W : WT} {v1 v2 : Int32} (hR : RG W M) (hP : PR W M v1) (h : ∀ N, Zcr M N ∧ ZPath N (w_path9 W (zp v1) (w_gov W (zp v1) (c_dayOn W (zp v1) v2)) (c_dayOn W (zp v1) v2)) → K (w_fol9 W (zp v1) (w_gov W (zp v1) (c_dayOn W (zp v1) v2)) (c_dayOn W (zp v1) v2)) N) : T_X11_plainGift G [.ref 175, .int v1, .int v2] M K := by
  obtain ⟨h1, h2, h8⟩ := hR.n
  refine e_X11_plainGift (k_X11_plainGift_0 (W := W) ⟨hP, fun r1 e1 => ⟨hR, fun r2 e2 => ⟨hR, hP, fun r3 e3 N3 g3 => ?_⟩⟩⟩)
  rw [← e1, ← e3] at h
  unfold w_fol9 w_path9 at h
  rw [← e2] at h
  clear e1 e3
  -- k steps are left, c laws have been, at s
  have key : ∀ (k : Nat) (c : Nat) (s : Nat → Nat) (pre : List Int32) (been l : Int32) (N : Mem), c + k = 8 → Zcr M N → N.1 175 32 = nI c → pre.length = c → (∀ i, i < c → pre[i]? = some (nI (s i)) ∧ N.1 194 i = nI (s i) ∧ s i < w_n W ∧ bitO r2 (nI (s i)) ∧ ¬ c_gift W (10 + 5 * s i) (W (zp v1) 3) = -6) → (∀ i j, i < j → j < c → ¬ s i = s j) → (∀ x, x < 32 → (bP been x ↔ ∃ i, i < c ∧ s i = x)) →
      (∀ N', Zcr M N' ∧ ZPath N' (pre ++ w_path W (W (zp v1) 3) r2 (k + 1) been l) → K (w_fol W (W (zp v1) 3) r2 (k + 1) been l) N') → B_X11_plainGift G K 30 [(0, .ref 175), (1, .int v1), (4, .int r2), (5, .int l), (6, .int been)] [] N := by
    intro k
    induction k with
    | zero =>
      intro c s pre been l N hc hN hcnt hlen hpre hinj hbeen hk
      have hRN := hR.z hN
      have done : ZPath N pre := ⟨by rw [hcnt, hlen], fun j hj => by rw [hlen] at hj; rw [(hpre j hj).1, (hpre j hj).2.1]⟩
      unfold w_fol w_path at hk
      refine k_X11_plainGift_30 (W := W) ⟨hRN, fun c1 => ⟨hRN, fun _ => ?_, fun q => absurd q c1⟩, fun c1 => ?_⟩
      · rw [sel_t (Or.inl c1), sel_t (Or.inl c1), List.append_nil] at hk
        exact hk N ⟨hN, done⟩
      · obtain ⟨i1, i2, i3⟩ := hR.1.ix c1
        obtain ⟨j, ej⟩ : ∃ j, j = Int32.toNatClampNeg l := ⟨_, rfl⟩
        rw [← ej] at i1 i2 i3
        subst i3
        have hin : ∃ i, i < c ∧ s i = j := by
          refine Classical.byContradiction fun hno => ?_
          refine php 8 (fun i => if i < 8 then s i else j) (fun i hi => ?_) (fun i i' hi hi' e => ?_)
          · show (if i < 8 then s i else j) < 8
            by_cases q : i < 8
            · rw [if_pos q]; have := (hpre i (by omega)).2.2.1; omega
            · rw [if_neg q]; omega
          · have e : (if i < 8 then s i else j) = if i' < 8 then s i' else j := e
            by_cases q : i < 8
            · by_cases q' : i' < 8
              · rw [if_pos q, if_pos q'] at e
                rcases Nat.lt_trichotomy i i' with z | z | z
                · exact absurd e (hinj i i' z (by omega))
                · exact z
                · exact absurd e.symm (hinj i' i z (by omega))
              · rw [if_pos q, if_neg q'] at e; exact absurd ⟨i, by omega, e⟩ hno
            · by_cases q' : i' < 8
              · rw [if_neg q, if_pos q'] at e; exact absurd ⟨i', by omega, e.symm⟩ hno
              · omega
        have hb : bP been j := (hbeen j (by omega)).mpr hin
        obtain ⟨i, hi, esi⟩ := hin
        have hb2 := (hpre i hi).2.2.2
        rw [esi] at hb2
        have n1 : ¬ (¬ ((0 : Int32) ≤ nI j ∧ nI j < W 8 1) ∨ ¬ bitO r2 (nI j)) := fun q => q.elim (fun q => q c1) (fun q => q hb2.1)
        rw [sel_f n1, sel_f n1, ix_nI (by omega), sel_f hb2.2, sel_f hb2.2, sel_t (Or.inr rfl), sel_t (Or.inr rfl), List.append_nil] at hk
        refine ⟨fun _ => ⟨hRN, fun q => absurd c1 q, fun _ => hk N ⟨hN, done⟩⟩, fun c2 => absurd hb ((bit_is0 (by omega)).mp c2)⟩
    | succ k ih =>
      intro c s pre been l N hc hN hcnt hlen hpre hinj hbeen hk
      have hRN := hR.z hN
      have hPN := hP.z hN
      have done : ZPath N pre := ⟨by rw [hcnt, hlen], fun j hj => by rw [hlen] at hj; rw [(hpre j hj).1, (hpre j hj).2.1]⟩
      unfold w_fol w_path at hk
      refine k_X11_plainGift_30 (W := W) ⟨hRN, fun c1 => ⟨hRN, fun _ => ?_, fun q => absurd q c1⟩, fun c1 => ⟨fun c2 => ⟨hRN, fun q => absurd c1 q, fun _ => ?_⟩, fun c2 => ⟨hRN, c1, hPN, fun r12 e12 => ⟨fun c3 => ?_, fun c3 => ⟨fun c4 => ?_, fun c4 => ?_⟩⟩⟩⟩⟩
      · rw [sel_t (Or.inl c1), sel_t (Or.inl c1), List.append_nil] at hk
        exact hk N ⟨hN, done⟩
      · obtain ⟨i1, i2, i3⟩ := hR.1.ix c1
        obtain ⟨j, ej⟩ : ∃ j, j = Int32.toNatClampNeg l := ⟨_, rfl⟩
        rw [← ej] at i1 i2 i3
        subst i3
        have hb : bP been j := Classical.not_not.mp fun q => c2 ((bit_is0 (by omega)).mpr q)
        obtain ⟨i, hi, esi⟩ := (hbeen j (by omega)).mp hb
        have hb2 := (hpre i hi).2.2.2
        rw [esi] at hb2
        have n1 : ¬ (¬ ((0 : Int32) ≤ nI j ∧ nI j < W 8 1) ∨ ¬ bitO r2 (nI j)) := fun q => q.elim (fun q => q c1) (fun q => q hb2.1)
        have n2 : ¬ bitO been (nI j) ∨ k + 1 = 0 := Or.inl c2
        rw [sel_f n1, sel_f n1, ix_nI (by omega), sel_f hb2.2, sel_f hb2.2, sel_t n2, sel_t n2, List.append_nil] at hk
        exact hk N ⟨hN, done⟩
      · have hg := c_gift_fit hR c1 hP
        rcases hg with ⟨g1, g2⟩ | ⟨j, g, hg1, hg2, g1, g2, -⟩
        · have hk := hk N
          by_cases c5 : ¬ ((0 : Int32) ≤ l ∧ l < W 8 1) ∨ ¬ bitO r2 l
          · rw [sel_t c5, sel_t c5, List.append_nil] at hk
            exact hk ⟨hN, done⟩
          · rw [sel_f c5, sel_f c5, sel_t g2, sel_t g2, List.append_nil] at hk
            exact hk ⟨hN, done⟩
        · rw [e12, g1] at c3; exact absurd c3 (nI_ge0 (by omega))
      · obtain ⟨i1, i2, i3⟩ := hR.1.ix c1
        obtain ⟨j, ej⟩ : ∃ j, j = Int32.toNatClampNeg l := ⟨_, rfl⟩
        rw [← ej] at i1 i2 i3
        subst i3
        have hg := c_gift_fit hR c1 hP
        have n0 : ¬ bP been j := (bit_is0 (by omega)).mp c2
        have n4 : bitO r2 (nI j) := (bit_is0 (by omega)).mpr (fun q => c4 ((bit_is1 (by omega)).mpr q))
        have n1 : ¬ (¬ ((0 : Int32) ≤ nI j ∧ nI j < W 8 1) ∨ ¬ bitO r2 (nI j)) := fun q => q.elim (fun q => q c1) (fun q => q n4)
        have n2 : ¬ (¬ bitO been (nI j) ∨ k + 1 = 0) := fun q => q.elim (fun q => q c2) (fun q => by omega)
        unfold plw at hg
        rw [ix_nI (by omega)] at hg hk
        rcases hg with ⟨g1, g2⟩ | ⟨i, g, hg1, hg2, g1, g2, g3⟩
        · rw [e12, g1] at c3; exact absurd (by decide) c3
        · have n3 : ¬ c_gift W (10 + 5 * j) (W (zp v1) 3) = -6 := by rw [g2]; exact nI_n6 (by omega)
          have hc8 : c < 8 := by omega
          have ea : (6 : Int32) * nI j + r12 = nI (6 * j + i) := by rw [e12, g1, ← nI_add, ← nI_mul]; rfl
          rw [sel_f n1, sel_f n1, sel_f n3, sel_f n3, sel_f n2, sel_f n2, g2] at hk
          rw [hcnt, ea]
          simp only [ix_nI (show c < 2 ^ 31 by omega), ix_nI (show 6 * j + i < 2 ^ 31 by omega)]
          obtain ⟨N2, eN2⟩ : ∃ N2, N2 = m_i (m_i N 194 c (nI j)) 175 32 ((m_i N 194 c (nI j)).1 175 32 + 1) := ⟨_, rfl⟩
          rw [← eN2]
          have e32 : (m_i N 194 c (nI j)).1 175 32 + 1 = nI (c + 1) := by rw [m_i_ne (by omega), hcnt, nI_1]
          rw [e32] at eN2
          have hN2 : Zcr M N2 := by rw [eN2]; exact (hN.mc (by decide)).mi (by decide)
          have hc2 : N2.1 175 32 = nI (c + 1) := by rw [eN2]; exact m_i_at
          have h194 : ∀ q, N2.1 194 q = (m_i N 194 c (nI j)).1 194 q := fun q => by rw [eN2]; exact m_i_ne (by omega)
          have h181 : N2.1 181 (6 * j + i) = nI g := by rw [hN2.1 181 (by decide), g3]
          have hpre2 : ∀ q, q < c + 1 → (pre ++ [nI j])[q]? = some (nI (if q = c then j else s q)) ∧ N2.1 194 q = nI (if q = c then j else s q) ∧ (if q = c then j else s q) < w_n W ∧ bitO r2 (nI (if q = c then j else s q)) ∧ ¬ c_gift W (10 + 5 * (if q = c then j else s q)) (W (zp v1) 3) = -6 := by
            intro q hq
            by_cases eq : q = c
            · subst eq
              rw [if_pos rfl, h194, m_i_at]
              refine ⟨?_, rfl, i1, n4, n3⟩
              rw [← hlen, List.getElem?_append_right (Nat.le_refl _), Nat.sub_self]; rfl
            · rw [if_neg eq, h194, m_i_ne (by omega)]
              obtain ⟨z1, z2⟩ := hpre q (by omega)
              refine ⟨?_, z2⟩
              rw [List.getElem?_append_left (by omega)]; exact z1
          refine ⟨vp_nI hc8 (by decide), vp_nI (by omega) (by decide), fun y17 e17 => ?_⟩
          rw [h181] at e17
          subst e17
          refine ⟨fun c5 => ?_, fun c5 => ?_⟩
          · rw [sel_t c5, sel_t c5] at hk
            refine ih (c + 1) (fun q => if q = c then j else s q) (pre ++ [nI j]) _ _ N2 (by omega) hN2 hc2 (by rw [List.length_append, hlen]; rfl) hpre2 (fun i' j' hij hj' => ?_) (fun x hx => ?_) (fun N' hN' => hk N' ?_)
            · show ¬ (if i' = c then j else s i') = if j' = c then j else s j'
              rw [if_neg (by omega)]
              by_cases q : j' = c
              · rw [if_pos q]
                intro z
                exact n0 ((hbeen j (by omega)).mpr ⟨i', by omega, z⟩)
              · rw [if_neg q]; exact hinj i' j' hij (by omega)
            · rw [bP_or, bP_shl (by omega) hx, hbeen x hx]
              constructor
              · rintro (⟨q, hq, z⟩ | z)
                · exact ⟨q, by omega, by show (if q = c then j else s q) = x; rw [if_neg (by omega)]; exact z⟩
                · exact ⟨c, by omega, by show (if c = c then j else s c) = x; rw [if_pos rfl]; exact z.symm⟩
              · rintro ⟨q, hq, z⟩
                have z : (if q = c then j else s q) = x := z
                by_cases e : q = c
                · rw [if_pos e] at z; exact Or.inr z.symm
                · rw [if_neg e] at z; exact Or.inl ⟨q, by omega, z⟩
            · rw [List.append_assoc] at hN'
              exact hN'
          · rw [sel_f c5, sel_f c5] at hk
            refine hk N2 ⟨hN2, ?_, fun q hq => ?_⟩
            · rw [hc2, List.length_append, hlen]; rfl
            · rw [List.length_append, hlen] at hq
              have hq : q < c + 1 := hq
              rw [(hpre2 q hq).1, (hpre2 q hq).2.1]
      · by_cases c5 : ¬ ((0 : Int32) ≤ l ∧ l < W 8 1) ∨ ¬ bitO r2 l
        · rw [sel_t c5, sel_t c5, List.append_nil] at hk
          exact hk N ⟨hN, done⟩
        · refine absurd (Or.inr fun q => ?_) c5
          have q : ((r2 >>> (l &&& 31)) &&& 1) = 0 := q
          rw [c4] at q
          exact absurd q (by decide)
  refine key 8 0 (fun _ => 0) [] 0 r3 (m_i N3 175 32 0) rfl (by rw [g3]; exact (Zcr.rf.mi (by decide)).mi (by decide)) m_i_at rfl (fun i hi => absurd hi (by omega)) (fun i j hij hj => absurd hj (by omega)) (fun x _ => ⟨fun q => absurd q bP_0, fun ⟨i, hi, _⟩ => absurd hi (by omega)⟩) h

