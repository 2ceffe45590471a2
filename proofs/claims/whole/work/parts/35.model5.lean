/-! ===== 35.model5 ===== -/
/-! BetweenLawsModel.plainGift(II)I -/
abbrev rm_X11_plainGift : Room := { frames := 5, cells := 0, slots := 0, locals := 122 }
abbrev B_X11_plainGift (G : GT) (K : Int32 → Mem → Prop) := BT G (Rep G) RX11 "plainGift" cX11_plainGift 9 (some .int) rm_X11_plainGift K 0 0
abbrev T_X11_plainGift (G : GT) (as : List Value) (M : Mem) (K : Int32 → Mem → Prop) : Prop := MT G (Rep G) yX11_plainGift cX11_plainGift 9 (some .int) rm_X11_plainGift as M K
theorem e_X11_plainGift {G : GT} {K : Int32 → Mem → Prop} {M : Mem} {v1 : Int32} {v2 : Int32} (h : B_X11_plainGift G K 0 [(0, .ref 175), (1, .int v1), (2, .int v2)] [] M) : T_X11_plainGift G [.ref 175, .int v1, .int v2] M K := MT.of (by decide +kernel) rfl rfl (Nat.le_of_ble_eq_true rfl) rfl h
set_option maxRecDepth 4000 in
theorem k_X11_plainGift_0 {G : GT} {K : Int32 → Mem → Prop} {M : Mem} {W : WT} {v1 : Int32} {v2 : Int32} (h : (PR W M v1) ∧ (∀ r1 : Int32, r1 = (c_dayOn W (zp v1) v2) → (RG W M) ∧ (∀ r2 : Int32, r2 = (w_undone W r1) → (RG W M) ∧ (PR W M v1) ∧ (∀ r3 : Int32, r3 = (w_gov W (zp v1) r1) → ∀ N3 : Mem, N3 = (m_i M 175 30 (w_gov2 W (zp v1) r1).2) → B_X11_plainGift G K 30 [(0, .ref 175), (1, .int v1), (4, .int r2), (5, .int r3), (6, .int 0)] [] (m_i N3 175 32 0))))) : B_X11_plainGift G K 0 [(0, .ref 175), (1, .int v1), (2, .int v2)] [] M := by
  refine BT.aload_n dX11_plainGift_0 rfl 0 rfl ?_
  refine BT.iload_n dX11_plainGift_1 rfl 1 rfl ?_
  refine BT.iload_n dX11_plainGift_2 rfl 2 rfl ?_
  refine BT.mcVr [.int v1, .int v2] (t_X11_sameDay h.1 ⟨rfl, rfl⟩) mb_X11_sameDay mv_X11_sameDay lk_X11_237 rfl (by decide) rfl (recvRep ho_175 rfl) (Nat.le_of_ble_eq_true rfl) dX11_plainGift_3 (fun r1 e1 => ?_)
  show B_X11_plainGift G K 6 [(0, .ref 175), (1, .int v1), (2, .int v2)] [.int r1] M
  refine BT.istore_n (L' := [(3, .int r1), (0, .ref 175), (1, .int v1), (2, .int v2)]) dX11_plainGift_6 rfl (by decide) rfl ?_
  refine BT.aload_n dX11_plainGift_7 rfl 1 rfl ?_
  refine BT.iload_n dX11_plainGift_8 rfl 0 rfl ?_
  refine BT.mcVr [.int r1] (t_X11_undoneOf (h.2 r1 e1).1 ⟨rfl, rfl⟩) mb_X11_undoneOf mv_X11_undoneOf lk_X11_181 rfl (by decide) rfl (recvRep ho_175 rfl) (Nat.le_of_ble_eq_true rfl) dX11_plainGift_9 (fun r2 e2 => ?_)
  show B_X11_plainGift G K 12 [(3, .int r1), (0, .ref 175), (1, .int v1), (2, .int v2)] [.int r2] M
  refine BT.istore (L' := [(4, .int r2), (3, .int r1), (0, .ref 175), (1, .int v1), (2, .int v2)]) dX11_plainGift_12 (by decide) rfl ?_
  refine BT.aload_n dX11_plainGift_14 rfl 2 rfl ?_
  refine BT.iload_n dX11_plainGift_15 rfl 3 rfl ?_
  refine BT.iload_n dX11_plainGift_16 rfl 1 rfl ?_
  refine BT.mcVn [.int v1, .int r1] (t_X11_governing ((h.2 r1 e1).2 r2 e2).1 ((h.2 r1 e1).2 r2 e2).2.1 ⟨rfl, rfl⟩) mb_X11_governing mv_X11_governing lk_X11_240 rfl (by decide) rfl (recvRep ho_175 rfl) (Nat.le_of_ble_eq_true rfl) dX11_plainGift_17 (fun r3 e3 N3 g3 => ?_)
  show B_X11_plainGift G K 20 [(4, .int r2), (3, .int r1), (0, .ref 175), (1, .int v1), (2, .int v2)] [.int r3] N3
  refine BT.istore (L' := [(5, .int r3), (4, .int r2), (3, .int r1), (0, .ref 175), (1, .int v1), (2, .int v2)]) dX11_plainGift_20 (by decide) rfl ?_
  refine BT.iconst (v := 0) dX11_plainGift_22 (by decide) ?_
  refine BT.istore (L' := [(6, .int 0), (5, .int r3), (4, .int r2), (3, .int r1), (0, .ref 175), (1, .int v1), (2, .int v2)]) dX11_plainGift_23 (by decide) rfl ?_
  refine BT.aload_n dX11_plainGift_25 rfl 4 rfl ?_
  refine BT.iconst (v := 0) dX11_plainGift_26 (by decide) ?_
  refine BT.putI fl_X11_251 ft_11_32 ho_175 rfl dX11_plainGift_27 ?_
  refine BT.sub [4, 5, 2, 1, 0] rfl ?_
  exact (((h.2 r1 e1).2 r2 e2).2.2 r3 e3 N3 g3)
set_option maxRecDepth 4000 in
theorem k_X11_plainGift_30 {G : GT} {K : Int32 → Mem → Prop} {M : Mem} {W : WT} {v1 : Int32} {v4 : Int32} {v5 : Int32} {v6 : Int32} (h : (RG W M) ∧ (¬ ((0 : Int32) ≤ v5 ∧ v5 < W 8 1) → (RG W M) ∧ (¬ ((0 : Int32) ≤ v5 ∧ v5 < W 8 1) → K (-6) M) ∧ (((0 : Int32) ≤ v5 ∧ v5 < W 8 1) → K (-3) M)) ∧ (((0 : Int32) ≤ v5 ∧ v5 < W 8 1) → (¬ ((v6 >>> (v5 &&& 31)) &&& 1) = 0 → (RG W M) ∧ (¬ ((0 : Int32) ≤ v5 ∧ v5 < W 8 1) → K (-6) M) ∧ (((0 : Int32) ≤ v5 ∧ v5 < W 8 1) → K (-3) M)) ∧ (((v6 >>> (v5 &&& 31)) &&& 1) = 0 → (RG W M) ∧ ((0 : Int32) ≤ v5 ∧ v5 < W 8 1) ∧ (PR W M v1) ∧ (∀ r12 : Int32, r12 = (z_fit W v5 v1) → (r12 < 0 → K (-6) M) ∧ (¬ r12 < 0 → (¬ ((v4 >>> (v5 &&& 31)) &&& 1) = 1 → (vp_in (M.1 175 32) 8) ∧ (vp_in (((6 : Int32) * v5) + r12) 48) ∧ (∀ y17 : Int32, y17 = ((m_i (m_i M 194 (Int32.toNatClampNeg (M.1 175 32)) v5) 175 32 (((m_i M 194 (Int32.toNatClampNeg (M.1 175 32)) v5).1 175 32) + 1)).1 181 (Int32.toNatClampNeg (((6 : Int32) * v5) + r12))) → (100 ≤ y17 → B_X11_plainGift G K 30 [(0, .ref 175), (1, .int v1), (4, .int v4), (5, .int (y17 - 100)), (6, .int (v6 ||| ((1 : Int32) <<< (v5 &&& 31))))] [] (m_i (m_i M 194 (Int32.toNatClampNeg (M.1 175 32)) v5) 175 32 (((m_i M 194 (Int32.toNatClampNeg (M.1 175 32)) v5).1 175 32) + 1))) ∧ (¬ 100 ≤ y17 → K y17 (m_i (m_i M 194 (Int32.toNatClampNeg (M.1 175 32)) v5) 175 32 (((m_i M 194 (Int32.toNatClampNeg (M.1 175 32)) v5).1 175 32) + 1))))) ∧ (((v4 >>> (v5 &&& 31)) &&& 1) = 1 → K (-6) M)))))) : B_X11_plainGift G K 30 [(0, .ref 175), (1, .int v1), (4, .int v4), (5, .int v5), (6, .int v6)] [] M := by
  refine BT.aload_n dX11_plainGift_30 rfl 0 rfl ?_
  refine BT.iload dX11_plainGift_31 3 rfl ?_
  refine BT.mcV [.int v5] (t_X11_isLaw h.1 ?_) mb_X11_isLaw mv_X11_isLaw lk_X11_169 rfl (by decide) rfl (recvRep ho_175 rfl) (Nat.le_of_ble_eq_true rfl) dX11_plainGift_33
  show B_X11_plainGift G K 36 [(0, .ref 175), (1, .int v1), (4, .int v4), (5, .int v5), (6, .int v6)] [.int (bi ((0 : Int32) ≤ v5 ∧ v5 < W 8 1))] M
  refine BT.if_eq (tgt := 142) dX11_plainGift_36 (by decide) (fun c => ?_) (fun c => ?_)
  · have c2 := bi_eq0.mp c
    refine BT.aload_n dX11_plainGift_142 rfl 0 rfl ?_
    refine BT.iload dX11_plainGift_143 3 rfl ?_
    refine BT.mcV [.int v5] (t_X11_isLaw (h.2.1 c2).1 ?_) mb_X11_isLaw mv_X11_isLaw lk_X11_169 rfl (by decide) rfl (recvRep ho_175 rfl) (Nat.le_of_ble_eq_true rfl) dX11_plainGift_145
    show B_X11_plainGift G K 148 [(0, .ref 175), (1, .int v1), (4, .int v4), (5, .int v5), (6, .int v6)] [.int (bi ((0 : Int32) ≤ v5 ∧ v5 < W 8 1))] M
    refine BT.if_eq (tgt := 156) dX11_plainGift_148 (by decide) (fun c => ?_) (fun c => ?_)
    · have c5 := bi_eq0.mp c
      refine BT.bipush (v := (-6)) dX11_plainGift_156 (by decide) ?_
      exact BT.iret dX11_plainGift_158 rfl (by decide) (by decide) ((h.2.1 c2).2.1 c5)
    · have c6 := bi_ne0.mp c
      refine BT.bipush (v := (-3)) dX11_plainGift_151 (by decide) ?_
      refine BT.goto (tgt := 158) dX11_plainGift_153 (by decide) ?_
      exact BT.iret dX11_plainGift_158 rfl (by decide) (by decide) ((h.2.1 c2).2.2 c6)
  · have c3 := bi_ne0.mp c
    refine BT.iload dX11_plainGift_39 4 rfl ?_
    refine BT.iload dX11_plainGift_41 3 rfl ?_
    refine BT.ishr dX11_plainGift_43 ?_
    refine BT.iconst (v := 1) dX11_plainGift_44 (by decide) ?_
    refine BT.iand dX11_plainGift_45 ?_
    refine BT.if_ne (tgt := 142) dX11_plainGift_46 (by decide) (fun c => ?_) (fun c => ?_)
    · have c7 := c
      refine BT.aload_n dX11_plainGift_142 rfl 0 rfl ?_
      refine BT.iload dX11_plainGift_143 3 rfl ?_
      refine BT.mcV [.int v5] (t_X11_isLaw ((h.2.2 c3).1 c7).1 ?_) mb_X11_isLaw mv_X11_isLaw lk_X11_169 rfl (by decide) rfl (recvRep ho_175 rfl) (Nat.le_of_ble_eq_true rfl) dX11_plainGift_145
      show B_X11_plainGift G K 148 [(0, .ref 175), (1, .int v1), (4, .int v4), (5, .int v5), (6, .int v6)] [.int (bi ((0 : Int32) ≤ v5 ∧ v5 < W 8 1))] M
      refine BT.if_eq (tgt := 156) dX11_plainGift_148 (by decide) (fun c => ?_) (fun c => ?_)
      · have c10 := bi_eq0.mp c
        refine BT.bipush (v := (-6)) dX11_plainGift_156 (by decide) ?_
        exact BT.iret dX11_plainGift_158 rfl (by decide) (by decide) (((h.2.2 c3).1 c7).2.1 c10)
      · have c11 := bi_ne0.mp c
        refine BT.bipush (v := (-3)) dX11_plainGift_151 (by decide) ?_
        refine BT.goto (tgt := 158) dX11_plainGift_153 (by decide) ?_
        exact BT.iret dX11_plainGift_158 rfl (by decide) (by decide) (((h.2.2 c3).1 c7).2.2 c11)
    · have c8 := c
      refine BT.aload_n dX11_plainGift_49 rfl 0 rfl ?_
      refine BT.iload dX11_plainGift_50 3 rfl ?_
      refine BT.iload_n dX11_plainGift_52 rfl 1 rfl ?_
      refine BT.mcVr [.int v5, .int v1] (t_X11_fitting ((h.2.2 c3).2 c8).1 ((h.2.2 c3).2 c8).2.1 ((h.2.2 c3).2 c8).2.2.1 ⟨rfl, rfl⟩) mb_X11_fitting mv_X11_fitting lk_X11_210 rfl (by decide) rfl (recvRep ho_175 rfl) (Nat.le_of_ble_eq_true rfl) dX11_plainGift_53 (fun r12 e12 => ?_)
      show B_X11_plainGift G K 56 [(0, .ref 175), (1, .int v1), (4, .int v4), (5, .int v5), (6, .int v6)] [.int r12] M
      refine BT.istore (L' := [(7, .int r12), (0, .ref 175), (1, .int v1), (4, .int v4), (5, .int v5), (6, .int v6)]) dX11_plainGift_56 (by decide) rfl ?_
      refine BT.iload dX11_plainGift_58 0 rfl ?_
      refine BT.if_lt (tgt := 74) dX11_plainGift_60 (by decide) (fun c => ?_) (fun c => ?_)
      · have c13 := c
        refine BT.bipush (v := (-6)) dX11_plainGift_74 (by decide) ?_
        exact BT.iret dX11_plainGift_76 rfl (by decide) (by decide) ((((h.2.2 c3).2 c8).2.2.2 r12 e12).1 c13)
      · have c14 := c
        refine BT.iload dX11_plainGift_63 3 rfl ?_
        refine BT.iload dX11_plainGift_65 4 rfl ?_
        refine BT.ishr dX11_plainGift_67 ?_
        refine BT.iconst (v := 1) dX11_plainGift_68 (by decide) ?_
        refine BT.iand dX11_plainGift_69 ?_
        refine BT.iconst (v := 1) dX11_plainGift_70 (by decide) ?_
        refine BT.icmp_ne (tgt := 77) dX11_plainGift_71 (by decide) (fun c => ?_) (fun c => ?_)
        · have c15 := c
          refine BT.aload_n dX11_plainGift_77 rfl 1 rfl ?_
          refine BT.getR (r := 194) fl_X11_68 ho_175 rfl dX11_plainGift_78 ?_
          refine BT.aload_n dX11_plainGift_81 rfl 1 rfl ?_
          refine BT.getI fl_X11_251 ho_175 rfl dX11_plainGift_82 ?_
          refine BT.iload dX11_plainGift_85 4 rfl ?_
          refine BT.iast ha_194 (((((h.2.2 c3).2 c8).2.2.2 r12 e12).2 c14).1 c15).1 dX11_plainGift_87 ?_
          refine BT.aload_n dX11_plainGift_88 rfl 1 rfl ?_
          refine BT.dup dX11_plainGift_89 rfl ?_
          refine BT.getI fl_X11_251 ho_175 rfl dX11_plainGift_90 ?_
          refine BT.iconst (v := 1) dX11_plainGift_93 (by decide) ?_
          refine BT.iadd dX11_plainGift_94 ?_
          refine BT.putI fl_X11_251 ft_11_32 ho_175 rfl dX11_plainGift_95 ?_
          refine BT.iload dX11_plainGift_98 5 rfl ?_
          refine BT.iconst (v := 1) dX11_plainGift_100 (by decide) ?_
          refine BT.iload dX11_plainGift_101 4 rfl ?_
          refine BT.ishl dX11_plainGift_103 ?_
          refine BT.ior dX11_plainGift_104 ?_
          refine BT.istore (L' := [(6, .int (v6 ||| ((1 : Int32) <<< (v5 &&& 31)))), (7, .int r12), (0, .ref 175), (1, .int v1), (4, .int v4), (5, .int v5)]) dX11_plainGift_105 (by decide) rfl ?_
          refine BT.aload_n dX11_plainGift_107 rfl 2 rfl ?_
          refine BT.getR (r := 181) fl_X11_25 ho_175 rfl dX11_plainGift_108 ?_
          refine BT.bipush (v := 6) dX11_plainGift_111 (by decide) ?_
          refine BT.iload dX11_plainGift_113 5 rfl ?_
          refine BT.imul dX11_plainGift_115 ?_
          refine BT.iload dX11_plainGift_116 1 rfl ?_
          refine BT.iadd dX11_plainGift_118 ?_
          refine BT.iald ha_181 (((((h.2.2 c3).2 c8).2.2.2 r12 e12).2 c14).1 c15).2.1 dX11_plainGift_119 ?_
          refine BT.topi (fun y17 f17 => ?_)
          refine BT.istore (L' := [(8, .int y17), (6, .int (v6 ||| ((1 : Int32) <<< (v5 &&& 31)))), (7, .int r12), (0, .ref 175), (1, .int v1), (4, .int v4), (5, .int v5)]) dX11_plainGift_120 (by decide) rfl ?_
          refine BT.iload dX11_plainGift_122 0 rfl ?_
          refine BT.bipush (v := 100) dX11_plainGift_124 (by decide) ?_
          refine BT.icmp_ge (tgt := 132) dX11_plainGift_126 (by decide) (fun c => ?_) (fun c => ?_)
          · have c18 := c
            refine BT.iload dX11_plainGift_132 0 rfl ?_
            refine BT.bipush (v := 100) dX11_plainGift_134 (by decide) ?_
            refine BT.isub dX11_plainGift_136 ?_
            refine BT.istore (L' := [(5, .int (y17 - 100)), (8, .int y17), (6, .int (v6 ||| ((1 : Int32) <<< (v5 &&& 31)))), (7, .int r12), (0, .ref 175), (1, .int v1), (4, .int v4)]) dX11_plainGift_137 (by decide) rfl ?_
            refine BT.goto (tgt := 30) dX11_plainGift_139 (by decide) ?_
            refine BT.sub [4, 5, 6, 0, 2] rfl ?_
            exact (((((((h.2.2 c3).2 c8).2.2.2 r12 e12).2 c14).1 c15).2.2 y17 f17).1 c18)
          · have c19 := c
            refine BT.iload dX11_plainGift_129 0 rfl ?_
            exact BT.iret dX11_plainGift_131 rfl (by decide) (by decide) (((((((h.2.2 c3).2 c8).2.2.2 r12 e12).2 c14).1 c15).2.2 y17 f17).2 c19)
        · have c16 := c
          refine BT.bipush (v := (-6)) dX11_plainGift_74 (by decide) ?_
          exact BT.iret dX11_plainGift_76 rfl (by decide) (by decide) (((((h.2.2 c3).2 c8).2.2.2 r12 e12).2 c14).2 c16)

theorem t_X11_plainGift {G : GT} {K : Int32 → Mem → Prop} {M : Mem} {W : WT} {v1 v2 : Int32} (hR : RG W M) (hP : PR W M v1) (h : ∀ N, Zcr M N ∧ ZPath N (w_path9 W (zp v1) (w_gov W (zp v1) (c_dayOn W (zp v1) v2)) (c_dayOn W (zp v1) v2)) → K (w_fol9 W (zp v1) (w_gov W (zp v1) (c_dayOn W (zp v1) v2)) (c_dayOn W (zp v1) v2)) N) : T_X11_plainGift G [.ref 175, .int v1, .int v2] M K := by
  obtain ⟨h1, h2, h8⟩ := hR.n
  refine e_X11_plainGift (k_X11_plainGift_0 (W := W) ⟨hP, fun r1 e1 => ⟨hR, fun r2 e2 => ⟨hR, hP, fun r3 e3 N3 g3 => ?_⟩⟩⟩)
  rw [← e1, ← e3] at h
  unfold w_fol9 w_path9 at h
  rw [← e2] at h
  clear e1 e3
  -- k steps are left, c laws have been, at s
  have key : ∀ (k : Nat) (c : Nat) (s : Nat → Nat) (pre : List Int32) (been l : Int32) (N : Mem), c + k = 8 → Zcr M N → N.1 175 32 = nI c → pre.length = c → (∀ i, i < c → pre[i]? = some (nI (s i)) ∧ N.1 194 i = nI (s i) ∧ s i < w_n W ∧ bitO r2 (nI (s i)) ∧ ¬ c_gift W (10 + 5 * s i) (W (zp v1) 3) = -6) → (∀ i j, i < j → j < c → ¬ s i = s j) → (∀ x, x < 32 → (bP been x ↔ ∃ i, i < c ∧ s i = x)) →
      (∀ N', Zcr M N' ∧ ZPath N' (pre ++ w_path W (W (zp v1) 3) r2 (k + 1) been l) → K (w_fol W (W (zp v1) 3) r2 (k + 1) been l) N') → B_X11_plainGift G K 30 [(0, .ref 175), (1, .int v1), (4, .int r2), (5, .int l), (6, .int been)] [] N := by
    intro k
    induction k with
    | zero =>
      intro c s pre been l N hc hN hcnt hlen hpre hinj hbeen hk
      have hRN := hR.z hN
      have done : ZPath N pre := ⟨by rw [hcnt, hlen], fun j hj => by rw [hlen] at hj; rw [(hpre j hj).1, (hpre j hj).2.1]⟩
      unfold w_fol w_path at hk
      refine k_X11_plainGift_30 (W := W) ⟨hRN, fun c1 => ⟨hRN, fun _ => ?_, fun q => absurd q c1⟩, fun c1 => ?_⟩
      · rw [sel_t (Or.inl c1), sel_t (Or.inl c1), List.append_nil] at hk
        exact hk N ⟨hN, done⟩
      · obtain ⟨i1, i2, i3⟩ := hR.1.ix c1
        obtain ⟨j, ej⟩ : ∃ j, j = Int32.toNatClampNeg l := ⟨_, rfl⟩
        rw [← ej] at i1 i2 i3
        subst i3
        have hin : ∃ i, i < c ∧ s i = j := by
          refine Classical.byContradiction fun hno => ?_
          refine php 8 (fun i => if i < 8 then s i else j) (fun i hi => ?_) (fun i i' hi hi' e => ?_)
          · show (if i < 8 then s i else j) < 8
            by_cases q : i < 8
            · rw [if_pos q]; have := (hpre i (by omega)).2.2.1; omega
            · rw [if_neg q]; omega
          · have e : (if i < 8 then s i else j) = if i' < 8 then s i' else j := e
            by_cases q : i < 8
            · by_cases q' : i' < 8
              · rw [if_pos q, if_pos q'] at e
                rcases Nat.lt_trichotomy i i' with z | z | z
                · exact absurd e (hinj i i' z (by omega))
                · exact z
                · exact absurd e.symm (hinj i' i z (by omega))
              · rw [if_pos q, if_neg q'] at e; exact absurd ⟨i, by omega, e⟩ hno
            · by_cases q' : i' < 8
              · rw [if_neg q, if_pos q'] at e; exact absurd ⟨i', by omega, e.symm⟩ hno
              · omega
        have hb : bP been j := (hbeen j (by omega)).mpr hin
        obtain ⟨i, hi, esi⟩ := hin
        have hb2 := (hpre i hi).2.2.2
        rw [esi] at hb2
        have n1 : ¬ (¬ ((0 : Int32) ≤ nI j ∧ nI j < W 8 1) ∨ ¬ bitO r2 (nI j)) := fun q => q.elim (fun q => q c1) (fun q => q hb2.1)
        rw [sel_f n1, sel_f n1, ix_nI (by omega), sel_f hb2.2, sel_f hb2.2, sel_t (Or.inr rfl), sel_t (Or.inr rfl), List.append_nil] at hk
        refine ⟨fun _ => ⟨hRN, fun q => absurd c1 q, fun _ => hk N ⟨hN, done⟩⟩, fun c2 => absurd hb ((bit_is0 (by omega)).mp c2)⟩
    | succ k ih =>
      intro c s pre been l N hc hN hcnt hlen hpre hinj hbeen hk
      have hRN := hR.z hN
      have hPN := hP.z hN
      have done : ZPath N pre := ⟨by rw [hcnt, hlen], fun j hj => by rw [hlen] at hj; rw [(hpre j hj).1, (hpre j hj).2.1]⟩
      unfold w_fol w_path at hk
      refine k_X11_plainGift_30 (W := W) ⟨hRN, fun c1 => ⟨hRN, fun _ => ?_, fun q => absurd q c1⟩, fun c1 => ⟨fun c2 => ⟨hRN, fun q => absurd c1 q, fun _ => ?_⟩, fun c2 => ⟨hRN, c1, hPN, fun r12 e12 => ⟨fun c3 => ?_, fun c3 => ⟨fun c4 => ?_, fun c4 => ?_⟩⟩⟩⟩⟩
      · rw [sel_t (Or.inl c1), sel_t (Or.inl c1), List.append_nil] at hk
        exact hk N ⟨hN, done⟩
      · obtain ⟨i1, i2, i3⟩ := hR.1.ix c1
        obtain ⟨j, ej⟩ : ∃ j, j = Int32.toNatClampNeg l := ⟨_, rfl⟩
        rw [← ej] at i1 i2 i3
        subst i3
        have hb : bP been j := Classical.not_not.mp fun q => c2 ((bit_is0 (by omega)).mpr q)
        obtain ⟨i, hi, esi⟩ := (hbeen j (by omega)).mp hb
        have hb2 := (hpre i hi).2.2.2
        rw [esi] at hb2
        have n1 : ¬ (¬ ((0 : Int32) ≤ nI j ∧ nI j < W 8 1) ∨ ¬ bitO r2 (nI j)) := fun q => q.elim (fun q => q c1) (fun q => q hb2.1)
        have n2 : ¬ bitO been (nI j) ∨ k + 1 = 0 := Or.inl c2
        rw [sel_f n1, sel_f n1, ix_nI (by omega), sel_f hb2.2, sel_f hb2.2, sel_t n2, sel_t n2, List.append_nil] at hk
        exact hk N ⟨hN, done⟩
      · have hg := c_gift_fit hR c1 hP
        rcases hg with ⟨g1, g2⟩ | ⟨j, g, hg1, hg2, g1, g2, -⟩
        · have hk := hk N
          by_cases c5 : ¬ ((0 : Int32) ≤ l ∧ l < W 8 1) ∨ ¬ bitO r2 l
          · rw [sel_t c5, sel_t c5, List.append_nil] at hk
            exact hk ⟨hN, done⟩
          · rw [sel_f c5, sel_f c5, sel_t g2, sel_t g2, List.append_nil] at hk
            exact hk ⟨hN, done⟩
        · rw [e12, g1] at c3; exact absurd c3 (nI_ge0 (by omega))
      · obtain ⟨i1, i2, i3⟩ := hR.1.ix c1
        obtain ⟨j, ej⟩ : ∃ j, j = Int32.toNatClampNeg l := ⟨_, rfl⟩
        rw [← ej] at i1 i2 i3
        subst i3
        have hg := c_gift_fit hR c1 hP
        have n0 : ¬ bP been j := (bit_is0 (by omega)).mp c2
        have n4 : bitO r2 (nI j) := (bit_is0 (by omega)).mpr (fun q => c4 ((bit_is1 (by omega)).mpr q))
        have n1 : ¬ (¬ ((0 : Int32) ≤ nI j ∧ nI j < W 8 1) ∨ ¬ bitO r2 (nI j)) := fun q => q.elim (fun q => q c1) (fun q => q n4)
        have n2 : ¬ (¬ bitO been (nI j) ∨ k + 1 = 0) := fun q => q.elim (fun q => q c2) (fun q => by omega)
        unfold plw at hg
        rw [ix_nI (by omega)] at hg hk
        rcases hg with ⟨g1, g2⟩ | ⟨i, g, hg1, hg2, g1, g2, g3⟩
        · rw [e12, g1] at c3; exact absurd (by decide) c3
        · have n3 : ¬ c_gift W (10 + 5 * j) (W (zp v1) 3) = -6 := by rw [g2]; exact nI_n6 (by omega)
          have hc8 : c < 8 := by omega
          have ea : (6 : Int32) * nI j + r12 = nI (6 * j + i) := by rw [e12, g1, ← nI_add, ← nI_mul]; rfl
          rw [sel_f n1, sel_f n1, sel_f n3, sel_f n3, sel_f n2, sel_f n2, g2] at hk
          rw [hcnt, ea]
          simp only [ix_nI (show c < 2 ^ 31 by omega), ix_nI (show 6 * j + i < 2 ^ 31 by omega)]
          obtain ⟨N2, eN2⟩ : ∃ N2, N2 = m_i (m_i N 194 c (nI j)) 175 32 ((m_i N 194 c (nI j)).1 175 32 + 1) := ⟨_, rfl⟩
          rw [← eN2]
          have e32 : (m_i N 194 c (nI j)).1 175 32 + 1 = nI (c + 1) := by rw [m_i_ne (by omega), hcnt, nI_1]
          rw [e32] at eN2
          have hN2 : Zcr M N2 := by rw [eN2]; exact (hN.mc rfl).mi (by decide)
          have hc2 : N2.1 175 32 = nI (c + 1) := by rw [eN2]; exact m_i_at
          have h194 : ∀ q, N2.1 194 q = (m_i N 194 c (nI j)).1 194 q := fun q => by rw [eN2]; exact m_i_ne (by omega)
          have h181 : N2.1 181 (6 * j + i) = nI g := by rw [hN2.1 181 (by decide), g3]
          have hpre2 : ∀ q, q < c + 1 → (pre ++ [nI j])[q]? = some (nI (if q = c then j else s q)) ∧ N2.1 194 q = nI (if q = c then j else s q) ∧ (if q = c then j else s q) < w_n W ∧ bitO r2 (nI (if q = c then j else s q)) ∧ ¬ c_gift W (10 + 5 * (if q = c then j else s q)) (W (zp v1) 3) = -6 := by
            intro q hq
            by_cases eq : q = c
            · subst eq
              rw [if_pos rfl, h194, m_i_at]
              refine ⟨?_, rfl, i1, n4, n3⟩
              rw [← hlen, List.getElem?_append_right (Nat.le_refl _), Nat.sub_self]; rfl
            · rw [if_neg eq, h194, m_i_ne (by omega)]
              obtain ⟨z1, z2⟩ := hpre q (by omega)
              refine ⟨?_, z2⟩
              rw [List.getElem?_append_left (by omega)]; exact z1
          refine ⟨vp_nI hc8 (by decide), vp_nI (by omega) (by decide), fun y17 e17 => ?_⟩
          rw [h181] at e17
          subst e17
          refine ⟨fun c5 => ?_, fun c5 => ?_⟩
          · rw [sel_t c5, sel_t c5] at hk
            refine ih (c + 1) (fun q => if q = c then j else s q) (pre ++ [nI j]) _ _ N2 (by omega) hN2 hc2 (by rw [List.length_append, hlen]; rfl) hpre2 (fun i' j' hij hj' => ?_) (fun x hx => ?_) (fun N' hN' => hk N' ?_)
            · show ¬ (if i' = c then j else s i') = if j' = c then j else s j'
              rw [if_neg (by omega)]
              by_cases q : j' = c
              · rw [if_pos q]
                intro z
                exact n0 ((hbeen j (by omega)).mpr ⟨i', by omega, z⟩)
              · rw [if_neg q]; exact hinj i' j' hij (by omega)
            · rw [bP_or, bP_shl (by omega) hx, hbeen x hx]
              constructor
              · rintro (⟨q, hq, z⟩ | z)
                · exact ⟨q, by omega, by show (if q = c then j else s q) = x; rw [if_neg (by omega)]; exact z⟩
                · exact ⟨c, by omega, by show (if c = c then j else s c) = x; rw [if_pos rfl]; exact z.symm⟩
              · rintro ⟨q, hq, z⟩
                have z : (if q = c then j else s q) = x := z
                by_cases e : q = c
                · rw [if_pos e] at z; exact Or.inr z.symm
                · rw [if_neg e] at z; exact Or.inl ⟨q, by omega, z⟩
            · rw [List.append_assoc] at hN'
              exact hN'
          · rw [sel_f c5, sel_f c5] at hk
            refine hk N2 ⟨hN2, ?_, fun q hq => ?_⟩
            · rw [hc2, List.length_append, hlen]; rfl
            · rw [List.length_append, hlen] at hq
              have hq : q < c + 1 := hq
              rw [(hpre2 q hq).1, (hpre2 q hq).2.1]
      · by_cases c5 : ¬ ((0 : Int32) ≤ l ∧ l < W 8 1) ∨ ¬ bitO r2 l
        · rw [sel_t c5, sel_t c5, List.append_nil] at hk
          exact hk N ⟨hN, done⟩
        · refine absurd (Or.inr fun q => ?_) c5
          have q : ((r2 >>> (l &&& 31)) &&& 1) = 0 := q
          rw [c4] at q
          exact absurd q (by decide)
  refine key 8 0 (fun _ => 0) [] 0 r3 (m_i N3 175 32 0) rfl (by rw [g3]; exact (Zcr.rf.mi (by decide)).mi (by decide)) m_i_at rfl (fun i hi => absurd hi (by omega)) (fun i j hij hj => absurd hj (by omega)) (fun x _ => ⟨fun q => absurd q bP_0, fun ⟨i, hi, _⟩ => absurd hi (by omega)⟩) h

/-! BetweenLawsModel.giftOf(II)I -/
abbrev rm_X11_giftOf : Room := { frames := 6, cells := 0, slots := 0, locals := 150 }
abbrev B_X11_giftOf (G : GT) (K : Int32 → Mem → Prop) := BT G (Rep G) RX11 "giftOf" cX11_giftOf 6 (some .int) rm_X11_giftOf K 0 0
abbrev T_X11_giftOf (G : GT) (as : List Value) (M : Mem) (K : Int32 → Mem → Prop) : Prop := MT G (Rep G) yX11_giftOf cX11_giftOf 6 (some .int) rm_X11_giftOf as M K
theorem e_X11_giftOf {G : GT} {K : Int32 → Mem → Prop} {M : Mem} {v1 : Int32} {v2 : Int32} (h : B_X11_giftOf G K 0 [(0, .ref 175), (1, .int v1), (2, .int v2)] [] M) : T_X11_giftOf G [.ref 175, .int v1, .int v2] M K := MT.of (by decide +kernel) rfl rfl (Nat.le_of_ble_eq_true rfl) rfl h
set_option maxRecDepth 4000 in
theorem k_X11_giftOf_0 {G : GT} {K : Int32 → Mem → Prop} {M : Mem} {W : WT} {v1 : Int32} {v2 : Int32} (h : (RG W M) ∧ (PR W M v1) ∧ (∀ r1 : Int32, r1 = (w_fol9 W (zp v1) (w_gov W (zp v1) (c_dayOn W (zp v1) v2)) (c_dayOn W (zp v1) v2)) → ∀ N1 : Mem, (Zcr M N1 ∧ ZPath N1 (w_path9 W (zp v1) (w_gov W (zp v1) (c_dayOn W (zp v1) v2)) (c_dayOn W (zp v1) v2))) → ((N1.1 175 32) ≤ 0 → (¬ (N1.1 175 29) = 1 → K r1 N1) ∧ ((N1.1 175 29) = 1 → (r1 < 0 → K r1 N1) ∧ (¬ r1 < 0 → (vp_in (-6) 8) ∧ (vp_in v1 9) ∧ ((N1.1 177 (Int32.toNatClampNeg (-6))) ≤ (N1.1 189 (Int32.toNatClampNeg v1)) → K r1 N1) ∧ (¬ (N1.1 177 (Int32.toNatClampNeg (-6))) ≤ (N1.1 189 (Int32.toNatClampNeg v1)) → (vp_in v1 9) ∧ (RG W N1) ∧ (PR W N1 v1) ∧ (∀ r10 : Int32, r10 = (w_fol9 W (zp v1) (w_gov W (zp v1) (c_dayOn W (zp v1) (N1.1 189 (Int32.toNatClampNeg v1)))) (c_dayOn W (zp v1) (N1.1 189 (Int32.toNatClampNeg v1)))) → ∀ N10 : Mem, (Zcr N1 N10 ∧ ZPath N10 (w_path9 W (zp v1) (w_gov W (zp v1) (c_dayOn W (zp v1) (N1.1 189 (Int32.toNatClampNeg v1)))) (c_dayOn W (zp v1) (N1.1 189 (Int32.toNatClampNeg v1))))) → (r10 < 0 → K r1 N10) ∧ (¬ r10 < 0 → (r1 ≤ r10 → K r1 N10) ∧ (¬ r1 ≤ r10 → K r10 N10))))))) ∧ (¬ (N1.1 175 32) ≤ 0 → (¬ (N1.1 175 29) = 1 → K r1 N1) ∧ ((N1.1 175 29) = 1 → (r1 < 0 → K r1 N1) ∧ (¬ r1 < 0 → (vp_in (N1.1 194 0) 8) ∧ (vp_in v1 9) ∧ ((N1.1 177 (Int32.toNatClampNeg (N1.1 194 0))) ≤ (N1.1 189 (Int32.toNatClampNeg v1)) → K r1 N1) ∧ (¬ (N1.1 177 (Int32.toNatClampNeg (N1.1 194 0))) ≤ (N1.1 189 (Int32.toNatClampNeg v1)) → (vp_in v1 9) ∧ (RG W N1) ∧ (PR W N1 v1) ∧ (∀ r21 : Int32, r21 = (w_fol9 W (zp v1) (w_gov W (zp v1) (c_dayOn W (zp v1) (N1.1 189 (Int32.toNatClampNeg v1)))) (c_dayOn W (zp v1) (N1.1 189 (Int32.toNatClampNeg v1)))) → ∀ N21 : Mem, (Zcr N1 N21 ∧ ZPath N21 (w_path9 W (zp v1) (w_gov W (zp v1) (c_dayOn W (zp v1) (N1.1 189 (Int32.toNatClampNeg v1)))) (c_dayOn W (zp v1) (N1.1 189 (Int32.toNatClampNeg v1))))) → (r21 < 0 → K r1 N21) ∧ (¬ r21 < 0 → (r1 ≤ r21 → K r1 N21) ∧ (¬ r1 ≤ r21 → K r21 N21))))))))) : B_X11_giftOf G K 0 [(0, .ref 175), (1, .int v1), (2, .int v2)] [] M := by
  refine BT.aload_n dX11_giftOf_0 rfl 0 rfl ?_
  refine BT.iload_n dX11_giftOf_1 rfl 1 rfl ?_
  refine BT.iload_n dX11_giftOf_2 rfl 2 rfl ?_
  refine BT.mcVp [.int v1, .int v2] (t_X11_plainGift h.1 h.2.1 (fun N hN => ⟨rfl, hN⟩)) mb_X11_plainGift mv_X11_plainGift lk_X11_248 rfl (by decide) rfl (recvRep ho_175 rfl) (Nat.le_of_ble_eq_true rfl) dX11_giftOf_3 (P := fun N1 => Zcr M N1 ∧ ZPath N1 (w_path9 W (zp v1) (w_gov W (zp v1) (c_dayOn W (zp v1) v2)) (c_dayOn W (zp v1) v2))) (fun r1 e1 N1 g1 => ?_)
  show B_X11_giftOf G K 6 [(0, .ref 175), (1, .int v1), (2, .int v2)] [.int r1] N1
  refine BT.istore_n (L' := [(3, .int r1), (0, .ref 175), (1, .int v1), (2, .int v2)]) dX11_giftOf_6 rfl (by decide) rfl ?_
  refine BT.aload_n dX11_giftOf_7 rfl 1 rfl ?_
  refine BT.getI fl_X11_251 ho_175 rfl dX11_giftOf_8 ?_
  refine BT.if_le (tgt := 23) dX11_giftOf_11 (by decide) (fun c => ?_) (fun c => ?_)
  · have c2 := c
    refine BT.bipush (v := (-6)) dX11_giftOf_23 (by decide) ?_
    refine BT.istore (L' := [(4, .int (-6)), (3, .int r1), (0, .ref 175), (1, .int v1), (2, .int v2)]) dX11_giftOf_25 (by decide) rfl ?_
    refine BT.aload_n dX11_giftOf_27 rfl 2 rfl ?_
    refine BT.getI fl_X11_207 ho_175 rfl dX11_giftOf_28 ?_
    refine BT.iconst (v := 1) dX11_giftOf_31 (by decide) ?_
    refine BT.icmp_ne (tgt := 86) dX11_giftOf_32 (by decide) (fun c => ?_) (fun c => ?_)
    · have c4 := c
      refine BT.iload_n dX11_giftOf_86 rfl 1 rfl ?_
      exact BT.iret dX11_giftOf_87 rfl (by decide) (by decide) (((h.2.2 r1 e1 N1 g1).1 c2).1 c4)
    · have c5 := c
      refine BT.iload_n dX11_giftOf_35 rfl 1 rfl ?_
      refine BT.if_lt (tgt := 86) dX11_giftOf_36 (by decide) (fun c => ?_) (fun c => ?_)
      · have c6 := c
        refine BT.iload_n dX11_giftOf_86 rfl 1 rfl ?_
        exact BT.iret dX11_giftOf_87 rfl (by decide) (by decide) ((((h.2.2 r1 e1 N1 g1).1 c2).2 c5).1 c6)
      · have c7 := c
        refine BT.aload_n dX11_giftOf_39 rfl 2 rfl ?_
        refine BT.getR (r := 177) fl_X11_13 ho_175 rfl dX11_giftOf_40 ?_
        refine BT.iload dX11_giftOf_43 0 rfl ?_
        refine BT.iald ha_177 ((((h.2.2 r1 e1 N1 g1).1 c2).2 c5).2 c7).1 dX11_giftOf_45 ?_
        refine BT.aload_n dX11_giftOf_46 rfl 2 rfl ?_
        refine BT.getR (r := 189) fl_X11_53 ho_175 rfl dX11_giftOf_47 ?_
        refine BT.iload_n dX11_giftOf_50 rfl 3 rfl ?_
        refine BT.iald ha_189 ((((h.2.2 r1 e1 N1 g1).1 c2).2 c5).2 c7).2.1 dX11_giftOf_51 ?_
        refine BT.icmp_le (tgt := 86) dX11_giftOf_52 (by decide) (fun c => ?_) (fun c => ?_)
        · have c8 := c
          refine BT.iload_n dX11_giftOf_86 rfl 1 rfl ?_
          exact BT.iret dX11_giftOf_87 rfl (by decide) (by decide) (((((h.2.2 r1 e1 N1 g1).1 c2).2 c5).2 c7).2.2.1 c8)
        · have c9 := c
          refine BT.aload_n dX11_giftOf_55 rfl 2 rfl ?_
          refine BT.iload_n dX11_giftOf_56 rfl 3 rfl ?_
          refine BT.aload_n dX11_giftOf_57 rfl 2 rfl ?_
          refine BT.getR (r := 189) fl_X11_53 ho_175 rfl dX11_giftOf_58 ?_
          refine BT.iload_n dX11_giftOf_61 rfl 3 rfl ?_
          refine BT.iald ha_189 (((((h.2.2 r1 e1 N1 g1).1 c2).2 c5).2 c7).2.2.2 c9).1 dX11_giftOf_62 ?_
          refine BT.mcVp [.int v1, .int (N1.1 189 (Int32.toNatClampNeg v1))] (t_X11_plainGift (((((h.2.2 r1 e1 N1 g1).1 c2).2 c5).2 c7).2.2.2 c9).2.1 (((((h.2.2 r1 e1 N1 g1).1 c2).2 c5).2 c7).2.2.2 c9).2.2.1 (fun N hN => ⟨rfl, hN⟩)) mb_X11_plainGift mv_X11_plainGift lk_X11_248 rfl (by decide) rfl (recvRep ho_175 rfl) (Nat.le_of_ble_eq_true rfl) dX11_giftOf_63 (P := fun N10 => Zcr N1 N10 ∧ ZPath N10 (w_path9 W (zp v1) (w_gov W (zp v1) (c_dayOn W (zp v1) (N1.1 189 (Int32.toNatClampNeg v1)))) (c_dayOn W (zp v1) (N1.1 189 (Int32.toNatClampNeg v1))))) (fun r10 e10 N10 g10 => ?_)
          show B_X11_giftOf G K 66 [(4, .int (-6)), (3, .int r1), (0, .ref 175), (1, .int v1), (2, .int v2)] [.int r10] N10
          refine BT.istore (L' := [(5, .int r10), (4, .int (-6)), (3, .int r1), (0, .ref 175), (1, .int v1), (2, .int v2)]) dX11_giftOf_66 (by decide) rfl ?_
          refine BT.iload dX11_giftOf_68 0 rfl ?_
          refine BT.if_lt (tgt := 84) dX11_giftOf_70 (by decide) (fun c => ?_) (fun c => ?_)
          · have c11 := c
            refine BT.iload_n dX11_giftOf_84 rfl 2 rfl ?_
            refine BT.istore_n (L' := [(3, .int r1), (5, .int r10), (4, .int (-6)), (0, .ref 175), (1, .int v1), (2, .int v2)]) dX11_giftOf_85 rfl (by decide) rfl ?_
            refine BT.iload_n dX11_giftOf_86 rfl 0 rfl ?_
            exact BT.iret dX11_giftOf_87 rfl (by decide) (by decide) (((((((h.2.2 r1 e1 N1 g1).1 c2).2 c5).2 c7).2.2.2 c9).2.2.2 r10 e10 N10 g10).1 c11)
          · have c12 := c
            refine BT.iload dX11_giftOf_73 0 rfl ?_
            refine BT.iload_n dX11_giftOf_75 rfl 2 rfl ?_
            refine BT.icmp_ge (tgt := 84) dX11_giftOf_76 (by decide) (fun c => ?_) (fun c => ?_)
            · have c13 := c
              refine BT.iload_n dX11_giftOf_84 rfl 2 rfl ?_
              refine BT.istore_n (L' := [(3, .int r1), (5, .int r10), (4, .int (-6)), (0, .ref 175), (1, .int v1), (2, .int v2)]) dX11_giftOf_85 rfl (by decide) rfl ?_
              refine BT.iload_n dX11_giftOf_86 rfl 0 rfl ?_
              exact BT.iret dX11_giftOf_87 rfl (by decide) (by decide) ((((((((h.2.2 r1 e1 N1 g1).1 c2).2 c5).2 c7).2.2.2 c9).2.2.2 r10 e10 N10 g10).2 c12).1 c13)
            · have c14 := c
              refine BT.iload dX11_giftOf_79 0 rfl ?_
              refine BT.goto (tgt := 85) dX11_giftOf_81 (by decide) ?_
              refine BT.istore_n (L' := [(3, .int r10), (5, .int r10), (4, .int (-6)), (0, .ref 175), (1, .int v1), (2, .int v2)]) dX11_giftOf_85 rfl (by decide) rfl ?_
              refine BT.iload_n dX11_giftOf_86 rfl 0 rfl ?_
              exact BT.iret dX11_giftOf_87 rfl (by decide) (by decide) ((((((((h.2.2 r1 e1 N1 g1).1 c2).2 c5).2 c7).2.2.2 c9).2.2.2 r10 e10 N10 g10).2 c12).2 c14)
  · have c3 := c
    refine BT.aload_n dX11_giftOf_14 rfl 1 rfl ?_
    refine BT.getR (r := 194) fl_X11_68 ho_175 rfl dX11_giftOf_15 ?_
    refine BT.iconst (v := 0) dX11_giftOf_18 (by decide) ?_
    refine BT.iald ha_194 (show vp_in (0) 8 from by unfold vp_in; decide) dX11_giftOf_19 ?_
    refine BT.goto (tgt := 25) dX11_giftOf_20 (by decide) ?_
    refine BT.istore (L' := [(4, .int (N1.1 194 0)), (3, .int r1), (0, .ref 175), (1, .int v1), (2, .int v2)]) dX11_giftOf_25 (by decide) rfl ?_
    refine BT.aload_n dX11_giftOf_27 rfl 2 rfl ?_
    refine BT.getI fl_X11_207 ho_175 rfl dX11_giftOf_28 ?_
    refine BT.iconst (v := 1) dX11_giftOf_31 (by decide) ?_
    refine BT.icmp_ne (tgt := 86) dX11_giftOf_32 (by decide) (fun c => ?_) (fun c => ?_)
    · have c15 := c
      refine BT.iload_n dX11_giftOf_86 rfl 1 rfl ?_
      exact BT.iret dX11_giftOf_87 rfl (by decide) (by decide) (((h.2.2 r1 e1 N1 g1).2 c3).1 c15)
    · have c16 := c
      refine BT.iload_n dX11_giftOf_35 rfl 1 rfl ?_
      refine BT.if_lt (tgt := 86) dX11_giftOf_36 (by decide) (fun c => ?_) (fun c => ?_)
      · have c17 := c
        refine BT.iload_n dX11_giftOf_86 rfl 1 rfl ?_
        exact BT.iret dX11_giftOf_87 rfl (by decide) (by decide) ((((h.2.2 r1 e1 N1 g1).2 c3).2 c16).1 c17)
      · have c18 := c
        refine BT.aload_n dX11_giftOf_39 rfl 2 rfl ?_
        refine BT.getR (r := 177) fl_X11_13 ho_175 rfl dX11_giftOf_40 ?_
        refine BT.iload dX11_giftOf_43 0 rfl ?_
        refine BT.iald ha_177 ((((h.2.2 r1 e1 N1 g1).2 c3).2 c16).2 c18).1 dX11_giftOf_45 ?_
        refine BT.aload_n dX11_giftOf_46 rfl 2 rfl ?_
        refine BT.getR (r := 189) fl_X11_53 ho_175 rfl dX11_giftOf_47 ?_
        refine BT.iload_n dX11_giftOf_50 rfl 3 rfl ?_
        refine BT.iald ha_189 ((((h.2.2 r1 e1 N1 g1).2 c3).2 c16).2 c18).2.1 dX11_giftOf_51 ?_
        refine BT.icmp_le (tgt := 86) dX11_giftOf_52 (by decide) (fun c => ?_) (fun c => ?_)
        · have c19 := c
          refine BT.iload_n dX11_giftOf_86 rfl 1 rfl ?_
          exact BT.iret dX11_giftOf_87 rfl (by decide) (by decide) (((((h.2.2 r1 e1 N1 g1).2 c3).2 c16).2 c18).2.2.1 c19)
        · have c20 := c
          refine BT.aload_n dX11_giftOf_55 rfl 2 rfl ?_
          refine BT.iload_n dX11_giftOf_56 rfl 3 rfl ?_
          refine BT.aload_n dX11_giftOf_57 rfl 2 rfl ?_
          refine BT.getR (r := 189) fl_X11_53 ho_175 rfl dX11_giftOf_58 ?_
          refine BT.iload_n dX11_giftOf_61 rfl 3 rfl ?_
          refine BT.iald ha_189 (((((h.2.2 r1 e1 N1 g1).2 c3).2 c16).2 c18).2.2.2 c20).1 dX11_giftOf_62 ?_
          refine BT.mcVp [.int v1, .int (N1.1 189 (Int32.toNatClampNeg v1))] (t_X11_plainGift (((((h.2.2 r1 e1 N1 g1).2 c3).2 c16).2 c18).2.2.2 c20).2.1 (((((h.2.2 r1 e1 N1 g1).2 c3).2 c16).2 c18).2.2.2 c20).2.2.1 (fun N hN => ⟨rfl, hN⟩)) mb_X11_plainGift mv_X11_plainGift lk_X11_248 rfl (by decide) rfl (recvRep ho_175 rfl) (Nat.le_of_ble_eq_true rfl) dX11_giftOf_63 (P := fun N21 => Zcr N1 N21 ∧ ZPath N21 (w_path9 W (zp v1) (w_gov W (zp v1) (c_dayOn W (zp v1) (N1.1 189 (Int32.toNatClampNeg v1)))) (c_dayOn W (zp v1) (N1.1 189 (Int32.toNatClampNeg v1))))) (fun r21 e21 N21 g21 => ?_)
          show B_X11_giftOf G K 66 [(4, .int (N1.1 194 0)), (3, .int r1), (0, .ref 175), (1, .int v1), (2, .int v2)] [.int r21] N21
          refine BT.istore (L' := [(5, .int r21), (4, .int (N1.1 194 0)), (3, .int r1), (0, .ref 175), (1, .int v1), (2, .int v2)]) dX11_giftOf_66 (by decide) rfl ?_
          refine BT.iload dX11_giftOf_68 0 rfl ?_
          refine BT.if_lt (tgt := 84) dX11_giftOf_70 (by decide) (fun c => ?_) (fun c => ?_)
          · have c22 := c
            refine BT.iload_n dX11_giftOf_84 rfl 2 rfl ?_
            refine BT.istore_n (L' := [(3, .int r1), (5, .int r21), (4, .int (N1.1 194 0)), (0, .ref 175), (1, .int v1), (2, .int v2)]) dX11_giftOf_85 rfl (by decide) rfl ?_
            refine BT.iload_n dX11_giftOf_86 rfl 0 rfl ?_
            exact BT.iret dX11_giftOf_87 rfl (by decide) (by decide) (((((((h.2.2 r1 e1 N1 g1).2 c3).2 c16).2 c18).2.2.2 c20).2.2.2 r21 e21 N21 g21).1 c22)
          · have c23 := c
            refine BT.iload dX11_giftOf_73 0 rfl ?_
            refine BT.iload_n dX11_giftOf_75 rfl 2 rfl ?_
            refine BT.icmp_ge (tgt := 84) dX11_giftOf_76 (by decide) (fun c => ?_) (fun c => ?_)
            · have c24 := c
              refine BT.iload_n dX11_giftOf_84 rfl 2 rfl ?_
              refine BT.istore_n (L' := [(3, .int r1), (5, .int r21), (4, .int (N1.1 194 0)), (0, .ref 175), (1, .int v1), (2, .int v2)]) dX11_giftOf_85 rfl (by decide) rfl ?_
              refine BT.iload_n dX11_giftOf_86 rfl 0 rfl ?_
              exact BT.iret dX11_giftOf_87 rfl (by decide) (by decide) ((((((((h.2.2 r1 e1 N1 g1).2 c3).2 c16).2 c18).2.2.2 c20).2.2.2 r21 e21 N21 g21).2 c23).1 c24)
            · have c25 := c
              refine BT.iload dX11_giftOf_79 0 rfl ?_
              refine BT.goto (tgt := 85) dX11_giftOf_81 (by decide) ?_
              refine BT.istore_n (L' := [(3, .int r21), (5, .int r21), (4, .int (N1.1 194 0)), (0, .ref 175), (1, .int v1), (2, .int v2)]) dX11_giftOf_85 rfl (by decide) rfl ?_
              refine BT.iload_n dX11_giftOf_86 rfl 0 rfl ?_
              exact BT.iret dX11_giftOf_87 rfl (by decide) (by decide) ((((((((h.2.2 r1 e1 N1 g1).2 c3).2 c16).2 c18).2.2.2 c20).2.2.2 r21 e21 N21 g21).2 c23).2 c25)

theorem fol_head {W : WT} {m U been l : Int32} {k : Nat} (h : ¬ w_fol W m U (k + 1) been l < 0) : ((0 : Int32) ≤ l ∧ l < W 8 1) ∧ ∃ t, w_path W m U (k + 1) been l = l :: t := by
  unfold w_fol at h
  unfold w_path
  by_cases c1 : ¬ ((0 : Int32) ≤ l ∧ l < W 8 1) ∨ ¬ bitO U l
  · rw [sel_t c1] at h; exact absurd (by decide) h
  · rw [sel_f c1] at h ⊢
    by_cases c2 : c_gift W (10 + 5 * Int32.toNatClampNeg l) m = -6
    · rw [sel_t c2] at h; exact absurd (by decide) h
    · rw [sel_f c2] at h ⊢
      by_cases c3 : ¬ bitO been l ∨ k = 0
      · rw [sel_t c3] at h; exact absurd (by decide) h
      · rw [sel_f c3]
        exact ⟨Classical.not_not.mp fun q => c1 (Or.inl q), _, rfl⟩
theorem PW.dayOn {W : WT} {p : Nat} (h : PW W p) : c_dayOn W p (W p 0) = W p 0 := by
  obtain ⟨-, -, q, -⟩ := h
  unfold c_dayOn
  rcases q with q | ⟨q, -⟩
  · rw [if_pos q]
  · by_cases c : W p 2 = -6
    · rw [if_pos c]
    · rw [if_neg c, if_neg (Int32.not_lt.mpr q)]
theorem t_X11_giftOf {G : GT} {K : Int32 → Mem → Prop} {M : Mem} {W : WT} {v1 v2 : Int32} (hR : RG W M) (hP : PR W M v1) (h : ∀ N, Zcr M N → K (w_given W (zp v1) v2) N) : T_X11_giftOf G [.ref 175, .int v1, .int v2] M K := by
  obtain ⟨p0, p1, hPW, e0, -⟩ := hP.at
  have vp : vp_in v1 9 := by rw [p1]; exact vp_nI p0 (by decide)
  have hm := hR.1.2.2.1
  refine e_X11_giftOf (k_X11_giftOf_0 (W := W) ⟨hR, hP, fun r1 e1 N1 g1 => ?_⟩)
  obtain ⟨hZ, hp1, hp2⟩ := g1
  have hR1 := hR.z hZ
  have hP1 := hP.z hZ
  have e0' : N1.1 189 (Int32.toNatClampNeg v1) = W (zp v1) 0 := by rw [hZ.1 189 (by decide), e0]
  have em : N1.1 175 29 = W 8 7 := hR1.2.2.2.2.1
  rw [e0', em, hPW.dayOn]
  unfold w_given at h
  rw [← e1] at h
  have K1 : ∀ N, Zcr M N → (W 8 7 = 0 ∨ r1 < 0 ∨ ¬ ((0 : Int32) ≤ w_gov W (zp v1) (c_dayOn W (zp v1) v2) ∧ w_gov W (zp v1) (c_dayOn W (zp v1) v2) < W 8 1)) → K r1 N := fun N hN q => by
    have := h N hN
    rwa [sel_t q] at this
  have neg : ∀ N, Zcr M N → ¬ W 8 7 = 1 → K r1 N := fun N hN q => K1 N hN (Or.inl (hm.resolve_right q))
  refine ⟨fun c1 => ⟨fun c2 => neg N1 hZ c2, fun c2 => ⟨fun c3 => K1 N1 hZ (Or.inr (Or.inl c3)), fun c3 => ?_⟩⟩, fun c1 => ⟨fun c2 => neg N1 hZ c2, fun c2 => ⟨fun c3 => K1 N1 hZ (Or.inr (Or.inl c3)), fun c3 => ?_⟩⟩⟩
  · exfalso
    obtain ⟨-, t, et⟩ := fol_head (W := W) (m := W (zp v1) 3) (U := w_undone W (c_dayOn W (zp v1) v2)) (been := 0) (l := w_gov W (zp v1) (c_dayOn W (zp v1) v2)) (k := 8) (fun q => c3 (by rw [e1]; exact q))
    unfold w_path9 at hp1
    rw [et] at hp1
    rw [hp1] at c1
    have hl := w_path_len W (W (zp v1) 3) (w_undone W (c_dayOn W (zp v1) v2)) 9 0 (w_gov W (zp v1) (c_dayOn W (zp v1) v2))
    rw [et] at hl
    simp only [List.length_cons] at c1 hl
    have := (nI_leI (b := 0) (by omega) (by decide)).mp c1
    omega
  · obtain ⟨hlaw, t, et⟩ := fol_head (W := W) (m := W (zp v1) 3) (U := w_undone W (c_dayOn W (zp v1) v2)) (been := 0) (l := w_gov W (zp v1) (c_dayOn W (zp v1) v2)) (k := 8) (fun q => c3 (by rw [e1]; exact q))
    unfold w_path9 at hp2
    rw [et] at hp2
    have h0 : some (w_gov W (zp v1) (c_dayOn W (zp v1) v2)) = some (N1.1 194 0) := hp2 0 (Nat.zero_lt_succ _)
    have h0 := (Option.some.inj h0).symm
    rw [h0]
    obtain ⟨i1, i2, i3⟩ := hR.1.ix hlaw
    have ef := (hR1.2.2.2.2.2 _ i1).1
    rw [ef]
    have hne : ¬ (W 8 7 = 0 ∨ r1 < 0 ∨ ¬ ((0 : Int32) ≤ w_gov W (zp v1) (c_dayOn W (zp v1) v2) ∧ w_gov W (zp v1) (c_dayOn W (zp v1) v2) < W 8 1)) := by
      rintro (q | q | q)
      · rw [c2] at q; exact absurd q (by decide)
      · exact c3 q
      · exact q hlaw
    have h := fun N hN => (sel_f hne) ▸ h N hN
    refine ⟨vp8 i2 i3, vp, fun c4 => ?_, fun c4 => ⟨vp, hR1, hP1, fun r21 e21 N21 g21 => ?_⟩⟩
    · have := h N1 hZ
      rwa [sel_t (Or.inl c4)] at this
    · have := h N21 (hZ.tr g21.1)
      rw [← e21] at this
      refine ⟨fun c5 => ?_, fun c5 => ?_⟩
      · rwa [sel_t (Or.inr c5)] at this
      · rw [sel_f (fun q => q.elim c4 c5)] at this
        refine ⟨fun c6 => ?_, fun c6 => ?_⟩
        · rwa [if_neg (Int32.not_lt.mpr c6)] at this
        · rwa [if_pos (Int32.not_le.mp c6)] at this

/-! BetweenLawsModel.meets(III)I -/
abbrev rm_X11_meets : Room := { frames := 4, cells := 0, slots := 0, locals := 96 }
abbrev B_X11_meets (G : GT) (K : Int32 → Mem → Prop) := BT G (Rep G) RX11 "meets" cX11_meets 5 (some .int) rm_X11_meets K 0 0
abbrev T_X11_meets (G : GT) (as : List Value) (M : Mem) (K : Int32 → Mem → Prop) : Prop := MT G (Rep G) yX11_meets cX11_meets 5 (some .int) rm_X11_meets as M K
theorem e_X11_meets {G : GT} {K : Int32 → Mem → Prop} {M : Mem} {v1 : Int32} {v2 : Int32} {v3 : Int32} (h : B_X11_meets G K 0 [(0, .ref 175), (1, .int v1), (2, .int v2), (3, .int v3)] [] M) : T_X11_meets G [.ref 175, .int v1, .int v2, .int v3] M K := MT.of (by decide +kernel) rfl rfl (Nat.le_of_ble_eq_true rfl) rfl h
set_option maxRecDepth 4000 in
theorem k_X11_meets_0 {G : GT} {K : Int32 → Mem → Prop} {M : Mem} {W : WT} {v1 : Int32} {v2 : Int32} {v3 : Int32} (h : (RG W M) ∧ (¬ ((0 : Int32) ≤ v1 ∧ v1 < W 8 1) → K (-1) M) ∧ (((0 : Int32) ≤ v1 ∧ v1 < W 8 1) → (RP W M) ∧ (((0 : Int32) ≤ v2 ∧ v2 < W 8 4) → (((0 : Int32) ≤ v3 ∧ v3 ≤ 99) → (PR W M v2) ∧ (∀ r10 : Int32, r10 = (c_dayOn W (zp v2) v3) → (RG W M) ∧ (∀ r11 : Int32, r11 = (w_undone W r10) → (RG W M) ∧ ((0 : Int32) ≤ v1 ∧ v1 < W 8 1) ∧ (PR W M v2) ∧ (∀ r12 : Int32, r12 = (w_obst W (Int32.toNatClampNeg v1) (zp v2) r10 r11) → (¬ r12 = 0 → K 0 M) ∧ (r12 = 0 → K 1 M))))) ∧ (¬ ((0 : Int32) ≤ v3 ∧ v3 ≤ 99) → K (-2) M)) ∧ (¬ ((0 : Int32) ≤ v2 ∧ v2 < W 8 4) → K (-1) M))) : B_X11_meets G K 0 [(0, .ref 175), (1, .int v1), (2, .int v2), (3, .int v3)] [] M := by
  refine BT.aload_n dX11_meets_0 rfl 0 rfl ?_
  refine BT.iload_n dX11_meets_1 rfl 1 rfl ?_
  refine BT.mcV [.int v1] (t_X11_isLaw h.1 ?_) mb_X11_isLaw mv_X11_isLaw lk_X11_169 rfl (by decide) rfl (recvRep ho_175 rfl) (Nat.le_of_ble_eq_true rfl) dX11_meets_2
  show B_X11_meets G K 5 [(0, .ref 175), (1, .int v1), (2, .int v2), (3, .int v3)] [.int (bi ((0 : Int32) ≤ v1 ∧ v1 < W 8 1))] M
  refine BT.if_eq (tgt := 16) dX11_meets_5 (by decide) (fun c => ?_) (fun c => ?_)
  · have c2 := bi_eq0.mp c
    refine BT.iconst (v := (-1)) dX11_meets_16 (by decide) ?_
    exact BT.iret dX11_meets_17 rfl (by decide) (by decide) (h.2.1 c2)
  · have c3 := bi_ne0.mp c
    refine BT.aload_n dX11_meets_8 rfl 0 rfl ?_
    refine BT.iload_n dX11_meets_9 rfl 2 rfl ?_
    refine BT.mcV [.int v2] (t_X11_isPiece (h.2.2 c3).1 ?_) mb_X11_isPiece mv_X11_isPiece lk_X11_198 rfl (by decide) rfl (recvRep ho_175 rfl) (Nat.le_of_ble_eq_true rfl) dX11_meets_10
    show B_X11_meets G K 13 [(0, .ref 175), (1, .int v1), (2, .int v2), (3, .int v3)] [.int (bi ((0 : Int32) ≤ v2 ∧ v2 < W 8 4))] M
    refine BT.if_ne (tgt := 18) dX11_meets_13 (by decide) (fun c => ?_) (fun c => ?_)
    · have c5 := bi_ne0.mp c
      refine BT.iload_n dX11_meets_18 rfl 3 rfl ?_
      refine BT.mcS [.int v3] (t_X11_isDay  ?_) mb_X11_isDay ms_X11_isDay lk_X11_156 rfl (by decide) rfl (Nat.le_of_ble_eq_true rfl) dX11_meets_19
      show B_X11_meets G K 22 [(0, .ref 175), (1, .int v1), (2, .int v2), (3, .int v3)] [.int (bi ((0 : Int32) ≤ v3 ∧ v3 ≤ 99))] M
      refine BT.if_ne (tgt := 28) dX11_meets_22 (by decide) (fun c => ?_) (fun c => ?_)
      · have c8 := bi_ne0.mp c
        refine BT.aload_n dX11_meets_28 rfl 0 rfl ?_
        refine BT.iload_n dX11_meets_29 rfl 2 rfl ?_
        refine BT.iload_n dX11_meets_30 rfl 3 rfl ?_
        refine BT.mcVr [.int v2, .int v3] (t_X11_sameDay (((h.2.2 c3).2.1 c5).1 c8).1 ⟨rfl, rfl⟩) mb_X11_sameDay mv_X11_sameDay lk_X11_237 rfl (by decide) rfl (recvRep ho_175 rfl) (Nat.le_of_ble_eq_true rfl) dX11_meets_31 (fun r10 e10 => ?_)
        show B_X11_meets G K 34 [(0, .ref 175), (1, .int v1), (2, .int v2), (3, .int v3)] [.int r10] M
        refine BT.istore (L' := [(4, .int r10), (0, .ref 175), (1, .int v1), (2, .int v2), (3, .int v3)]) dX11_meets_34 (by decide) rfl ?_
        refine BT.aload_n dX11_meets_36 rfl 1 rfl ?_
        refine BT.iload_n dX11_meets_37 rfl 2 rfl ?_
        refine BT.iload_n dX11_meets_38 rfl 3 rfl ?_
        refine BT.iload dX11_meets_39 0 rfl ?_
        refine BT.aload_n dX11_meets_41 rfl 1 rfl ?_
        refine BT.iload dX11_meets_42 0 rfl ?_
        refine BT.mcVr [.int r10] (t_X11_undoneOf ((((h.2.2 c3).2.1 c5).1 c8).2 r10 e10).1 ⟨rfl, rfl⟩) mb_X11_undoneOf mv_X11_undoneOf lk_X11_181 rfl (by decide) rfl (recvRep ho_175 rfl) (Nat.le_of_ble_eq_true rfl) dX11_meets_44 (fun r11 e11 => ?_)
        show B_X11_meets G K 47 [(4, .int r10), (0, .ref 175), (1, .int v1), (2, .int v2), (3, .int v3)] [.int r11, .int r10, .int v2, .int v1, .ref 175] M
        refine BT.mcVr [.int v1, .int v2, .int r10, .int r11] (t_X11_lackOf (((((h.2.2 c3).2.1 c5).1 c8).2 r10 e10).2 r11 e11).1 (((((h.2.2 c3).2.1 c5).1 c8).2 r10 e10).2 r11 e11).2.1 (((((h.2.2 c3).2.1 c5).1 c8).2 r10 e10).2 r11 e11).2.2.1 ⟨rfl, rfl⟩) mb_X11_lackOf mv_X11_lackOf lk_X11_230 rfl (by decide) rfl (recvRep ho_175 rfl) (Nat.le_of_ble_eq_true rfl) dX11_meets_47 (fun r12 e12 => ?_)
        show B_X11_meets G K 50 [(4, .int r10), (0, .ref 175), (1, .int v1), (2, .int v2), (3, .int v3)] [.int r12] M
        refine BT.if_ne (tgt := 57) dX11_meets_50 (by decide) (fun c => ?_) (fun c => ?_)
        · have c13 := c
          refine BT.iconst (v := 0) dX11_meets_57 (by decide) ?_
          exact BT.iret dX11_meets_58 rfl (by decide) (by decide) (((((((h.2.2 c3).2.1 c5).1 c8).2 r10 e10).2 r11 e11).2.2.2 r12 e12).1 c13)
        · have c14 := c
          refine BT.iconst (v := 1) dX11_meets_53 (by decide) ?_
          refine BT.goto (tgt := 58) dX11_meets_54 (by decide) ?_
          exact BT.iret dX11_meets_58 rfl (by decide) (by decide) (((((((h.2.2 c3).2.1 c5).1 c8).2 r10 e10).2 r11 e11).2.2.2 r12 e12).2 c14)
      · have c9 := bi_eq0.mp c
        refine BT.bipush (v := (-2)) dX11_meets_25 (by decide) ?_
        exact BT.iret dX11_meets_27 rfl (by decide) (by decide) (((h.2.2 c3).2.1 c5).2 c9)
    · have c6 := bi_eq0.mp c
      refine BT.iconst (v := (-1)) dX11_meets_16 (by decide) ?_
      exact BT.iret dX11_meets_17 rfl (by decide) (by decide) ((h.2.2 c3).2.2 c6)

theorem RP.ix {W : WT} {M : Mem} (h : RP W M) {v : Int32} (hv : (0 : Int32) ≤ v ∧ v < W 8 4) : Int32.toNatClampNeg v < w_p W ∧ Int32.toNatClampNeg v < 8 ∧ v = nI (Int32.toNatClampNeg v) ∧ PR W M v ∧ zp v = ppc v := by
  obtain ⟨⟨hq, h9⟩, -, h3⟩ := h
  obtain ⟨j, hj, rfl⟩ := i_nat (show w_p W < 2 ^ 31 by omega) hv.1 (by rw [← hq]; exact hv.2)
  unfold zp zc ppc
  rw [ix_nI (by omega)]
  exact ⟨hj, by omega, rfl, (h3 j hj).1, if_neg (by omega)⟩
theorem q_rp_n {W : WT} {p d : Int32} (c : (0 : Int32) ≤ p ∧ p < W 8 4) : q_rp W p d = sel ((0 : Int32) ≤ d ∧ d ≤ 99) 0 (-2) := sel_t c
theorem q_rl_n {W : WT} {l p d : Int32} (c : (0 : Int32) ≤ l ∧ l < W 8 1) : q_rl W l p d = q_rp W p d := sel_t c
theorem t_X11_meets {G : GT} {K : Int32 → Mem → Prop} {M : Mem} {W : WT} {v1 v2 v3 : Int32} (hR : RG W M) (hQ : RP W M) (h : ∀ N, Zcr M N → K (a_meets W v1 v2 v3) N) : T_X11_meets G [.ref 175, .int v1, .int v2, .int v3] M K := by
  unfold a_meets at h
  refine e_X11_meets (k_X11_meets_0 (W := W) ⟨hR, fun c1 => ?_, fun c1 => ⟨hQ, fun c2 => ⟨fun c3 => ?_, fun c3 => ?_⟩, fun c2 => ?_⟩⟩)
  · rw [q_rl, sel_f c1, sel_f (by decide)] at h
    exact h M Zcr.rf
  · rw [q_rl_n c1, q_rp_n c2, sel_t c3, sel_t rfl] at h
    obtain ⟨i1, i2, i3, hP, ez⟩ := hQ.ix c2
    refine ⟨hP, fun r10 e10 => ⟨hR, fun r11 e11 => ⟨hR, c1, hP, fun r12 e12 => ⟨fun c4 => ?_, fun c4 => ?_⟩⟩⟩⟩
    · rw [e12, e11, e10, ez] at c4
      rw [sel_f c4] at h; exact h M Zcr.rf
    · rw [e12, e11, e10, ez] at c4
      rw [sel_t c4] at h; exact h M Zcr.rf
  · rw [q_rl_n c1, q_rp_n c2, sel_f c3, sel_f (by decide)] at h
    exact h M Zcr.rf
  · rw [q_rl_n c1, q_rp, sel_f c2, sel_f (by decide)] at h
    exact h M Zcr.rf

/-! BetweenLawsModel.why(III)I -/
abbrev rm_X11_why : Room := { frames := 6, cells := 0, slots := 0, locals := 144 }
abbrev B_X11_why (G : GT) (K : Int32 → Mem → Prop) := BT G (Rep G) RX11 "why" cX11_why 6 (some .int) rm_X11_why K 0 0
abbrev T_X11_why (G : GT) (as : List Value) (M : Mem) (K : Int32 → Mem → Prop) : Prop := MT G (Rep G) yX11_why cX11_why 6 (some .int) rm_X11_why as M K
theorem e_X11_why {G : GT} {K : Int32 → Mem → Prop} {M : Mem} {v1 : Int32} {v2 : Int32} {v3 : Int32} (h : B_X11_why G K 0 [(0, .ref 175), (1, .int v1), (2, .int v2), (3, .int v3)] [] M) : T_X11_why G [.ref 175, .int v1, .int v2, .int v3] M K := MT.of (by decide +kernel) rfl rfl (Nat.le_of_ble_eq_true rfl) rfl h
set_option maxRecDepth 4000 in
theorem k_X11_why_0 {G : GT} {K : Int32 → Mem → Prop} {M : Mem} {W : WT} {v1 : Int32} {v2 : Int32} {v3 : Int32} (h : (RG W M) ∧ (¬ ((0 : Int32) ≤ v1 ∧ v1 < W 8 1) → K (-1) M) ∧ (((0 : Int32) ≤ v1 ∧ v1 < W 8 1) → (RP W M) ∧ (((0 : Int32) ≤ v2 ∧ v2 < W 8 4) → (((0 : Int32) ≤ v3 ∧ v3 ≤ 99) → (RG W M) ∧ (PR W M v2) ∧ (∀ r10 : Int32, r10 = (w_gov W (zp v2) (c_dayOn W (zp v2) v3)) → ∀ N10 : Mem, N10 = (m_i M 175 30 (w_gov2 W (zp v2) (c_dayOn W (zp v2) v3)).2) → (¬ r10 = v1 → (PR W N10 v2) ∧ (∀ r13 : Int32, r13 = (c_dayOn W (zp v2) v3) → (RG W N10) ∧ (∀ r14 : Int32, r14 = (w_undone W r13) → (RG W N10) ∧ ((0 : Int32) ≤ v1 ∧ v1 < W 8 1) ∧ (PR W N10 v2) ∧ (∀ r15 : Int32, r15 = (w_obst W (Int32.toNatClampNeg v1) (zp v2) r13 r14) → (¬ r15 = 0 → K r15 N10) ∧ (r15 = 0 → K 6 N10))))) ∧ (r10 = v1 → K 0 N10))) ∧ (¬ ((0 : Int32) ≤ v3 ∧ v3 ≤ 99) → K (-2) M)) ∧ (¬ ((0 : Int32) ≤ v2 ∧ v2 < W 8 4) → K (-1) M))) : B_X11_why G K 0 [(0, .ref 175), (1, .int v1), (2, .int v2), (3, .int v3)] [] M := by
  refine BT.aload_n dX11_why_0 rfl 0 rfl ?_
  refine BT.iload_n dX11_why_1 rfl 1 rfl ?_
  refine BT.mcV [.int v1] (t_X11_isLaw h.1 ?_) mb_X11_isLaw mv_X11_isLaw lk_X11_169 rfl (by decide) rfl (recvRep ho_175 rfl) (Nat.le_of_ble_eq_true rfl) dX11_why_2
  show B_X11_why G K 5 [(0, .ref 175), (1, .int v1), (2, .int v2), (3, .int v3)] [.int (bi ((0 : Int32) ≤ v1 ∧ v1 < W 8 1))] M
  refine BT.if_eq (tgt := 16) dX11_why_5 (by decide) (fun c => ?_) (fun c => ?_)
  · have c2 := bi_eq0.mp c
    refine BT.iconst (v := (-1)) dX11_why_16 (by decide) ?_
    exact BT.iret dX11_why_17 rfl (by decide) (by decide) (h.2.1 c2)
  · have c3 := bi_ne0.mp c
    refine BT.aload_n dX11_why_8 rfl 0 rfl ?_
    refine BT.iload_n dX11_why_9 rfl 2 rfl ?_
    refine BT.mcV [.int v2] (t_X11_isPiece (h.2.2 c3).1 ?_) mb_X11_isPiece mv_X11_isPiece lk_X11_198 rfl (by decide) rfl (recvRep ho_175 rfl) (Nat.le_of_ble_eq_true rfl) dX11_why_10
    show B_X11_why G K 13 [(0, .ref 175), (1, .int v1), (2, .int v2), (3, .int v3)] [.int (bi ((0 : Int32) ≤ v2 ∧ v2 < W 8 4))] M
    refine BT.if_ne (tgt := 18) dX11_why_13 (by decide) (fun c => ?_) (fun c => ?_)
    · have c5 := bi_ne0.mp c
      refine BT.iload_n dX11_why_18 rfl 3 rfl ?_
      refine BT.mcS [.int v3] (t_X11_isDay  ?_) mb_X11_isDay ms_X11_isDay lk_X11_156 rfl (by decide) rfl (Nat.le_of_ble_eq_true rfl) dX11_why_19
      show B_X11_why G K 22 [(0, .ref 175), (1, .int v1), (2, .int v2), (3, .int v3)] [.int (bi ((0 : Int32) ≤ v3 ∧ v3 ≤ 99))] M
      refine BT.if_ne (tgt := 28) dX11_why_22 (by decide) (fun c => ?_) (fun c => ?_)
      · have c8 := bi_ne0.mp c
        refine BT.aload_n dX11_why_28 rfl 0 rfl ?_
        refine BT.iload_n dX11_why_29 rfl 2 rfl ?_
        refine BT.iload_n dX11_why_30 rfl 3 rfl ?_
        refine BT.mcVn [.int v2, .int v3] (t_X11_governs0 (((h.2.2 c3).2.1 c5).1 c8).1 (((h.2.2 c3).2.1 c5).1 c8).2.1 ⟨rfl, rfl⟩) mb_X11_governs0 mv_X11_governs0 lk_X11_243 rfl (by decide) rfl (recvRep ho_175 rfl) (Nat.le_of_ble_eq_true rfl) dX11_why_31 (fun r10 e10 N10 g10 => ?_)
        show B_X11_why G K 34 [(0, .ref 175), (1, .int v1), (2, .int v2), (3, .int v3)] [.int r10] N10
        refine BT.iload_n dX11_why_34 rfl 1 rfl ?_
        refine BT.icmp_ne (tgt := 40) dX11_why_35 (by decide) (fun c => ?_) (fun c => ?_)
        · have c11 := c
          refine BT.aload_n dX11_why_40 rfl 0 rfl ?_
          refine BT.iload_n dX11_why_41 rfl 2 rfl ?_
          refine BT.iload_n dX11_why_42 rfl 3 rfl ?_
          refine BT.mcVr [.int v2, .int v3] (t_X11_sameDay (((((h.2.2 c3).2.1 c5).1 c8).2.2 r10 e10 N10 g10).1 c11).1 ⟨rfl, rfl⟩) mb_X11_sameDay mv_X11_sameDay lk_X11_237 rfl (by decide) rfl (recvRep ho_175 rfl) (Nat.le_of_ble_eq_true rfl) dX11_why_43 (fun r13 e13 => ?_)
          show B_X11_why G K 46 [(0, .ref 175), (1, .int v1), (2, .int v2), (3, .int v3)] [.int r13] N10
          refine BT.istore (L' := [(4, .int r13), (0, .ref 175), (1, .int v1), (2, .int v2), (3, .int v3)]) dX11_why_46 (by decide) rfl ?_
          refine BT.aload_n dX11_why_48 rfl 1 rfl ?_
          refine BT.iload_n dX11_why_49 rfl 2 rfl ?_
          refine BT.iload_n dX11_why_50 rfl 3 rfl ?_
          refine BT.iload dX11_why_51 0 rfl ?_
          refine BT.aload_n dX11_why_53 rfl 1 rfl ?_
          refine BT.iload dX11_why_54 0 rfl ?_
          refine BT.mcVr [.int r13] (t_X11_undoneOf ((((((h.2.2 c3).2.1 c5).1 c8).2.2 r10 e10 N10 g10).1 c11).2 r13 e13).1 ⟨rfl, rfl⟩) mb_X11_undoneOf mv_X11_undoneOf lk_X11_181 rfl (by decide) rfl (recvRep ho_175 rfl) (Nat.le_of_ble_eq_true rfl) dX11_why_56 (fun r14 e14 => ?_)
          show B_X11_why G K 59 [(4, .int r13), (0, .ref 175), (1, .int v1), (2, .int v2), (3, .int v3)] [.int r14, .int r13, .int v2, .int v1, .ref 175] N10
          refine BT.mcVr [.int v1, .int v2, .int r13, .int r14] (t_X11_lackOf (((((((h.2.2 c3).2.1 c5).1 c8).2.2 r10 e10 N10 g10).1 c11).2 r13 e13).2 r14 e14).1 (((((((h.2.2 c3).2.1 c5).1 c8).2.2 r10 e10 N10 g10).1 c11).2 r13 e13).2 r14 e14).2.1 (((((((h.2.2 c3).2.1 c5).1 c8).2.2 r10 e10 N10 g10).1 c11).2 r13 e13).2 r14 e14).2.2.1 ⟨rfl, rfl⟩) mb_X11_lackOf mv_X11_lackOf lk_X11_230 rfl (by decide) rfl (recvRep ho_175 rfl) (Nat.le_of_ble_eq_true rfl) dX11_why_59 (fun r15 e15 => ?_)
          show B_X11_why G K 62 [(4, .int r13), (0, .ref 175), (1, .int v1), (2, .int v2), (3, .int v3)] [.int r15] N10
          refine BT.istore (L' := [(5, .int r15), (4, .int r13), (0, .ref 175), (1, .int v1), (2, .int v2), (3, .int v3)]) dX11_why_62 (by decide) rfl ?_
          refine BT.iload dX11_why_64 0 rfl ?_
          refine BT.if_ne (tgt := 74) dX11_why_66 (by decide) (fun c => ?_) (fun c => ?_)
          · have c16 := c
            refine BT.iload dX11_why_74 0 rfl ?_
            exact BT.iret dX11_why_76 rfl (by decide) (by decide) (((((((((h.2.2 c3).2.1 c5).1 c8).2.2 r10 e10 N10 g10).1 c11).2 r13 e13).2 r14 e14).2.2.2 r15 e15).1 c16)
          · have c17 := c
            refine BT.bipush (v := 6) dX11_why_69 (by decide) ?_
            refine BT.goto (tgt := 76) dX11_why_71 (by decide) ?_
            exact BT.iret dX11_why_76 rfl (by decide) (by decide) (((((((((h.2.2 c3).2.1 c5).1 c8).2.2 r10 e10 N10 g10).1 c11).2 r13 e13).2 r14 e14).2.2.2 r15 e15).2 c17)
        · have c12 := c
          refine BT.iconst (v := 0) dX11_why_38 (by decide) ?_
          exact BT.iret dX11_why_39 rfl (by decide) (by decide) (((((h.2.2 c3).2.1 c5).1 c8).2.2 r10 e10 N10 g10).2 c12)
      · have c9 := bi_eq0.mp c
        refine BT.bipush (v := (-2)) dX11_why_25 (by decide) ?_
        exact BT.iret dX11_why_27 rfl (by decide) (by decide) (((h.2.2 c3).2.1 c5).2 c9)
    · have c6 := bi_eq0.mp c
      refine BT.iconst (v := (-1)) dX11_why_16 (by decide) ?_
      exact BT.iret dX11_why_17 rfl (by decide) (by decide) ((h.2.2 c3).2.2 c6)

theorem t_X11_why {G : GT} {K : Int32 → Mem → Prop} {M : Mem} {W : WT} {v1 v2 v3 : Int32} (hR : RG W M) (hQ : RP W M) (h : ∀ N, Zcr M N → K (a_why W v1 v2 v3) N) : T_X11_why G [.ref 175, .int v1, .int v2, .int v3] M K := by
  unfold a_why at h
  refine e_X11_why (k_X11_why_0 (W := W) ⟨hR, fun c1 => ?_, fun c1 => ⟨hQ, fun c2 => ⟨fun c3 => ?_, fun c3 => ?_⟩, fun c2 => ?_⟩⟩)
  · rw [q_rl, sel_f c1, sel_f (by decide)] at h
    exact h M Zcr.rf
  · rw [q_rl_n c1, q_rp_n c2, sel_t c3, sel_t rfl] at h
    obtain ⟨i1, i2, i3, hP, ez⟩ := hQ.ix c2
    rw [← ez] at h
    refine ⟨hR, hP, fun r10 e10 N10 g10 => ?_⟩
    have hN : Zcr M N10 := by rw [g10]; exact Zcr.rf.mi (by decide)
    refine ⟨fun c4 => ⟨hP.z hN, fun r13 e13 => ⟨hR.z hN, fun r14 e14 => ⟨hR.z hN, c1, hP.z hN, fun r15 e15 => ?_⟩⟩⟩, fun c4 => ?_⟩
    · rw [e10] at c4
      rw [sel_f c4, ← e13, ← e14, ← e15] at h
      refine ⟨fun c5 => ?_, fun c5 => ?_⟩
      · rw [sel_f c5] at h; exact h _ hN
      · rw [sel_t c5] at h; exact h _ hN
    · rw [e10] at c4
      rw [sel_t c4] at h; exact h _ hN
  · rw [q_rl_n c1, q_rp_n c2, sel_f c3, sel_f (by decide)] at h
    exact h M Zcr.rf
  · rw [q_rl_n c1, q_rp, sel_f c2, sel_f (by decide)] at h
    exact h M Zcr.rf

