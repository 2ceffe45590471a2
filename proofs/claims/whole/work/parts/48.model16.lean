/-! ===== 48.model16 ===== -/
/-! BetweenLawsModel.all(II)I -/
abbrev rm_X11_all : Room := { frames := 7, cells := 0, slots := 0, locals := 175 }
abbrev B_X11_all (G : GT) (K : Int32 → Mem → Prop) := BT G (Rep G) RX11 "all" cX11_all 5 (some .int) rm_X11_all K 0 0
abbrev T_X11_all (G : GT) (as : List Value) (M : Mem) (K : Int32 → Mem → Prop) : Prop := MT G (Rep G) yX11_all cX11_all 5 (some .int) rm_X11_all as M K
theorem e_X11_all {G : GT} {K : Int32 → Mem → Prop} {M : Mem} {v1 : Int32} {v2 : Int32} (h : B_X11_all G K 0 [(0, .ref 175), (1, .int v1), (2, .int v2)] [] M) : T_X11_all G [.ref 175, .int v1, .int v2] M K := MT.of (by decide +kernel) rfl rfl (Nat.le_of_ble_eq_true rfl) rfl h
set_option maxRecDepth 4000 in
theorem k_X11_all_0 {G : GT} {K : Int32 → Mem → Prop} {M : Mem} {v1 : Int32} {v2 : Int32} (h : (¬ ((0 : Int32) ≤ v1 ∧ v1 ≤ 99) → K (-2) M) ∧ (((0 : Int32) ≤ v1 ∧ v1 ≤ 99) → (((0 : Int32) ≤ v2 ∧ v2 ≤ (1 : Int32)) → (∀ N6 : Mem, (Zcw M N6 ∧ ∀ k, k < 102 → N6.1 195 k = 0) → B_X11_all G K 26 [(0, .ref 175), (1, .int v1), (2, .int v2), (3, .int 0)] [] N6)) ∧ (¬ ((0 : Int32) ≤ v2 ∧ v2 ≤ (1 : Int32)) → K (-2) M))) : B_X11_all G K 0 [(0, .ref 175), (1, .int v1), (2, .int v2)] [] M := by
  refine BT.iload_n dX11_all_0 rfl 1 rfl ?_
  refine BT.mcS [.int v1] (t_X11_isDay  ?_) mb_X11_isDay ms_X11_isDay lk_X11_156 rfl (by decide) rfl (Nat.le_of_ble_eq_true rfl) dX11_all_1
  show B_X11_all G K 4 [(0, .ref 175), (1, .int v1), (2, .int v2)] [.int (bi ((0 : Int32) ≤ v1 ∧ v1 ≤ 99))] M
  refine BT.if_eq (tgt := 17) dX11_all_4 (by decide) (fun c => ?_) (fun c => ?_)
  · have c2 := bi_eq0.mp c
    refine BT.bipush (v := (-2)) dX11_all_17 (by decide) ?_
    exact BT.iret dX11_all_19 rfl (by decide) (by decide) (h.1 c2)
  · have c3 := bi_ne0.mp c
    refine BT.iload_n dX11_all_7 rfl 2 rfl ?_
    refine BT.i2l dX11_all_8 ?_
    refine BT.lconst (v := 0) dX11_all_9 (by decide) ?_
    refine BT.lconst (v := 1) dX11_all_10 (by decide) ?_
    refine BT.mcS [.long (Int32.toInt64 v2), .long 0, .long 1] (t_X11_in (x := v2) (y := (0 : Int32)) (z := (1 : Int32)) rfl (by decide) (by decide) ?_) mb_X11_in ms_X11_in lk_X11_86 rfl (by decide) rfl (Nat.le_of_ble_eq_true rfl) dX11_all_11
    show B_X11_all G K 14 [(0, .ref 175), (1, .int v1), (2, .int v2)] [.int (bi ((0 : Int32) ≤ v2 ∧ v2 ≤ (1 : Int32)))] M
    refine BT.if_ne (tgt := 20) dX11_all_14 (by decide) (fun c => ?_) (fun c => ?_)
    · have c4 := bi_ne0.mp c
      refine BT.aload_n dX11_all_20 rfl 0 rfl ?_
      refine BT.mcVvp [] (t_X11_clearWere  (fun N hN => ⟨rfl, hN⟩)) mb_X11_clearWere mv_X11_clearWere lk_X11_284 rfl (by decide) rfl (recvRep ho_175 rfl) (Nat.le_of_ble_eq_true rfl) dX11_all_21 (P := fun N6 => Zcw M N6 ∧ ∀ k, k < 102 → N6.1 195 k = 0) (fun N6 g6 => ?_)
      show B_X11_all G K 24 [(0, .ref 175), (1, .int v1), (2, .int v2)] [] N6
      refine BT.iconst (v := 0) dX11_all_24 (by decide) ?_
      refine BT.istore_n (L' := [(3, .int 0), (0, .ref 175), (1, .int v1), (2, .int v2)]) dX11_all_25 rfl (by decide) rfl ?_
      refine BT.sub [1, 2, 3, 0] rfl ?_
      exact (((h.2 c3).1 c4) N6 g6)
    · have c5 := bi_eq0.mp c
      refine BT.bipush (v := (-2)) dX11_all_17 (by decide) ?_
      exact BT.iret dX11_all_19 rfl (by decide) (by decide) ((h.2 c3).2 c5)
set_option maxRecDepth 4000 in
theorem k_X11_all_26 {G : GT} {K : Int32 → Mem → Prop} {M : Mem} {v1 : Int32} {v2 : Int32} {v3 : Int32} (h : (v1 < v3 → (¬ v2 = 0 → K (-6) M) ∧ (v2 = 0 → (∀ r5 : Int32, r5 = (nI (z_cnt M.1 102)) → K r5 M))) ∧ (¬ v1 < v3 → B_X11_all G K 34 [(0, .ref 175), (1, .int v1), (2, .int v2), (3, .int v3), (4, .int 0)] [] M)) : B_X11_all G K 26 [(0, .ref 175), (1, .int v1), (2, .int v2), (3, .int v3)] [] M := by
  refine BT.iload_n dX11_all_26 rfl 3 rfl ?_
  refine BT.iload_n dX11_all_27 rfl 1 rfl ?_
  refine BT.icmp_gt (tgt := 100) dX11_all_28 (by decide) (fun c => ?_) (fun c => ?_)
  · have c1 := c
    refine BT.iload_n dX11_all_100 rfl 2 rfl ?_
    refine BT.if_ne (tgt := 111) dX11_all_101 (by decide) (fun c => ?_) (fun c => ?_)
    · have c3 := c
      refine BT.bipush (v := (-6)) dX11_all_111 (by decide) ?_
      exact BT.iret dX11_all_113 rfl (by decide) (by decide) ((h.1 c1).1 c3)
    · have c4 := c
      refine BT.aload_n dX11_all_104 rfl 0 rfl ?_
      refine BT.mcVr [] (t_X11_manyWere  ⟨rfl, rfl⟩) mb_X11_manyWere mv_X11_manyWere lk_X11_293 rfl (by decide) rfl (recvRep ho_175 rfl) (Nat.le_of_ble_eq_true rfl) dX11_all_105 (fun r5 e5 => ?_)
      show B_X11_all G K 108 [(0, .ref 175), (1, .int v1), (2, .int v2), (3, .int v3)] [.int r5] M
      refine BT.goto (tgt := 113) dX11_all_108 (by decide) ?_
      exact BT.iret dX11_all_113 rfl (by decide) (by decide) (((h.1 c1).2 c4) r5 e5)
  · have c2 := c
    refine BT.iconst (v := 0) dX11_all_31 (by decide) ?_
    refine BT.istore (L' := [(4, .int 0), (0, .ref 175), (1, .int v1), (2, .int v2), (3, .int v3)]) dX11_all_32 (by decide) rfl ?_
    refine BT.sub [1, 2, 3, 4, 0] rfl ?_
    exact (h.2 c2)
set_option maxRecDepth 4000 in
theorem k_X11_all_34 {G : GT} {K : Int32 → Mem → Prop} {M : Mem} {W : WT} {v1 : Int32} {v2 : Int32} {v3 : Int32} {v4 : Int32} (h : (31 < v4 → B_X11_all G K 26 [(0, .ref 175), (1, .int v1), (2, .int v2), (3, .int (v3 + 1))] [] M) ∧ (¬ 31 < v4 → (∃ j, j < 9 ∧ 8 = nI j) ∧ (∀ N3 : Mem, N3 = (z_lay M (Int32.toNatClampNeg 8) v3 v4) → (¬ v2 = 1 → (¬ v2 = 0 → B_X11_all G K 34 [(0, .ref 175), (1, .int v1), (2, .int v2), (3, .int v3), (4, .int (v4 + 1))] [] N3) ∧ (v2 = 0 → (RG W N3) ∧ (PR W N3 8) ∧ (∀ r8 : Int32, r8 = (w_given W (zp 8) v1) → ∀ N8 : Mem, (Zcr N3 N8) → (AnsO r8) ∧ (∀ N9 : Mem, N9 = (m_i N8 195 (z_idx r8) 1) → B_X11_all G K 34 [(0, .ref 175), (1, .int v1), (2, .int v2), (3, .int v3), (4, .int (v4 + 1))] [] N9)))) ∧ (v2 = 1 → (RG W N3) ∧ (PR W N3 8) ∧ (∀ r10 : Int32, r10 = (w_gov W (zp 8) v1) → ∀ N10 : Mem, N10 = (m_i N3 175 30 (w_gov2 W (zp 8) v1).2) → (0 ≤ r10 → (¬ v2 = 0 → B_X11_all G K 34 [(0, .ref 175), (1, .int v1), (2, .int v2), (3, .int v3), (4, .int (v4 + 1))] [] N10) ∧ (v2 = 0 → (RG W N10) ∧ (PR W N10 8) ∧ (∀ r15 : Int32, r15 = (w_given W (zp 8) v1) → ∀ N15 : Mem, (Zcr N10 N15) → (AnsO r15) ∧ (∀ N16 : Mem, N16 = (m_i N15 195 (z_idx r15) 1) → B_X11_all G K 34 [(0, .ref 175), (1, .int v1), (2, .int v2), (3, .int v3), (4, .int (v4 + 1))] [] N16)))) ∧ (¬ 0 ≤ r10 → K (((100 : Int32) * v3) + v4) N10)))))) : B_X11_all G K 34 [(0, .ref 175), (1, .int v1), (2, .int v2), (3, .int v3), (4, .int v4)] [] M := by
  refine BT.iload dX11_all_34 4 rfl ?_
  refine BT.bipush (v := 31) dX11_all_36 (by decide) ?_
  refine BT.icmp_gt (tgt := 94) dX11_all_38 (by decide) (fun c => ?_) (fun c => ?_)
  · have c1 := c
    refine BT.iinc (j := 3) (v := (v3 + 1)) (L' := [(3, .int (v3 + 1)), (0, .ref 175), (1, .int v1), (2, .int v2), (4, .int v4)]) dX11_all_94 rfl rfl (by decide) rfl ?_
    refine BT.goto (tgt := 26) dX11_all_97 (by decide) ?_
    refine BT.sub [1, 2, 3, 0] rfl ?_
    exact (h.1 c1)
  · have c2 := c
    refine BT.aload_n dX11_all_41 rfl 0 rfl ?_
    refine BT.bipush (v := 8) dX11_all_42 (by decide) ?_
    refine BT.iload_n dX11_all_44 rfl 3 rfl ?_
    refine BT.iload dX11_all_45 4 rfl ?_
    refine BT.mcVvm [.int 8, .int v3, .int v4] (t_X11_layPiece (h.2 c2).1 ⟨rfl, rfl⟩) mb_X11_layPiece mv_X11_layPiece lk_X11_195 rfl (by decide) rfl (recvRep ho_175 rfl) (Nat.le_of_ble_eq_true rfl) dX11_all_47 (fun N3 g3 => ?_)
    show B_X11_all G K 50 [(0, .ref 175), (1, .int v1), (2, .int v2), (3, .int v3), (4, .int v4)] [] N3
    refine BT.iload_n dX11_all_50 rfl 2 rfl ?_
    refine BT.iconst (v := 1) dX11_all_51 (by decide) ?_
    refine BT.icmp_ne (tgt := 73) dX11_all_52 (by decide) (fun c => ?_) (fun c => ?_)
    · have c4 := c
      refine BT.iload_n dX11_all_73 rfl 2 rfl ?_
      refine BT.if_ne (tgt := 88) dX11_all_74 (by decide) (fun c => ?_) (fun c => ?_)
      · have c6 := c
        refine BT.iinc (j := 4) (v := (v4 + 1)) (L' := [(4, .int (v4 + 1)), (0, .ref 175), (1, .int v1), (2, .int v2), (3, .int v3)]) dX11_all_88 rfl rfl (by decide) rfl ?_
        refine BT.goto (tgt := 34) dX11_all_91 (by decide) ?_
        refine BT.sub [1, 2, 3, 4, 0] rfl ?_
        exact ((((h.2 c2).2 N3 g3).1 c4).1 c6)
      · have c7 := c
        refine BT.aload_n dX11_all_77 rfl 0 rfl ?_
        refine BT.aload_n dX11_all_78 rfl 0 rfl ?_
        refine BT.bipush (v := 8) dX11_all_79 (by decide) ?_
        refine BT.iload_n dX11_all_81 rfl 1 rfl ?_
        refine BT.mcVp [.int 8, .int v1] (t_X11_giftOf ((((h.2 c2).2 N3 g3).1 c4).2 c7).1 ((((h.2 c2).2 N3 g3).1 c4).2 c7).2.1 (fun N hN => ⟨rfl, hN⟩)) mb_X11_giftOf mv_X11_giftOf lk_X11_254 rfl (by decide) rfl (recvRep ho_175 rfl) (Nat.le_of_ble_eq_true rfl) dX11_all_82 (P := fun N8 => Zcr N3 N8) (fun r8 e8 N8 g8 => ?_)
        show B_X11_all G K 85 [(0, .ref 175), (1, .int v1), (2, .int v2), (3, .int v3), (4, .int v4)] [.int r8, .ref 175] N8
        refine BT.mcVvm [.int r8] (t_X11_note (((((h.2 c2).2 N3 g3).1 c4).2 c7).2.2 r8 e8 N8 g8).1 ⟨rfl, rfl⟩) mb_X11_note mv_X11_note lk_X11_290 rfl (by decide) rfl (recvRep ho_175 rfl) (Nat.le_of_ble_eq_true rfl) dX11_all_85 (fun N9 g9 => ?_)
        show B_X11_all G K 88 [(0, .ref 175), (1, .int v1), (2, .int v2), (3, .int v3), (4, .int v4)] [] N9
        refine BT.iinc (j := 4) (v := (v4 + 1)) (L' := [(4, .int (v4 + 1)), (0, .ref 175), (1, .int v1), (2, .int v2), (3, .int v3)]) dX11_all_88 rfl rfl (by decide) rfl ?_
        refine BT.goto (tgt := 34) dX11_all_91 (by decide) ?_
        refine BT.sub [1, 2, 3, 4, 0] rfl ?_
        exact ((((((h.2 c2).2 N3 g3).1 c4).2 c7).2.2 r8 e8 N8 g8).2 N9 g9)
    · have c5 := c
      refine BT.aload_n dX11_all_55 rfl 0 rfl ?_
      refine BT.bipush (v := 8) dX11_all_56 (by decide) ?_
      refine BT.iload_n dX11_all_58 rfl 1 rfl ?_
      refine BT.mcVn [.int 8, .int v1] (t_X11_governing (((h.2 c2).2 N3 g3).2 c5).1 (((h.2 c2).2 N3 g3).2 c5).2.1 ⟨rfl, rfl⟩) mb_X11_governing mv_X11_governing lk_X11_240 rfl (by decide) rfl (recvRep ho_175 rfl) (Nat.le_of_ble_eq_true rfl) dX11_all_59 (fun r10 e10 N10 g10 => ?_)
      show B_X11_all G K 62 [(0, .ref 175), (1, .int v1), (2, .int v2), (3, .int v3), (4, .int v4)] [.int r10] N10
      refine BT.if_ge (tgt := 73) dX11_all_62 (by decide) (fun c => ?_) (fun c => ?_)
      · have c11 := c
        refine BT.iload_n dX11_all_73 rfl 2 rfl ?_
        refine BT.if_ne (tgt := 88) dX11_all_74 (by decide) (fun c => ?_) (fun c => ?_)
        · have c13 := c
          refine BT.iinc (j := 4) (v := (v4 + 1)) (L' := [(4, .int (v4 + 1)), (0, .ref 175), (1, .int v1), (2, .int v2), (3, .int v3)]) dX11_all_88 rfl rfl (by decide) rfl ?_
          refine BT.goto (tgt := 34) dX11_all_91 (by decide) ?_
          refine BT.sub [1, 2, 3, 4, 0] rfl ?_
          exact ((((((h.2 c2).2 N3 g3).2 c5).2.2 r10 e10 N10 g10).1 c11).1 c13)
        · have c14 := c
          refine BT.aload_n dX11_all_77 rfl 0 rfl ?_
          refine BT.aload_n dX11_all_78 rfl 0 rfl ?_
          refine BT.bipush (v := 8) dX11_all_79 (by decide) ?_
          refine BT.iload_n dX11_all_81 rfl 1 rfl ?_
          refine BT.mcVp [.int 8, .int v1] (t_X11_giftOf ((((((h.2 c2).2 N3 g3).2 c5).2.2 r10 e10 N10 g10).1 c11).2 c14).1 ((((((h.2 c2).2 N3 g3).2 c5).2.2 r10 e10 N10 g10).1 c11).2 c14).2.1 (fun N hN => ⟨rfl, hN⟩)) mb_X11_giftOf mv_X11_giftOf lk_X11_254 rfl (by decide) rfl (recvRep ho_175 rfl) (Nat.le_of_ble_eq_true rfl) dX11_all_82 (P := fun N15 => Zcr N10 N15) (fun r15 e15 N15 g15 => ?_)
          show B_X11_all G K 85 [(0, .ref 175), (1, .int v1), (2, .int v2), (3, .int v3), (4, .int v4)] [.int r15, .ref 175] N15
          refine BT.mcVvm [.int r15] (t_X11_note (((((((h.2 c2).2 N3 g3).2 c5).2.2 r10 e10 N10 g10).1 c11).2 c14).2.2 r15 e15 N15 g15).1 ⟨rfl, rfl⟩) mb_X11_note mv_X11_note lk_X11_290 rfl (by decide) rfl (recvRep ho_175 rfl) (Nat.le_of_ble_eq_true rfl) dX11_all_85 (fun N16 g16 => ?_)
          show B_X11_all G K 88 [(0, .ref 175), (1, .int v1), (2, .int v2), (3, .int v3), (4, .int v4)] [] N16
          refine BT.iinc (j := 4) (v := (v4 + 1)) (L' := [(4, .int (v4 + 1)), (0, .ref 175), (1, .int v1), (2, .int v2), (3, .int v3)]) dX11_all_88 rfl rfl (by decide) rfl ?_
          refine BT.goto (tgt := 34) dX11_all_91 (by decide) ?_
          refine BT.sub [1, 2, 3, 4, 0] rfl ?_
          exact ((((((((h.2 c2).2 N3 g3).2 c5).2.2 r10 e10 N10 g10).1 c11).2 c14).2.2 r15 e15 N15 g15).2 N16 g16)
      · have c12 := c
        refine BT.bipush (v := 100) dX11_all_65 (by decide) ?_
        refine BT.iload_n dX11_all_67 rfl 3 rfl ?_
        refine BT.imul dX11_all_68 ?_
        refine BT.iload dX11_all_69 4 rfl ?_
        refine BT.iadd dX11_all_71 ?_
        exact BT.iret dX11_all_72 rfl (by decide) (by decide) (((((h.2 c2).2 N3 g3).2 c5).2.2 r10 e10 N10 g10).2 c12)

/-- what the question over all pieces may change -/
def Zx (M N : Mem) : Prop := (∀ c, ¬ (c = 175 ∨ c = 194 ∨ c = 195 ∨ c = 196 ∨ (189 ≤ c ∧ c ≤ 193)) → N.1 c = M.1 c) ∧ (∀ c j, 189 ≤ c → c ≤ 193 → ¬ j = 8 → N.1 c j = M.1 c j) ∧ (∀ k, ¬ (k = 30 ∨ k = 32 ∨ k = 33 ∨ k = 34 ∨ k = 35) → N.1 175 k = M.1 175 k) ∧ N.2 = M.2
theorem Zq.x {M N : Mem} (h : Zq M N) : Zx M N := ⟨fun c hc => h.1 c (by omega), fun c j h1 h2 _ => by rw [h.1 c (by omega)], h.2.1, h.2.2⟩
theorem Zx.tr {M N P : Mem} (h : Zx M N) (g : Zx N P) : Zx M P := ⟨fun c hc => (g.1 c hc).trans (h.1 c hc), fun c j h1 h2 hj => (g.2.1 c j h1 h2 hj).trans (h.2.1 c j h1 h2 hj), fun k hk => (g.2.2.1 k hk).trans (h.2.2.1 k hk), g.2.2.2.trans h.2.2.2⟩
theorem Zx.lay {M : Mem} {d m : Int32} : Zx M (z_lay M 8 d m) := by
  unfold z_lay
  refine ⟨fun c hc => ?_, fun c j h1 h2 hj => ?_, fun k hk => ?_, rfl⟩
  · rw [mi_off (by omega), mi_off (by omega), mi_off (by omega), mi_off (by omega), mi_off (by omega)]
  · rw [m_i_ne (by omega), m_i_ne (by omega), m_i_ne (by omega), m_i_ne (by omega), m_i_ne (by omega)]
  · rw [m_i_ne (by omega), m_i_ne (by omega), m_i_ne (by omega), m_i_ne (by omega), m_i_ne (by omega)]
theorem Zx.rgs {M N : Mem} (h : Zx M N) : RGs M N := ⟨fun c h1 h2 => h.1 c (by omega), h.2.2.1 18 (by decide), h.2.2.1 19 (by decide), h.2.2.1 27 (by decide), h.2.2.1 28 (by decide), h.2.2.1 29 (by decide)⟩
theorem RG_cb {W : WT} {M : Mem} (hR : RG W M) (d m : Int32) : RG (w_cb W d m) M := by
  have h8 := hR.1.1.2
  have cb : ∀ c k, ¬ c = 174 → w_cb W d m c k = W c k := fun c k hc => if_neg hc
  have en : w_n (w_cb W d m) = w_n W := by unfold w_n; rw [cb 8 1 (by decide)]
  obtain ⟨h0, h1, h2, h3, h4, h5⟩ := hR
  refine ⟨GW_congr h0 (cb 8 1 (by decide)) (cb 8 7 (by decide)) (by funext k; exact cb 50 k (by decide)) (fun l hl => ⟨⟨cb _ _ (by omega), cb _ _ (by omega), cb _ _ (by omega)⟩, by funext k; exact cb _ _ (by omega), by funext k; exact cb _ _ (by omega), by funext k; exact cb _ _ (by omega), by funext k; exact cb _ _ (by omega)⟩), ?_, ?_, ?_, ?_, fun l hl => ?_⟩
  · rw [h1, cb 8 1 (by decide)]
  · rw [h2, cb 8 5 (by decide)]
  · rw [h3, cb 8 6 (by decide)]
  · rw [h4, cb 8 7 (by decide)]
  · rw [en] at hl
    have e : ∀ k, w_cb W d m (10 + 5 * l) k = W (10 + 5 * l) k := fun k => cb _ _ (by omega)
    have e1 : ∀ k, w_cb W d m (10 + 5 * l + 1) k = W (10 + 5 * l + 1) k := fun k => cb _ _ (by omega)
    have e2 : ∀ k, w_cb W d m (10 + 5 * l + 2) k = W (10 + 5 * l + 2) k := fun k => cb _ _ (by omega)
    unfold LawR
    simp only [e, e1, e2]
    exact h5 l hl
theorem PR_lay {W : WT} {M : Mem} {d m : Nat} (hd : d < 100) (hm : m < 32) : PR (w_cb W (nI d) (nI m)) (z_lay M 8 (nI d) (nI m)) 8 := by
  refine ⟨8, by decide, rfl, ⟨⟨d, hd, ?_⟩, Or.inl ?_, Or.inl ?_, m, hm, ?_⟩, ?_, ?_, ?_, ?_⟩
  all_goals simp [zc, w_cb, z_lay, m_i]
theorem su_in_bits {W : WT} {d day : Int32} (ha : ∀ m, m < 32 → AnsO (w_given (w_cb W d (nI m)) 174 day)) {s : Int64 × Int64} : ∀ n, n ≤ 32 → (∀ k, k < 102 → (aBit (su_in W d day n s) k ↔ aBit s k ∨ ∃ m, m < n ∧ z_idx (w_given (w_cb W d (nI m)) 174 day) = k)) ∧ (aHi s → aHi (su_in W d day n s))
  | 0, _ => ⟨fun k _ => ⟨Or.inl, fun q => q.elim id (fun ⟨m, hm, _⟩ => absurd hm (by omega))⟩, id⟩
  | n + 1, hn => by
    obtain ⟨ih, ih2⟩ := su_in_bits (W := W) (d := d) (day := day) ha (s := s) n (by omega)
    unfold su_in
    refine ⟨fun k hk => ?_, fun q => aHi_put (ha n (by omega)) (ih2 q)⟩
    rw [aBit_put (ha n (by omega)) hk, ih k hk]
    constructor
    · rintro ((q | ⟨m, hm, q⟩) | q)
      · exact Or.inl q
      · exact Or.inr ⟨m, by omega, q⟩
      · exact Or.inr ⟨n, by omega, q.symm⟩
    · rintro (q | ⟨m, hm, q⟩)
      · exact Or.inl (Or.inl q)
      · by_cases e : m = n
        · subst e; exact Or.inr q.symm
        · exact Or.inl (Or.inr ⟨m, by omega, q⟩)
theorem su_bits {W : WT} {day : Int32} (ha : ∀ d, d < 100 → ∀ m, m < 32 → AnsO (w_given (w_cb W (nI d) (nI m)) 174 day)) : ∀ n, n ≤ 100 → (∀ k, k < 102 → (aBit (su W day n) k ↔ ∃ d, d < n ∧ (d = 0 ∨ w_turns W (nI d)) ∧ ∃ m, m < 32 ∧ z_idx (w_given (w_cb W (nI d) (nI m)) 174 day) = k)) ∧ aHi (su W day n)
  | 0, _ => ⟨fun k _ => ⟨fun q => absurd q aBit_0, fun ⟨d, hd, _⟩ => absurd hd (by omega)⟩, aHi_0⟩
  | n + 1, hn => by
    obtain ⟨ih, ih2⟩ := su_bits (W := W) (day := day) ha n (by omega)
    unfold su
    by_cases c : n = 0 ∨ w_turns W (nI n)
    · rw [sel_t c]
      obtain ⟨i1, i2⟩ := su_in_bits (W := W) (d := nI n) (day := day) (ha n (by omega)) (s := su W day n) 32 (Nat.le_refl _)
      refine ⟨fun k hk => ?_, i2 ih2⟩
      rw [i1 k hk, ih k hk]
      constructor
      · rintro (⟨d, hd, q⟩ | q)
        · exact ⟨d, by omega, q⟩
        · exact ⟨n, by omega, c, q⟩
      · rintro ⟨d, hd, q1, q2⟩
        by_cases e : d = n
        · subst e; exact Or.inr q2
        · exact Or.inl ⟨d, by omega, q1, q2⟩
    · rw [sel_f c]
      refine ⟨fun k hk => ?_, ih2⟩
      rw [ih k hk]
      constructor
      · rintro ⟨d, hd, q⟩; exact ⟨d, by omega, q⟩
      · rintro ⟨d, hd, q1, q2⟩
        by_cases e : d = n
        · subst e; exact absurd q1 c
        · exact ⟨d, by omega, q1, q2⟩
/-- back to a day on which something turns -/
theorem cb_back {W : WT} (hG : GW W) {m day : Int32} : ∀ d, d < 100 → nI d ≤ day → ∃ d', d' ≤ d ∧ (d' = 0 ∨ w_turns W (nI d')) ∧ w_given (w_cb W (nI d') m) 174 day = w_given (w_cb W (nI d) m) 174 day
  | 0, _, _ => ⟨0, Nat.le_refl _, Or.inl rfl, rfl⟩
  | d + 1, hd, hday => by
    by_cases ct : w_turns W (nI (d + 1))
    · exact ⟨d + 1, Nat.le_refl _, Or.inr ct, rfl⟩
    · obtain ⟨d', h1, h2, h3⟩ := cb_back (W := W) hG (m := m) (day := day) d (by omega) (Int32.le_trans (nI_le (by omega) (by omega)) hday)
      exact ⟨d', by omega, h2, h3.trans (cb_move hG hd ct hday).2.symm⟩
theorem fu_in_hit {W : WT} {d day : Int32} {m : Nat} (hm : m < 32) (h : ∀ m', m' < m → ¬ w_gov (w_cb W d (nI m')) 174 day = -6) (h2 : w_gov (w_cb W d (nI m)) 174 day = -6) : ∀ k, k ≤ 32 → 32 - k ≤ m → fu_in W d day k = some (100 * d + nI m)
  | 0, _, hk => absurd hk (by omega)
  | k + 1, hk, hkm => by
    unfold fu_in
    by_cases e : 31 - k = m
    · rw [e, sel_t h2]
    · rw [sel_f (h _ (by omega))]
      exact fu_in_hit hm h h2 k (by omega) (by omega)
theorem fu_in_non {W : WT} {d day : Int32} (h : ∀ m, m < 32 → ¬ w_gov (w_cb W d (nI m)) 174 day = -6) : ∀ k, fu_in W d day k = none
  | 0 => rfl
  | k + 1 => by
    unfold fu_in
    rw [sel_f (h _ (by omega)), fu_in_non h k]
theorem t_X11_all {G : GT} {K : Int32 → Mem → Prop} {M : Mem} {W : WT} {v1 v2 : Int32} (hR : RG W M) (h : ∀ N, Zx M N → K (a_all W v1 v2) N) : T_X11_all G [.ref 175, .int v1, .int v2] M K := by
  unfold a_all at h
  have hG := hR.1
  have zp8 : zp 8 = 174 := rfl
  have c8 : Int32.toNatClampNeg 8 = 8 := by decide
  refine e_X11_all (k_X11_all_0 ⟨fun c => ?_, fun c => ⟨fun c2 N6 g6 => ?_, fun c2 => ?_⟩⟩)
  · rw [sel_f c] at h; exact h M Zq.rf.x
  · rw [sel_t c, sel_t c2] at h
    obtain ⟨D, hD, rfl⟩ := i_nat (x := v1) (N := 100) (by decide) c.1 (Int32.lt_of_le_of_lt c.2 (by decide))
    rw [ix_nI (by omega)] at h
    by_cases hv : v2 = 0
    · subst hv
      rw [sel_t rfl] at h
      have ha : ∀ d, d < 100 → ∀ m, m < 32 → AnsO (w_given (w_cb W (nI d) (nI m)) 174 (nI D)) := fun d hd m hm => given_ans (M := z_lay M 8 (nI d) (nI m)) (p := 8) ((RG_cb hR _ _).same Zx.lay.rgs) (PR_lay hd hm)
      refine up_loop (P := fun d => ∀ N, Zx M N → (∀ k, k < 102 → (¬ N.1 195 k = 0 ↔ ∃ e, e < d ∧ ∃ m, m < 32 ∧ z_idx (w_given (w_cb W (nI e) (nI m)) 174 (nI D)) = k)) → B_X11_all G K 26 [(0, .ref 175), (1, .int (nI D)), (2, .int 0), (3, .int (nI d))] [] N) (D + 1) (fun N hN hk => ?_) (fun d hd ih N hN hk => ?_) 0 (Nat.zero_le _) N6 g6.1.q.x (fun k hk => ⟨fun q => absurd (g6.2 k hk) q, fun ⟨r, hr, _⟩ => absurd hr (by omega)⟩)
      · refine k_X11_all_26 ⟨fun _ => ⟨fun c3 => absurd rfl c3, fun _ r5 e5 => ?_⟩, fun c3 => absurd (nI_lt (by omega) (by omega)) c3⟩
        obtain ⟨hb, hh⟩ := su_bits ha (D + 1) (by omega)
        have := a_count hh (Z := N.1) (fun k hk' => by
          rw [hk k hk', hb k hk']
          constructor
          · rintro ⟨e, he, m, hm, q⟩
            obtain ⟨d', z1, z2, z3⟩ := cb_back hG (m := nI m) (day := nI D) e (by omega) (nI_le (by omega) (by omega))
            exact ⟨d', by omega, z2, m, hm, by rw [z3]; exact q⟩
          · rintro ⟨e, he, -, q⟩
            exact ⟨e, he, q⟩)
        rw [e5, this]
        exact h N hN
      · refine k_X11_all_26 ⟨fun c3 => absurd c3 (Int32.not_lt.mpr (nI_le (by omega) (by omega))), fun _ => ?_⟩
        refine up_loop (P := fun m => ∀ N, Zx M N → (∀ k, k < 102 → (¬ N.1 195 k = 0 ↔ (∃ e, e < d ∧ ∃ m, m < 32 ∧ z_idx (w_given (w_cb W (nI e) (nI m)) 174 (nI D)) = k) ∨ ∃ m', m' < m ∧ z_idx (w_given (w_cb W (nI d) (nI m')) 174 (nI D)) = k)) → B_X11_all G K 34 [(0, .ref 175), (1, .int (nI D)), (2, .int 0), (3, .int (nI d)), (4, .int (nI m))] [] N) 32 (fun N hN hk => ?_) (fun m hm ihm N hN hk => ?_) 0 (Nat.zero_le _) N hN (fun k hk' => by
          rw [hk k hk']
          exact ⟨Or.inl, fun q => q.elim id (fun ⟨m', hm', _⟩ => absurd hm' (by omega))⟩)
        · refine k_X11_all_34 (W := W) ⟨fun _ => ?_, fun c3 => absurd (by decide) c3⟩
          rw [nI_1]
          refine ih N hN (fun k hk' => ?_)
          rw [hk k hk']
          constructor
          · rintro (⟨e, he, q⟩ | q)
            · exact ⟨e, by omega, q⟩
            · exact ⟨d, by omega, q⟩
          · rintro ⟨e, he, q⟩
            by_cases ee : e = d
            · subst ee; exact Or.inr q
            · exact Or.inl ⟨e, by omega, q⟩
        · refine k_X11_all_34 (W := w_cb W (nI d) (nI m)) ⟨fun c3 => absurd c3 (Int32.not_lt.mpr (nI_le (b := 31) (by omega) (by decide))), fun _ => ⟨⟨8, by decide, rfl⟩, fun N3 g3 => ?_⟩⟩
          rw [c8] at g3
          have hN3 : Zx M N3 := by rw [g3]; exact hN.tr Zx.lay
          have hR3 : RG (w_cb W (nI d) (nI m)) N3 := (RG_cb hR _ _).same hN3.rgs
          have hP3 : PR (w_cb W (nI d) (nI m)) N3 8 := by rw [g3]; exact PR_lay (by omega) hm
          refine ⟨fun _ => ⟨fun c4 => absurd rfl c4, fun _ => ⟨hR3, hP3, fun r8 e8 N8 g8 => ?_⟩⟩, fun c4 => absurd c4 (by decide)⟩
          rw [zp8] at e8
          refine ⟨by rw [e8]; exact ha d (by omega) m hm, fun N9 g9 => ?_⟩
          rw [nI_1]
          refine ihm N9 (by rw [g9]; exact hN3.tr (g8.q.mc (by decide)).x) (fun k hk' => ?_)
          rw [g9]
          by_cases e : k = z_idx r8
          · rw [e, m_i_at]
            exact ⟨fun _ => Or.inr ⟨m, by omega, by rw [e8]⟩, fun _ => by decide⟩
          · rw [m_i_ne (by omega), g8.1 195 (by decide), g3]
            have e195 : (z_lay N 8 (nI d) (nI m)).1 195 = N.1 195 := by
              unfold z_lay
              rw [mi_off (by decide), mi_off (by decide), mi_off (by decide), mi_off (by decide), mi_off (by decide)]
            rw [e195, hk k hk']
            constructor
            · rintro (q | ⟨m', hm', q⟩)
              · exact Or.inl q
              · exact Or.inr ⟨m', by omega, q⟩
            · rintro (q | ⟨m', hm', q⟩)
              · exact Or.inl q
              · by_cases em : m' = m
                · subst em; rw [← e8] at q; exact absurd q.symm e
                · exact Or.inr ⟨m', by omega, q⟩
    · have hv1 : v2 = 1 := by
        obtain ⟨i, hi, ei⟩ := i_nat (x := v2) (N := 2) (by decide) c2.1 (Int32.lt_of_le_of_lt c2.2 (by decide))
        match i, hi with
        | 0, _ => exact absurd ei hv
        | 1, _ => exact ei
      subst hv1
      rw [sel_f hv] at h
      have gneg : ∀ g n, n ≤ 8 → (g = -6 ∨ ∃ i, i < n ∧ g = nI i) → (0 ≤ g ↔ ¬ g = -6) := by
        rintro g n hn (q | ⟨i, hi, q⟩)
        · subst q; decide
        · subst q; exact ⟨fun _ => nI_n6 (by omega), fun _ => nI_pos' (by omega)⟩
      have key : ∀ k, k ≤ D + 1 → ∀ N, Zx M N → (∀ e, e < D + 1 - k → ∀ m, m < 32 → ¬ w_gov (w_cb W (nI e) (nI m)) 174 (nI D) = -6) → (∀ N', Zx M N' → K ((fu W (nI D) D k).getD (-6)) N') → B_X11_all G K 26 [(0, .ref 175), (1, .int (nI D)), (2, .int 1), (3, .int (nI (D + 1 - k)))] [] N := by
        intro k
        induction k with
        | zero =>
          intro _ N hN _ hK
          exact k_X11_all_26 ⟨fun _ => ⟨fun _ => hK N hN, fun c3 => absurd c3 (by decide)⟩, fun c3 => absurd (nI_lt (by omega) (by omega)) c3⟩
        | succ k ih =>
          intro hk N hN hno hK
          obtain ⟨d, ed⟩ : ∃ d, d = D + 1 - (k + 1) := ⟨_, rfl⟩
          have ed2 : D + 1 - k = d + 1 := by omega
          have ed3 : D - k = d := by omega
          rw [← ed] at hno ⊢
          rw [ed2] at ih
          unfold fu at hK
          rw [ed3] at hK
          have hit : ∀ m, m < 32 → (∀ m', m' < m → ¬ w_gov (w_cb W (nI d) (nI m')) 174 (nI D) = -6) → w_gov (w_cb W (nI d) (nI m)) 174 (nI D) = -6 → ∀ N', Zx M N' → K (100 * nI d + nI m) N' := by
            intro m hm z1 z2 N' hN'
            by_cases ct : d = 0 ∨ w_turns W (nI d)
            · rw [sel_t ct, fu_in_hit hm z1 z2 32 (Nat.le_refl _) (by omega)] at hK
              exact hK N' hN'
            · exfalso
              have d0 : ¬ d = 0 := fun q => ct (Or.inl q)
              have := (cb_move hG (d := d - 1) (m := nI m) (day := nI D) (by omega) (by rw [show d - 1 + 1 = d by omega]; exact fun q => ct (Or.inr q)) (by rw [show d - 1 + 1 = d by omega]; exact nI_le (by omega) (by omega))).1
              rw [show d - 1 + 1 = d by omega] at this
              exact hno (d - 1) (by omega) m hm (by rw [← this]; exact z2)
          have non : (∀ m, m < 32 → ¬ w_gov (w_cb W (nI d) (nI m)) 174 (nI D) = -6) → ∀ N', Zx M N' → B_X11_all G K 26 [(0, .ref 175), (1, .int (nI D)), (2, .int 1), (3, .int (nI (d + 1)))] [] N' := by
            intro z N' hN'
            refine ih (by omega) N' hN' (fun e he m hm => ?_) ?_
            · by_cases ee : e = d
              · rw [ee]; exact z m hm
              · exact hno e (by omega) m hm
            · by_cases ct : d = 0 ∨ w_turns W (nI d)
              · rw [sel_t ct, fu_in_non z 32] at hK; exact hK
              · rw [sel_f ct] at hK; exact hK
          refine k_X11_all_26 ⟨fun c3 => absurd c3 (Int32.not_lt.mpr (nI_le (by omega) (by omega))), fun _ => ?_⟩
          refine up_loop (P := fun m => ∀ N, Zx M N → (∀ m', m' < m → ¬ w_gov (w_cb W (nI d) (nI m')) 174 (nI D) = -6) → B_X11_all G K 34 [(0, .ref 175), (1, .int (nI D)), (2, .int 1), (3, .int (nI d)), (4, .int (nI m))] [] N) 32 (fun N hN hz => ?_) (fun m hm ihm N hN hz => ?_) 0 (Nat.zero_le _) N hN (fun m' hm' => absurd hm' (by omega))
          · refine k_X11_all_34 (W := W) ⟨fun _ => ?_, fun c3 => absurd (by decide) c3⟩
            rw [nI_1]
            exact non hz N hN
          · refine k_X11_all_34 (W := w_cb W (nI d) (nI m)) ⟨fun c3 => absurd c3 (Int32.not_lt.mpr (nI_le (b := 31) (by omega) (by decide))), fun _ => ⟨⟨8, by decide, rfl⟩, fun N3 g3 => ?_⟩⟩
            rw [c8] at g3
            have hN3 : Zx M N3 := by rw [g3]; exact hN.tr Zx.lay
            have hR3 : RG (w_cb W (nI d) (nI m)) N3 := (RG_cb hR _ _).same hN3.rgs
            have hP3 : PR (w_cb W (nI d) (nI m)) N3 8 := by rw [g3]; exact PR_lay (by omega) hm
            refine ⟨fun c4 => absurd rfl c4, fun _ => ⟨hR3, hP3, fun r10 e10 N10 g10 => ?_⟩⟩
            rw [zp8] at e10
            have hN10 : Zx M N10 := by rw [g10]; exact hN3.tr (Zcr.rf.mi (by decide)).q.x
            have hg := gneg r10 _ hR3.n.2.2 (by rw [e10]; exact w_gov_in _ _ _)
            refine ⟨fun c5 => ⟨fun _ => ?_, fun c6 => absurd c6 (by decide)⟩, fun c5 => ?_⟩
            · rw [nI_1]
              refine ihm N10 hN10 (fun m' hm' => ?_)
              by_cases em : m' = m
              · rw [em, ← e10]; exact hg.mp c5
              · exact hz m' (by omega)
            · exact hit m hm hz (by rw [← e10]; exact Classical.not_not.mp fun q => c5 (hg.mpr q)) N10 hN10
      have := key (D + 1) (Nat.le_refl _) N6 g6.1.q.x (fun e he => absurd he (by omega)) h
      rw [Nat.sub_self] at this
      exact this
  · rw [sel_t c, sel_f c2] at h; exact h M Zq.rf.x

