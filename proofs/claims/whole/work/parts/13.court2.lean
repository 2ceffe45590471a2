/-! ===== 13.court2 ===== -/
abbrev bitO (x l : Int32) : Prop := ((x >>> (l &&& 31)) &&& 1) = 0
/-- what sendings lead to, from the law l on, with k steps left -/
noncomputable def w_fol (W : WT) (m gone : Int32) : Nat → Int32 → Int32 → Int32
  | 0, _, _ => -3
  | k + 1, been, l =>
    sel (¬ ((0 : Int32) ≤ l ∧ l < W 8 1) ∨ ¬ bitO gone l) (-6)
      (sel (c_gift W (10 + 5 * Int32.toNatClampNeg l) m = -6) (-6)
        (sel (¬ bitO been l ∨ k = 0) (-3)
          (sel (100 ≤ c_gift W (10 + 5 * Int32.toNatClampNeg l) m) (w_fol W m gone k (been ||| ((1 : Int32) <<< (l &&& 31))) (c_gift W (10 + 5 * Int32.toNatClampNeg l) m - 100)) (c_gift W (10 + 5 * Int32.toNatClampNeg l) m))))
noncomputable def w_path (W : WT) (m gone : Int32) : Nat → Int32 → Int32 → List Int32
  | 0, _, _ => []
  | k + 1, been, l =>
    sel (¬ ((0 : Int32) ≤ l ∧ l < W 8 1) ∨ ¬ bitO gone l) []
      (sel (c_gift W (10 + 5 * Int32.toNatClampNeg l) m = -6) []
        (sel (¬ bitO been l ∨ k = 0) []
          (l :: sel (100 ≤ c_gift W (10 + 5 * Int32.toNatClampNeg l) m) (w_path W m gone k (been ||| ((1 : Int32) <<< (l &&& 31))) (c_gift W (10 + 5 * Int32.toNatClampNeg l) m - 100)) [])))
theorem i_le_of_nlt {a b : Int32} (h : ¬ a < b) : b ≤ a := Int32.not_lt.mp h

/-! BetweenLaws$Court.follow(LBetweenLaws$Piece;II)I -/
abbrev rm_X2_follow : Room := { frames := 2, cells := 0, slots := 0, locals := 45 }
abbrev B_X2_follow (G : GT) (K : Int32 → Mem → Prop) := BT G (Rep G) RX2 "follow" cX2_follow 9 (some .int) rm_X2_follow K 0 0
abbrev T_X2_follow (G : GT) (as : List Value) (M : Mem) (K : Int32 → Mem → Prop) : Prop := MT G (Rep G) yX2_follow cX2_follow 9 (some .int) rm_X2_follow as M K
theorem e_X2_follow {G : GT} {K : Int32 → Mem → Prop} {M : Mem} {a1 : Nat} {v2 : Int32} {v3 : Int32} (h : B_X2_follow G K 0 [(0, .ref 167), (1, .ref a1), (2, .int v2), (3, .int v3)] [] M) : T_X2_follow G [.ref 167, .ref a1, .int v2, .int v3] M K := MT.of (by decide +kernel) rfl rfl (Nat.le_of_ble_eq_true rfl) rfl h
set_option maxRecDepth 4000 in
theorem k_X2_follow_0 {G : GT} {K : Int32 → Mem → Prop} {M : Mem} {a1 : Nat} {v2 : Int32} {v3 : Int32} (ha1 : PieceC a1) (h : (WOk (wv M)) ∧ (∀ r1 : Int32, r1 = (w_undone (wv M) v3) → B_X2_follow G K 24 [(0, .ref 167), (1, .ref a1), (4, .int r1), (5, .int 0), (6, .int v2), (7, .int 0)] [] (m_i M 167 3 0))) : B_X2_follow G K 0 [(0, .ref 167), (1, .ref a1), (2, .int v2), (3, .int v3)] [] M := by
  refine BT.aload_n dX2_follow_0 rfl 0 rfl ?_
  refine BT.getR (r := 8) fl_X2_9 ho_167 rfl dX2_follow_1 ?_
  refine BT.iload_n dX2_follow_4 rfl 3 rfl ?_
  refine BT.mcVr [.int v3] (t_X9_undone h.1 ⟨rfl, rfl⟩) mb_X9_undone mv_X9_undone lk_X2_55 rfl (by decide) rfl (recvRep ho_8 rfl) (Nat.le_of_ble_eq_true rfl) dX2_follow_5 (fun r1 e1 => ?_)
  show B_X2_follow G K 8 [(0, .ref 167), (1, .ref a1), (2, .int v2), (3, .int v3)] [.int r1] M
  refine BT.istore (L' := [(4, .int r1), (0, .ref 167), (1, .ref a1), (2, .int v2), (3, .int v3)]) dX2_follow_8 (by decide) rfl ?_
  refine BT.iconst (v := 0) dX2_follow_10 (by decide) ?_
  refine BT.istore (L' := [(5, .int 0), (4, .int r1), (0, .ref 167), (1, .ref a1), (2, .int v2), (3, .int v3)]) dX2_follow_11 (by decide) rfl ?_
  refine BT.iload_n dX2_follow_13 rfl 4 rfl ?_
  refine BT.istore (L' := [(6, .int v2), (5, .int 0), (4, .int r1), (0, .ref 167), (1, .ref a1), (2, .int v2), (3, .int v3)]) dX2_follow_14 (by decide) rfl ?_
  refine BT.aload_n dX2_follow_16 rfl 3 rfl ?_
  refine BT.iconst (v := 0) dX2_follow_17 (by decide) ?_
  refine BT.putI fl_X2_85 ft_2_3 ho_167 rfl dX2_follow_18 ?_
  refine BT.iconst (v := 0) dX2_follow_21 (by decide) ?_
  refine BT.istore (L' := [(7, .int 0), (6, .int v2), (5, .int 0), (4, .int r1), (0, .ref 167), (1, .ref a1), (2, .int v2), (3, .int v3)]) dX2_follow_22 (by decide) rfl ?_
  refine BT.sub [4, 5, 3, 2, 1, 0] rfl ?_
  exact (h.2 r1 e1)
set_option maxRecDepth 4000 in
theorem k_X2_follow_24 {G : GT} {K : Int32 → Mem → Prop} {M : Mem} {a1 : Nat} {v4 : Int32} {v5 : Int32} {v6 : Int32} {v7 : Int32} (ha1 : PieceC a1) (h : (8 < v7 → K (-3) M) ∧ (¬ 8 < v7 → (¬ ((0 : Int32) ≤ v6 ∧ v6 < (M.1 8 1)) → K (-6) M) ∧ (((0 : Int32) ≤ v6 ∧ v6 < (M.1 8 1)) → (((v4 >>> (v6 &&& 31)) &&& 1) = 0 → (vp_in v6 8) ∧ (¬ (c_gift M.1 (10 + 5 * (Int32.toNatClampNeg v6)) (M.1 a1 3)) = (-6) → (¬ ((v5 >>> (v6 &&& 31)) &&& 1) = 0 → K (-3) M) ∧ (((v5 >>> (v6 &&& 31)) &&& 1) = 0 → ((M.1 167 3) < 8 → (vp_in (M.1 167 3) 8) ∧ (100 ≤ (c_gift M.1 (10 + 5 * (Int32.toNatClampNeg v6)) (M.1 a1 3)) → B_X2_follow G K 24 [(0, .ref 167), (1, .ref a1), (4, .int v4), (5, .int (v5 ||| ((1 : Int32) <<< (v6 &&& 31)))), (6, .int ((c_gift M.1 (10 + 5 * (Int32.toNatClampNeg v6)) (M.1 a1 3)) - 100)), (7, .int (v7 + 1))] [] (m_i (m_i M 168 (Int32.toNatClampNeg (M.1 167 3)) v6) 167 3 (((m_i M 168 (Int32.toNatClampNeg (M.1 167 3)) v6).1 167 3) + 1))) ∧ (¬ 100 ≤ (c_gift M.1 (10 + 5 * (Int32.toNatClampNeg v6)) (M.1 a1 3)) → K (c_gift M.1 (10 + 5 * (Int32.toNatClampNeg v6)) (M.1 a1 3)) (m_i (m_i M 168 (Int32.toNatClampNeg (M.1 167 3)) v6) 167 3 (((m_i M 168 (Int32.toNatClampNeg (M.1 167 3)) v6).1 167 3) + 1)))) ∧ (¬ (M.1 167 3) < 8 → K (-3) M))) ∧ ((c_gift M.1 (10 + 5 * (Int32.toNatClampNeg v6)) (M.1 a1 3)) = (-6) → K (-6) M)) ∧ (¬ ((v4 >>> (v6 &&& 31)) &&& 1) = 0 → K (-6) M)))) : B_X2_follow G K 24 [(0, .ref 167), (1, .ref a1), (4, .int v4), (5, .int v5), (6, .int v6), (7, .int v7)] [] M := by
  refine BT.iload dX2_follow_24 5 rfl ?_
  refine BT.bipush (v := 8) dX2_follow_26 (by decide) ?_
  refine BT.icmp_gt (tgt := 163) dX2_follow_28 (by decide) (fun c => ?_) (fun c => ?_)
  · have c1 := c
    refine BT.bipush (v := (-3)) dX2_follow_163 (by decide) ?_
    exact BT.iret dX2_follow_165 rfl (by decide) (by decide) (h.1 c1)
  · have c2 := c
    refine BT.aload_n dX2_follow_31 rfl 0 rfl ?_
    refine BT.getR (r := 8) fl_X2_9 ho_167 rfl dX2_follow_32 ?_
    refine BT.iload dX2_follow_35 4 rfl ?_
    refine BT.mcV [.int v6] (t_X9_hasLaw  ?_) mb_X9_hasLaw mv_X9_hasLaw lk_X2_19 rfl (by decide) rfl (recvRep ho_8 rfl) (Nat.le_of_ble_eq_true rfl) dX2_follow_37
    show B_X2_follow G K 40 [(0, .ref 167), (1, .ref a1), (4, .int v4), (5, .int v5), (6, .int v6), (7, .int v7)] [.int (bi ((0 : Int32) ≤ v6 ∧ v6 < (M.1 8 1)))] M
    refine BT.if_eq (tgt := 53) dX2_follow_40 (by decide) (fun c => ?_) (fun c => ?_)
    · have c4 := bi_eq0.mp c
      refine BT.bipush (v := (-6)) dX2_follow_53 (by decide) ?_
      exact BT.iret dX2_follow_55 rfl (by decide) (by decide) ((h.2 c2).1 c4)
    · have c5 := bi_ne0.mp c
      refine BT.iload dX2_follow_43 2 rfl ?_
      refine BT.iload dX2_follow_45 4 rfl ?_
      refine BT.ishr dX2_follow_47 ?_
      refine BT.iconst (v := 1) dX2_follow_48 (by decide) ?_
      refine BT.iand dX2_follow_49 ?_
      refine BT.if_eq (tgt := 56) dX2_follow_50 (by decide) (fun c => ?_) (fun c => ?_)
      · have c6 := c
        refine BT.aload_n dX2_follow_56 rfl 0 rfl ?_
        refine BT.getR (r := 8) fl_X2_9 ho_167 rfl dX2_follow_57 ?_
        refine BT.getR (r := 9) fl_X2_25 ho_8 rfl dX2_follow_60 ?_
        refine BT.iload dX2_follow_63 4 rfl ?_
        refine BT.aald ha_9 (by decide) (((h.2 c2).2 c5).1 c6).1 dX2_follow_65 ?_
        refine BT.aload_n dX2_follow_66 rfl 1 rfl ?_
        refine BT.getI fl_X2_40 ha1 rfl dX2_follow_67 ?_
        refine BT.mcV [.int (M.1 a1 3)] (t_X3_giftFor (lawC8 (((h.2 c2).2 c5).1 c6).1) ?_) mb_X3_giftFor mv_X3_giftFor lk_X2_43 rfl (by decide) rfl (recvRep (lawC8 (((h.2 c2).2 c5).1 c6).1).1 rfl) (Nat.le_of_ble_eq_true rfl) dX2_follow_70
        show B_X2_follow G K 73 [(0, .ref 167), (1, .ref a1), (4, .int v4), (5, .int v5), (6, .int v6), (7, .int v7)] [.int (c_gift M.1 (10 + 5 * (Int32.toNatClampNeg v6)) (M.1 a1 3))] M
        refine BT.istore (L' := [(8, .int (c_gift M.1 (10 + 5 * (Int32.toNatClampNeg v6)) (M.1 a1 3))), (0, .ref 167), (1, .ref a1), (4, .int v4), (5, .int v5), (6, .int v6), (7, .int v7)]) dX2_follow_73 (by decide) rfl ?_
        refine BT.iload dX2_follow_75 0 rfl ?_
        refine BT.bipush (v := (-6)) dX2_follow_77 (by decide) ?_
        refine BT.icmp_ne (tgt := 85) dX2_follow_79 (by decide) (fun c => ?_) (fun c => ?_)
        · have c9 := c
          refine BT.iload dX2_follow_85 4 rfl ?_
          refine BT.iload dX2_follow_87 5 rfl ?_
          refine BT.ishr dX2_follow_89 ?_
          refine BT.iconst (v := 1) dX2_follow_90 (by decide) ?_
          refine BT.iand dX2_follow_91 ?_
          refine BT.if_ne (tgt := 107) dX2_follow_92 (by decide) (fun c => ?_) (fun c => ?_)
          · have c11 := c
            refine BT.bipush (v := (-3)) dX2_follow_107 (by decide) ?_
            exact BT.iret dX2_follow_109 rfl (by decide) (by decide) (((((h.2 c2).2 c5).1 c6).2.1 c9).1 c11)
          · have c12 := c
            refine BT.aload_n dX2_follow_95 rfl 1 rfl ?_
            refine BT.getI fl_X2_85 ho_167 rfl dX2_follow_96 ?_
            refine BT.aload_n dX2_follow_99 rfl 1 rfl ?_
            refine BT.getR (r := 168) fl_X2_15 ho_167 rfl dX2_follow_100 ?_
            refine BT.alen (v := 8) ha_168 (by decide) rfl dX2_follow_103 ?_
            refine BT.icmp_lt (tgt := 110) dX2_follow_104 (by decide) (fun c => ?_) (fun c => ?_)
            · have c13 := c
              refine BT.iload dX2_follow_110 4 rfl ?_
              refine BT.iconst (v := 1) dX2_follow_112 (by decide) ?_
              refine BT.iload dX2_follow_113 5 rfl ?_
              refine BT.ishl dX2_follow_115 ?_
              refine BT.ior dX2_follow_116 ?_
              refine BT.istore (L' := [(5, .int (v5 ||| ((1 : Int32) <<< (v6 &&& 31)))), (8, .int (c_gift M.1 (10 + 5 * (Int32.toNatClampNeg v6)) (M.1 a1 3))), (0, .ref 167), (1, .ref a1), (4, .int v4), (6, .int v6), (7, .int v7)]) dX2_follow_117 (by decide) rfl ?_
              refine BT.aload_n dX2_follow_119 rfl 2 rfl ?_
              refine BT.getR (r := 168) fl_X2_15 ho_167 rfl dX2_follow_120 ?_
              refine BT.aload_n dX2_follow_123 rfl 2 rfl ?_
              refine BT.getI fl_X2_85 ho_167 rfl dX2_follow_124 ?_
              refine BT.iload dX2_follow_127 5 rfl ?_
              refine BT.iast ha_168 ((((((h.2 c2).2 c5).1 c6).2.1 c9).2 c12).1 c13).1 dX2_follow_129 ?_
              refine BT.aload_n dX2_follow_130 rfl 2 rfl ?_
              refine BT.dup dX2_follow_131 rfl ?_
              refine BT.getI fl_X2_85 ho_167 rfl dX2_follow_132 ?_
              refine BT.iconst (v := 1) dX2_follow_135 (by decide) ?_
              refine BT.iadd dX2_follow_136 ?_
              refine BT.putI fl_X2_85 ft_2_3 ho_167 rfl dX2_follow_137 ?_
              refine BT.iload dX2_follow_140 1 rfl ?_
              refine BT.bipush (v := 100) dX2_follow_142 (by decide) ?_
              refine BT.icmp_ge (tgt := 150) dX2_follow_144 (by decide) (fun c => ?_) (fun c => ?_)
              · have c15 := c
                refine BT.iload dX2_follow_150 1 rfl ?_
                refine BT.bipush (v := 100) dX2_follow_152 (by decide) ?_
                refine BT.isub dX2_follow_154 ?_
                refine BT.istore (L' := [(6, .int ((c_gift M.1 (10 + 5 * (Int32.toNatClampNeg v6)) (M.1 a1 3)) - 100)), (5, .int (v5 ||| ((1 : Int32) <<< (v6 &&& 31)))), (8, .int (c_gift M.1 (10 + 5 * (Int32.toNatClampNeg v6)) (M.1 a1 3))), (0, .ref 167), (1, .ref a1), (4, .int v4), (7, .int v7)]) dX2_follow_155 (by decide) rfl ?_
                refine BT.iinc (j := 6) (v := (v7 + 1)) (L' := [(7, .int (v7 + 1)), (6, .int ((c_gift M.1 (10 + 5 * (Int32.toNatClampNeg v6)) (M.1 a1 3)) - 100)), (5, .int (v5 ||| ((1 : Int32) <<< (v6 &&& 31)))), (8, .int (c_gift M.1 (10 + 5 * (Int32.toNatClampNeg v6)) (M.1 a1 3))), (0, .ref 167), (1, .ref a1), (4, .int v4)]) dX2_follow_157 rfl rfl (by decide) rfl ?_
                refine BT.goto (tgt := 24) dX2_follow_160 (by decide) ?_
                refine BT.sub [4, 5, 6, 2, 1, 0] rfl ?_
                exact (((((((h.2 c2).2 c5).1 c6).2.1 c9).2 c12).1 c13).2.1 c15)
              · have c16 := c
                refine BT.iload dX2_follow_147 1 rfl ?_
                exact BT.iret dX2_follow_149 rfl (by decide) (by decide) (((((((h.2 c2).2 c5).1 c6).2.1 c9).2 c12).1 c13).2.2 c16)
            · have c14 := c
              refine BT.bipush (v := (-3)) dX2_follow_107 (by decide) ?_
              exact BT.iret dX2_follow_109 rfl (by decide) (by decide) ((((((h.2 c2).2 c5).1 c6).2.1 c9).2 c12).2 c14)
        · have c10 := c
          refine BT.bipush (v := (-6)) dX2_follow_82 (by decide) ?_
          exact BT.iret dX2_follow_84 rfl (by decide) (by decide) ((((h.2 c2).2 c5).1 c6).2.2 c10)
      · have c7 := c
        refine BT.bipush (v := (-6)) dX2_follow_53 (by decide) ?_
        exact BT.iret dX2_follow_55 rfl (by decide) (by decide) (((h.2 c2).2 c5).2 c7)

theorem t_X2_follow_loop {G : GT} {K : Int32 → Mem → Prop} {M : Mem} {a1 : Nat} {gone : Int32} (ha1 : PieceC a1) (hp : a1 < 60 ∨ a1 = 174) (hw : WOk (wv M)) : ∀ (k i : Nat) (been l : Int32) (N : Mem), Scr M N → N.1 167 3 = nI i → i + k = 9 →
    (∀ N', Scr M N' → N'.1 167 3 = nI (i + (w_path (wv M) (wv M a1 3) gone k been l).length) → (∀ j, j < i → N'.1 168 j = N.1 168 j) → (∀ j, j < (w_path (wv M) (wv M a1 3) gone k been l).length → (w_path (wv M) (wv M a1 3) gone k been l)[j]? = some (N'.1 168 (i + j))) → K (w_fol (wv M) (wv M a1 3) gone k been l) N') →
    B_X2_follow G K 24 [(0, .ref 167), (1, .ref a1), (4, .int gone), (5, .int been), (6, .int l), (7, .int (nI i))] [] N := by
  obtain ⟨⟨hn, h8⟩, -⟩ := hw
  intro k
  induction k with
  | zero =>
    intro i been l N hS h3 hik h
    refine k_X2_follow_24 ha1 ⟨fun _ => h N hS (by simp [w_path, h3]) (fun _ _ => rfl) (fun j hj => by simp [w_path] at hj), fun c => absurd ?_ c⟩
    rw [show i = 9 by omega]
    decide
  | succ k ih =>
    intro i been l N hS h3 hik h
    have e8 : N.1 8 1 = wv M 8 1 := by rw [hS.1 8 (by decide), wv_at (by decide)]
    have e3 : N.1 a1 3 = wv M a1 3 := by rw [hS.1 a1 (by omega), wv_at hp]
    have stop : ∀ r : Int32, w_fol (wv M) (wv M a1 3) gone (k + 1) been l = r → w_path (wv M) (wv M a1 3) gone (k + 1) been l = [] → K r N := by
      intro r e1 e2
      rw [← e1]
      refine h N hS (by rw [e2]; exact h3) (fun _ _ => rfl) (fun j hj => ?_)
      rw [e2] at hj
      exact absurd hj (Nat.not_lt_zero j)
    refine k_X2_follow_24 ha1 ?_
    rw [e8, e3, h3]
    refine ⟨fun c => absurd c ?_, fun _ => ⟨fun c => stop (-6) (sel_t (Or.inl c)) (sel_t (Or.inl c)), fun c1 => ⟨fun c2 => ?_, fun c2 => stop (-6) (sel_t (Or.inr c2)) (sel_t (Or.inr c2))⟩⟩⟩
    · exact nI_nlt (show i ≤ 8 by omega) (by decide)
    · obtain ⟨j, hj, rfl⟩ := i_nat (show w_n (wv M) < 2 ^ 31 by omega) c1.1 (by rw [← hn]; exact c1.2)
      have eg : c_gift N.1 (10 + 5 * Int32.toNatClampNeg (nI j)) (wv M a1 3) = c_gift (wv M) (10 + 5 * Int32.toNatClampNeg (nI j)) (wv M a1 3) := by
        rw [ix_nI (by omega), c_gift_wv (by omega), hS.wvE]
      rw [eg]
      have n1 : ¬ (¬ ((0 : Int32) ≤ nI j ∧ nI j < wv M 8 1) ∨ ¬ bitO gone (nI j)) := fun q => q.elim (fun q => q c1) (fun q => q c2)
      refine ⟨vp_nI (by omega) (by decide), fun c3 => ⟨fun c4 => ?_, fun c4 => ⟨fun c5 => ?_, fun c5 => ?_⟩⟩, fun c3 => ?_⟩
      · exact stop (-3) (by rw [w_fol, sel_f n1, sel_f c3, sel_t (Or.inl c4)]) (by rw [w_path, sel_f n1, sel_f c3, sel_t (Or.inl c4)])
      · have hi8 : i < 8 := (nI_ltI (by omega) (by decide)).mp c5
        have n3 : ¬ (¬ bitO been (nI j) ∨ k = 0) := fun q => q.elim (fun q => q c4) (fun q => by omega)
        have hM2 : ∀ v, m_i (m_i N 168 (Int32.toNatClampNeg (nI i)) (nI j)) 167 3 ((m_i N 168 (Int32.toNatClampNeg (nI i)) (nI j)).1 167 3 + 1) = v → Scr M v ∧ v.1 167 3 = nI (i + 1) ∧ (∀ j, j < i → v.1 168 j = N.1 168 j) ∧ v.1 168 i = nI j := by
          intro v ev
          rw [ix_nI (by omega), m_i_ne (fun z => absurd z.1 (by decide)), h3, nI_1] at ev
          subst ev
          refine ⟨(hS.mi (by decide)).mi (by decide), m_i_at, fun q hq => ?_, ?_⟩
          · rw [m_i_ne (fun z => absurd z.1 (by decide)), m_i_ne (fun z => by omega)]
          · rw [m_i_ne (fun z => absurd z.1 (by decide)), m_i_at]
        refine ⟨vp_nI hi8 (by decide), fun c6 => ?_, fun c6 => ?_⟩
        · generalize hv : m_i (m_i N 168 (Int32.toNatClampNeg (nI i)) (nI j)) 167 3 ((m_i N 168 (Int32.toNatClampNeg (nI i)) (nI j)).1 167 3 + 1) = v
          obtain ⟨s1, s2, s3, s4⟩ := hM2 v hv
          have eP : w_path (wv M) (wv M a1 3) gone (k + 1) been (nI j) = nI j :: w_path (wv M) (wv M a1 3) gone k (been ||| ((1 : Int32) <<< (nI j &&& 31))) (c_gift (wv M) (10 + 5 * Int32.toNatClampNeg (nI j)) (wv M a1 3) - 100) := by
            rw [w_path, sel_f n1, sel_f c3, sel_f n3, sel_t c6]
          have eF : w_fol (wv M) (wv M a1 3) gone (k + 1) been (nI j) = w_fol (wv M) (wv M a1 3) gone k (been ||| ((1 : Int32) <<< (nI j &&& 31))) (c_gift (wv M) (10 + 5 * Int32.toNatClampNeg (nI j)) (wv M a1 3) - 100) := by
            rw [w_fol, sel_f n1, sel_f c3, sel_f n3, sel_t c6]
          rw [nI_1]
          refine ih (i + 1) _ _ v s1 s2 (by omega) (fun N' t1 t2 t3 t4 => ?_)
          rw [← eF]
          refine h N' t1 ?_ (fun q hq => (t3 q (by omega)).trans (s3 q hq)) (fun q hq => ?_)
          · rw [eP, List.length_cons, t2]
            congr 1
            omega
          · rw [eP] at hq ⊢
            cases q with
            | zero =>
              show some (nI j) = some (N'.1 168 i)
              rw [t3 i (by omega), s4]
            | succ q =>
              rw [List.getElem?_cons_succ, t4 q (by simpa using hq), show i + 1 + q = i + (q + 1) by omega]
        · generalize hv : m_i (m_i N 168 (Int32.toNatClampNeg (nI i)) (nI j)) 167 3 ((m_i N 168 (Int32.toNatClampNeg (nI i)) (nI j)).1 167 3 + 1) = v
          obtain ⟨s1, s2, s3, s4⟩ := hM2 v hv
          have eP : w_path (wv M) (wv M a1 3) gone (k + 1) been (nI j) = [nI j] := by
            rw [w_path, sel_f n1, sel_f c3, sel_f n3, sel_f c6]
          have eF : w_fol (wv M) (wv M a1 3) gone (k + 1) been (nI j) = c_gift (wv M) (10 + 5 * Int32.toNatClampNeg (nI j)) (wv M a1 3) := by
            rw [w_fol, sel_f n1, sel_f c3, sel_f n3, sel_f c6]
          rw [← eF]
          refine h v s1 (by rw [eP]; exact s2) s3 (fun q hq => ?_)
          rw [eP] at hq ⊢
          have hq0 : q = 0 := by simpa using hq
          subst hq0
          show some (nI j) = some (v.1 168 (i + 0))
          rw [Nat.add_zero, s4]
      · have hk0 : k = 0 := by
          have : ¬ i < 8 := fun q => c5 (nI_lt q (by decide))
          omega
        exact stop (-3) (by rw [w_fol, sel_f n1, sel_f c3, sel_t (Or.inr hk0)]) (by rw [w_path, sel_f n1, sel_f c3, sel_t (Or.inr hk0)])
      · exact stop (-6) (by rw [w_fol, sel_f n1, sel_t c3]) (by rw [w_path, sel_f n1, sel_t c3])
noncomputable abbrev w_fol9 (W : WT) (p : Nat) (first day : Int32) : Int32 := w_fol W (W p 3) (w_undone W day) 9 0 first
noncomputable abbrev w_path9 (W : WT) (p : Nat) (first day : Int32) : List Int32 := w_path W (W p 3) (w_undone W day) 9 0 first
/-- the court holds this path -/
def HasPath (N : Mem) (l : List Int32) : Prop := N.1 167 3 = nI l.length ∧ ∀ j, j < l.length → l[j]? = some (N.1 168 j)
theorem t_X2_follow {G : GT} {K : Int32 → Mem → Prop} {M : Mem} {a1 : Nat} {v2 v3 : Int32} (ha1 : PieceC a1) (hp : a1 < 60 ∨ a1 = 174) (hw : WOk (wv M)) (h : ∀ N, Scr M N ∧ HasPath N (w_path9 (wv M) a1 v2 v3) → K (w_fol9 (wv M) a1 v2 v3) N) : T_X2_follow G [.ref 167, .ref a1, .int v2, .int v3] M K := by
  refine e_X2_follow (k_X2_follow_0 ha1 ⟨hw, fun r1 e1 => ?_⟩)
  refine t_X2_follow_loop (M := M) ha1 hp hw 9 0 0 v2 (m_i M 167 3 0) (Scr.rf.mi (by decide)) m_i_at rfl (fun N' t1 t2 t3 t4 => ?_)
  rw [e1] at t2 t4 ⊢
  refine h N' ⟨t1, by rw [t2, Nat.zero_add], fun j hj => ?_⟩
  rw [t4 j hj, Nat.zero_add]

