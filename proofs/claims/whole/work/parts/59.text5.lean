/-! ===== 59.text5 ===== -/
/-! BetweenLaws$Pad.readWord(LBetweenLaws$Law;I)I -/
abbrev rm_X5_readWord : Room := { frames := 4, cells := 0, slots := 0, locals := 87 }
abbrev B_X5_readWord (G : GT) (K : Int32 → Mem → Prop) := BT G (Rep G) RX5 "readWord" cX5_readWord 4 (some .int) rm_X5_readWord K 0 0
abbrev T_X5_readWord (G : GT) (as : List Value) (M : Mem) (K : Int32 → Mem → Prop) : Prop := MT G (Rep G) yX5_readWord cX5_readWord 4 (some .int) rm_X5_readWord as M K
theorem e_X5_readWord {G : GT} {K : Int32 → Mem → Prop} {M : Mem} {v2 : Int32} (h : B_X5_readWord G K 0 [(0, .ref 1), (1, .ref 3), (2, .int v2)] [] M) : T_X5_readWord G [.ref 1, .ref 3, .int v2] M K := MT.of (by decide +kernel) rfl rfl (Nat.le_of_ble_eq_true rfl) rfl h
set_option maxRecDepth 4000 in
theorem k_X5_readWord_0 {G : GT} {K : Int32 → Mem → Prop} {M : Mem} {E : ET} {v2 : Int32} (h : (1 ≤ v2 → B_X5_readWord G K 36 [(0, .ref 1), (1, .ref 3), (2, .int v2)] [] M) ∧ (¬ 1 ≤ v2 → (PdOk M) ∧ (∀ r3 : Int32, r3 = (pd_nx M.1) → (¬ (r3 = 110 ∨ r3 = 104 ∨ r3 = 97) → B_X5_readWord G K 36 [(0, .ref 1), (1, .ref 3), (2, .int v2)] [] M) ∧ ((r3 = 110 ∨ r3 = 104 ∨ r3 = 97) → (TiPre E M) ∧ (∀ (r7 : Int32) (N7 : Mem), (WdOut E M 1 N7 r7) → (r7 = 0 → K (-6) N7) ∧ (¬ r7 = 0 → K 1 N7)))))) : B_X5_readWord G K 0 [(0, .ref 1), (1, .ref 3), (2, .int v2)] [] M := by
  refine BT.iload_n dX5_readWord_0 rfl 2 rfl ?_
  refine BT.iconst (v := 1) dX5_readWord_1 (by decide) ?_
  refine BT.icmp_ge (tgt := 36) dX5_readWord_2 (by decide) (fun c => ?_) (fun c => ?_)
  · have c1 := c
    exact (h.1 c1)
  · have c2 := c
    refine BT.aload_n dX5_readWord_5 rfl 0 rfl ?_
    refine BT.mcVr [] (t_X5_next (h.2 c2).1 ⟨rfl, rfl⟩) mb_X5_next mv_X5_next lk_X5_62 rfl (by decide) rfl (recvRep ho_1 rfl) (Nat.le_of_ble_eq_true rfl) dX5_readWord_6 (fun r3 e3 => ?_)
    show B_X5_readWord G K 9 [(0, .ref 1), (1, .ref 3), (2, .int v2)] [.int r3] M
    refine BT.bipush (v := 110) dX5_readWord_9 (by decide) ?_
    refine BT.bipush (v := 104) dX5_readWord_11 (by decide) ?_
    refine BT.bipush (v := 97) dX5_readWord_13 (by decide) ?_
    refine BT.mcS [.int r3, .int 110, .int 104, .int 97] (t_X5_isOneOf  ?_) mb_X5_isOneOf ms_X5_isOneOf lk_X5_73 rfl (by decide) rfl (Nat.le_of_ble_eq_true rfl) dX5_readWord_15
    show B_X5_readWord G K 18 [(0, .ref 1), (1, .ref 3), (2, .int v2)] [.int (bi (r3 = 110 ∨ r3 = 104 ∨ r3 = 97))] M
    refine BT.if_eq (tgt := 36) dX5_readWord_18 (by decide) (fun c => ?_) (fun c => ?_)
    · have c5 := bi_eq0.mp c
      exact (((h.2 c2).2 r3 e3).1 c5)
    · have c6 := bi_ne0.mp c
      refine BT.aload_n dX5_readWord_21 rfl 0 rfl ?_
      refine BT.aload_n dX5_readWord_22 rfl 1 rfl ?_
      refine BT.mcV [.ref 3] (t_X5_readTime (((h.2 c2).2 r3 e3).2 c6).1 (fun r7 N7 g7 => ?_)) mb_X5_readTime mv_X5_readTime lk_X5_77 rfl (by decide) rfl (recvRep ho_1 rfl) (Nat.le_of_ble_eq_true rfl) dX5_readWord_23
      show B_X5_readWord G K 26 [(0, .ref 1), (1, .ref 3), (2, .int v2)] [.int r7] N7
      refine BT.if_eq (tgt := 33) dX5_readWord_26 (by decide) (fun c => ?_) (fun c => ?_)
      · have c8 := c
        refine BT.bipush (v := (-6)) dX5_readWord_33 (by decide) ?_
        exact BT.iret dX5_readWord_35 rfl (by decide) (by decide) (((((h.2 c2).2 r3 e3).2 c6).2 r7 N7 g7).1 c8)
      · have c9 := c
        refine BT.iconst (v := 1) dX5_readWord_29 (by decide) ?_
        refine BT.goto (tgt := 35) dX5_readWord_30 (by decide) ?_
        exact BT.iret dX5_readWord_35 rfl (by decide) (by decide) (((((h.2 c2).2 r3 e3).2 c6).2 r7 N7 g7).2 c9)
set_option maxRecDepth 4000 in
theorem k_X5_readWord_36 {G : GT} {K : Int32 → Mem → Prop} {M : Mem} {v2 : Int32} (h : (2 ≤ v2 → B_X5_readWord G K 57 [(0, .ref 1), (1, .ref 3), (2, .int v2)] [] M) ∧ (¬ 2 ≤ v2 → (PdOk M) ∧ (∀ (r3 : Int32) (N3 : Mem), ((r3 = 1 ∧ pd_nx M.1 = 119 ∧ N3 = pd_adv M) ∨ (r3 = 0 ∧ ¬ pd_nx M.1 = 119 ∧ N3 = M)) → (r3 = 0 → B_X5_readWord G K 57 [(0, .ref 1), (1, .ref 3), (2, .int v2)] [] N3) ∧ (¬ r3 = 0 → K 2 (m_i N3 3 10 1))))) : B_X5_readWord G K 36 [(0, .ref 1), (1, .ref 3), (2, .int v2)] [] M := by
  refine BT.iload_n dX5_readWord_36 rfl 2 rfl ?_
  refine BT.iconst (v := 2) dX5_readWord_37 (by decide) ?_
  refine BT.icmp_ge (tgt := 57) dX5_readWord_38 (by decide) (fun c => ?_) (fun c => ?_)
  · have c1 := c
    exact (h.1 c1)
  · have c2 := c
    refine BT.aload_n dX5_readWord_41 rfl 0 rfl ?_
    refine BT.bipush (v := 119) dX5_readWord_42 (by decide) ?_
    refine BT.mcV [.int 119] (t_X5_takes (h.2 c2).1 (fun r3 N3 g3 => ?_)) mb_X5_takes mv_X5_takes lk_X5_31 rfl (by decide) rfl (recvRep ho_1 rfl) (Nat.le_of_ble_eq_true rfl) dX5_readWord_44
    show B_X5_readWord G K 47 [(0, .ref 1), (1, .ref 3), (2, .int v2)] [.int r3] N3
    refine BT.if_eq (tgt := 57) dX5_readWord_47 (by decide) (fun c => ?_) (fun c => ?_)
    · have c4 := c
      exact (((h.2 c2).2 r3 N3 g3).1 c4)
    · have c5 := c
      refine BT.aload_n dX5_readWord_50 rfl 1 rfl ?_
      refine BT.iconst (v := 1) dX5_readWord_51 (by decide) ?_
      refine BT.putZ fl_X5_80 ft_3_10 ho_3 rfl (Or.inr rfl) dX5_readWord_52 ?_
      refine BT.iconst (v := 2) dX5_readWord_55 (by decide) ?_
      exact BT.iret dX5_readWord_56 rfl (by decide) (by decide) (((h.2 c2).2 r3 N3 g3).2 c5)
set_option maxRecDepth 4000 in
theorem k_X5_readWord_57 {G : GT} {K : Int32 → Mem → Prop} {M : Mem} {E : ET} {v2 : Int32} (h : (3 ≤ v2 → B_X5_readWord G K 86 [(0, .ref 1), (1, .ref 3)] [] M) ∧ (¬ 3 ≤ v2 → (PdOk M) ∧ (∀ (r3 : Int32) (N3 : Mem), ((r3 = 1 ∧ pd_nx M.1 = 116 ∧ N3 = pd_adv M) ∨ (r3 = 0 ∧ ¬ pd_nx M.1 = 116 ∧ N3 = M)) → (r3 = 0 → B_X5_readWord G K 86 [(0, .ref 1), (1, .ref 3)] [] N3) ∧ (¬ r3 = 0 → (TmPre E N3) ∧ (∀ (r6 : Int32) (N6 : Mem), (WdOut E N3 3 N6 r6) → (r6 = 0 → K (-6) N6) ∧ (¬ r6 = 0 → K 3 N6)))))) : B_X5_readWord G K 57 [(0, .ref 1), (1, .ref 3), (2, .int v2)] [] M := by
  refine BT.iload_n dX5_readWord_57 rfl 2 rfl ?_
  refine BT.iconst (v := 3) dX5_readWord_58 (by decide) ?_
  refine BT.icmp_ge (tgt := 86) dX5_readWord_59 (by decide) (fun c => ?_) (fun c => ?_)
  · have c1 := c
    refine BT.sub [0, 1] rfl ?_
    exact (h.1 c1)
  · have c2 := c
    refine BT.aload_n dX5_readWord_62 rfl 0 rfl ?_
    refine BT.bipush (v := 116) dX5_readWord_63 (by decide) ?_
    refine BT.mcV [.int 116] (t_X5_takes (h.2 c2).1 (fun r3 N3 g3 => ?_)) mb_X5_takes mv_X5_takes lk_X5_31 rfl (by decide) rfl (recvRep ho_1 rfl) (Nat.le_of_ble_eq_true rfl) dX5_readWord_65
    show B_X5_readWord G K 68 [(0, .ref 1), (1, .ref 3), (2, .int v2)] [.int r3] N3
    refine BT.if_eq (tgt := 86) dX5_readWord_68 (by decide) (fun c => ?_) (fun c => ?_)
    · have c4 := c
      refine BT.sub [0, 1] rfl ?_
      exact (((h.2 c2).2 r3 N3 g3).1 c4)
    · have c5 := c
      refine BT.aload_n dX5_readWord_71 rfl 0 rfl ?_
      refine BT.aload_n dX5_readWord_72 rfl 1 rfl ?_
      refine BT.mcV [.ref 3] (t_X5_readTerm (((h.2 c2).2 r3 N3 g3).2 c5).1 (fun r6 N6 g6 => ?_)) mb_X5_readTerm mv_X5_readTerm lk_X5_84 rfl (by decide) rfl (recvRep ho_1 rfl) (Nat.le_of_ble_eq_true rfl) dX5_readWord_73
      show B_X5_readWord G K 76 [(0, .ref 1), (1, .ref 3), (2, .int v2)] [.int r6] N6
      refine BT.if_eq (tgt := 83) dX5_readWord_76 (by decide) (fun c => ?_) (fun c => ?_)
      · have c7 := c
        refine BT.bipush (v := (-6)) dX5_readWord_83 (by decide) ?_
        exact BT.iret dX5_readWord_85 rfl (by decide) (by decide) (((((h.2 c2).2 r3 N3 g3).2 c5).2 r6 N6 g6).1 c7)
      · have c8 := c
        refine BT.iconst (v := 3) dX5_readWord_79 (by decide) ?_
        refine BT.goto (tgt := 85) dX5_readWord_80 (by decide) ?_
        exact BT.iret dX5_readWord_85 rfl (by decide) (by decide) (((((h.2 c2).2 r3 N3 g3).2 c5).2 r6 N6 g6).2 c8)
set_option maxRecDepth 4000 in
theorem k_X5_readWord_86 {G : GT} {K : Int32 → Mem → Prop} {M : Mem}  (h : (PdOk M) ∧ (∀ (r1 : Int32) (N1 : Mem), ((r1 = 1 ∧ pd_nx M.1 = 117 ∧ N1 = pd_adv M) ∨ (r1 = 0 ∧ ¬ pd_nx M.1 = 117 ∧ N1 = M)) → (¬ r1 = 0 → (PdOk N1) ∧ (∀ (r4 : Int32) (N4 : Mem), (PdDig N1 N4 7 r4) → (¬ r4 = (-6) → K 3 (m_i N4 3 14 ((N4.1 3 14) ||| ((1 : Int32) <<< (r4 &&& 31))))) ∧ (r4 = (-6) → K (-6) N4))) ∧ (r1 = 0 → K (-6) N1))) : B_X5_readWord G K 86 [(0, .ref 1), (1, .ref 3)] [] M := by
  refine BT.aload_n dX5_readWord_86 rfl 0 rfl ?_
  refine BT.bipush (v := 117) dX5_readWord_87 (by decide) ?_
  refine BT.mcV [.int 117] (t_X5_takes h.1 (fun r1 N1 g1 => ?_)) mb_X5_takes mv_X5_takes lk_X5_31 rfl (by decide) rfl (recvRep ho_1 rfl) (Nat.le_of_ble_eq_true rfl) dX5_readWord_89
  show B_X5_readWord G K 92 [(0, .ref 1), (1, .ref 3)] [.int r1] N1
  refine BT.if_ne (tgt := 98) dX5_readWord_92 (by decide) (fun c => ?_) (fun c => ?_)
  · have c2 := c
    refine BT.aload_n dX5_readWord_98 rfl 0 rfl ?_
    refine BT.bipush (v := 7) dX5_readWord_99 (by decide) ?_
    refine BT.mcV [.int 7] (t_X5_readDigit ((h.2 r1 N1 g1).1 c2).1 (fun r4 N4 g4 => ?_)) mb_X5_readDigit mv_X5_readDigit lk_X5_58 rfl (by decide) rfl (recvRep ho_1 rfl) (Nat.le_of_ble_eq_true rfl) dX5_readWord_101
    show B_X5_readWord G K 104 [(0, .ref 1), (1, .ref 3)] [.int r4] N4
    refine BT.istore_n (L' := [(3, .int r4), (0, .ref 1), (1, .ref 3)]) dX5_readWord_104 rfl (by decide) rfl ?_
    refine BT.iload_n dX5_readWord_105 rfl 0 rfl ?_
    refine BT.bipush (v := (-6)) dX5_readWord_106 (by decide) ?_
    refine BT.icmp_ne (tgt := 114) dX5_readWord_108 (by decide) (fun c => ?_) (fun c => ?_)
    · have c5 := c
      refine BT.aload_n dX5_readWord_114 rfl 2 rfl ?_
      refine BT.dup dX5_readWord_115 rfl ?_
      refine BT.getI fl_X5_87 ho_3 rfl dX5_readWord_116 ?_
      refine BT.iconst (v := 1) dX5_readWord_119 (by decide) ?_
      refine BT.iload_n dX5_readWord_120 rfl 0 rfl ?_
      refine BT.ishl dX5_readWord_121 ?_
      refine BT.ior dX5_readWord_122 ?_
      refine BT.putI fl_X5_87 ft_3_14 ho_3 rfl dX5_readWord_123 ?_
      refine BT.iconst (v := 3) dX5_readWord_126 (by decide) ?_
      exact BT.iret dX5_readWord_127 rfl (by decide) (by decide) ((((h.2 r1 N1 g1).1 c2).2 r4 N4 g4).1 c5)
    · have c6 := c
      refine BT.bipush (v := (-6)) dX5_readWord_111 (by decide) ?_
      exact BT.iret dX5_readWord_113 rfl (by decide) (by decide) ((((h.2 r1 N1 g1).1 c2).2 r4 N4 g4).2 c6)
  · have c3 := c
    refine BT.bipush (v := (-6)) dX5_readWord_95 (by decide) ?_
    exact BT.iret dX5_readWord_97 rfl (by decide) (by decide) ((h.2 r1 N1 g1).2 c3)

theorem t_X5_readWord {G : GT} {K : Int32 → Mem → Prop} {M : Mem} {E : ET} {v2 : Int32} (hE : WdPre E v2 M) (h : ∀ (r : Int32) (N : Mem), WordOut E M N r → K r N) : T_X5_readWord G [.ref 1, .ref 3, .int v2] M K := by
  obtain ⟨i, p, T, hP, hp, hk, hC, hW, hL⟩ := id hE
  have hx := hP.nx
  have qw : ∀ c, q_step (8, p) c = q_word c (8, p) := fun c => q_s8
  have b86 : ¬ (tmB (sx E i) ∧ v2 < 1) → ¬ (sx E i = 119 ∧ v2 < 2) → ¬ (sx E i = 116 ∧ v2 < 3) → B_X5_readWord G K 86 [(0, .ref 1), (1, .ref 3)] [] M := by
    intro n1 n2 n3
    refine k_X5_readWord_86 ⟨hP.ok, fun r1 N1 g1 => ?_⟩
    rw [← hp] at n1 n2 n3
    rcases g1 with ⟨rfl, hc, rfl⟩ | ⟨rfl, hc, rfl⟩
    · refine ⟨fun _ => ?_, fun c => absurd c (by decide)⟩
      rw [← hx, hc] at n1 n2 n3
      have hP1 := hP.adv hc (q' := (18, p.1, p.2.1, p.2.2.1, 3)) (by
        rw [qw]
        unfold q_word
        rw [if_neg n1, if_neg n2, if_neg n3, if_pos rfl]) (of_decide_eq_true rfl) (T' := T) rfl
      refine ⟨hP1.ok, fun r4 N4 g4 => ?_⟩
      rcases g4.is (m := 7) (by omega) rfl with ⟨d, hd, ed, rfl, rfl⟩ | ⟨nd, rfl, rfl⟩
      · have hP4 := hP1.adv ed (q' := (20, p.1, p.2.1, p.2.2.1, 3)) (by
          rw [q_s18, if_pos (lwB_is.mpr ⟨d, by omega, rfl⟩)]) (of_decide_eq_true rfl) (T' := (T.1, (T.2.1, T.2.2.1, T.2.2.2.1, T.2.2.2.2.1, T.2.2.2.2.2.1, T.2.2.2.2.2.2.1, T.2.2.2.2.2.2.2 ||| ((1 : Int32) <<< (nI d &&& 31))))) (by
          rw [t_w (of_decide_eq_true rfl) (dg_nb (by omega)), ← dg_sub (d := d)]; rfl)
        refine ⟨fun _ => ?_, fun c => absurd c (nI_n6 (by omega))⟩
        have hC4 := hC.adv.adv
        obtain ⟨w1, w2, w3, w4, w5, w6, w7, w8⟩ := hW.adv.adv
        have hlt : M.1 1 2 < (pd_adv (pd_adv M)).1 1 2 := hP.lt hP4 (by omega)
        generalize pd_adv (pd_adv M) = N4 at *
        have hP5 := hP4.mi (c := 3) (k := 14) (v := N4.1 3 14 ||| ((1 : Int32) <<< (nI d &&& 31))) (by omega)
        refine h _ _ (Or.inr ⟨by decide, by decide, _, 20, _, _, hP5, ⟨qw_20, by decide, by decide⟩, rfl, hk, hC4.same (m_i_ne (by omega)) (mi_off (by omega)) (mi_off (by omega)), ⟨by rw [m_i_ne (by omega), w1], by rw [m_i_ne (by omega), w2], by rw [m_i_ne (by omega), w3], by rw [m_i_ne (by omega), w4], by rw [m_i_ne (by omega), w5], by rw [m_i_ne (by omega), w6], by rw [m_i_ne (by omega), w7], by rw [m_i_at, w8]⟩, hL, by rw [m_i_ne (by omega)]; exact hlt, rfl, fun z => ?_⟩)
        rw [q_s20, if_neg z]; exact m1_lt
      · refine ⟨fun c => absurd rfl c, fun _ => h _ _ (Or.inl ⟨rfl, _, _, _, hP1, qw_n18, ?_⟩)⟩
        rw [← hP1.nx, q_s18, if_neg]
        · exact m1_lt
        · intro z
          obtain ⟨d, hd, ed⟩ := lwB_is.mp z
          exact nd ⟨d, by omega, ed⟩
    · refine ⟨fun c => absurd rfl c, fun _ => h _ _ (Or.inl ⟨rfl, _, _, _, hP, qw_n8, ?_⟩)⟩
      rw [hx] at hc
      rw [qw]
      unfold q_word
      rw [if_neg n1, if_neg n2, if_neg n3, if_neg hc]; exact m1_lt
  have b57 : ¬ (tmB (sx E i) ∧ v2 < 1) → ¬ (sx E i = 119 ∧ v2 < 2) → B_X5_readWord G K 57 [(0, .ref 1), (1, .ref 3), (2, .int v2)] [] M := by
    intro n1 n2
    refine k_X5_readWord_57 (E := E) ⟨fun c => b86 n1 n2 (fun z => absurd c (Int32.not_le.mpr z.2)), fun c => ⟨hP.ok, fun r3 N3 g3 => ?_⟩⟩
    rw [← hp] at n1 n2
    rcases g3 with ⟨rfl, hc, rfl⟩ | ⟨rfl, hc, rfl⟩
    · refine ⟨fun c => absurd c (by decide), fun _ => ?_⟩
      rw [← hx, hc] at n1 n2
      have c' : p.2.2.2 < 3 := by rw [hp]; exact Int32.not_le.mp c
      have hP3 := hP.adv hc (q' := (13, p.1, p.2.1, p.2.2.1, 3)) (by
        rw [qw]
        unfold q_word
        rw [if_neg n1, if_neg n2, if_pos ⟨rfl, c'⟩]) (of_decide_eq_true rfl) (T' := T) rfl
      have hlt : M.1 1 2 < (pd_adv M).1 1 2 := hP.lt hP3 (by omega)
      refine ⟨⟨_, _, T, hP3, rfl, hk, hC.adv, hW.adv, hL⟩, fun r6 N6 g6 => ?_⟩
      rcases g6 with ⟨rfl, hF⟩ | ⟨rfl, hI⟩
      · exact ⟨fun _ => h _ _ (Or.inl ⟨rfl, hF⟩), fun c => absurd rfl c⟩
      · exact ⟨fun c => absurd c (by decide), fun _ => h _ _ (Or.inr ⟨by decide, by decide, hI.le (Int32.le_of_lt hlt)⟩)⟩
    · refine ⟨fun _ => b86 (by rw [← hp]; exact n1) (by rw [← hp]; exact n2) (fun z => hc (hx.trans z.1)), fun c => absurd rfl c⟩
  have b36 : ¬ (tmB (sx E i) ∧ v2 < 1) → B_X5_readWord G K 36 [(0, .ref 1), (1, .ref 3), (2, .int v2)] [] M := by
    intro n1
    refine k_X5_readWord_36 ⟨fun c => b57 n1 (fun z => absurd c (Int32.not_le.mpr z.2)), fun c => ⟨hP.ok, fun r3 N3 g3 => ?_⟩⟩
    rcases g3 with ⟨rfl, hc, rfl⟩ | ⟨rfl, hc, rfl⟩
    · refine ⟨fun c => absurd c (by decide), fun _ => ?_⟩
      rw [← hp, ← hx, hc] at n1
      have c' : p.2.2.2 < 2 := by rw [hp]; exact Int32.not_le.mp c
      have hP3 := hP.adv hc (q' := (12, p.1, p.2.1, p.2.2.1, 2)) (by
        rw [qw]
        unfold q_word
        rw [if_neg n1, if_pos ⟨rfl, c'⟩]) (of_decide_eq_true rfl) (T' := (T.1, (T.2.1, T.2.2.1, 1, T.2.2.2.2))) rfl
      have hlt : M.1 1 2 < (pd_adv M).1 1 2 := hP.lt hP3 (by omega)
      have hC4 := hC.adv
      obtain ⟨w1, w2, w3, w4, w5, w6, w7, w8⟩ := hW.adv
      generalize pd_adv M = N4 at *
      have hP5 := hP3.mi (c := 3) (k := 10) (v := 1) (by omega)
      refine h _ _ (Or.inr ⟨by decide, by decide, _, 12, _, _, hP5, ⟨qw_12, by decide, by decide⟩, rfl, hk, hC4.same (m_i_ne (by omega)) (mi_off (by omega)) (mi_off (by omega)), ⟨by rw [m_i_ne (by omega), w1], by rw [m_i_ne (by omega), w2], by rw [m_i_ne (by omega), w3], m_i_at, by rw [m_i_ne (by omega), w5], by rw [m_i_ne (by omega), w6], by rw [m_i_ne (by omega), w7], by rw [m_i_ne (by omega), w8]⟩, ⟨hL.1, hL.2.1, hL.2.2.1, hL.2.2.2.1, Or.inr rfl⟩, by rw [m_i_ne (by omega)]; exact hlt, rfl, fun z => ?_⟩)
      rw [q_s12, if_neg z]; exact m1_lt
    · exact ⟨fun _ => b57 n1 (fun z => hc (hx.trans z.1)), fun c => absurd rfl c⟩
  refine e_X5_readWord (k_X5_readWord_0 (E := E) ⟨fun c => b36 (fun z => absurd c (Int32.not_le.mpr z.2)), fun c => ⟨hP.ok, fun r3 e3 => ⟨fun c3 => b36 (fun z => c3 (by rw [e3, hx]; exact z.1)), fun c3 => ⟨⟨⟨v2, Int32.not_le.mp c, hE⟩, by rw [← e3]; exact c3⟩, fun r7 N7 g7 => ?_⟩⟩⟩⟩)
  rcases g7 with ⟨rfl, hF⟩ | ⟨rfl, hI⟩
  · exact ⟨fun _ => h _ _ (Or.inl ⟨rfl, hF⟩), fun c => absurd rfl c⟩
  · exact ⟨fun c => absurd c (by decide), fun _ => h _ _ (Or.inr ⟨by decide, by decide, hI⟩)⟩

/-! BetweenLaws$Pad.readWords(LBetweenLaws$Law;)Z -/
abbrev rm_X5_readWords : Room := { frames := 5, cells := 0, slots := 0, locals := 110 }
abbrev B_X5_readWords (G : GT) (K : Int32 → Mem → Prop) := BT G (Rep G) RX5 "readWords" cX5_readWords 4 (some .boolean) rm_X5_readWords K 0 0
abbrev T_X5_readWords (G : GT) (as : List Value) (M : Mem) (K : Int32 → Mem → Prop) : Prop := MT G (Rep G) yX5_readWords cX5_readWords 4 (some .boolean) rm_X5_readWords as M K
theorem e_X5_readWords {G : GT} {K : Int32 → Mem → Prop} {M : Mem}  (h : B_X5_readWords G K 0 [(0, .ref 1), (1, .ref 3)] [] M) : T_X5_readWords G [.ref 1, .ref 3] M K := MT.of (by decide +kernel) rfl rfl (Nat.le_of_ble_eq_true rfl) rfl h
set_option maxRecDepth 4000 in
theorem k_X5_readWords_0 {G : GT} {K : Int32 → Mem → Prop} {M : Mem}  (h : B_X5_readWords G K 4 [(0, .ref 1), (1, .ref 3), (2, .int 0), (3, .int 0)] [] M) : B_X5_readWords G K 0 [(0, .ref 1), (1, .ref 3)] [] M := by
  refine BT.iconst (v := 0) dX5_readWords_0 (by decide) ?_
  refine BT.istore_n (L' := [(2, .int 0), (0, .ref 1), (1, .ref 3)]) dX5_readWords_1 rfl (by decide) rfl ?_
  refine BT.iconst (v := 0) dX5_readWords_2 (by decide) ?_
  refine BT.istore_n (L' := [(3, .int 0), (2, .int 0), (0, .ref 1), (1, .ref 3)]) dX5_readWords_3 rfl (by decide) rfl ?_
  refine BT.sub [2, 3, 1, 0] rfl ?_
  exact h
set_option maxRecDepth 4000 in
theorem k_X5_readWords_4 {G : GT} {K : Int32 → Mem → Prop} {M : Mem} {E : ET} {v2 : Int32} {v3 : Int32} (h : (60 ≤ v3 → K 0 M) ∧ (¬ 60 ≤ v3 → (WdPre E v2 M) ∧ (∀ (r3 : Int32) (N3 : Mem), (WordOut E M N3 r3) → (¬ r3 = (-6) → (PdOk N3) ∧ (∀ (r6 : Int32) (N6 : Mem), ((r6 = 1 ∧ pd_nx N3.1 = 44 ∧ N6 = pd_adv N3) ∨ (r6 = 0 ∧ ¬ pd_nx N3.1 = 44 ∧ N6 = N3)) → (¬ r6 = 0 → B_X5_readWords G K 4 [(0, .ref 1), (1, .ref 3), (2, .int r3), (3, .int (v3 + 1))] [] N6) ∧ (r6 = 0 → K 1 N6))) ∧ (r3 = (-6) → K 0 N3)))) : B_X5_readWords G K 4 [(0, .ref 1), (1, .ref 3), (2, .int v2), (3, .int v3)] [] M := by
  refine BT.iload_n dX5_readWords_4 rfl 3 rfl ?_
  refine BT.bipush (v := 60) dX5_readWords_5 (by decide) ?_
  refine BT.icmp_ge (tgt := 42) dX5_readWords_7 (by decide) (fun c => ?_) (fun c => ?_)
  · have c1 := c
    refine BT.iconst (v := 0) dX5_readWords_42 (by decide) ?_
    exact BT.zret dX5_readWords_43 rfl (by decide) (by decide) (nar01 ((Or.inl rfl))) (h.1 c1)
  · have c2 := c
    refine BT.aload_n dX5_readWords_10 rfl 0 rfl ?_
    refine BT.aload_n dX5_readWords_11 rfl 1 rfl ?_
    refine BT.iload_n dX5_readWords_12 rfl 2 rfl ?_
    refine BT.mcV [.ref 3, .int v2] (t_X5_readWord (h.2 c2).1 (fun r3 N3 g3 => ?_)) mb_X5_readWord mv_X5_readWord lk_X5_69 rfl (by decide) rfl (recvRep ho_1 rfl) (Nat.le_of_ble_eq_true rfl) dX5_readWords_13
    show B_X5_readWords G K 16 [(0, .ref 1), (1, .ref 3), (2, .int v2), (3, .int v3)] [.int r3] N3
    refine BT.istore_n (L' := [(2, .int r3), (0, .ref 1), (1, .ref 3), (3, .int v3)]) dX5_readWords_16 rfl (by decide) rfl ?_
    refine BT.iload_n dX5_readWords_17 rfl 0 rfl ?_
    refine BT.bipush (v := (-6)) dX5_readWords_18 (by decide) ?_
    refine BT.icmp_ne (tgt := 25) dX5_readWords_20 (by decide) (fun c => ?_) (fun c => ?_)
    · have c4 := c
      refine BT.aload_n dX5_readWords_25 rfl 1 rfl ?_
      refine BT.bipush (v := 44) dX5_readWords_26 (by decide) ?_
      refine BT.mcV [.int 44] (t_X5_takes (((h.2 c2).2 r3 N3 g3).1 c4).1 (fun r6 N6 g6 => ?_)) mb_X5_takes mv_X5_takes lk_X5_31 rfl (by decide) rfl (recvRep ho_1 rfl) (Nat.le_of_ble_eq_true rfl) dX5_readWords_28
      show B_X5_readWords G K 31 [(2, .int r3), (0, .ref 1), (1, .ref 3), (3, .int v3)] [.int r6] N6
      refine BT.if_ne (tgt := 36) dX5_readWords_31 (by decide) (fun c => ?_) (fun c => ?_)
      · have c7 := c
        refine BT.iinc (j := 3) (v := (v3 + 1)) (L' := [(3, .int (v3 + 1)), (2, .int r3), (0, .ref 1), (1, .ref 3)]) dX5_readWords_36 rfl rfl (by decide) rfl ?_
        refine BT.goto (tgt := 4) dX5_readWords_39 (by decide) ?_
        refine BT.sub [2, 3, 1, 0] rfl ?_
        exact (((((h.2 c2).2 r3 N3 g3).1 c4).2 r6 N6 g6).1 c7)
      · have c8 := c
        refine BT.iconst (v := 1) dX5_readWords_34 (by decide) ?_
        exact BT.zret dX5_readWords_35 rfl (by decide) (by decide) (nar01 ((Or.inr rfl))) (((((h.2 c2).2 r3 N3 g3).1 c4).2 r6 N6 g6).2 c8)
    · have c5 := c
      refine BT.iconst (v := 0) dX5_readWords_23 (by decide) ?_
      exact BT.zret dX5_readWords_24 rfl (by decide) (by decide) (nar01 ((Or.inl rfl))) (((h.2 c2).2 r3 N3 g3).2 c5)

theorem t_X5_readWords {G : GT} {K : Int32 → Mem → Prop} {M : Mem} {E : ET} (hE : WdPre E 0 M) (h : ∀ (r : Int32) (N : Mem), WordsOut E N r → K r N) : T_X5_readWords G [.ref 1, .ref 3] M K := by
  have loop : ∀ f j, j + f = 60 → ∀ w N, (∃ i p T, PS E i (8, p) T N ∧ p.2.2.2 = w ∧ (1 ≤ T.1.1 ∧ T.1.1 ≤ 6) ∧ CR N.1 T.1.1 T.1.2.1 T.1.2.2.1 ∧ WR N.1 T.2 ∧ LT T.2 ∧ 2 * j ≤ i) → B_X5_readWords G K 4 [(0, .ref 1), (1, .ref 3), (2, .int w), (3, .int (nI j))] [] N := by
    intro f
    induction f with
    | zero =>
      intro j hj w N hI
      obtain ⟨i, p, T, hP, hp, hk, hC, hW, hL, hi⟩ := hI
      have := hP.1
      omega
    | succ f ih =>
      intro j hj w N hI
      obtain ⟨i, p, T, hP, hp, hk, hC, hW, hL, hi⟩ := hI
      refine k_X5_readWords_4 (E := E) ⟨fun c => absurd ((nI_leI (a := 60) (by omega) (by omega)).mp c) (by omega), fun _ => ⟨⟨i, p, T, hP, hp, hk, hC, hW, hL⟩, fun r3 N3 g3 => ?_⟩⟩
      rcases g3 with ⟨rfl, hF⟩ | ⟨n6, n0, i', s, p', T', hP', ⟨q1, q2, q3⟩, hp', hk', hC', hW', hL', hlt, hst, hno⟩
      · exact ⟨fun c => absurd rfl c, fun _ => h _ _ (Or.inl ⟨rfl, hF⟩)⟩
      · have hii : i < i' := by
          rw [hP.1.2.2.2, hP'.1.2.2.2] at hlt
          have h60 := hP.1
          have h61 := hP'.1
          exact (nI_ltI (by omega) (by omega)).mp hlt
        refine ⟨fun _ => ⟨hP'.ok, fun r6 N6 g6 => ?_⟩, fun c => absurd c n6⟩
        rcases g6 with ⟨rfl, hc, rfl⟩ | ⟨rfl, hc, rfl⟩
        · refine ⟨fun _ => ?_, fun c => absurd c (by decide)⟩
          rw [nI_1]
          exact ih (j + 1) (by omega) r3 _ ⟨i' + 1, p', T', hP'.adv hc hst (of_decide_eq_true rfl) rfl, hp', hk', hC'.adv, hW'.adv, hL', by omega⟩
        · refine ⟨fun c => absurd rfl c, fun _ => h _ _ (Or.inr ⟨rfl, i', (s, p'), T', T'.1.1, hP', q1, hno (fun z => hc (hP'.nx.trans z)), hk', ?_, hC', hW', hL'⟩)⟩
          show _ = T'.1.1 + (if p'.2.2.2 = 0 then 1 else 0)
          rw [hp', if_neg n0, Nat.add_zero]
  obtain ⟨i, p, T, hP, hp, hk, hC, hW, hL⟩ := hE
  exact e_X5_readWords (k_X5_readWords_0 (loop 60 0 (by omega) 0 M ⟨i, p, T, hP, hp, hk, hC, hW, hL, by omega⟩))

def InPre (E : ET) (M : Mem) : Prop := E.1 = M ∧ M.1 1 1 = nI E.2.1 ∧ E.2.1 ≤ 60
def Frm (E : ET) (N : Mem) : Prop := N.1 1 1 = nI E.2.1 ∧ (∀ c, ¬ (c = 1 ∨ (3 ≤ c ∧ c ≤ 7)) → N.1 c = E.1.1 c) ∧ N.2 = E.1.2
def Flt (E : ET) (i : Nat) : Prop := (∀ j, j ≤ i → 0 ≤ (q_a E j).1) ∧ i ≤ E.2.1 ∧ ((i < E.2.1 ∧ (q_a E (i + 1)).1 < 0) ∨ (i = E.2.1 ∧ ¬ q_whole (q_a E i).1))
def Good (E : ET) (N : Mem) : Prop := (∀ j, j ≤ E.2.1 → 0 ≤ (q_a E j).1) ∧ q_whole (q_a E E.2.1).1 ∧ ∃ k, (1 ≤ k ∧ k ≤ 6) ∧ k = (t_a E E.2.1).1.1 + (if (q_a E E.2.1).2.2.2.2 = 0 then 1 else 0) ∧ CR N.1 k (t_a E E.2.1).1.2.1 (t_a E E.2.1).1.2.2.1 ∧ WR N.1 (t_a E E.2.1).2 ∧ LT (t_a E E.2.1).2 ∧ FitW N.1 3
def InOut (E : ET) (N : Mem) (r : Int32) : Prop := Frm E N ∧ ((r = -6 ∧ Good E N) ∨ ∃ i, r = nI i ∧ Flt E i)
theorem PS.frm {E : ET} {i : Nat} {q : QT} {T : TT} {N : Mem} (h : PS E i q T N) : Frm E N := ⟨h.1.2.2.1, h.2.1.2.1, h.2.1.2.2⟩
theorem PS.flt {E : ET} {i : Nat} {q : QT} {T : TT} {N : Mem} (h : PS E i q T N) (hs : (q_step q (sx E i)).1 < 0) (hw : i = E.2.1 → ¬ q_whole q.1) : InOut E N (N.1 1 2) := by
  refine ⟨h.frm, Or.inr ⟨i, h.1.2.2.2, ?_⟩⟩
  obtain ⟨⟨hn, hi, -⟩, -, hok, eq, -⟩ := h
  refine ⟨hok, hi, ?_⟩
  by_cases c : i < E.2.1
  · refine Or.inl ⟨c, ?_⟩
    show (q_step (q_a E i) (E.1.1 2 i)).1 < 0
    unfold sx at hs
    rw [if_pos c] at hs
    rw [eq]; exact hs
  · exact Or.inr ⟨by omega, by rw [eq]; exact hw (by omega)⟩
theorem Fail.flt {E : ET} {N : Mem} (h : Fail E N) : InOut E N (N.1 1 2) := by
  obtain ⟨i, q, T, hP, nw, hs⟩ := h
  exact hP.flt hs (fun _ => nw)

/-! BetweenLaws$Pad.readInto(LBetweenLaws$Law;)I -/
abbrev rm_X5_readInto : Room := { frames := 6, cells := 0, slots := 0, locals := 133 }
abbrev B_X5_readInto (G : GT) (K : Int32 → Mem → Prop) := BT G (Rep G) RX5 "readInto" cX5_readInto 3 (some .int) rm_X5_readInto K 0 0
abbrev T_X5_readInto (G : GT) (as : List Value) (M : Mem) (K : Int32 → Mem → Prop) : Prop := MT G (Rep G) yX5_readInto cX5_readInto 3 (some .int) rm_X5_readInto as M K
theorem e_X5_readInto {G : GT} {K : Int32 → Mem → Prop} {M : Mem}  (h : B_X5_readInto G K 0 [(0, .ref 1), (1, .ref 3)] [] M) : T_X5_readInto G [.ref 1, .ref 3] M K := MT.of (by decide +kernel) rfl rfl (Nat.le_of_ble_eq_true rfl) rfl h
set_option maxRecDepth 4000 in
theorem k_X5_readInto_0 {G : GT} {K : Int32 → Mem → Prop} {M : Mem} {E : ET}  (h : (∀ N1 : Mem, (LwBl M N1 3) → (MkPre E (m_i N1 1 2 0) ∧ (m_i N1 1 2 0).1 3 2 = 0) ∧ (∀ (r2 : Int32) (N2 : Mem), (CasesOut E N2 r2) → (r2 = 0 → (r2 = 0 → K (N2.1 1 2) N2) ∧ (¬ r2 = 0 → ((N2.1 1 1) ≤ (N2.1 1 2) → (∃ n, n ≤ 6 ∧ N2.1 3 2 = nI n ∧ ∀ i, i < n → ∃ m, m < 32 ∧ N2.1 (3 + 1) i = nI m) ∧ (∀ N9 : Mem, (LwFt N2 N9 3) → K (-6) N9)) ∧ (¬ (N2.1 1 1) ≤ (N2.1 1 2) → K (N2.1 1 2) N2))) ∧ (¬ r2 = 0 → (PdOk N2) ∧ (∀ (r10 : Int32) (N10 : Mem), ((r10 = 1 ∧ pd_nx N2.1 = 47 ∧ N10 = pd_adv N2) ∨ (r10 = 0 ∧ ¬ pd_nx N2.1 = 47 ∧ N10 = N2)) → (r10 = 0 → (r2 = 0 → K (N10.1 1 2) N10) ∧ (¬ r2 = 0 → ((N10.1 1 1) ≤ (N10.1 1 2) → (∃ n, n ≤ 6 ∧ N10.1 3 2 = nI n ∧ ∀ i, i < n → ∃ m, m < 32 ∧ N10.1 (3 + 1) i = nI m) ∧ (∀ N17 : Mem, (LwFt N10 N17 3) → K (-6) N17)) ∧ (¬ (N10.1 1 1) ≤ (N10.1 1 2) → K (N10.1 1 2) N10))) ∧ (¬ r10 = 0 → (WdPre E 0 N10) ∧ (∀ (r18 : Int32) (N18 : Mem), (WordsOut E N18 r18) → (r18 = 0 → K (N18.1 1 2) N18) ∧ (¬ r18 = 0 → ((N18.1 1 1) ≤ (N18.1 1 2) → (∃ n, n ≤ 6 ∧ N18.1 3 2 = nI n ∧ ∀ i, i < n → ∃ m, m < 32 ∧ N18.1 (3 + 1) i = nI m) ∧ (∀ N23 : Mem, (LwFt N18 N23 3) → K (-6) N23)) ∧ (¬ (N18.1 1 1) ≤ (N18.1 1 2) → K (N18.1 1 2) N18))))))))) : B_X5_readInto G K 0 [(0, .ref 1), (1, .ref 3)] [] M := by
  refine BT.aload_n dX5_readInto_0 rfl 1 rfl ?_
  refine BT.mcVvp [] (t_X3_blank2 lawC_3 (fun N hN => ⟨rfl, hN⟩)) mb_X3_blank mv_X3_blank lk_X5_19 rfl (by decide) rfl (recvRep ho_3 rfl) (Nat.le_of_ble_eq_true rfl) dX5_readInto_1 (P := fun N1 => LwBl M N1 3) (fun N1 g1 => ?_)
  show B_X5_readInto G K 4 [(0, .ref 1), (1, .ref 3)] [] N1
  refine BT.aload_n dX5_readInto_4 rfl 0 rfl ?_
  refine BT.iconst (v := 0) dX5_readInto_5 (by decide) ?_
  refine BT.putI fl_X5_24 ft_5_2 ho_1 rfl dX5_readInto_6 ?_
  refine BT.aload_n dX5_readInto_9 rfl 0 rfl ?_
  refine BT.aload_n dX5_readInto_10 rfl 1 rfl ?_
  refine BT.mcV [.ref 3] (t_X5_readCases (h N1 g1).1 (fun r2 N2 g2 => ?_)) mb_X5_readCases mv_X5_readCases lk_X5_27 rfl (by decide) rfl (recvRep ho_1 rfl) (Nat.le_of_ble_eq_true rfl) dX5_readInto_11
  show B_X5_readInto G K 14 [(0, .ref 1), (1, .ref 3)] [.int r2] N2
  refine BT.istore_n (L' := [(2, .int r2), (0, .ref 1), (1, .ref 3)]) dX5_readInto_14 rfl (by decide) rfl ?_
  refine BT.iload_n dX5_readInto_15 rfl 0 rfl ?_
  refine BT.if_eq (tgt := 34) dX5_readInto_16 (by decide) (fun c => ?_) (fun c => ?_)
  · have c3 := c
    refine BT.iload_n dX5_readInto_34 rfl 0 rfl ?_
    refine BT.if_eq (tgt := 49) dX5_readInto_35 (by decide) (fun c => ?_) (fun c => ?_)
    · have c5 := c
      refine BT.aload_n dX5_readInto_49 rfl 1 rfl ?_
      refine BT.getI fl_X5_24 ho_1 rfl dX5_readInto_50 ?_
      exact BT.iret dX5_readInto_53 rfl (by decide) (by decide) ((((h N1 g1).2 r2 N2 g2).1 c3).1 c5)
    · have c6 := c
      refine BT.aload_n dX5_readInto_38 rfl 1 rfl ?_
      refine BT.getI fl_X5_24 ho_1 rfl dX5_readInto_39 ?_
      refine BT.aload_n dX5_readInto_42 rfl 1 rfl ?_
      refine BT.getI fl_X5_15 ho_1 rfl dX5_readInto_43 ?_
      refine BT.icmp_ge (tgt := 54) dX5_readInto_46 (by decide) (fun c => ?_) (fun c => ?_)
      · have c7 := c
        refine BT.aload_n dX5_readInto_54 rfl 2 rfl ?_
        refine BT.mcVvp [] (t_X3_fitCases2 lawC_3 (((((h N1 g1).2 r2 N2 g2).1 c3).2 c6).1 c7).1 (fun N hN => ⟨rfl, hN⟩)) mb_X3_fitCases mv_X3_fitCases lk_X5_38 rfl (by decide) rfl (recvRep ho_3 rfl) (Nat.le_of_ble_eq_true rfl) dX5_readInto_55 (P := fun N9 => LwFt N2 N9 3) (fun N9 g9 => ?_)
        show B_X5_readInto G K 58 [(2, .int r2), (0, .ref 1), (1, .ref 3)] [] N9
        refine BT.bipush (v := (-6)) dX5_readInto_58 (by decide) ?_
        exact BT.iret dX5_readInto_60 rfl (by decide) (by decide) ((((((h N1 g1).2 r2 N2 g2).1 c3).2 c6).1 c7).2 N9 g9)
      · have c8 := c
        refine BT.aload_n dX5_readInto_49 rfl 1 rfl ?_
        refine BT.getI fl_X5_24 ho_1 rfl dX5_readInto_50 ?_
        exact BT.iret dX5_readInto_53 rfl (by decide) (by decide) (((((h N1 g1).2 r2 N2 g2).1 c3).2 c6).2 c8)
  · have c4 := c
    refine BT.aload_n dX5_readInto_19 rfl 1 rfl ?_
    refine BT.bipush (v := 47) dX5_readInto_20 (by decide) ?_
    refine BT.mcV [.int 47] (t_X5_takes (((h N1 g1).2 r2 N2 g2).2 c4).1 (fun r10 N10 g10 => ?_)) mb_X5_takes mv_X5_takes lk_X5_31 rfl (by decide) rfl (recvRep ho_1 rfl) (Nat.le_of_ble_eq_true rfl) dX5_readInto_22
    show B_X5_readInto G K 25 [(2, .int r2), (0, .ref 1), (1, .ref 3)] [.int r10] N10
    refine BT.if_eq (tgt := 34) dX5_readInto_25 (by decide) (fun c => ?_) (fun c => ?_)
    · have c11 := c
      refine BT.iload_n dX5_readInto_34 rfl 0 rfl ?_
      refine BT.if_eq (tgt := 49) dX5_readInto_35 (by decide) (fun c => ?_) (fun c => ?_)
      · have c13 := c
        refine BT.aload_n dX5_readInto_49 rfl 1 rfl ?_
        refine BT.getI fl_X5_24 ho_1 rfl dX5_readInto_50 ?_
        exact BT.iret dX5_readInto_53 rfl (by decide) (by decide) ((((((h N1 g1).2 r2 N2 g2).2 c4).2 r10 N10 g10).1 c11).1 c13)
      · have c14 := c
        refine BT.aload_n dX5_readInto_38 rfl 1 rfl ?_
        refine BT.getI fl_X5_24 ho_1 rfl dX5_readInto_39 ?_
        refine BT.aload_n dX5_readInto_42 rfl 1 rfl ?_
        refine BT.getI fl_X5_15 ho_1 rfl dX5_readInto_43 ?_
        refine BT.icmp_ge (tgt := 54) dX5_readInto_46 (by decide) (fun c => ?_) (fun c => ?_)
        · have c15 := c
          refine BT.aload_n dX5_readInto_54 rfl 2 rfl ?_
          refine BT.mcVvp [] (t_X3_fitCases2 lawC_3 (((((((h N1 g1).2 r2 N2 g2).2 c4).2 r10 N10 g10).1 c11).2 c14).1 c15).1 (fun N hN => ⟨rfl, hN⟩)) mb_X3_fitCases mv_X3_fitCases lk_X5_38 rfl (by decide) rfl (recvRep ho_3 rfl) (Nat.le_of_ble_eq_true rfl) dX5_readInto_55 (P := fun N17 => LwFt N10 N17 3) (fun N17 g17 => ?_)
          show B_X5_readInto G K 58 [(2, .int r2), (0, .ref 1), (1, .ref 3)] [] N17
          refine BT.bipush (v := (-6)) dX5_readInto_58 (by decide) ?_
          exact BT.iret dX5_readInto_60 rfl (by decide) (by decide) ((((((((h N1 g1).2 r2 N2 g2).2 c4).2 r10 N10 g10).1 c11).2 c14).1 c15).2 N17 g17)
        · have c16 := c
          refine BT.aload_n dX5_readInto_49 rfl 1 rfl ?_
          refine BT.getI fl_X5_24 ho_1 rfl dX5_readInto_50 ?_
          exact BT.iret dX5_readInto_53 rfl (by decide) (by decide) (((((((h N1 g1).2 r2 N2 g2).2 c4).2 r10 N10 g10).1 c11).2 c14).2 c16)
    · have c12 := c
      refine BT.aload_n dX5_readInto_28 rfl 1 rfl ?_
      refine BT.aload_n dX5_readInto_29 rfl 2 rfl ?_
      refine BT.mcV [.ref 3] (t_X5_readWords (((((h N1 g1).2 r2 N2 g2).2 c4).2 r10 N10 g10).2 c12).1 (fun r18 N18 g18 => ?_)) mb_X5_readWords mv_X5_readWords lk_X5_35 rfl (by decide) rfl (recvRep ho_1 rfl) (Nat.le_of_ble_eq_true rfl) dX5_readInto_30
      show B_X5_readInto G K 33 [(2, .int r2), (0, .ref 1), (1, .ref 3)] [.int r18] N18
      refine BT.istore_n (L' := [(2, .int r18), (0, .ref 1), (1, .ref 3)]) dX5_readInto_33 rfl (by decide) rfl ?_
      refine BT.iload_n dX5_readInto_34 rfl 0 rfl ?_
      refine BT.if_eq (tgt := 49) dX5_readInto_35 (by decide) (fun c => ?_) (fun c => ?_)
      · have c19 := c
        refine BT.aload_n dX5_readInto_49 rfl 1 rfl ?_
        refine BT.getI fl_X5_24 ho_1 rfl dX5_readInto_50 ?_
        exact BT.iret dX5_readInto_53 rfl (by decide) (by decide) (((((((h N1 g1).2 r2 N2 g2).2 c4).2 r10 N10 g10).2 c12).2 r18 N18 g18).1 c19)
      · have c20 := c
        refine BT.aload_n dX5_readInto_38 rfl 1 rfl ?_
        refine BT.getI fl_X5_24 ho_1 rfl dX5_readInto_39 ?_
        refine BT.aload_n dX5_readInto_42 rfl 1 rfl ?_
        refine BT.getI fl_X5_15 ho_1 rfl dX5_readInto_43 ?_
        refine BT.icmp_ge (tgt := 54) dX5_readInto_46 (by decide) (fun c => ?_) (fun c => ?_)
        · have c21 := c
          refine BT.aload_n dX5_readInto_54 rfl 2 rfl ?_
          refine BT.mcVvp [] (t_X3_fitCases2 lawC_3 ((((((((h N1 g1).2 r2 N2 g2).2 c4).2 r10 N10 g10).2 c12).2 r18 N18 g18).2 c20).1 c21).1 (fun N hN => ⟨rfl, hN⟩)) mb_X3_fitCases mv_X3_fitCases lk_X5_38 rfl (by decide) rfl (recvRep ho_3 rfl) (Nat.le_of_ble_eq_true rfl) dX5_readInto_55 (P := fun N23 => LwFt N18 N23 3) (fun N23 g23 => ?_)
          show B_X5_readInto G K 58 [(2, .int r18), (0, .ref 1), (1, .ref 3)] [] N23
          refine BT.bipush (v := (-6)) dX5_readInto_58 (by decide) ?_
          exact BT.iret dX5_readInto_60 rfl (by decide) (by decide) (((((((((h N1 g1).2 r2 N2 g2).2 c4).2 r10 N10 g10).2 c12).2 r18 N18 g18).2 c20).1 c21).2 N23 g23)
        · have c22 := c
          refine BT.aload_n dX5_readInto_49 rfl 1 rfl ?_
          refine BT.getI fl_X5_24 ho_1 rfl dX5_readInto_50 ?_
          exact BT.iret dX5_readInto_53 rfl (by decide) (by decide) ((((((((h N1 g1).2 r2 N2 g2).2 c4).2 r10 N10 g10).2 c12).2 r18 N18 g18).2 c20).2 c22)

theorem t_X5_readInto {G : GT} {K : Int32 → Mem → Prop} {M : Mem} {E : ET} (hE : InPre E M) (h : ∀ (r : Int32) (N : Mem), InOut E N r → K r N) : T_X5_readInto G [.ref 1, .ref 3] M K := by
  obtain ⟨rfl, en, hn⟩ := hE
  have done : ∀ N, TextEnd E N → ((N.1 1 1) ≤ (N.1 1 2) → (∃ n, n ≤ 6 ∧ N.1 3 2 = nI n ∧ ∀ i, i < n → ∃ m, m < 32 ∧ N.1 (3 + 1) i = nI m) ∧ (∀ N9 : Mem, (LwFt N N9 3) → K (-6) N9)) ∧ (¬ (N.1 1 1) ≤ (N.1 1 2) → K (N.1 1 2) N) := by
    intro N hI
    obtain ⟨i, q, T, k, hP, hw, hs, hk, ek, hC, hW, hL⟩ := hI
    obtain ⟨⟨hn, hi, e1, e2⟩, -, hok, eq, eT⟩ := id hP
    have hle : (N.1 1 1) ≤ (N.1 1 2) ↔ i = E.2.1 := by
      rw [e1, e2, nI_leI (by omega) (by omega)]; omega
    rw [hle]
    refine ⟨fun c => ⟨⟨k, hk.2, hC.1, fun j hj => (hC.2 j hj).1⟩, fun N9 g9 => ?_⟩, fun c => h _ _ (hP.flt hs (fun z => absurd z c))⟩
    obtain ⟨f1, f2, f3⟩ := g9
    have hP9 := hP.chg (P := N9) (fun d hd => f1 d (by omega)) f2
    refine h _ _ ⟨hP9.frm, Or.inl ⟨rfl, ?_⟩⟩
    subst c
    refine ⟨hok, by rw [eq]; exact hw, k, hk, ?_, ?_, ?_, ?_, f3⟩
    · rw [eq, eT]; exact ek
    · rw [eT]; exact hC.same (by rw [f1 3 (by omega)]) (f1 4 (by omega)) (f1 5 (by omega))
    · rw [eT]; exact hW.same (fun j _ => by rw [f1 3 (by omega)])
    · rw [eT]; exact hL
  refine e_X5_readInto (k_X5_readInto_0 (E := E) (fun N1 g1 => ?_))
  obtain ⟨b1, b2, -, -, b3, b4, b5, b6, b7, b8, b9, b10, b11⟩ := g1
  have hP : PS E 0 (0, nI (0 + 1), -1, E.2.2.1, 0) ((0, E.2.2.2.1, E.2.2.2.2, 0), w_0) (m_i N1 1 2 0) := by
    refine ⟨⟨hn, Nat.zero_le _, ?_, m_i_at⟩, ⟨?_, fun c hc => ?_, b2⟩, fun j hj => ?_, rfl, rfl⟩
    · rw [m_i_ne (by omega), b1 1 (by omega), en]
    · rw [mi_off (by omega), b1 2 (by omega)]
    · rw [mi_off (by omega), b1 c (by omega)]
    · have : j = 0 := by omega
      subst this
      exact (by decide : (0 : Int32) ≤ 0)
  have hpre : MkPre E (m_i N1 1 2 0) := ⟨0, 0, E.2.2.1, _, hP, by omega, rfl, rfl, rfl, ⟨(m_i_ne (by omega)).trans b3, fun j hj => absurd hj (Nat.not_lt_zero j)⟩, ⟨(m_i_ne (by omega)).trans b4, (m_i_ne (by omega)).trans b5, (m_i_ne (by omega)).trans b6, (m_i_ne (by omega)).trans b7, (m_i_ne (by omega)).trans b8, (m_i_ne (by omega)).trans b9, (m_i_ne (by omega)).trans b10, (m_i_ne (by omega)).trans b11⟩⟩
  refine ⟨⟨hpre, (m_i_ne (by omega)).trans b3⟩, fun r2 N2 g2 => ?_⟩
  rcases g2 with ⟨rfl, hF⟩ | ⟨rfl, k, i, s, mN, lN, T, hP2, hs, hk, r1, r2, r3, r4, r5, r6, r7⟩
  · exact ⟨fun _ => ⟨fun _ => h _ _ hF.flt, fun c => absurd rfl c⟩, fun c => absurd rfl c⟩
  · refine ⟨fun c => absurd c (by decide), fun _ => ⟨hP2.ok, fun r10 N10 g10 => ?_⟩⟩
    have step : ∀ c, (s = 4 → ¬ dgB c) → q_step (s, nI k, mN, lN, 0) c = q_gift c (s, nI k, mN, lN, 0) := by
      intro c hc
      rcases hs with rfl | rfl
      · rw [q_s4, if_neg (hc rfl)]
      · rw [q_s5]
    rcases g10 with ⟨rfl, hc, rfl⟩ | ⟨rfl, hc, rfl⟩
    · refine ⟨fun c => absurd c (by decide), fun _ => ?_⟩
      have hP3 := hP2.adv hc (q' := (8, nI k, mN, lN, 0)) (by
        rw [step 47 (fun _ => by decide)]
        unfold q_gift
        rw [if_neg (fun z => absurd z.1 (by decide)), if_pos rfl]) (of_decide_eq_true rfl) (T' := ((T.1.1 + 1, T.1.2), T.2)) rfl
      refine ⟨⟨_, _, _, hP3, rfl, ?_, ?_, ?_, ?_⟩, fun r18 N18 g18 => ?_⟩
      · show 1 ≤ T.1.1 + 1 ∧ T.1.1 + 1 ≤ 6
        omega
      · show CR _ (T.1.1 + 1) _ _
        rw [r1]; exact r4.adv
      · show WR _ T.2
        rw [r3]; exact r5.adv
      · show LT T.2
        rw [r3]; exact LT_0
      · rcases g18 with ⟨rfl, hF⟩ | ⟨rfl, hI⟩
        · exact ⟨fun _ => h _ _ hF.flt, fun c => absurd rfl c⟩
        · exact ⟨fun c => absurd c (by decide), fun _ => done N18 hI⟩
    · refine ⟨fun _ => ⟨fun c => absurd c (by decide), fun _ => done _ ⟨i, _, T, k, hP2, ?_, ?_, hk, ?_, r4, ?_, ?_⟩⟩, fun c => absurd rfl c⟩
      · rcases hs with rfl | rfl
        · exact qw_4
        · exact qw_5
      · rw [hP2.nx] at hc
        rw [step _ r6]
        unfold q_gift
        rw [if_neg, if_neg hc]
        · exact m1_lt
        · rintro ⟨z1, z2⟩
          rw [r7 z1] at z2
          exact absurd z2 (show ¬ nI 6 < 6 by decide)
      · show k = T.1.1 + (if (0 : Int32) = 0 then 1 else 0)
        rw [if_pos rfl, r1]
      · rw [r3]; exact r5
      · rw [r3]; exact LT_0

