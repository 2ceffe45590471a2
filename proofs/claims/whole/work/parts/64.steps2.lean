/-! ===== 64.steps2 ===== -/
/-! BetweenLaws.move(III)I -/
abbrev rm_X10_move : Room := { frames := 1, cells := 0, slots := 0, locals := 22 }
abbrev B_X10_move (G : GT) (K : Int32 → Mem → Prop) := BT G (Rep G) RX10 "move" cX10_move 6 (some .int) rm_X10_move K 0 0
abbrev T_X10_move (G : GT) (as : List Value) (M : Mem) (K : Int32 → Mem → Prop) : Prop := MT G (Rep G) yX10_move cX10_move 6 (some .int) rm_X10_move as M K
theorem e_X10_move {G : GT} {K : Int32 → Mem → Prop} {M : Mem} {v1 : Int32} {v2 : Int32} {v3 : Int32} (h : B_X10_move G K 0 [(0, .ref 0), (1, .int v1), (2, .int v2), (3, .int v3)] [] M) : T_X10_move G [.ref 0, .int v1, .int v2, .int v3] M K := MT.of (by decide +kernel) rfl rfl (Nat.le_of_ble_eq_true rfl) rfl h
set_option maxRecDepth 4000 in
theorem k_X10_move_0 {G : GT} {K : Int32 → Mem → Prop} {M : Mem} {v1 : Int32} {v2 : Int32} {v3 : Int32} (h : (((0 : Int32) ≤ v1 ∧ v1 < (M.1 8 1)) → ((0 ≤ v2 ∧ v2 ≤ 1) → (vp_in v1 8) ∧ (¬ v2 = 0 → B_X10_move G K 53 [(0, .ref 0), (2, .int v2), (3, .int v3), (4, .ref (10 + 5 * (Int32.toNatClampNeg v1)))] [.int (M.1 (10 + 5 * (Int32.toNatClampNeg v1)) 1)] M) ∧ (v2 = 0 → B_X10_move G K 53 [(0, .ref 0), (2, .int v2), (3, .int v3), (4, .ref (10 + 5 * (Int32.toNatClampNeg v1)))] [.int (M.1 (10 + 5 * (Int32.toNatClampNeg v1)) 0)] M)) ∧ (¬ (0 ≤ v2 ∧ v2 ≤ 1) → K (-2) M)) ∧ (¬ ((0 : Int32) ≤ v1 ∧ v1 < (M.1 8 1)) → K (-1) M)) : B_X10_move G K 0 [(0, .ref 0), (1, .int v1), (2, .int v2), (3, .int v3)] [] M := by
  refine BT.aload_n dX10_move_0 rfl 0 rfl ?_
  refine BT.getR (r := 8) fl_X10_26 ho_0 rfl dX10_move_1 ?_
  refine BT.iload_n dX10_move_4 rfl 1 rfl ?_
  refine BT.mcV [.int v1] (t_X9_hasLaw  ?_) mb_X9_hasLaw mv_X9_hasLaw lk_X10_111 rfl (by decide) rfl (recvRep ho_8 rfl) (Nat.le_of_ble_eq_true rfl) dX10_move_5
  show B_X10_move G K 8 [(0, .ref 0), (1, .int v1), (2, .int v2), (3, .int v3)] [.int (bi ((0 : Int32) ≤ v1 ∧ v1 < (M.1 8 1)))] M
  refine BT.if_ne (tgt := 13) dX10_move_8 (by decide) (fun c => ?_) (fun c => ?_)
  · have c2 := bi_ne0.mp c
    refine BT.iload_n dX10_move_13 rfl 2 rfl ?_
    refine BT.iconst (v := 0) dX10_move_14 (by decide) ?_
    refine BT.iconst (v := 1) dX10_move_15 (by decide) ?_
    refine BT.mcS [.int v2, .int 0, .int 1] (t_X10_within  ?_) mb_X10_within ms_X10_within lk_X10_82 rfl (by decide) rfl (Nat.le_of_ble_eq_true rfl) dX10_move_16
    show B_X10_move G K 19 [(0, .ref 0), (1, .int v1), (2, .int v2), (3, .int v3)] [.int (bi (0 ≤ v2 ∧ v2 ≤ 1))] M
    refine BT.if_ne (tgt := 25) dX10_move_19 (by decide) (fun c => ?_) (fun c => ?_)
    · have c5 := bi_ne0.mp c
      refine BT.aload_n dX10_move_25 rfl 0 rfl ?_
      refine BT.getR (r := 8) fl_X10_26 ho_0 rfl dX10_move_26 ?_
      refine BT.getR (r := 9) fl_X10_114 ho_8 rfl dX10_move_29 ?_
      refine BT.iload_n dX10_move_32 rfl 1 rfl ?_
      refine BT.aald ha_9 (by decide) ((h.1 c2).1 c5).1 dX10_move_33 ?_
      refine BT.astore (L' := [(4, .ref (10 + 5 * (Int32.toNatClampNeg v1))), (0, .ref 0), (1, .int v1), (2, .int v2), (3, .int v3)]) dX10_move_34 (by decide) rfl ?_
      refine BT.iload_n dX10_move_36 rfl 3 rfl ?_
      refine BT.if_ne (tgt := 48) dX10_move_37 (by decide) (fun c => ?_) (fun c => ?_)
      · have c7 := c
        refine BT.aload dX10_move_48 0 rfl ?_
        refine BT.getI fl_X10_128 (lawC8 ((h.1 c2).1 c5).1).1 rfl dX10_move_50 ?_
        refine BT.sub [1, 3, 4, 0] rfl ?_
        exact (((h.1 c2).1 c5).2.1 c7)
      · have c8 := c
        refine BT.aload dX10_move_40 0 rfl ?_
        refine BT.getI fl_X10_125 (lawC8 ((h.1 c2).1 c5).1).1 rfl dX10_move_42 ?_
        refine BT.goto (tgt := 53) dX10_move_45 (by decide) ?_
        refine BT.sub [1, 3, 4, 0] rfl ?_
        exact (((h.1 c2).1 c5).2.2 c8)
    · have c6 := bi_eq0.mp c
      refine BT.bipush (v := (-2)) dX10_move_22 (by decide) ?_
      exact BT.iret dX10_move_24 rfl (by decide) (by decide) ((h.1 c2).2 c6)
  · have c3 := bi_eq0.mp c
    refine BT.iconst (v := (-1)) dX10_move_11 (by decide) ?_
    exact BT.iret dX10_move_12 rfl (by decide) (by decide) (h.2 c3)
set_option maxRecDepth 4000 in
theorem k_X10_move_53 {G : GT} {K : Int32 → Mem → Prop} {M : Mem} {v2 : Int32} {v3 : Int32} {a4 : Nat} {s0 : Int32} (ha4 : LawC a4) (h : (¬ v2 = 0 → ((((M.1 a4 0) + 1) ≤ v3 ∧ v3 ≤ 100) → (∀ N6 : Mem, N6 = (m_i M a4 1 v3) → B_X10_move G K 111 [(0, .ref 0), (5, .int s0)] [] N6)) ∧ (¬ (((M.1 a4 0) + 1) ≤ v3 ∧ v3 ≤ 100) → K (-2) M)) ∧ (v2 = 0 → ((0 ≤ v3 ∧ v3 ≤ ((M.1 a4 1) - 1)) → (∀ N10 : Mem, N10 = (m_i M a4 0 v3) → B_X10_move G K 111 [(0, .ref 0), (5, .int s0)] [] N10)) ∧ (¬ (0 ≤ v3 ∧ v3 ≤ ((M.1 a4 1) - 1)) → K (-2) M))) : B_X10_move G K 53 [(0, .ref 0), (2, .int v2), (3, .int v3), (4, .ref a4)] [.int s0] M := by
  refine BT.istore (L' := [(5, .int s0), (0, .ref 0), (2, .int v2), (3, .int v3), (4, .ref a4)]) dX10_move_53 (by decide) rfl ?_
  refine BT.iload_n dX10_move_55 rfl 2 rfl ?_
  refine BT.if_ne (tgt := 86) dX10_move_56 (by decide) (fun c => ?_) (fun c => ?_)
  · have c1 := c
    refine BT.iload_n dX10_move_86 rfl 3 rfl ?_
    refine BT.aload dX10_move_87 4 rfl ?_
    refine BT.getI fl_X10_125 ha4.1 rfl dX10_move_89 ?_
    refine BT.iconst (v := 1) dX10_move_92 (by decide) ?_
    refine BT.iadd dX10_move_93 ?_
    refine BT.bipush (v := 100) dX10_move_94 (by decide) ?_
    refine BT.mcS [.int v3, .int ((M.1 a4 0) + 1), .int 100] (t_X10_within  ?_) mb_X10_within ms_X10_within lk_X10_82 rfl (by decide) rfl (Nat.le_of_ble_eq_true rfl) dX10_move_96
    show B_X10_move G K 99 [(5, .int s0), (0, .ref 0), (2, .int v2), (3, .int v3), (4, .ref a4)] [.int (bi (((M.1 a4 0) + 1) ≤ v3 ∧ v3 ≤ 100))] M
    refine BT.if_ne (tgt := 105) dX10_move_99 (by decide) (fun c => ?_) (fun c => ?_)
    · have c4 := bi_ne0.mp c
      refine BT.aload dX10_move_105 4 rfl ?_
      refine BT.iload_n dX10_move_107 rfl 3 rfl ?_
      refine BT.putI fl_X10_128 ft_3_1 ha4.1 rfl dX10_move_108 ?_
      refine BT.topm (fun N6 f6 => ?_)
      refine BT.sub [1, 0] rfl ?_
      exact (((h.1 c1).1 c4) N6 f6)
    · have c5 := bi_eq0.mp c
      refine BT.bipush (v := (-2)) dX10_move_102 (by decide) ?_
      exact BT.iret dX10_move_104 rfl (by decide) (by decide) ((h.1 c1).2 c5)
  · have c2 := c
    refine BT.iload_n dX10_move_59 rfl 3 rfl ?_
    refine BT.iconst (v := 0) dX10_move_60 (by decide) ?_
    refine BT.aload dX10_move_61 4 rfl ?_
    refine BT.getI fl_X10_128 ha4.1 rfl dX10_move_63 ?_
    refine BT.iconst (v := 1) dX10_move_66 (by decide) ?_
    refine BT.isub dX10_move_67 ?_
    refine BT.mcS [.int v3, .int 0, .int ((M.1 a4 1) - 1)] (t_X10_within  ?_) mb_X10_within ms_X10_within lk_X10_82 rfl (by decide) rfl (Nat.le_of_ble_eq_true rfl) dX10_move_68
    show B_X10_move G K 71 [(5, .int s0), (0, .ref 0), (2, .int v2), (3, .int v3), (4, .ref a4)] [.int (bi (0 ≤ v3 ∧ v3 ≤ ((M.1 a4 1) - 1)))] M
    refine BT.if_ne (tgt := 77) dX10_move_71 (by decide) (fun c => ?_) (fun c => ?_)
    · have c8 := bi_ne0.mp c
      refine BT.aload dX10_move_77 4 rfl ?_
      refine BT.iload_n dX10_move_79 rfl 3 rfl ?_
      refine BT.putI fl_X10_125 ft_3_0 ha4.1 rfl dX10_move_80 ?_
      refine BT.topm (fun N10 f10 => ?_)
      refine BT.goto (tgt := 111) dX10_move_83 (by decide) ?_
      refine BT.sub [1, 0] rfl ?_
      exact (((h.2 c2).1 c8) N10 f10)
    · have c9 := bi_eq0.mp c
      refine BT.bipush (v := (-2)) dX10_move_74 (by decide) ?_
      exact BT.iret dX10_move_76 rfl (by decide) (by decide) ((h.2 c2).2 c9)
set_option maxRecDepth 4000 in
theorem k_X10_move_111 {G : GT} {K : Int32 → Mem → Prop} {M : Mem} {v5 : Int32} (h : (M.1 8 1 = nI (w_n (wv M)) ∧ w_n (wv M) ≤ 8) ∧ (∀ N1 : Mem, ((∀ d, ¬ d = 50 → N1.1 d = M.1 d) ∧ N1.2 = M.2 ∧ LfTo M.1 (N1.1 50) (w_n (wv M))) → K v5 N1)) : B_X10_move G K 111 [(0, .ref 0), (5, .int v5)] [] M := by
  refine BT.aload_n dX10_move_111 rfl 0 rfl ?_
  refine BT.getR (r := 8) fl_X10_26 ho_0 rfl dX10_move_112 ?_
  refine BT.mcVvp [] (t_X9_orderLaws h.1 (fun N hN => ⟨rfl, hN⟩)) mb_X9_orderLaws mv_X9_orderLaws lk_X10_131 rfl (by decide) rfl (recvRep ho_8 rfl) (Nat.le_of_ble_eq_true rfl) dX10_move_115 (P := fun N1 => (∀ d, ¬ d = 50 → N1.1 d = M.1 d) ∧ N1.2 = M.2 ∧ LfTo M.1 (N1.1 50) (w_n (wv M))) (fun N1 g1 => ?_)
  show B_X10_move G K 118 [(0, .ref 0), (5, .int v5)] [] N1
  refine BT.iload dX10_move_118 1 rfl ?_
  exact BT.iret dX10_move_120 rfl (by decide) (by decide) (h.2 N1 g1)

theorem one01 {v : Int32} (h : (0 : Int32) ≤ v ∧ v ≤ 1) (h0 : ¬ v = 0) : v = 1 := by
  obtain ⟨i, hi, ei⟩ := i_nat (x := v) (N := 2) (by decide) h.1 (Int32.lt_of_le_of_lt h.2 (by decide))
  match i, hi with
  | 0, _ => exact absurd ei h0
  | 1, _ => exact ei
/-- N is M with one end of the force of the law at c moved, and the laws put in order -/
def MvN (M N : Mem) (c k : Nat) (v : Int32) : Prop := (∀ d, ¬ d = 50 → N.1 d = (m_i M c k v).1 d) ∧ N.2 = M.2 ∧ LfTo N.1 (N.1 50) (w_n (wv M))
theorem t_X10_move {G : GT} {K : Int32 → Mem → Prop} {M : Mem} {v1 v2 v3 : Int32} (hw : WOk (wv M)) (h1 : ¬ ((0 : Int32) ≤ v1 ∧ v1 < wv M 8 1) → K (-1) M) (h2 : ((0 : Int32) ≤ v1 ∧ v1 < wv M 8 1) → ¬ mvOk (wv M) (plw v1) v2 v3 → K (-2) M) (hok : ((0 : Int32) ≤ v1 ∧ v1 < wv M 8 1) → mvOk (wv M) (plw v1) v2 v3 → ∀ N, MvN M N (plw v1) (Int32.toNatClampNeg v2) v3 → K (wv M (plw v1) (Int32.toNatClampNeg v2)) N) : T_X10_move G [.ref 0, .int v1, .int v2, .int v3] M K := by
  refine e_X10_move (k_X10_move_0 ?_)
  rw [← wv_at (M := M) (c := 8) (k := 1) (by decide)]
  have end_ : ∀ (s : Int32) (k : Nat), Int32.toNatClampNeg v1 < 8 → (∀ N, MvN M N (plw v1) k v3 → K s N) → ∀ N6, N6 = m_i M (plw v1) k v3 → B_X10_move G K 111 [(0, .ref 0), (5, .int s)] [] N6 := by
    rintro s k i2 hK N6 rfl
    obtain ⟨⟨hn, h8⟩, -⟩ := hw
    have e8 : (m_i M (plw v1) k v3).1 8 1 = wv M 8 1 := by rw [m_i_ne (show ¬ (8 = 10 + 5 * Int32.toNatClampNeg v1 ∧ 1 = k) by omega), wv_at (by decide)]
    have en : w_n (wv (m_i M (plw v1) k v3)) = w_n (wv M) := by
      unfold w_n
      rw [wv_at (by decide), e8]
    refine k_X10_move_111 ⟨⟨by rw [e8, en]; exact hn, by omega⟩, fun N1 g1 => hK N1 ⟨g1.1, g1.2.1, ?_⟩⟩
    rw [en] at g1
    exact LfTo_congr h8 (fun l hl => by rw [g1.1 _ (by omega)]) g1.2.2
  refine ⟨fun c => ?_, fun c => h1 c⟩
  obtain ⟨i1, i2, i3⟩ := lw_ix hw c
  have h2 := h2 c
  have hok := hok c
  have e : ∀ k, wv M (plw v1) k = M.1 (10 + 5 * Int32.toNatClampNeg v1) k := fun k => wv_at (c := 10 + 5 * Int32.toNatClampNeg v1) (by omega)
  have vl := vp8 i2 i3
  refine ⟨fun c2 => ⟨vl, fun c3 => ?_, fun c3 => ?_⟩, fun c2 => h2 ?_⟩
  · have e1 := one01 c2 c3
    subst e1
    refine k_X10_move_53 (lawC8 vl) ⟨fun _ => ⟨fun c4 => ?_, fun c4 => h2 ?_⟩, fun z => absurd z c3⟩
    · have c5 : mvOk (wv M) (plw v1) 1 v3 := Or.inr ⟨rfl, by rw [e]; exact c4⟩
      have hok := hok c5
      rw [e] at hok
      exact end_ _ 1 i2 hok
    · rintro (z | z)
      · exact absurd z.1 (by decide)
      · rw [e] at z; exact c4 z.2
  · subst c3
    refine k_X10_move_53 (lawC8 vl) ⟨fun z => absurd rfl z, fun _ => ⟨fun c4 => ?_, fun c4 => h2 ?_⟩⟩
    · have c5 : mvOk (wv M) (plw v1) 0 v3 := Or.inl ⟨rfl, by rw [e]; exact c4⟩
      have hok := hok c5
      rw [e] at hok
      exact end_ _ 0 i2 hok
    · rintro (z | z)
      · rw [e] at z; exact c4 z.2
      · exact absurd z.1 (by decide)
  · rintro (z | z)
    · exact c2 (by rw [z.1]; decide)
    · exact c2 (by rw [z.1]; decide)

/-! ===== calls that change something ===== -/
theorem LW_tx {V W Z Y : WT} {l : Nat} (h : LW W Z l) (e : TxEq V (10 + 5 * l) W (10 + 5 * l)) (a0 : ∃ a, a < 100 ∧ V (10 + 5 * l) 0 = nI a) (b0 : ∃ b, (1 ≤ b ∧ b ≤ 100) ∧ V (10 + 5 * l) 1 = nI b) (z0 : Y 177 l = V (10 + 5 * l) 0) (z1 : Y 178 l = V (10 + 5 * l) 1) (ez : ∀ c, c = 179 ∨ (182 ≤ c ∧ c ≤ 188) → Y c l = Z c l) (ez2 : ∀ k, k < 6 → Y 180 (6 * l + k) = Z 180 (6 * l + k) ∧ Y 181 (6 * l + k) = Z 181 (6 * l + k)) : LW V Y l := by
  obtain ⟨⟨-, -, h1, h1'⟩, h2, h3, ⟨-, -, a2, a3, a4, a5, a6, a7, a8, a9⟩, h5⟩ := h
  refine ⟨⟨a0, b0, CasesW_eq h1 e, FitW_eq h1 h1' e⟩, LawT_eq h2 e, ?_, ?_, fun k hk => ?_⟩
  · obtain ⟨⟨e2, e7, e8, e9, -⟩, -, -⟩ := e
    rw [e7, e9]; exact h3
  · obtain ⟨⟨e2, e7, e8, e9, e10, e11, e12, e13, e14⟩, -, -⟩ := e
    rw [e2, e7, e8, e10, e11, e12, e13, e14, ez 179 (by omega), ez 182 (by omega), ez 183 (by omega), ez 184 (by omega), ez 185 (by omega), ez 186 (by omega), ez 187 (by omega), ez 188 (by omega)]
    exact ⟨z0, z1, a2, a3, a4, a5, a6, a7, a8, a9⟩
  · obtain ⟨n, hn, en, -⟩ := h1
    rw [e.1.1, en, ix_nI (by omega)] at hk
    rw [en, ix_nI (by omega)] at h5
    rw [(ez2 k (by omega)).1, (ez2 k (by omega)).2, (e.2.1 k (by omega)).1, (e.2.1 k (by omega)).2]
    exact h5 k hk
theorem LW_same {V W Z Y : WT} {l : Nat} (h : LW W Z l) (e : ∀ d, 10 + 5 * l ≤ d → d ≤ 14 + 5 * l → V d = W d) (ez : ∀ c, (177 ≤ c ∧ c ≤ 179) ∨ (182 ≤ c ∧ c ≤ 188) → Y c l = Z c l) (ez2 : ∀ k, k < 6 → Y 180 (6 * l + k) = Z 180 (6 * l + k) ∧ Y 181 (6 * l + k) = Z 181 (6 * l + k)) : LW V Y l := by
  have e0 : V (10 + 5 * l) = W (10 + 5 * l) := e _ (by omega) (by omega)
  refine LW_tx h (LwEq.same (fun d h1 h2 => e d h1 (by omega))).1 ?_ ?_ ?_ ?_ (fun c hc => ez c (by omega)) ez2
  · rw [e0]; exact h.1.1
  · rw [e0]; exact h.1.2.1
  · rw [e0, ez 177 (by omega)]; exact h.2.2.2.1.1
  · rw [e0, ez 178 (by omega)]; exact h.2.2.2.1.2.1
theorem PCw_same {V W Z Y : WT} {p : Nat} (h : PCw W Z p) (e : V (52 + p) = W (52 + p)) (ez : ∀ c, (189 ≤ c ∧ c ≤ 193) → Y c p = Z c p) : PCw V Y p := by
  unfold PCw PW BOk at *
  rw [e, ez 189 (by omega), ez 190 (by omega), ez 191 (by omega), ez 192 (by omega), ez 193 (by omega)]
  exact h
theorem Tells_gen {V Y : WT} {n p : Nat} (e1 : V 8 1 = nI n) (hn : n ≤ 8) (e4 : V 8 4 = nI p) (hp : p ≤ 8) (h7 : V 8 7 = 0 ∨ V 8 7 = 1) (hL : LfTo V (V 50) n) (hl : ∀ l, l < n → LW V Y l) (hq : ∀ q, q < p → PCw V Y q) (z1 : Y 175 18 = V 8 1) (z2 : Y 175 26 = V 8 4) (z3 : Y 175 27 = V 8 5) (z4 : Y 175 28 = V 8 6) (z5 : Y 175 29 = V 8 7) : Tells V Y := by
  have en : w_n V = n := by unfold w_n; rw [e1, ix_nI (by omega)]
  have ep : w_p V = p := by unfold w_p; rw [e4, ix_nI (by omega)]
  unfold Tells
  rw [en, ep]
  exact ⟨⟨⟨e1, hn⟩, ⟨e4, hp⟩, h7, hL⟩, hl, hq, z1, z2, z3, z4, z5⟩
theorem INV.keep {M N : Mem} (h : INV M) (hT : Tells (wv N) N.1) (h19 : N.1 175 19 = M.1 175 19) (h20 : N.1 175 20 = M.1 175 20) (hpad : ∃ n, n ≤ 60 ∧ N.1 1 1 = nI n ∧ N.1 175 1 = nI n ∧ N.1 2 = N.1 176) (hI : ∀ c, (60 ≤ c ∧ c ≤ 165) ∨ c = 197 ∨ c = 198 → N.1 c = M.1 c) : INV N := by
  obtain ⟨-, ⟨a, b⟩, -, hi⟩ := h
  refine ⟨hT, ⟨h19.trans a, h20.trans b⟩, hpad, fun w hw => ?_⟩
  obtain ⟨i1, i2, i3⟩ := hi w hw
  rw [hI 165 (by omega), hI 198 (by omega), hI 197 (by omega)]
  refine ⟨i1, i2, fun q => ?_⟩
  refine Tells_eq (i3 q) (fun k hk => ?_) (fun i hi => ?_) (fun l hl => LwEq.same (fun d h1 h2 => ?_)) (fun p hp k hk => ?_) (fun c k _ => rfl)
  · rw [iw_at (by omega), iw_at (by omega), hI _ (by omega)]
  · rw [iw_at (by omega), iw_at (by omega), hI _ (by omega)]
  · have := (i3 q).1.1.2
    funext k
    rw [iw_at (by omega), iw_at (by omega), hI _ (by omega)]
  · have := (i3 q).1.2.1.2
    rw [iw_at (by omega), iw_at (by omega), hI _ (by omega)]
theorem INV.pd {M N : Mem} (h : INV M) (e1 : N.1 1 1 = M.1 1 1) (e2 : N.1 2 = M.1 2) (e3 : N.1 175 1 = M.1 175 1) (e4 : N.1 176 = M.1 176) : ∃ n, n ≤ 60 ∧ N.1 1 1 = nI n ∧ N.1 175 1 = nI n ∧ N.1 2 = N.1 176 := by
  obtain ⟨-, -, ⟨n, hn, a1, a2, a3⟩, -⟩ := h
  exact ⟨n, hn, e1.trans a1, e3.trans a2, by rw [e2, e4, a3]⟩
theorem INV.rg2 {M N : Mem} (h : INV M) (e : ∀ c, 175 ≤ c → N.1 c = M.1 c) : RG (wv M) N := (h.1.mem e).rg (by rw [e 175 (by decide)]; exact h.2.1.1)
theorem INV.rp2 {M N : Mem} (h : INV M) (e : ∀ c, 175 ≤ c → N.1 c = M.1 c) : RP (wv M) N := (h.1.mem e).rp

theorem s_say {G : GT} {M : Mem} {v1 : Int32} (hI : INV M) : T_X10_say G [.ref 0, .int v1] M (fun r N => T_X11_say G [.ref 175, .int v1] N (fun r' P => r' = r ∧ INV P)) := by
  obtain ⟨-, -, ⟨n, hn, e1, e2, e3⟩, -⟩ := id hI
  refine t_X10_say ⟨hn, e1⟩ (fun c => t_X11_say ⟨hn, e2⟩ (fun _ => ⟨rfl, hI⟩) (fun z => absurd z c) (fun z => absurd z c)) (fun c c2 => t_X11_say ⟨hn, e2⟩ (fun z => absurd c z) (fun _ _ => ⟨rfl, hI⟩) (fun _ z => absurd z (by omega))) (fun c c2 => t_X11_say (n := n) ⟨hn, ?_⟩ (fun z => absurd c z) (fun _ z => absurd z (by omega)) (fun _ _ => ⟨rfl, ?_⟩))
  · rw [m_i_ne (by omega), m_i_ne (by omega)]; exact e2
  · have hT := hI.1
    have hn8 := hT.1.1.2
    have hp8 := hT.1.2.1.2
    have f : ∀ c, ¬ (c = 1 ∨ c = 2 ∨ c = 175 ∨ c = 176) → (m_i (m_i (m_i (m_i M 2 n v1) 1 1 (nI (n + 1))) 176 n v1) 175 1 (nI (n + 1))).1 c = M.1 c := fun c hc => by
      rw [mi_off (by omega), mi_off (by omega), mi_off (by omega), mi_off (by omega)]
    have f5 : ∀ k, ¬ k = 1 → (m_i (m_i (m_i (m_i M 2 n v1) 1 1 (nI (n + 1))) 176 n v1) 175 1 (nI (n + 1))).1 175 k = M.1 175 k := fun k hk => by
      rw [m_i_ne (by omega), mi_off (by omega), mi_off (by omega), mi_off (by omega)]
    refine hI.keep (Tells_eq hT (fun k _ => ?_) (fun i _ => ?_) (fun l _ => LwEq.same (fun d h1 h2 => ?_)) (fun p _ k _ => ?_) (fun c k hc => ?_)) (f5 19 (by decide)) (f5 20 (by decide)) ⟨n + 1, by omega, ?_, m_i_at, ?_⟩ (fun c hc => f c (by omega))
    · rw [wv_at (by omega), wv_at (by omega), f 8 (by omega)]
    · rw [wv_at (by omega), wv_at (by omega), f 50 (by omega)]
    · funext k
      rw [wv_at (by omega), wv_at (by omega), f d (by omega)]
    · rw [wv_at (by omega), wv_at (by omega), f _ (by omega)]
    · unfold PkR at hc
      by_cases a : c = 175
      · subst a; exact f5 k (by omega)
      · rw [f c (by omega)]
    · rw [m_i_ne (by omega), m_i_ne (by omega), m_i_at]
    · funext j
      rw [m_i_ne (by omega), m_i_ne (by omega), m_i_ne (by omega), m_i_ne (show ¬ (176 = 175 ∧ j = 1) by omega)]
      by_cases z : j = n
      · rw [z, m_i_at, m_i_at]
      · rw [m_i_ne (by omega), m_i_ne (by omega), m_i_ne (by omega), m_i_ne (by omega), e3]
theorem s_wipe {G : GT} {M : Mem} (hI : INV M) : T_X10_wipe G [.ref 0] M (fun r N => T_X11_wipe G [.ref 175] N (fun r' P => r' = r ∧ INV P)) := by
  obtain ⟨-, -, ⟨n, hn, e1, e2, e3⟩, -⟩ := id hI
  refine t_X10_wipe (t_X11_wipe ⟨?_, ?_⟩)
  · rw [m_i_ne (by omega), e1, e2]
  · have hT := hI.1
    have hn8 := hT.1.1.2
    have hp8 := hT.1.2.1.2
    have f : ∀ c, ¬ (c = 1 ∨ c = 175) → (m_i (m_i M 1 1 0) 175 1 0).1 c = M.1 c := fun c hc => by
      rw [mi_off (by omega), mi_off (by omega)]
    have f5 : ∀ k, ¬ k = 1 → (m_i (m_i M 1 1 0) 175 1 0).1 175 k = M.1 175 k := fun k hk => by
      rw [m_i_ne (by omega), mi_off (by omega)]
    refine hI.keep (Tells_eq hT (fun k _ => ?_) (fun i _ => ?_) (fun l _ => LwEq.same (fun d h1 h2 => ?_)) (fun p _ k _ => ?_) (fun c k hc => ?_)) (f5 19 (by decide)) (f5 20 (by decide)) ⟨0, by omega, ?_, m_i_at, ?_⟩ (fun c hc => f c (by omega))
    · rw [wv_at (by omega), wv_at (by omega), f 8 (by omega)]
    · rw [wv_at (by omega), wv_at (by omega), f 50 (by omega)]
    · funext k
      rw [wv_at (by omega), wv_at (by omega), f d (by omega)]
    · rw [wv_at (by omega), wv_at (by omega), f _ (by omega)]
    · unfold PkR at hc
      by_cases a : c = 175
      · subst a; exact f5 k (by omega)
      · rw [f c (by omega)]
    · rw [m_i_ne (by omega), m_i_at]; rfl
    · rw [f 2 (by omega), f 176 (by omega), e3]
theorem s_set {G : GT} {M : Mem} {v1 v2 : Int32} (hI : INV M) : T_X10_set G [.ref 0, .int v1, .int v2] M (fun r N => T_X11_set G [.ref 175, .int v1, .int v2] N (fun r' P => r' = r ∧ INV P)) := by
  refine t_X10_set (fun c => t_X11_set (fun _ => ⟨rfl, hI⟩) (fun z => absurd z c)) (fun c => t_X11_set (fun z => absurd c z) (fun _ => ?_))
  have hT := hI.1
  obtain ⟨⟨⟨n1, hn8⟩, ⟨p1, hp8⟩, h7, hL⟩, hl, hp, z1, z2, z3, z4, z5⟩ := id hT
  obtain ⟨i, hi, ei⟩ := i_nat (x := v1) (N := 3) (by decide) c.1.1 (Int32.lt_of_le_of_lt c.1.2 (by decide))
  rw [ei, ix_nI (by omega)]
  have f : ∀ c, ¬ (c = 8 ∨ c = 175) → (m_i (m_i M 8 (5 + i) v2) 175 (27 + i) v2).1 c = M.1 c := fun c hc => by
    rw [mi_off (by omega), mi_off (by omega)]
  have f5 : ∀ k, ¬ k = 27 + i → (m_i (m_i M 8 (5 + i) v2) 175 (27 + i) v2).1 175 k = M.1 175 k := fun k hk => by
    rw [m_i_ne (by omega), mi_off (by omega)]
  have f8 : ∀ k, ¬ k = 5 + i → (m_i (m_i M 8 (5 + i) v2) 175 (27 + i) v2).1 8 k = M.1 8 k := fun k hk => by
    rw [mi_off (by omega), m_i_ne (by omega)]
  have g5 : (m_i (m_i M 8 (5 + i) v2) 175 (27 + i) v2).1 175 (27 + i) = v2 := m_i_at
  have g8 : (m_i (m_i M 8 (5 + i) v2) 175 (27 + i) v2).1 8 (5 + i) = v2 := by rw [mi_off (by omega), m_i_at]
  have wm : ∀ k, wv M 8 k = M.1 8 k := fun k => wv_at (by decide)
  refine ⟨?_, ?_⟩
  · rw [mi_off (by omega)]
    match i, hi with
    | 0, _ => exact z3.trans (wm 5)
    | 1, _ => exact z4.trans (wm 6)
    | 2, _ => exact z5.trans (wm 7)
  · have h01 : v2 = 0 ∨ v2 = 1 := by
      by_cases q : v2 = 0
      · exact Or.inl q
      · exact Or.inr (one01 c.2 q)
    rw [wm] at n1 p1 h7
    have e : ∀ k, wv (m_i (m_i M 8 (5 + i) v2) 175 (27 + i) v2) 8 k = (m_i (m_i M 8 (5 + i) v2) 175 (27 + i) v2).1 8 k := fun k => wv_at (by decide)
    refine hI.keep (Tells_gen (n := w_n (wv M)) (p := w_p (wv M)) ?_ hn8 ?_ hp8 ?_ ?_ (fun l hl' => LW_same (hl l hl') (fun d h1 h2 => ?_) (fun c hc => by rw [f c (by omega)]) (fun k _ => by rw [f 180 (by omega), f 181 (by omega)]; exact ⟨rfl, rfl⟩)) (fun q hq => PCw_same (hp q hq) ?_ (fun c hc => by rw [f c (by omega)])) ?_ ?_ ?_ ?_ ?_) (f5 19 (by omega)) (f5 20 (by omega)) (hI.pd (by rw [f 1 (by omega)]) (f 2 (by omega)) (f5 1 (by omega)) (f 176 (by omega))) (fun c hc => f c (by omega))
    · rw [e, f8 1 (by omega), n1]
    · rw [e, f8 4 (by omega), p1]
    · rw [e]
      by_cases q : 7 = 5 + i
      · rw [q, g8]; exact h01
      · rw [f8 7 q]; exact h7
    · have e50 : wv (m_i (m_i M 8 (5 + i) v2) 175 (27 + i) v2) 50 = wv M 50 := by
        funext k
        rw [wv_at (by omega), wv_at (by omega), f 50 (by omega)]
      rw [e50]
      refine LfTo_congr hn8 (fun l hl' => ?_) hL
      rw [wv_at (by omega), wv_at (by omega), f _ (by omega)]
    · funext k
      rw [wv_at (by omega), wv_at (by omega), f d (by omega)]
    · funext k
      rw [wv_at (by omega), wv_at (by omega), f _ (by omega)]
    · rw [e, f5 18 (by omega), f8 1 (by omega), z1, wm]
    · rw [e, f5 26 (by omega), f8 4 (by omega), z2, wm]
    · rw [e]
      by_cases q : i = 0
      · subst q; exact g5.trans g8.symm
      · rw [f5 27 (by omega), f8 5 (by omega), z3, wm]
    · rw [e]
      by_cases q : i = 1
      · subst q; exact g5.trans g8.symm
      · rw [f5 28 (by omega), f8 6 (by omega), z4, wm]
    · rw [e]
      by_cases q : i = 2
      · subst q; exact g5.trans g8.symm
      · rw [f5 29 (by omega), f8 7 (by omega), z5, wm]

