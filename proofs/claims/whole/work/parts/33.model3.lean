/-! ===== 33.model3 ===== -/
/-! ===== the model's governing ===== -/
/-- what RG looks at in the model's cells -/
def RGs (M N : Mem) : Prop := (∀ c, 177 ≤ c → c ≤ 188 → N.1 c = M.1 c) ∧ (N.1 175 18 = M.1 175 18 ∧ N.1 175 19 = M.1 175 19 ∧ N.1 175 27 = M.1 175 27 ∧ N.1 175 28 = M.1 175 28 ∧ N.1 175 29 = M.1 175 29)
theorem z_tm_congr {Z V : WT} (h : ∀ c, 177 ≤ c → c ≤ 188 → V c = Z c) (h19 : V 175 19 = Z 175 19) (l : Nat) : z_tm V l = z_tm Z l := by
  have h183 := h 183 (by decide) (by decide)
  have h187 := h 187 (by decide) (by decide)
  have h182 := h 182 (by decide) (by decide)
  have hn : ∀ j, z_num V j = z_num Z j := by
    intro j
    induction j with
    | zero => rfl
    | succ j ih => unfold z_num; rw [ih, h183, h187]
  have hw : ∀ w, z_numw V l w = z_numw Z l w := by
    intro w
    unfold z_numw
    rw [hn, h183]
  unfold z_tm z_sec
  rw [hw, h183, h182, h19]
theorem RG.same {W : WT} {M N : Mem} (h : RG W M) (s : RGs M N) : RG W N := by
  obtain ⟨s1, s2, s3, s4, s5, s6⟩ := s
  obtain ⟨h0, h1, h2, h3, h4, h5⟩ := h
  refine ⟨h0, by rw [s2, h1], by rw [s4, h2], by rw [s5, h3], by rw [s6, h4], fun l hl => ?_⟩
  obtain ⟨r1, r2, r3, r4, r5, r6, r7⟩ := h5 l hl
  unfold LawR
  rw [s1 177 (by decide) (by decide), s1 178 (by decide) (by decide), s1 179 (by decide) (by decide), s1 184 (by decide) (by decide), s1 188 (by decide) (by decide), z_tm_congr s1 s3, s1 180 (by decide) (by decide), s1 181 (by decide) (by decide)]
  exact ⟨r1, r2, r3, r4, r5, r6, r7⟩
theorem RGs.mi {M : Mem} {k : Nat} {v : Int32} (hk : ¬ k = 18 ∧ ¬ k = 19 ∧ ¬ k = 27 ∧ ¬ k = 28 ∧ ¬ k = 29) : RGs M (m_i M 175 k v) := by
  refine ⟨fun c h1 h2 => mi_off (by omega), ?_, ?_, ?_, ?_, ?_⟩ <;> exact m_i_ne (by omega)
theorem RG.m30 {W : WT} {M : Mem} {v : Int32} (h : RG W M) : RG W (m_i M 175 30 v) := h.same (RGs.mi (by decide))
theorem PR.same {W : WT} {M N : Mem} {p : Int32} (h : PR W M p) (s : ∀ c, 189 ≤ c → c ≤ 192 → N.1 c = M.1 c) : PR W N p := by
  obtain ⟨j, hj, rfl, hw, e0, e1, e2, e3⟩ := h
  refine ⟨j, hj, rfl, hw, ?_, ?_, ?_, ?_⟩
  · rw [s 189 (by decide) (by decide), e0]
  · rw [s 190 (by decide) (by decide), e1]
  · rw [s 191 (by decide) (by decide), e2]
  · rw [s 192 (by decide) (by decide), e3]
theorem PR.m30 {W : WT} {M : Mem} {k : Nat} {p v : Int32} (h : PR W M p) : PR W (m_i M 175 k v) p := h.same (fun c h1 h2 => mi_off (by omega))
/-- the best of a set of laws, and whether two are it -/
noncomputable def z_more (W : WT) (p : Nat) (l : Nat) (best : Int32) : Int32 := if best = -6 then 1 else c_cmp W (10 + 5 * l) (10 + 5 * Int32.toNatClampNeg best) (W p 3)
noncomputable def z_ch (W : WT) (p : Nat) (set : Int32) : Nat → Int32 × Int32
  | 0 => (-6, 0)
  | l + 1 => sel (¬ bP set l) (z_ch W p set l) (sel (0 < z_more W p l (z_ch W p set l).1) (nI l) (z_ch W p set l).1, sel (0 ≤ z_more W p l (z_ch W p set l).1) (bi (z_more W p l (z_ch W p set l).1 = 0)) (z_ch W p set l).2)
theorem z_ch_in (W : WT) (p : Nat) (set : Int32) : ∀ l, (z_ch W p set l).1 = -6 ∨ ∃ j, j < l ∧ bP set j ∧ (z_ch W p set l).1 = nI j
  | 0 => Or.inl rfl
  | l + 1 => by
    have ih := z_ch_in W p set l
    have up : ∀ x : Int32, (x = -6 ∨ ∃ j, j < l ∧ bP set j ∧ x = nI j) → (x = -6 ∨ ∃ j, j < l + 1 ∧ bP set j ∧ x = nI j) := fun x h => h.imp id (fun ⟨j, h1, h2⟩ => ⟨j, by omega, h2⟩)
    unfold z_ch
    by_cases h1 : ¬ bP set l
    · rw [sel_t h1]; exact up _ ih
    · rw [sel_f h1]
      show sel _ _ _ = -6 ∨ ∃ j, j < l + 1 ∧ bP set j ∧ sel _ _ _ = nI j
      by_cases h2 : 0 < z_more W p l (z_ch W p set l).1
      · rw [sel_t h2]; exact Or.inr ⟨l, by omega, Classical.not_not.mp h1, rfl⟩
      · rw [sel_f h2]; exact up _ ih
theorem z_ch_01 (W : WT) (p : Nat) (set : Int32) : ∀ l, (z_ch W p set l).2 = 0 ∨ (z_ch W p set l).2 = 1
  | 0 => Or.inl rfl
  | l + 1 => by
    have ih := z_ch_01 W p set l
    unfold z_ch
    by_cases h1 : ¬ bP set l
    · rw [sel_t h1]; exact ih
    · rw [sel_f h1]
      show sel _ _ _ = 0 ∨ sel _ _ _ = 1
      by_cases h2 : 0 ≤ z_more W p l (z_ch W p set l).1
      · rw [sel_t h2]; exact bi_01
      · rw [sel_f h2]; exact ih
theorem z_ch_choose {W : WT} {p : Nat} {day gone allowed set : Int32} : ∀ n, (∀ l, l < n → (bP set l ↔ (w_obst W l p day gone = 0 ∨ w_obst W l p day gone = allowed))) → z_ch W p set n = w_choose W p day gone allowed 0 n
  | 0, _ => rfl
  | n + 1, h => by
    have ih := z_ch_choose (W := W) (p := p) (day := day) (gone := gone) (allowed := allowed) (set := set) n (fun l hl => h l (by omega))
    have hn := h n (by omega)
    unfold z_ch w_choose z_more
    rw [ih]
    by_cases c : bP set n
    · have c2 : ¬ (¬ w_obst W n p day gone = 0 ∧ ¬ w_obst W n p day gone = allowed) := fun q => (hn.mp c).elim q.1 q.2
      rw [sel_f (fun q => q c), sel_f c2]
    · have c2 : ¬ w_obst W n p day gone = 0 ∧ ¬ w_obst W n p day gone = allowed := ⟨fun q => c (hn.mpr (Or.inl q)), fun q => c (hn.mpr (Or.inr q))⟩
      rw [sel_t c, sel_t c2]
theorem z_ch_0 {W : WT} {p : Nat} {set : Int32} : ∀ n, (∀ l, l < n → ¬ bP set l) → z_ch W p set n = (-6, 0)
  | 0, _ => rfl
  | n + 1, h => by
    unfold z_ch
    rw [sel_t (h n (by omega)), z_ch_0 n (fun l hl => h l (by omega))]
theorem lBefore_tr {W : WT} {a b c : Nat} (h : lBefore W a b) (g : lBefore W b c) : lBefore W a c := by
  rcases h with h | h <;> rcases g with g | g
  · exact Or.inl (Int32.lt_trans g h)
  · exact Or.inl (by rw [← g.1]; exact h)
  · exact Or.inl (by rw [h.1]; exact g)
  · exact Or.inr ⟨h.1.trans g.1, by omega⟩

/-! BetweenLawsModel.undoneOf(I)I -/
abbrev rm_X11_undoneOf : Room := { frames := 3, cells := 0, slots := 0, locals := 70 }
abbrev B_X11_undoneOf (G : GT) (K : Int32 → Mem → Prop) := BT G (Rep G) RX11 "undoneOf" cX11_undoneOf 7 (some .int) rm_X11_undoneOf K 0 0
abbrev T_X11_undoneOf (G : GT) (as : List Value) (M : Mem) (K : Int32 → Mem → Prop) : Prop := MT G (Rep G) yX11_undoneOf cX11_undoneOf 7 (some .int) rm_X11_undoneOf as M K
theorem e_X11_undoneOf {G : GT} {K : Int32 → Mem → Prop} {M : Mem} {v1 : Int32} (h : B_X11_undoneOf G K 0 [(0, .ref 175), (1, .int v1)] [] M) : T_X11_undoneOf G [.ref 175, .int v1] M K := MT.of (by decide +kernel) rfl rfl (Nat.le_of_ble_eq_true rfl) rfl h
set_option maxRecDepth 4000 in
theorem k_X11_undoneOf_0 {G : GT} {K : Int32 → Mem → Prop} {M : Mem} {W : WT} {v1 : Int32} (h : (RG W M) ∧ (∀ r1 : Int32, r1 = (w_force W v1 (w_n W)) → B_X11_undoneOf G K 8 [(0, .ref 175), (2, .int r1), (3, .int 0)] [] M)) : B_X11_undoneOf G K 0 [(0, .ref 175), (1, .int v1)] [] M := by
  refine BT.aload_n dX11_undoneOf_0 rfl 0 rfl ?_
  refine BT.iload_n dX11_undoneOf_1 rfl 1 rfl ?_
  refine BT.mcVr [.int v1] (t_X11_forceOf h.1 ⟨rfl, rfl⟩) mb_X11_forceOf mv_X11_forceOf lk_X11_176 rfl (by decide) rfl (recvRep ho_175 rfl) (Nat.le_of_ble_eq_true rfl) dX11_undoneOf_2 (fun r1 e1 => ?_)
  show B_X11_undoneOf G K 5 [(0, .ref 175), (1, .int v1)] [.int r1] M
  refine BT.istore_n (L' := [(2, .int r1), (0, .ref 175), (1, .int v1)]) dX11_undoneOf_5 rfl (by decide) rfl ?_
  refine BT.iconst (v := 0) dX11_undoneOf_6 (by decide) ?_
  refine BT.istore_n (L' := [(3, .int 0), (2, .int r1), (0, .ref 175), (1, .int v1)]) dX11_undoneOf_7 rfl (by decide) rfl ?_
  refine BT.sub [2, 1, 0] rfl ?_
  exact (h.2 r1 e1)
set_option maxRecDepth 4000 in
theorem k_X11_undoneOf_8 {G : GT} {K : Int32 → Mem → Prop} {M : Mem} {v2 : Int32} {v3 : Int32} (h : (v2 = 0 → K (v3 &&& (((1 : Int32) <<< ((M.1 175 18) &&& 31)) - 1)) M) ∧ (¬ v2 = 0 → B_X11_undoneOf G K 19 [(0, .ref 175), (2, .int v2), (3, .int v3), (4, .int (-6)), (5, .int 0)] [] M)) : B_X11_undoneOf G K 8 [(0, .ref 175), (2, .int v2), (3, .int v3)] [] M := by
  refine BT.iload_n dX11_undoneOf_8 rfl 1 rfl ?_
  refine BT.if_eq (tgt := 122) dX11_undoneOf_9 (by decide) (fun c => ?_) (fun c => ?_)
  · have c1 := c
    refine BT.iload_n dX11_undoneOf_122 rfl 2 rfl ?_
    refine BT.iconst (v := 1) dX11_undoneOf_123 (by decide) ?_
    refine BT.aload_n dX11_undoneOf_124 rfl 0 rfl ?_
    refine BT.getI fl_X11_149 ho_175 rfl dX11_undoneOf_125 ?_
    refine BT.ishl dX11_undoneOf_128 ?_
    refine BT.iconst (v := 1) dX11_undoneOf_129 (by decide) ?_
    refine BT.isub dX11_undoneOf_130 ?_
    refine BT.iand dX11_undoneOf_131 ?_
    exact BT.iret dX11_undoneOf_132 rfl (by decide) (by decide) (h.1 c1)
  · have c2 := c
    refine BT.bipush (v := (-6)) dX11_undoneOf_12 (by decide) ?_
    refine BT.istore (L' := [(4, .int (-6)), (0, .ref 175), (2, .int v2), (3, .int v3)]) dX11_undoneOf_14 (by decide) rfl ?_
    refine BT.iconst (v := 0) dX11_undoneOf_16 (by decide) ?_
    refine BT.istore (L' := [(5, .int 0), (4, .int (-6)), (0, .ref 175), (2, .int v2), (3, .int v3)]) dX11_undoneOf_17 (by decide) rfl ?_
    refine BT.sub [2, 3, 4, 1, 0] rfl ?_
    exact (h.2 c2)
set_option maxRecDepth 4000 in
theorem k_X11_undoneOf_19 {G : GT} {K : Int32 → Mem → Prop} {M : Mem} {v2 : Int32} {v3 : Int32} {v4 : Int32} {v5 : Int32} (h : ((M.1 175 18) ≤ v5 → (¬ ((v3 >>> (v4 &&& 31)) &&& 1) = 0 → B_X11_undoneOf G K 8 [(0, .ref 175), (2, .int (v2 &&& (((1 : Int32) <<< (v4 &&& 31)) ^^^ (-1)))), (3, .int (v3 ||| 0))] [] M) ∧ (((v3 >>> (v4 &&& 31)) &&& 1) = 0 → (vp_in v4 8) ∧ B_X11_undoneOf G K 8 [(0, .ref 175), (2, .int (v2 &&& (((1 : Int32) <<< (v4 &&& 31)) ^^^ (-1)))), (3, .int (v3 ||| (M.1 188 (Int32.toNatClampNeg v4))))] [] M)) ∧ (¬ (M.1 175 18) ≤ v5 → (¬ ((v2 >>> (v5 &&& 31)) &&& 1) = 1 → B_X11_undoneOf G K 19 [(0, .ref 175), (2, .int v2), (3, .int v3), (4, .int v4), (5, .int (v5 + 1))] [] M) ∧ (((v2 >>> (v5 &&& 31)) &&& 1) = 1 → (v4 < 0 → B_X11_undoneOf G K 19 [(0, .ref 175), (2, .int v2), (3, .int v3), (4, .int v5), (5, .int (v5 + 1))] [] M) ∧ (¬ v4 < 0 → (vp_in v5 8) ∧ (vp_in v4 8) ∧ ((M.1 177 (Int32.toNatClampNeg v5)) < (M.1 177 (Int32.toNatClampNeg v4)) → B_X11_undoneOf G K 19 [(0, .ref 175), (2, .int v2), (3, .int v3), (4, .int v4), (5, .int (v5 + 1))] [] M) ∧ (¬ (M.1 177 (Int32.toNatClampNeg v5)) < (M.1 177 (Int32.toNatClampNeg v4)) → B_X11_undoneOf G K 19 [(0, .ref 175), (2, .int v2), (3, .int v3), (4, .int v5), (5, .int (v5 + 1))] [] M))))) : B_X11_undoneOf G K 19 [(0, .ref 175), (2, .int v2), (3, .int v3), (4, .int v4), (5, .int v5)] [] M := by
  refine BT.iload dX11_undoneOf_19 4 rfl ?_
  refine BT.aload_n dX11_undoneOf_21 rfl 0 rfl ?_
  refine BT.getI fl_X11_149 ho_175 rfl dX11_undoneOf_22 ?_
  refine BT.icmp_ge (tgt := 87) dX11_undoneOf_25 (by decide) (fun c => ?_) (fun c => ?_)
  · have c1 := c
    refine BT.iload_n dX11_undoneOf_87 rfl 1 rfl ?_
    refine BT.iconst (v := 1) dX11_undoneOf_88 (by decide) ?_
    refine BT.iload dX11_undoneOf_89 3 rfl ?_
    refine BT.ishl dX11_undoneOf_91 ?_
    refine BT.iconst (v := (-1)) dX11_undoneOf_92 (by decide) ?_
    refine BT.ixor dX11_undoneOf_93 ?_
    refine BT.iand dX11_undoneOf_94 ?_
    refine BT.istore_n (L' := [(2, .int (v2 &&& (((1 : Int32) <<< (v4 &&& 31)) ^^^ (-1)))), (0, .ref 175), (3, .int v3), (4, .int v4), (5, .int v5)]) dX11_undoneOf_95 rfl (by decide) rfl ?_
    refine BT.iload_n dX11_undoneOf_96 rfl 2 rfl ?_
    refine BT.iload_n dX11_undoneOf_97 rfl 2 rfl ?_
    refine BT.iload dX11_undoneOf_98 3 rfl ?_
    refine BT.ishr dX11_undoneOf_100 ?_
    refine BT.iconst (v := 1) dX11_undoneOf_101 (by decide) ?_
    refine BT.iand dX11_undoneOf_102 ?_
    refine BT.if_ne (tgt := 116) dX11_undoneOf_103 (by decide) (fun c => ?_) (fun c => ?_)
    · have c3 := c
      refine BT.iconst (v := 0) dX11_undoneOf_116 (by decide) ?_
      refine BT.ior dX11_undoneOf_117 ?_
      refine BT.istore_n (L' := [(3, .int (v3 ||| 0)), (2, .int (v2 &&& (((1 : Int32) <<< (v4 &&& 31)) ^^^ (-1)))), (0, .ref 175), (4, .int v4), (5, .int v5)]) dX11_undoneOf_118 rfl (by decide) rfl ?_
      refine BT.goto (tgt := 8) dX11_undoneOf_119 (by decide) ?_
      refine BT.sub [2, 1, 0] rfl ?_
      exact ((h.1 c1).1 c3)
    · have c4 := c
      refine BT.aload_n dX11_undoneOf_106 rfl 1 rfl ?_
      refine BT.getR (r := 188) fl_X11_46 ho_175 rfl dX11_undoneOf_107 ?_
      refine BT.iload dX11_undoneOf_110 3 rfl ?_
      refine BT.iald ha_188 ((h.1 c1).2 c4).1 dX11_undoneOf_112 ?_
      refine BT.goto (tgt := 117) dX11_undoneOf_113 (by decide) ?_
      refine BT.ior dX11_undoneOf_117 ?_
      refine BT.istore_n (L' := [(3, .int (v3 ||| (M.1 188 (Int32.toNatClampNeg v4)))), (2, .int (v2 &&& (((1 : Int32) <<< (v4 &&& 31)) ^^^ (-1)))), (0, .ref 175), (4, .int v4), (5, .int v5)]) dX11_undoneOf_118 rfl (by decide) rfl ?_
      refine BT.goto (tgt := 8) dX11_undoneOf_119 (by decide) ?_
      refine BT.sub [2, 1, 0] rfl ?_
      exact ((h.1 c1).2 c4).2
  · have c2 := c
    refine BT.iload_n dX11_undoneOf_28 rfl 1 rfl ?_
    refine BT.iload dX11_undoneOf_29 4 rfl ?_
    refine BT.ishr dX11_undoneOf_31 ?_
    refine BT.iconst (v := 1) dX11_undoneOf_32 (by decide) ?_
    refine BT.iand dX11_undoneOf_33 ?_
    refine BT.iconst (v := 1) dX11_undoneOf_34 (by decide) ?_
    refine BT.icmp_ne (tgt := 42) dX11_undoneOf_35 (by decide) (fun c => ?_) (fun c => ?_)
    · have c5 := c
      refine BT.iconst (v := 0) dX11_undoneOf_42 (by decide) ?_
      refine BT.istore (L' := [(6, .int 0), (0, .ref 175), (2, .int v2), (3, .int v3), (4, .int v4), (5, .int v5)]) dX11_undoneOf_43 (by decide) rfl ?_
      refine BT.iload dX11_undoneOf_45 0 rfl ?_
      refine BT.if_eq (tgt := 77) dX11_undoneOf_47 (by decide) (fun _ => ?_) (fun c => absurd c (by decide))
      refine BT.iload dX11_undoneOf_77 4 rfl ?_
      refine BT.istore (L' := [(4, .int v4), (6, .int 0), (0, .ref 175), (2, .int v2), (3, .int v3), (5, .int v5)]) dX11_undoneOf_79 (by decide) rfl ?_
      refine BT.iinc (j := 5) (v := (v5 + 1)) (L' := [(5, .int (v5 + 1)), (4, .int v4), (6, .int 0), (0, .ref 175), (2, .int v2), (3, .int v3)]) dX11_undoneOf_81 rfl rfl (by decide) rfl ?_
      refine BT.goto (tgt := 19) dX11_undoneOf_84 (by decide) ?_
      refine BT.sub [3, 4, 5, 1, 0] rfl ?_
      exact ((h.2 c2).1 c5)
    · have c6 := c
      refine BT.iconst (v := 1) dX11_undoneOf_38 (by decide) ?_
      refine BT.goto (tgt := 43) dX11_undoneOf_39 (by decide) ?_
      refine BT.istore (L' := [(6, .int 1), (0, .ref 175), (2, .int v2), (3, .int v3), (4, .int v4), (5, .int v5)]) dX11_undoneOf_43 (by decide) rfl ?_
      refine BT.iload dX11_undoneOf_45 0 rfl ?_
      refine BT.if_eq (tgt := 77) dX11_undoneOf_47 (by decide) (fun c => absurd c (by decide)) (fun _ => ?_)
      refine BT.iload dX11_undoneOf_50 4 rfl ?_
      refine BT.if_lt (tgt := 72) dX11_undoneOf_52 (by decide) (fun c => ?_) (fun c => ?_)
      · have c7 := c
        refine BT.iload dX11_undoneOf_72 5 rfl ?_
        refine BT.goto (tgt := 79) dX11_undoneOf_74 (by decide) ?_
        refine BT.istore (L' := [(4, .int v5), (6, .int 1), (0, .ref 175), (2, .int v2), (3, .int v3), (5, .int v5)]) dX11_undoneOf_79 (by decide) rfl ?_
        refine BT.iinc (j := 5) (v := (v5 + 1)) (L' := [(5, .int (v5 + 1)), (4, .int v5), (6, .int 1), (0, .ref 175), (2, .int v2), (3, .int v3)]) dX11_undoneOf_81 rfl rfl (by decide) rfl ?_
        refine BT.goto (tgt := 19) dX11_undoneOf_84 (by decide) ?_
        refine BT.sub [3, 4, 5, 1, 0] rfl ?_
        exact (((h.2 c2).2 c6).1 c7)
      · have c8 := c
        refine BT.aload_n dX11_undoneOf_55 rfl 1 rfl ?_
        refine BT.getR (r := 177) fl_X11_13 ho_175 rfl dX11_undoneOf_56 ?_
        refine BT.iload dX11_undoneOf_59 5 rfl ?_
        refine BT.iald ha_177 (((h.2 c2).2 c6).2 c8).1 dX11_undoneOf_61 ?_
        refine BT.aload_n dX11_undoneOf_62 rfl 1 rfl ?_
        refine BT.getR (r := 177) fl_X11_13 ho_175 rfl dX11_undoneOf_63 ?_
        refine BT.iload dX11_undoneOf_66 4 rfl ?_
        refine BT.iald ha_177 (((h.2 c2).2 c6).2 c8).2.1 dX11_undoneOf_68 ?_
        refine BT.icmp_lt (tgt := 77) dX11_undoneOf_69 (by decide) (fun c => ?_) (fun c => ?_)
        · have c9 := c
          refine BT.iload dX11_undoneOf_77 4 rfl ?_
          refine BT.istore (L' := [(4, .int v4), (6, .int 1), (0, .ref 175), (2, .int v2), (3, .int v3), (5, .int v5)]) dX11_undoneOf_79 (by decide) rfl ?_
          refine BT.iinc (j := 5) (v := (v5 + 1)) (L' := [(5, .int (v5 + 1)), (4, .int v4), (6, .int 1), (0, .ref 175), (2, .int v2), (3, .int v3)]) dX11_undoneOf_81 rfl rfl (by decide) rfl ?_
          refine BT.goto (tgt := 19) dX11_undoneOf_84 (by decide) ?_
          refine BT.sub [3, 4, 5, 1, 0] rfl ?_
          exact ((((h.2 c2).2 c6).2 c8).2.2.1 c9)
        · have c10 := c
          refine BT.iload dX11_undoneOf_72 5 rfl ?_
          refine BT.goto (tgt := 79) dX11_undoneOf_74 (by decide) ?_
          refine BT.istore (L' := [(4, .int v5), (6, .int 1), (0, .ref 175), (2, .int v2), (3, .int v3), (5, .int v5)]) dX11_undoneOf_79 (by decide) rfl ?_
          refine BT.iinc (j := 5) (v := (v5 + 1)) (L' := [(5, .int (v5 + 1)), (4, .int v5), (6, .int 1), (0, .ref 175), (2, .int v2), (3, .int v3)]) dX11_undoneOf_81 rfl rfl (by decide) rfl ?_
          refine BT.goto (tgt := 19) dX11_undoneOf_84 (by decide) ?_
          refine BT.sub [3, 4, 5, 1, 0] rfl ?_
          exact ((((h.2 c2).2 c6).2 c8).2.2.2 c10)

theorem t_X11_undoneOf {G : GT} {K : Int32 → Mem → Prop} {M : Mem} {W : WT} {v1 : Int32} (hR : RG W M) (h : K (w_undone W v1) M) : T_X11_undoneOf G [.ref 175, .int v1] M K := by
  obtain ⟨h1, h2, h8⟩ := hR.n
  have hLf := hR.1.2.1
  have hl0 : ∀ l, l < w_n W → M.1 177 l = W (10 + 5 * l) 0 ∧ M.1 188 l = W (10 + 5 * l) 14 := fun l hl => ⟨(hR.2.2.2.2.2 l hl).1, (hR.2.2.2.2.2 l hl).2.2.2.2.1⟩
  refine e_X11_undoneOf (k_X11_undoneOf_0 (W := W) ⟨hR, fun r1 e1 => ?_⟩)
  have key : ∀ (k i : Nat) (left : Int32), w_n W - i ≤ k → i ≤ w_n W → (∀ l, l < 32 → (bP left l ↔ ∃ j, i ≤ j ∧ j < w_n W ∧ W 50 j = nI l ∧ inF W l v1)) → B_X11_undoneOf G K 8 [(0, .ref 175), (2, .int left), (3, .int (w_gone W v1 i))] [] M := by
    intro k
    induction k with
    | zero =>
      intro i left hk hi hb
      have ei : i = w_n W := by omega
      refine k_X11_undoneOf_8 ⟨fun _ => ?_, fun c => ?_⟩
      · rw [h1, ei]; unfold w_undone at h; rw [h2] at h; exact h
      · refine absurd (bP_eq0.mpr fun l hl q => ?_) c
        obtain ⟨j, hj1, hj2, -⟩ := (hb l hl).mp q
        omega
    | succ k ih =>
      intro i left hk hi hb
      -- steps over places whose law is not in force
      have skip : ∀ m, i + m ≤ w_n W → (∀ j, i ≤ j → j < i + m → ∀ l, W 50 j = nI l → l < 32 → ¬ inF W l v1) → w_gone W v1 (i + m) = w_gone W v1 i := by
        intro m
        induction m with
        | zero => intro _ _; rfl
        | succ m ihm =>
          intro hm hn
          have e := ihm (by omega) (fun j a b => hn j a (by omega))
          obtain ⟨l, hl, el⟩ := hLf.1 (i + m) (by omega)
          rw [show i + (m + 1) = (i + m) + 1 by omega, w_gone, el, ix_nI (by omega), sel_f (fun q => hn (i + m) (by omega) (by omega) l el (by omega) q.1), e]
      refine k_X11_undoneOf_8 ⟨fun c => ?_, fun c => ?_⟩
      · have := skip (w_n W - i) (by omega) (fun j a b l el hl32 hin => by
          have := (hb l hl32).mpr ⟨j, a, by omega, el, hin⟩
          rw [c] at this
          exact bP_0 this)
        rw [show i + (w_n W - i) = w_n W by omega] at this
        rw [h1, ← this]
        unfold w_undone at h; rw [h2] at h; exact h
      · -- the latest one that is left
        have fin : ∀ b, b < w_n W → bP left b → (∀ l, l < w_n W → bP left l → l = b ∨ lBefore W b l) → B_X11_undoneOf G K 19 [(0, .ref 175), (2, .int left), (3, .int (w_gone W v1 i)), (4, .int (nI b)), (5, .int (nI (w_n W)))] [] M := by
          intro b hbn hbl hbest
          obtain ⟨j, hj1, hj2, ej, hin⟩ := (hb b (by omega)).mp hbl
          have hskip := skip (j - i) (by omega) (fun j' a b' l el hl32 hin' => by
            have hl := (hb l hl32).mpr ⟨j', a, by omega, el, hin'⟩
            obtain ⟨l', hl', el'⟩ := hLf.1 j' (by omega)
            have ell : l = l' := (nI_eq (by omega) (by omega)).mp (el.symm.trans el')
            have hbf := hLf.2 j' j (by omega) hj2
            rw [el, ej, ix_nI (by omega), ix_nI (by omega)] at hbf
            rcases hbest l (by omega) hl with q | q
            · rw [q] at hbf; exact lBefore_irr hbf
            · exact lBefore_asym hbf q)
          rw [show i + (j - i) = j by omega] at hskip
          have nxt : ∀ l, l < 32 → (bP (left &&& (((1 : Int32) <<< (nI b &&& 31)) ^^^ (-1))) l ↔ ∃ j', j + 1 ≤ j' ∧ j' < w_n W ∧ W 50 j' = nI l ∧ inF W l v1) := by
            intro l hl32
            rw [bP_and, bP_not hl32, bP_shl (by omega) hl32, hb l hl32]
            constructor
            · rintro ⟨⟨j', a, b', el, hin'⟩, ne⟩
              refine ⟨j', ?_, b', el, hin'⟩
              rcases Nat.lt_trichotomy j' j with q | q | q
              · exfalso
                have hbf := hLf.2 j' j q hj2
                rw [el, ej, ix_nI (by omega), ix_nI (by omega)] at hbf
                obtain ⟨l', hl', el'⟩ := hLf.1 j' (by omega)
                have ell : l = l' := (nI_eq (by omega) (by omega)).mp (el.symm.trans el')
                rcases hbest l (by omega) ((hb l hl32).mpr ⟨j', a, b', el, hin'⟩) with z | z
                · exact ne z
                · exact lBefore_asym hbf z
              · rw [q, ej] at el
                exact absurd ((nI_eq (by omega) (by omega)).mp el).symm ne
              · omega
            · rintro ⟨j', a, b', el, hin'⟩
              refine ⟨⟨j', by omega, b', el, hin'⟩, fun q => ?_⟩
              have := hLf.inj b' hj2 (by rw [el, ej, q])
              omega
          have step := ih (j + 1) (left &&& (((1 : Int32) <<< (nI b &&& 31)) ^^^ (-1))) (by omega) (by omega) nxt
          rw [w_gone, ej, ix_nI (by omega), hskip] at step
          refine k_X11_undoneOf_19 ⟨fun _ => ⟨fun c1 => ?_, fun c1 => ⟨vp_nI (by omega) (by decide), ?_⟩⟩, fun c1 => absurd (by rw [h1]; exact Int32.le_refl _) c1⟩
          · rw [sel_f (fun q => c1 q.2)] at step
            rw [Int32.or_zero]; exact step
          · rw [sel_t ⟨hin, c1⟩] at step
            rw [ix_nI (by omega), (hl0 b hbn).2]; exact step
        have scan : ∀ m, m ≤ w_n W → ∀ best : Int32, ((best = -6 ∧ ∀ l, l < w_n W - m → ¬ bP left l) ∨ ∃ b, b < w_n W - m ∧ best = nI b ∧ bP left b ∧ ∀ l, l < w_n W - m → bP left l → l = b ∨ lBefore W b l) → B_X11_undoneOf G K 19 [(0, .ref 175), (2, .int left), (3, .int (w_gone W v1 i)), (4, .int best), (5, .int (nI (w_n W - m)))] [] M := by
          intro m
          induction m with
          | zero =>
            intro _ best hbest
            rw [Nat.sub_zero] at hbest ⊢
            rcases hbest with ⟨e, hno⟩ | ⟨b, hb1, e, hb2, hb3⟩
            · refine absurd (bP_eq0.mpr fun l hl q => ?_) c
              obtain ⟨j, a, b', el, -⟩ := (hb l hl).mp q
              obtain ⟨l', hl', el'⟩ := hLf.1 j b'
              have ell : l = l' := (nI_eq (by omega) (by omega)).mp (el.symm.trans el')
              exact hno l (by omega) q
            · rw [e]; exact fin b hb1 hb2 hb3
          | succ m ihm =>
            intro hm best hbest
            obtain ⟨x, ex⟩ : ∃ x, x = w_n W - (m + 1) := ⟨_, rfl⟩
            have ex1 : w_n W - m = x + 1 := by omega
            have ihm := ihm (by omega)
            rw [← ex] at hbest ⊢
            rw [ex1] at ihm
            have hx : x < w_n W := by omega
            refine k_X11_undoneOf_19 ⟨fun c1 => ?_, fun _ => ⟨fun c1 => ?_, fun c1 => ⟨fun c2 => ?_, fun c2 => ?_⟩⟩⟩
            · rw [h1, nI_leI (by omega) (by omega)] at c1; omega
            · rw [bit_is1 (by omega)] at c1
              rw [nI_1]
              refine ihm best ?_
              rcases hbest with ⟨e, hno⟩ | ⟨b, hb1, e, hb2, hb3⟩
              · refine Or.inl ⟨e, fun l hl q => ?_⟩
                by_cases el : l = x
                · rw [el] at q; exact c1 q
                · exact hno l (by omega) q
              · refine Or.inr ⟨b, by omega, e, hb2, fun l hl q => ?_⟩
                by_cases el : l = x
                · rw [el] at q; exact absurd q c1
                · exact hb3 l (by omega) q
            · rw [bit_is1 (by omega)] at c1
              rw [nI_1]
              refine ihm (nI x) (Or.inr ⟨x, by omega, rfl, c1, fun l hl q => ?_⟩)
              rcases hbest with ⟨e, hno⟩ | ⟨b, hb1, e, hb2, hb3⟩
              · by_cases el : l = x
                · exact Or.inl el
                · exact absurd q (hno l (by omega))
              · rw [e] at c2; exact absurd c2 (nI_ge0 (by omega))
            · rw [bit_is1 (by omega)] at c1
              rcases hbest with ⟨e, hno⟩ | ⟨b, hb1, e, hb2, hb3⟩
              · rw [e] at c2; exact absurd (by decide) c2
              · rw [e, ix_nI (by omega), ix_nI (by omega), (hl0 x hx).1, (hl0 b (by omega)).1, nI_1]
                refine ⟨vp_nI (by omega) (by decide), vp_nI (by omega) (by decide), fun c3 => ?_, fun c3 => ?_⟩
                · refine ihm (nI b) (Or.inr ⟨b, by omega, rfl, hb2, fun l hl q => ?_⟩)
                  by_cases el : l = x
                  · rw [el]; exact Or.inr (Or.inl c3)
                  · exact hb3 l (by omega) q
                · refine ihm (nI x) (Or.inr ⟨x, by omega, rfl, c1, fun l hl q => ?_⟩)
                  by_cases el : l = x
                  · exact Or.inl el
                  · have hxb : lBefore W x b := by
                      by_cases c4 : W (10 + 5 * b) 0 < W (10 + 5 * x) 0
                      · exact Or.inl c4
                      · exact Or.inr ⟨Int32.le_antisymm (Int32.not_lt.mp c4) (Int32.not_lt.mp c3), by omega⟩
                    rcases hb3 l (by omega) q with z | z
                    · rw [z]; exact Or.inr hxb
                    · exact Or.inr (lBefore_tr hxb z)
        have := scan (w_n W) (Nat.le_refl _) (-6) (Or.inl ⟨rfl, fun l hl => absurd hl (by omega)⟩)
        rw [Nat.sub_self] at this
        exact this
  refine key (w_n W) 0 r1 (by omega) (Nat.zero_le _) (fun l hl => ?_)
  rw [e1, w_force_zset, bP_zset hl _ (by omega)]
  constructor
  · rintro ⟨a, b⟩
    obtain ⟨i, hi, ei⟩ := hLf.onto (by omega) a
    exact ⟨i, Nat.zero_le _, hi, ei, b⟩
  · rintro ⟨j, -, hj, ej, b⟩
    obtain ⟨l', hl', el'⟩ := hLf.1 j hj
    have ell : l = l' := (nI_eq (by omega) (by omega)).mp (ej.symm.trans el')
    exact ⟨by omega, b⟩

/-! BetweenLawsModel.chosen(II)I -/
abbrev rm_X11_chosen : Room := { frames := 3, cells := 0, slots := 0, locals := 71 }
abbrev B_X11_chosen (G : GT) (K : Int32 → Mem → Prop) := BT G (Rep G) RX11 "chosen" cX11_chosen 6 (some .int) rm_X11_chosen K 0 0
abbrev T_X11_chosen (G : GT) (as : List Value) (M : Mem) (K : Int32 → Mem → Prop) : Prop := MT G (Rep G) yX11_chosen cX11_chosen 6 (some .int) rm_X11_chosen as M K
theorem e_X11_chosen {G : GT} {K : Int32 → Mem → Prop} {M : Mem} {v1 : Int32} {v2 : Int32} (h : B_X11_chosen G K 0 [(0, .ref 175), (1, .int v1), (2, .int v2)] [] M) : T_X11_chosen G [.ref 175, .int v1, .int v2] M K := MT.of (by decide +kernel) rfl rfl (Nat.le_of_ble_eq_true rfl) rfl h
set_option maxRecDepth 4000 in
theorem k_X11_chosen_0 {G : GT} {K : Int32 → Mem → Prop} {M : Mem} {v1 : Int32} {v2 : Int32} (h : B_X11_chosen G K 11 [(0, .ref 175), (1, .int v1), (2, .int v2), (3, .int (-6)), (4, .int 0)] [] (m_i M 175 30 0)) : B_X11_chosen G K 0 [(0, .ref 175), (1, .int v1), (2, .int v2)] [] M := by
  refine BT.bipush (v := (-6)) dX11_chosen_0 (by decide) ?_
  refine BT.istore_n (L' := [(3, .int (-6)), (0, .ref 175), (1, .int v1), (2, .int v2)]) dX11_chosen_2 rfl (by decide) rfl ?_
  refine BT.aload_n dX11_chosen_3 rfl 1 rfl ?_
  refine BT.iconst (v := 0) dX11_chosen_4 (by decide) ?_
  refine BT.putZ fl_X11_216 ft_11_30 ho_175 rfl (Or.inl rfl) dX11_chosen_5 ?_
  refine BT.iconst (v := 0) dX11_chosen_8 (by decide) ?_
  refine BT.istore (L' := [(4, .int 0), (3, .int (-6)), (0, .ref 175), (1, .int v1), (2, .int v2)]) dX11_chosen_9 (by decide) rfl ?_
  refine BT.sub [2, 3, 4, 1, 0] rfl ?_
  exact h
set_option maxRecDepth 4000 in
theorem k_X11_chosen_11 {G : GT} {K : Int32 → Mem → Prop} {M : Mem} {W : WT} {v1 : Int32} {v2 : Int32} {v3 : Int32} {v4 : Int32} (h : ((M.1 175 18) ≤ v4 → K v3 M) ∧ (¬ (M.1 175 18) ≤ v4 → (¬ ((v1 >>> (v4 &&& 31)) &&& 1) = 1 → B_X11_chosen G K 11 [(0, .ref 175), (1, .int v1), (2, .int v2), (3, .int v3), (4, .int (v4 + 1))] [] M) ∧ (((v1 >>> (v4 &&& 31)) &&& 1) = 1 → (0 ≤ v3 → (RG W M) ∧ ((0 : Int32) ≤ v4 ∧ v4 < W 8 1) ∧ ((0 : Int32) ≤ v3 ∧ v3 < W 8 1) ∧ (PR W M v2) ∧ (¬ z_fit W v4 v2 = -6) ∧ (¬ z_fit W v3 v2 = -6) ∧ (∀ r7 : Int32, r7 = (c_cmp W (plw v4) (plw v3) (W (zp v2) 3)) → (r7 = 0 → (r7 ≤ 0 → B_X11_chosen G K 11 [(0, .ref 175), (1, .int v1), (2, .int v2), (3, .int v3), (4, .int (v4 + 1))] [] (m_i M 175 30 1)) ∧ (¬ r7 ≤ 0 → B_X11_chosen G K 11 [(0, .ref 175), (1, .int v1), (2, .int v2), (3, .int v4), (4, .int (v4 + 1))] [] (m_i M 175 30 1))) ∧ (¬ r7 = 0 → (0 ≤ r7 → (r7 ≤ 0 → B_X11_chosen G K 11 [(0, .ref 175), (1, .int v1), (2, .int v2), (3, .int v3), (4, .int (v4 + 1))] [] (m_i M 175 30 0)) ∧ (¬ r7 ≤ 0 → B_X11_chosen G K 11 [(0, .ref 175), (1, .int v1), (2, .int v2), (3, .int v4), (4, .int (v4 + 1))] [] (m_i M 175 30 0))) ∧ (¬ 0 ≤ r7 → ((M.1 175 30) = 0 → (r7 ≤ 0 → B_X11_chosen G K 11 [(0, .ref 175), (1, .int v1), (2, .int v2), (3, .int v3), (4, .int (v4 + 1))] [] (m_i M 175 30 0)) ∧ (¬ r7 ≤ 0 → B_X11_chosen G K 11 [(0, .ref 175), (1, .int v1), (2, .int v2), (3, .int v4), (4, .int (v4 + 1))] [] (m_i M 175 30 0))) ∧ (¬ (M.1 175 30) = 0 → (r7 ≤ 0 → B_X11_chosen G K 11 [(0, .ref 175), (1, .int v1), (2, .int v2), (3, .int v3), (4, .int (v4 + 1))] [] (m_i M 175 30 1)) ∧ (¬ r7 ≤ 0 → B_X11_chosen G K 11 [(0, .ref 175), (1, .int v1), (2, .int v2), (3, .int v4), (4, .int (v4 + 1))] [] (m_i M 175 30 1))))))) ∧ (¬ 0 ≤ v3 → B_X11_chosen G K 11 [(0, .ref 175), (1, .int v1), (2, .int v2), (3, .int v4), (4, .int (v4 + 1))] [] (m_i M 175 30 0))))) : B_X11_chosen G K 11 [(0, .ref 175), (1, .int v1), (2, .int v2), (3, .int v3), (4, .int v4)] [] M := by
  refine BT.iload dX11_chosen_11 4 rfl ?_
  refine BT.aload_n dX11_chosen_13 rfl 0 rfl ?_
  refine BT.getI fl_X11_149 ho_175 rfl dX11_chosen_14 ?_
  refine BT.icmp_ge (tgt := 92) dX11_chosen_17 (by decide) (fun c => ?_) (fun c => ?_)
  · have c1 := c
    refine BT.iload_n dX11_chosen_92 rfl 3 rfl ?_
    exact BT.iret dX11_chosen_93 rfl (by decide) (by decide) (h.1 c1)
  · have c2 := c
    refine BT.iload_n dX11_chosen_20 rfl 1 rfl ?_
    refine BT.iload dX11_chosen_21 4 rfl ?_
    refine BT.ishr dX11_chosen_23 ?_
    refine BT.iconst (v := 1) dX11_chosen_24 (by decide) ?_
    refine BT.iand dX11_chosen_25 ?_
    refine BT.iconst (v := 1) dX11_chosen_26 (by decide) ?_
    refine BT.icmp_ne (tgt := 86) dX11_chosen_27 (by decide) (fun c => ?_) (fun c => ?_)
    · have c3 := c
      refine BT.iinc (j := 4) (v := (v4 + 1)) (L' := [(4, .int (v4 + 1)), (0, .ref 175), (1, .int v1), (2, .int v2), (3, .int v3)]) dX11_chosen_86 rfl rfl (by decide) rfl ?_
      refine BT.goto (tgt := 11) dX11_chosen_89 (by decide) ?_
      refine BT.sub [1, 2, 3, 4, 0] rfl ?_
      exact ((h.2 c2).1 c3)
    · have c4 := c
      refine BT.iload_n dX11_chosen_30 rfl 3 rfl ?_
      refine BT.if_ge (tgt := 38) dX11_chosen_31 (by decide) (fun c => ?_) (fun c => ?_)
      · have c5 := c
        refine BT.aload_n dX11_chosen_38 rfl 0 rfl ?_
        refine BT.iload dX11_chosen_39 4 rfl ?_
        refine BT.iload_n dX11_chosen_41 rfl 3 rfl ?_
        refine BT.iload_n dX11_chosen_42 rfl 2 rfl ?_
        refine BT.mcVr [.int v4, .int v3, .int v2] (t_X11_heldAgainst (((h.2 c2).2 c4).1 c5).1 (((h.2 c2).2 c4).1 c5).2.1 (((h.2 c2).2 c4).1 c5).2.2.1 (((h.2 c2).2 c4).1 c5).2.2.2.1 (((h.2 c2).2 c4).1 c5).2.2.2.2.1 (((h.2 c2).2 c4).1 c5).2.2.2.2.2.1 ⟨rfl, rfl⟩) mb_X11_heldAgainst mv_X11_heldAgainst lk_X11_220 rfl (by decide) rfl (recvRep ho_175 rfl) (Nat.le_of_ble_eq_true rfl) dX11_chosen_43 (fun r7 e7 => ?_)
        show B_X11_chosen G K 46 [(0, .ref 175), (1, .int v1), (2, .int v2), (3, .int v3), (4, .int v4)] [.int r7] M
        refine BT.istore (L' := [(5, .int r7), (0, .ref 175), (1, .int v1), (2, .int v2), (3, .int v3), (4, .int v4)]) dX11_chosen_46 (by decide) rfl ?_
        refine BT.aload_n dX11_chosen_48 rfl 1 rfl ?_
        refine BT.iload dX11_chosen_49 0 rfl ?_
        refine BT.if_eq (tgt := 66) dX11_chosen_51 (by decide) (fun c => ?_) (fun c => ?_)
        · have c8 := c
          refine BT.iconst (v := 1) dX11_chosen_66 (by decide) ?_
          refine BT.goto (tgt := 71) dX11_chosen_67 (by decide) ?_
          refine BT.putZ fl_X11_216 ft_11_30 ho_175 rfl (Or.inr rfl) dX11_chosen_71 ?_
          refine BT.iload dX11_chosen_74 0 rfl ?_
          refine BT.if_le (tgt := 84) dX11_chosen_76 (by decide) (fun c => ?_) (fun c => ?_)
          · have c10 := c
            refine BT.iload_n dX11_chosen_84 rfl 4 rfl ?_
            refine BT.istore_n (L' := [(3, .int v3), (5, .int r7), (0, .ref 175), (1, .int v1), (2, .int v2), (4, .int v4)]) dX11_chosen_85 rfl (by decide) rfl ?_
            refine BT.iinc (j := 5) (v := (v4 + 1)) (L' := [(4, .int (v4 + 1)), (3, .int v3), (5, .int r7), (0, .ref 175), (1, .int v1), (2, .int v2)]) dX11_chosen_86 rfl rfl (by decide) rfl ?_
            refine BT.goto (tgt := 11) dX11_chosen_89 (by decide) ?_
            refine BT.sub [3, 4, 5, 1, 0] rfl ?_
            exact ((((((h.2 c2).2 c4).1 c5).2.2.2.2.2.2 r7 e7).1 c8).1 c10)
          · have c11 := c
            refine BT.iload dX11_chosen_79 5 rfl ?_
            refine BT.goto (tgt := 85) dX11_chosen_81 (by decide) ?_
            refine BT.istore_n (L' := [(3, .int v4), (5, .int r7), (0, .ref 175), (1, .int v1), (2, .int v2), (4, .int v4)]) dX11_chosen_85 rfl (by decide) rfl ?_
            refine BT.iinc (j := 5) (v := (v4 + 1)) (L' := [(4, .int (v4 + 1)), (3, .int v4), (5, .int r7), (0, .ref 175), (1, .int v1), (2, .int v2)]) dX11_chosen_86 rfl rfl (by decide) rfl ?_
            refine BT.goto (tgt := 11) dX11_chosen_89 (by decide) ?_
            refine BT.sub [3, 4, 5, 1, 0] rfl ?_
            exact ((((((h.2 c2).2 c4).1 c5).2.2.2.2.2.2 r7 e7).1 c8).2 c11)
        · have c9 := c
          refine BT.iload dX11_chosen_54 0 rfl ?_
          refine BT.if_ge (tgt := 70) dX11_chosen_56 (by decide) (fun c => ?_) (fun c => ?_)
          · have c12 := c
            refine BT.iconst (v := 0) dX11_chosen_70 (by decide) ?_
            refine BT.putZ fl_X11_216 ft_11_30 ho_175 rfl (Or.inl rfl) dX11_chosen_71 ?_
            refine BT.iload dX11_chosen_74 0 rfl ?_
            refine BT.if_le (tgt := 84) dX11_chosen_76 (by decide) (fun c => ?_) (fun c => ?_)
            · have c14 := c
              refine BT.iload_n dX11_chosen_84 rfl 4 rfl ?_
              refine BT.istore_n (L' := [(3, .int v3), (5, .int r7), (0, .ref 175), (1, .int v1), (2, .int v2), (4, .int v4)]) dX11_chosen_85 rfl (by decide) rfl ?_
              refine BT.iinc (j := 5) (v := (v4 + 1)) (L' := [(4, .int (v4 + 1)), (3, .int v3), (5, .int r7), (0, .ref 175), (1, .int v1), (2, .int v2)]) dX11_chosen_86 rfl rfl (by decide) rfl ?_
              refine BT.goto (tgt := 11) dX11_chosen_89 (by decide) ?_
              refine BT.sub [3, 4, 5, 1, 0] rfl ?_
              exact (((((((h.2 c2).2 c4).1 c5).2.2.2.2.2.2 r7 e7).2 c9).1 c12).1 c14)
            · have c15 := c
              refine BT.iload dX11_chosen_79 5 rfl ?_
              refine BT.goto (tgt := 85) dX11_chosen_81 (by decide) ?_
              refine BT.istore_n (L' := [(3, .int v4), (5, .int r7), (0, .ref 175), (1, .int v1), (2, .int v2), (4, .int v4)]) dX11_chosen_85 rfl (by decide) rfl ?_
              refine BT.iinc (j := 5) (v := (v4 + 1)) (L' := [(4, .int (v4 + 1)), (3, .int v4), (5, .int r7), (0, .ref 175), (1, .int v1), (2, .int v2)]) dX11_chosen_86 rfl rfl (by decide) rfl ?_
              refine BT.goto (tgt := 11) dX11_chosen_89 (by decide) ?_
              refine BT.sub [3, 4, 5, 1, 0] rfl ?_
              exact (((((((h.2 c2).2 c4).1 c5).2.2.2.2.2.2 r7 e7).2 c9).1 c12).2 c15)
          · have c13 := c
            refine BT.aload_n dX11_chosen_59 rfl 1 rfl ?_
            refine BT.getI fl_X11_216 ho_175 rfl dX11_chosen_60 ?_
            refine BT.if_eq (tgt := 70) dX11_chosen_63 (by decide) (fun c => ?_) (fun c => ?_)
            · have c16 := c
              refine BT.iconst (v := 0) dX11_chosen_70 (by decide) ?_
              refine BT.putZ fl_X11_216 ft_11_30 ho_175 rfl (Or.inl rfl) dX11_chosen_71 ?_
              refine BT.iload dX11_chosen_74 0 rfl ?_
              refine BT.if_le (tgt := 84) dX11_chosen_76 (by decide) (fun c => ?_) (fun c => ?_)
              · have c18 := c
                refine BT.iload_n dX11_chosen_84 rfl 4 rfl ?_
                refine BT.istore_n (L' := [(3, .int v3), (5, .int r7), (0, .ref 175), (1, .int v1), (2, .int v2), (4, .int v4)]) dX11_chosen_85 rfl (by decide) rfl ?_
                refine BT.iinc (j := 5) (v := (v4 + 1)) (L' := [(4, .int (v4 + 1)), (3, .int v3), (5, .int r7), (0, .ref 175), (1, .int v1), (2, .int v2)]) dX11_chosen_86 rfl rfl (by decide) rfl ?_
                refine BT.goto (tgt := 11) dX11_chosen_89 (by decide) ?_
                refine BT.sub [3, 4, 5, 1, 0] rfl ?_
                exact ((((((((h.2 c2).2 c4).1 c5).2.2.2.2.2.2 r7 e7).2 c9).2 c13).1 c16).1 c18)
              · have c19 := c
                refine BT.iload dX11_chosen_79 5 rfl ?_
                refine BT.goto (tgt := 85) dX11_chosen_81 (by decide) ?_
                refine BT.istore_n (L' := [(3, .int v4), (5, .int r7), (0, .ref 175), (1, .int v1), (2, .int v2), (4, .int v4)]) dX11_chosen_85 rfl (by decide) rfl ?_
                refine BT.iinc (j := 5) (v := (v4 + 1)) (L' := [(4, .int (v4 + 1)), (3, .int v4), (5, .int r7), (0, .ref 175), (1, .int v1), (2, .int v2)]) dX11_chosen_86 rfl rfl (by decide) rfl ?_
                refine BT.goto (tgt := 11) dX11_chosen_89 (by decide) ?_
                refine BT.sub [3, 4, 5, 1, 0] rfl ?_
                exact ((((((((h.2 c2).2 c4).1 c5).2.2.2.2.2.2 r7 e7).2 c9).2 c13).1 c16).2 c19)
            · have c17 := c
              refine BT.iconst (v := 1) dX11_chosen_66 (by decide) ?_
              refine BT.goto (tgt := 71) dX11_chosen_67 (by decide) ?_
              refine BT.putZ fl_X11_216 ft_11_30 ho_175 rfl (Or.inr rfl) dX11_chosen_71 ?_
              refine BT.iload dX11_chosen_74 0 rfl ?_
              refine BT.if_le (tgt := 84) dX11_chosen_76 (by decide) (fun c => ?_) (fun c => ?_)
              · have c20 := c
                refine BT.iload_n dX11_chosen_84 rfl 4 rfl ?_
                refine BT.istore_n (L' := [(3, .int v3), (5, .int r7), (0, .ref 175), (1, .int v1), (2, .int v2), (4, .int v4)]) dX11_chosen_85 rfl (by decide) rfl ?_
                refine BT.iinc (j := 5) (v := (v4 + 1)) (L' := [(4, .int (v4 + 1)), (3, .int v3), (5, .int r7), (0, .ref 175), (1, .int v1), (2, .int v2)]) dX11_chosen_86 rfl rfl (by decide) rfl ?_
                refine BT.goto (tgt := 11) dX11_chosen_89 (by decide) ?_
                refine BT.sub [3, 4, 5, 1, 0] rfl ?_
                exact ((((((((h.2 c2).2 c4).1 c5).2.2.2.2.2.2 r7 e7).2 c9).2 c13).2 c17).1 c20)
              · have c21 := c
                refine BT.iload dX11_chosen_79 5 rfl ?_
                refine BT.goto (tgt := 85) dX11_chosen_81 (by decide) ?_
                refine BT.istore_n (L' := [(3, .int v4), (5, .int r7), (0, .ref 175), (1, .int v1), (2, .int v2), (4, .int v4)]) dX11_chosen_85 rfl (by decide) rfl ?_
                refine BT.iinc (j := 5) (v := (v4 + 1)) (L' := [(4, .int (v4 + 1)), (3, .int v4), (5, .int r7), (0, .ref 175), (1, .int v1), (2, .int v2)]) dX11_chosen_86 rfl rfl (by decide) rfl ?_
                refine BT.goto (tgt := 11) dX11_chosen_89 (by decide) ?_
                refine BT.sub [3, 4, 5, 1, 0] rfl ?_
                exact ((((((((h.2 c2).2 c4).1 c5).2.2.2.2.2.2 r7 e7).2 c9).2 c13).2 c17).2 c21)
      · have c6 := c
        refine BT.iconst (v := 1) dX11_chosen_34 (by decide) ?_
        refine BT.goto (tgt := 46) dX11_chosen_35 (by decide) ?_
        refine BT.istore (L' := [(5, .int 1), (0, .ref 175), (1, .int v1), (2, .int v2), (3, .int v3), (4, .int v4)]) dX11_chosen_46 (by decide) rfl ?_
        refine BT.aload_n dX11_chosen_48 rfl 1 rfl ?_
        refine BT.iload dX11_chosen_49 0 rfl ?_
        refine BT.if_eq (tgt := 66) dX11_chosen_51 (by decide) (fun c => absurd c (by decide)) (fun _ => ?_)
        refine BT.iload dX11_chosen_54 0 rfl ?_
        refine BT.if_ge (tgt := 70) dX11_chosen_56 (by decide) (fun _ => ?_) (fun c => absurd c (by decide))
        refine BT.iconst (v := 0) dX11_chosen_70 (by decide) ?_
        refine BT.putZ fl_X11_216 ft_11_30 ho_175 rfl (Or.inl rfl) dX11_chosen_71 ?_
        refine BT.iload dX11_chosen_74 0 rfl ?_
        refine BT.if_le (tgt := 84) dX11_chosen_76 (by decide) (fun c => absurd c (by decide)) (fun _ => ?_)
        refine BT.iload dX11_chosen_79 5 rfl ?_
        refine BT.goto (tgt := 85) dX11_chosen_81 (by decide) ?_
        refine BT.istore_n (L' := [(3, .int v4), (5, .int 1), (0, .ref 175), (1, .int v1), (2, .int v2), (4, .int v4)]) dX11_chosen_85 rfl (by decide) rfl ?_
        refine BT.iinc (j := 5) (v := (v4 + 1)) (L' := [(4, .int (v4 + 1)), (3, .int v4), (5, .int 1), (0, .ref 175), (1, .int v1), (2, .int v2)]) dX11_chosen_86 rfl rfl (by decide) rfl ?_
        refine BT.goto (tgt := 11) dX11_chosen_89 (by decide) ?_
        refine BT.sub [3, 4, 5, 1, 0] rfl ?_
        exact (((h.2 c2).2 c4).2 c6)

theorem t_X11_chosen {G : GT} {K : Int32 → Mem → Prop} {M : Mem} {W : WT} {v1 v2 : Int32} (hR : RG W M) (hP : PR W M v2) (hf : ∀ l, l < w_n W → bP v1 l → ¬ z_fit W (nI l) v2 = -6) (h : K (z_ch W (zp v2) v1 (w_n W)).1 (m_i M 175 30 (z_ch W (zp v2) v1 (w_n W)).2)) : T_X11_chosen G [.ref 175, .int v1, .int v2] M K := by
  obtain ⟨h1, h2, h8⟩ := hR.n
  refine e_X11_chosen (k_X11_chosen_0 ?_)
  refine up_loop (P := fun j => B_X11_chosen G K 11 [(0, .ref 175), (1, .int v1), (2, .int v2), (3, .int (z_ch W (zp v2) v1 j).1), (4, .int (nI j))] [] (m_i M 175 30 (z_ch W (zp v2) v1 j).2)) (w_n W) ?_ (fun j hj ih => ?_) 0 (Nat.zero_le _)
  · exact k_X11_chosen_11 (W := W) ⟨fun _ => h, fun c => absurd (by rw [m_i_ne (by omega), h1]; exact Int32.le_refl _) c⟩
  · refine k_X11_chosen_11 (W := W) ⟨fun c => ?_, fun _ => ⟨fun c => ?_, fun c => ?_⟩⟩
    · rw [m_i_ne (by omega), h1, nI_leI (by omega) (by omega)] at c; omega
    · rw [bit_is1 (by omega)] at c
      rw [z_ch, sel_t c] at ih
      rw [nI_1]; exact ih
    · rw [bit_is1 (by omega)] at c
      rw [z_ch, sel_f (fun q => q c)] at ih
      have hin := z_ch_in W (zp v2) v1 j
      have h01 := z_ch_01 W (zp v2) v1 j
      unfold z_more at ih
      simp only [m_i_i, m_i_at, nI_1]
      refine ⟨fun c0 => ?_, fun c0 => ?_⟩
      · rcases hin with q | ⟨b, hb, hbs, q⟩
        · rw [q] at c0; exact absurd c0 (by decide)
        · have hb6 : ¬ nI b = -6 := nI_n6 (by omega)
          rw [q] at ih ⊢
          rw [if_neg hb6] at ih
          refine ⟨hR.m30, hR.li hj, hR.li (by omega), hP.m30, hf j hj c, hf b (by omega) hbs, fun r7 e7 => ?_⟩
          unfold plw at e7
          rw [ix_nI (show j < 2 ^ 31 by omega)] at e7
          rw [← e7] at ih
          refine ⟨fun c1 => ?_, fun c1 => ⟨fun c2 => ?_, fun c2 => ⟨fun c3 => ?_, fun c3 => ?_⟩⟩⟩
          · rw [c1, sel_f (by decide), sel_t (by decide), bi_t rfl] at ih
            refine ⟨fun _ => ih, fun c4 => absurd (by rw [c1]; exact Int32.le_refl _) c4⟩
          · rw [sel_t c2, bi_f c1] at ih
            refine ⟨fun c4 => absurd (Int32.le_antisymm c4 c2) c1, fun c4 => ?_⟩
            rwa [sel_t (Int32.not_le.mp c4)] at ih
          · have e0 : (z_ch W (zp v2) v1 j).2 = 0 := c3
            rw [sel_f c2, e0, sel_f (fun q => c2 (Int32.le_of_lt q))] at ih
            refine ⟨fun _ => ih, fun c4 => absurd (Int32.le_of_lt (Int32.not_le.mp c2)) c4⟩
          · have e0 : (z_ch W (zp v2) v1 j).2 = 1 := h01.resolve_left c3
            rw [sel_f c2, e0, sel_f (fun q => c2 (Int32.le_of_lt q))] at ih
            refine ⟨fun _ => ih, fun c4 => absurd (Int32.le_of_lt (Int32.not_le.mp c2)) c4⟩
      · rcases hin with q | ⟨b, hb, hbs, q⟩
        · rw [q] at ih
          rw [if_pos rfl, sel_t (by decide), sel_t (by decide), bi_f (by decide)] at ih
          exact ih
        · rw [q] at c0; exact absurd (nI_pos' (by omega)) c0

