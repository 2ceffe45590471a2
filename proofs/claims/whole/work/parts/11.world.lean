/-! ===== 11.world ===== -/
/-! ===== helps: loops by a counter, the world's part of the memory ===== -/
theorem up_loop {P : Nat → Prop} (N : Nat) (hend : P N) (hstep : ∀ j, j < N → P (j + 1) → P j) : ∀ j, j ≤ N → P j := by
  intro j hj
  obtain ⟨k, hk⟩ : ∃ k, k = N - j := ⟨_, rfl⟩
  induction k generalizing j with
  | zero => rw [show j = N by omega]; exact hend
  | succ k ih => exact hstep j (by omega) (ih (j + 1) (by omega) (by omega))
/-- ints between 0 and a bound are numbers -/
theorem i_nat {x : Int32} {N : Nat} (hN : N < 2 ^ 31) (h0 : 0 ≤ x) (h : x < nI N) : ∃ j, j < N ∧ x = nI j := by
  obtain ⟨j, hj, rfl⟩ := nI_of (Int32.not_lt.mpr h0)
  exact ⟨j, (nI_ltI hj hN).mp h, rfl⟩
theorem ix_nI {j : Nat} (h : j < 2 ^ 31) : Int32.toNatClampNeg (nI j) = j := nI_clamp h
theorem vp_nI {j N : Nat} (h : j < N) (hN : N < 2 ^ 31) : vp_in (nI j) N := vp_in_nI h hN
abbrev WT : Type := Nat → Nat → Int32
/-- the cells of the world (now), and the piece that could be -/
def wv (M : Mem) : WT := fun c k => if c < 60 ∨ c = 174 then M.1 c k else 0
theorem wv_at {M : Mem} {c k : Nat} (h : c < 60 ∨ c = 174) : wv M c k = M.1 c k := if_pos h
theorem wv_mi {M : Mem} {c k : Nat} {v : Int32} (h : ¬ (c < 60 ∨ c = 174)) : wv (m_i M c k v) = wv M := by
  funext i j
  unfold wv m_i
  by_cases hi : i < 60 ∨ i = 174
  · rw [if_pos hi, if_pos hi]
    exact if_neg (fun (q : i = c ∧ j = k) => h (q.1 ▸ hi))
  · rw [if_neg hi, if_neg hi]
theorem m_i_i {M : Mem} {c k : Nat} {u v : Int32} : m_i (m_i M c k u) c k v = m_i M c k v := by
  unfold m_i
  congr 1
  funext i j
  by_cases h : i = c ∧ j = k
  · simp [h]
  · simp [h]
theorem m_i_self {M : Mem} {c k : Nat} {v : Int32} (h : M.1 c k = v) : m_i M c k v = M := by
  unfold m_i
  obtain ⟨a, b⟩ := M
  congr 1
  funext i j
  by_cases h2 : i = c ∧ j = k
  · rw [if_pos h2, h2.1, h2.2]; exact h.symm
  · rw [if_neg h2]
theorem m_i_at {M : Mem} {c k : Nat} {v : Int32} : (m_i M c k v).1 c k = v := if_pos ⟨rfl, rfl⟩
theorem m_i_ne {M : Mem} {c k i j : Nat} {v : Int32} (h : ¬ (i = c ∧ j = k)) : (m_i M c k v).1 i j = M.1 i j := if_neg h
def w_n (W : WT) : Nat := (W 8 1).toNatClampNeg
def w_p (W : WT) : Nat := (W 8 4).toNatClampNeg
/-- the day on which a piece began -/
def BOk (W : WT) (p : Nat) : Prop := ∃ b, b < 100 ∧ W p 0 = nI b
/-- the world is well: counts, the order of the laws, the pieces' days -/
def WOk (W : WT) : Prop := (W 8 1 = nI (w_n W) ∧ w_n W ≤ 8) ∧ (W 8 4 = nI (w_p W) ∧ w_p W ≤ 8) ∧ (∀ i, i < w_n W → ∃ l, l < w_n W ∧ W 50 i = nI l) ∧ ∀ i, i < w_p W → BOk W (52 + i)
abbrev inF (W : WT) (l : Nat) (day : Int32) : Prop := W (10 + 5 * l) 0 ≤ day ∧ day < W (10 + 5 * l) 1
noncomputable def w_force (W : WT) (day : Int32) : Nat → Int32
  | 0 => 0
  | l + 1 => sel (inF W l day) (w_force W day l ||| ((1 : Int32) <<< (nI l &&& 31))) (w_force W day l)
noncomputable def w_gone (W : WT) (day : Int32) : Nat → Int32
  | 0 => 0
  | i + 1 => sel (inF W (Int32.toNatClampNeg (W 50 i)) day ∧ ((w_gone W day i >>> (W 50 i &&& 31)) &&& 1) = 0) (w_gone W day i ||| W (10 + 5 * Int32.toNatClampNeg (W 50 i)) 14) (w_gone W day i)
noncomputable def w_undone (W : WT) (day : Int32) : Int32 := w_gone W day (w_n W) &&& (((1 : Int32) <<< (W 8 1 &&& 31)) - 1)
def w_turns (W : WT) (day : Int32) : Prop := ∃ l, l < w_n W ∧ (W (10 + 5 * l) 0 = day ∨ W (10 + 5 * l) 1 = day)

/-! BetweenLaws$World.lawsInForce(I)I -/
abbrev rm_X9_lawsInForce : Room := { frames := 1, cells := 0, slots := 0, locals := 21 }
abbrev B_X9_lawsInForce (G : GT) (K : Int32 → Mem → Prop) := BT G (Rep G) RX9 "lawsInForce" cX9_lawsInForce 4 (some .int) rm_X9_lawsInForce K 0 0
abbrev T_X9_lawsInForce (G : GT) (as : List Value) (M : Mem) (K : Int32 → Mem → Prop) : Prop := MT G (Rep G) yX9_lawsInForce cX9_lawsInForce 4 (some .int) rm_X9_lawsInForce as M K
theorem e_X9_lawsInForce {G : GT} {K : Int32 → Mem → Prop} {M : Mem} {v1 : Int32} (h : B_X9_lawsInForce G K 0 [(0, .ref 8), (1, .int v1)] [] M) : T_X9_lawsInForce G [.ref 8, .int v1] M K := MT.of (by decide +kernel) rfl rfl (Nat.le_of_ble_eq_true rfl) rfl h
set_option maxRecDepth 4000 in
theorem k_X9_lawsInForce_0 {G : GT} {K : Int32 → Mem → Prop} {M : Mem} {v1 : Int32} (h : B_X9_lawsInForce G K 4 [(0, .ref 8), (1, .int v1), (2, .int 0), (3, .int 0)] [] M) : B_X9_lawsInForce G K 0 [(0, .ref 8), (1, .int v1)] [] M := by
  refine BT.iconst (v := 0) dX9_lawsInForce_0 (by decide) ?_
  refine BT.istore_n (L' := [(2, .int 0), (0, .ref 8), (1, .int v1)]) dX9_lawsInForce_1 rfl (by decide) rfl ?_
  refine BT.iconst (v := 0) dX9_lawsInForce_2 (by decide) ?_
  refine BT.istore_n (L' := [(3, .int 0), (2, .int 0), (0, .ref 8), (1, .int v1)]) dX9_lawsInForce_3 rfl (by decide) rfl ?_
  refine BT.sub [2, 3, 1, 0] rfl ?_
  exact h
set_option maxRecDepth 4000 in
theorem k_X9_lawsInForce_4 {G : GT} {K : Int32 → Mem → Prop} {M : Mem} {v1 : Int32} {v2 : Int32} {v3 : Int32} (h : ((M.1 8 1) ≤ v3 → K v2 M) ∧ (¬ (M.1 8 1) ≤ v3 → (vp_in v3 8) ∧ (¬ ((M.1 (10 + 5 * (Int32.toNatClampNeg v3)) 0) ≤ v1 ∧ v1 < (M.1 (10 + 5 * (Int32.toNatClampNeg v3)) 1)) → B_X9_lawsInForce G K 4 [(0, .ref 8), (1, .int v1), (2, .int v2), (3, .int (v3 + 1))] [] M) ∧ (((M.1 (10 + 5 * (Int32.toNatClampNeg v3)) 0) ≤ v1 ∧ v1 < (M.1 (10 + 5 * (Int32.toNatClampNeg v3)) 1)) → B_X9_lawsInForce G K 4 [(0, .ref 8), (1, .int v1), (2, .int (v2 ||| ((1 : Int32) <<< (v3 &&& 31)))), (3, .int (v3 + 1))] [] M))) : B_X9_lawsInForce G K 4 [(0, .ref 8), (1, .int v1), (2, .int v2), (3, .int v3)] [] M := by
  refine BT.iload_n dX9_lawsInForce_4 rfl 3 rfl ?_
  refine BT.aload_n dX9_lawsInForce_5 rfl 0 rfl ?_
  refine BT.getI fl_X9_29 ho_8 rfl dX9_lawsInForce_6 ?_
  refine BT.icmp_ge (tgt := 37) dX9_lawsInForce_9 (by decide) (fun c => ?_) (fun c => ?_)
  · have c1 := c
    refine BT.iload_n dX9_lawsInForce_37 rfl 2 rfl ?_
    exact BT.iret dX9_lawsInForce_38 rfl (by decide) (by decide) (h.1 c1)
  · have c2 := c
    refine BT.aload_n dX9_lawsInForce_12 rfl 0 rfl ?_
    refine BT.getR (r := 9) fl_X9_11 ho_8 rfl dX9_lawsInForce_13 ?_
    refine BT.iload_n dX9_lawsInForce_16 rfl 3 rfl ?_
    refine BT.aald ha_9 (by decide) (h.2 c2).1 dX9_lawsInForce_17 ?_
    refine BT.iload_n dX9_lawsInForce_18 rfl 1 rfl ?_
    refine BT.mcV [.int v1] (t_X3_isInForce (lawC8 (h.2 c2).1) ?_) mb_X3_isInForce mv_X3_isInForce lk_X9_53 rfl (by decide) rfl (recvRep (lawC8 (h.2 c2).1).1 rfl) (Nat.le_of_ble_eq_true rfl) dX9_lawsInForce_19
    show B_X9_lawsInForce G K 22 [(0, .ref 8), (1, .int v1), (2, .int v2), (3, .int v3)] [.int (bi ((M.1 (10 + 5 * (Int32.toNatClampNeg v3)) 0) ≤ v1 ∧ v1 < (M.1 (10 + 5 * (Int32.toNatClampNeg v3)) 1)))] M
    refine BT.if_eq (tgt := 31) dX9_lawsInForce_22 (by decide) (fun c => ?_) (fun c => ?_)
    · have c4 := bi_eq0.mp c
      refine BT.iinc (j := 3) (v := (v3 + 1)) (L' := [(3, .int (v3 + 1)), (0, .ref 8), (1, .int v1), (2, .int v2)]) dX9_lawsInForce_31 rfl rfl (by decide) rfl ?_
      refine BT.goto (tgt := 4) dX9_lawsInForce_34 (by decide) ?_
      refine BT.sub [1, 2, 3, 0] rfl ?_
      exact ((h.2 c2).2.1 c4)
    · have c5 := bi_ne0.mp c
      refine BT.iload_n dX9_lawsInForce_25 rfl 2 rfl ?_
      refine BT.iconst (v := 1) dX9_lawsInForce_26 (by decide) ?_
      refine BT.iload_n dX9_lawsInForce_27 rfl 3 rfl ?_
      refine BT.ishl dX9_lawsInForce_28 ?_
      refine BT.ior dX9_lawsInForce_29 ?_
      refine BT.istore_n (L' := [(2, .int (v2 ||| ((1 : Int32) <<< (v3 &&& 31)))), (0, .ref 8), (1, .int v1), (3, .int v3)]) dX9_lawsInForce_30 rfl (by decide) rfl ?_
      refine BT.iinc (j := 3) (v := (v3 + 1)) (L' := [(3, .int (v3 + 1)), (2, .int (v2 ||| ((1 : Int32) <<< (v3 &&& 31)))), (0, .ref 8), (1, .int v1)]) dX9_lawsInForce_31 rfl rfl (by decide) rfl ?_
      refine BT.goto (tgt := 4) dX9_lawsInForce_34 (by decide) ?_
      refine BT.sub [2, 3, 1, 0] rfl ?_
      exact ((h.2 c2).2.2 c5)

theorem t_X9_lawsInForce {G : GT} {K : Int32 → Mem → Prop} {M : Mem} {v1 : Int32} (hw : WOk (wv M)) (h : K (w_force (wv M) v1 (w_n (wv M))) M) : T_X9_lawsInForce G [.ref 8, .int v1] M K := by
  obtain ⟨⟨hn, h8⟩, -⟩ := hw
  rw [wv_at (by decide)] at hn
  refine e_X9_lawsInForce (k_X9_lawsInForce_0 ?_)
  refine up_loop (P := fun j => B_X9_lawsInForce G K 4 [(0, .ref 8), (1, .int v1), (2, .int (w_force (wv M) v1 j)), (3, .int (nI j))] [] M) (w_n (wv M)) ?_ (fun j hj ih => ?_) 0 (Nat.zero_le _)
  · refine k_X9_lawsInForce_4 ⟨fun _ => h, fun c => ?_⟩
    rw [hn] at c
    exact absurd (Int32.le_refl _) c
  · have e1 : wv M (10 + 5 * j) 0 = M.1 (10 + 5 * j) 0 := wv_at (by omega)
    have e2 : wv M (10 + 5 * j) 1 = M.1 (10 + 5 * j) 1 := wv_at (by omega)
    refine k_X9_lawsInForce_4 ⟨fun c => ?_, fun c => ⟨vp_nI (by omega) (by decide), fun d => ?_, fun d => ?_⟩⟩
    · rw [hn, nI_leI (by omega) (by omega)] at c
      omega
    · rw [ix_nI (by omega), ← e1, ← e2] at d
      simp only [w_force, sel_f d] at ih
      rw [nI_1]
      exact ih
    · rw [ix_nI (by omega), ← e1, ← e2] at d
      simp only [w_force, sel_t d] at ih
      rw [nI_1]
      exact ih

/-! BetweenLaws$World.undone(I)I -/
abbrev rm_X9_undone : Room := { frames := 1, cells := 0, slots := 0, locals := 21 }
abbrev B_X9_undone (G : GT) (K : Int32 → Mem → Prop) := BT G (Rep G) RX9 "undone" cX9_undone 5 (some .int) rm_X9_undone K 0 0
abbrev T_X9_undone (G : GT) (as : List Value) (M : Mem) (K : Int32 → Mem → Prop) : Prop := MT G (Rep G) yX9_undone cX9_undone 5 (some .int) rm_X9_undone as M K
theorem e_X9_undone {G : GT} {K : Int32 → Mem → Prop} {M : Mem} {v1 : Int32} (h : B_X9_undone G K 0 [(0, .ref 8), (1, .int v1)] [] M) : T_X9_undone G [.ref 8, .int v1] M K := MT.of (by decide +kernel) rfl rfl (Nat.le_of_ble_eq_true rfl) rfl h
set_option maxRecDepth 4000 in
theorem k_X9_undone_0 {G : GT} {K : Int32 → Mem → Prop} {M : Mem} {v1 : Int32} (h : B_X9_undone G K 4 [(0, .ref 8), (1, .int v1), (2, .int 0), (3, .int 0)] [] M) : B_X9_undone G K 0 [(0, .ref 8), (1, .int v1)] [] M := by
  refine BT.iconst (v := 0) dX9_undone_0 (by decide) ?_
  refine BT.istore_n (L' := [(2, .int 0), (0, .ref 8), (1, .int v1)]) dX9_undone_1 rfl (by decide) rfl ?_
  refine BT.iconst (v := 0) dX9_undone_2 (by decide) ?_
  refine BT.istore_n (L' := [(3, .int 0), (2, .int 0), (0, .ref 8), (1, .int v1)]) dX9_undone_3 rfl (by decide) rfl ?_
  refine BT.sub [2, 3, 1, 0] rfl ?_
  exact h
set_option maxRecDepth 4000 in
theorem k_X9_undone_4 {G : GT} {K : Int32 → Mem → Prop} {M : Mem} {v1 : Int32} {v2 : Int32} {v3 : Int32} (h : ((M.1 8 1) ≤ v3 → K (v2 &&& (((1 : Int32) <<< ((M.1 8 1) &&& 31)) - 1)) M) ∧ (¬ (M.1 8 1) ≤ v3 → (vp_in v3 8) ∧ (vp_in (M.1 50 (Int32.toNatClampNeg v3)) 8) ∧ (¬ ((M.1 (10 + 5 * (Int32.toNatClampNeg (M.1 50 (Int32.toNatClampNeg v3)))) 0) ≤ v1 ∧ v1 < (M.1 (10 + 5 * (Int32.toNatClampNeg (M.1 50 (Int32.toNatClampNeg v3)))) 1)) → B_X9_undone G K 4 [(0, .ref 8), (1, .int v1), (2, .int v2), (3, .int (v3 + 1))] [] M) ∧ (((M.1 (10 + 5 * (Int32.toNatClampNeg (M.1 50 (Int32.toNatClampNeg v3)))) 0) ≤ v1 ∧ v1 < (M.1 (10 + 5 * (Int32.toNatClampNeg (M.1 50 (Int32.toNatClampNeg v3)))) 1)) → (¬ ((v2 >>> ((M.1 50 (Int32.toNatClampNeg v3)) &&& 31)) &&& 1) = 0 → B_X9_undone G K 4 [(0, .ref 8), (1, .int v1), (2, .int v2), (3, .int (v3 + 1))] [] M) ∧ (((v2 >>> ((M.1 50 (Int32.toNatClampNeg v3)) &&& 31)) &&& 1) = 0 → (vp_in (M.1 50 (Int32.toNatClampNeg v3)) 8) ∧ B_X9_undone G K 4 [(0, .ref 8), (1, .int v1), (2, .int (v2 ||| (M.1 (10 + 5 * (Int32.toNatClampNeg (M.1 50 (Int32.toNatClampNeg v3)))) 14))), (3, .int (v3 + 1))] [] M)))) : B_X9_undone G K 4 [(0, .ref 8), (1, .int v1), (2, .int v2), (3, .int v3)] [] M := by
  refine BT.iload_n dX9_undone_4 rfl 3 rfl ?_
  refine BT.aload_n dX9_undone_5 rfl 0 rfl ?_
  refine BT.getI fl_X9_29 ho_8 rfl dX9_undone_6 ?_
  refine BT.icmp_ge (tgt := 62) dX9_undone_9 (by decide) (fun c => ?_) (fun c => ?_)
  · have c1 := c
    refine BT.iload_n dX9_undone_62 rfl 2 rfl ?_
    refine BT.iconst (v := 1) dX9_undone_63 (by decide) ?_
    refine BT.aload_n dX9_undone_64 rfl 0 rfl ?_
    refine BT.getI fl_X9_29 ho_8 rfl dX9_undone_65 ?_
    refine BT.ishl dX9_undone_68 ?_
    refine BT.iconst (v := 1) dX9_undone_69 (by decide) ?_
    refine BT.isub dX9_undone_70 ?_
    refine BT.iand dX9_undone_71 ?_
    exact BT.iret dX9_undone_72 rfl (by decide) (by decide) (h.1 c1)
  · have c2 := c
    refine BT.aload_n dX9_undone_12 rfl 0 rfl ?_
    refine BT.getR (r := 50) fl_X9_18 ho_8 rfl dX9_undone_13 ?_
    refine BT.iload_n dX9_undone_16 rfl 3 rfl ?_
    refine BT.iald ha_50 (h.2 c2).1 dX9_undone_17 ?_
    refine BT.istore (L' := [(4, .int (M.1 50 (Int32.toNatClampNeg v3))), (0, .ref 8), (1, .int v1), (2, .int v2), (3, .int v3)]) dX9_undone_18 (by decide) rfl ?_
    refine BT.aload_n dX9_undone_20 rfl 1 rfl ?_
    refine BT.getR (r := 9) fl_X9_11 ho_8 rfl dX9_undone_21 ?_
    refine BT.iload dX9_undone_24 0 rfl ?_
    refine BT.aald ha_9 (by decide) (h.2 c2).2.1 dX9_undone_26 ?_
    refine BT.iload_n dX9_undone_27 rfl 2 rfl ?_
    refine BT.mcV [.int v1] (t_X3_isInForce (lawC8 (h.2 c2).2.1) ?_) mb_X3_isInForce mv_X3_isInForce lk_X9_53 rfl (by decide) rfl (recvRep (lawC8 (h.2 c2).2.1).1 rfl) (Nat.le_of_ble_eq_true rfl) dX9_undone_28
    show B_X9_undone G K 31 [(4, .int (M.1 50 (Int32.toNatClampNeg v3))), (0, .ref 8), (1, .int v1), (2, .int v2), (3, .int v3)] [.int (bi ((M.1 (10 + 5 * (Int32.toNatClampNeg (M.1 50 (Int32.toNatClampNeg v3)))) 0) ≤ v1 ∧ v1 < (M.1 (10 + 5 * (Int32.toNatClampNeg (M.1 50 (Int32.toNatClampNeg v3)))) 1)))] M
    refine BT.if_eq (tgt := 56) dX9_undone_31 (by decide) (fun c => ?_) (fun c => ?_)
    · have c4 := bi_eq0.mp c
      refine BT.iinc (j := 4) (v := (v3 + 1)) (L' := [(3, .int (v3 + 1)), (4, .int (M.1 50 (Int32.toNatClampNeg v3))), (0, .ref 8), (1, .int v1), (2, .int v2)]) dX9_undone_56 rfl rfl (by decide) rfl ?_
      refine BT.goto (tgt := 4) dX9_undone_59 (by decide) ?_
      refine BT.sub [2, 3, 4, 0] rfl ?_
      exact ((h.2 c2).2.2.1 c4)
    · have c5 := bi_ne0.mp c
      refine BT.iload_n dX9_undone_34 rfl 3 rfl ?_
      refine BT.iload dX9_undone_35 0 rfl ?_
      refine BT.ishr dX9_undone_37 ?_
      refine BT.iconst (v := 1) dX9_undone_38 (by decide) ?_
      refine BT.iand dX9_undone_39 ?_
      refine BT.if_ne (tgt := 56) dX9_undone_40 (by decide) (fun c => ?_) (fun c => ?_)
      · have c6 := c
        refine BT.iinc (j := 4) (v := (v3 + 1)) (L' := [(3, .int (v3 + 1)), (4, .int (M.1 50 (Int32.toNatClampNeg v3))), (0, .ref 8), (1, .int v1), (2, .int v2)]) dX9_undone_56 rfl rfl (by decide) rfl ?_
        refine BT.goto (tgt := 4) dX9_undone_59 (by decide) ?_
        refine BT.sub [2, 3, 4, 0] rfl ?_
        exact (((h.2 c2).2.2.2 c5).1 c6)
      · have c7 := c
        refine BT.iload_n dX9_undone_43 rfl 3 rfl ?_
        refine BT.aload_n dX9_undone_44 rfl 1 rfl ?_
        refine BT.getR (r := 9) fl_X9_11 ho_8 rfl dX9_undone_45 ?_
        refine BT.iload dX9_undone_48 0 rfl ?_
        refine BT.aald ha_9 (by decide) (((h.2 c2).2.2.2 c5).2 c7).1 dX9_undone_50 ?_
        refine BT.getI fl_X9_57 (lawC8 (((h.2 c2).2.2.2 c5).2 c7).1).1 rfl dX9_undone_51 ?_
        refine BT.ior dX9_undone_54 ?_
        refine BT.istore_n (L' := [(2, .int (v2 ||| (M.1 (10 + 5 * (Int32.toNatClampNeg (M.1 50 (Int32.toNatClampNeg v3)))) 14))), (4, .int (M.1 50 (Int32.toNatClampNeg v3))), (0, .ref 8), (1, .int v1), (3, .int v3)]) dX9_undone_55 rfl (by decide) rfl ?_
        refine BT.iinc (j := 4) (v := (v3 + 1)) (L' := [(3, .int (v3 + 1)), (2, .int (v2 ||| (M.1 (10 + 5 * (Int32.toNatClampNeg (M.1 50 (Int32.toNatClampNeg v3)))) 14))), (4, .int (M.1 50 (Int32.toNatClampNeg v3))), (0, .ref 8), (1, .int v1)]) dX9_undone_56 rfl rfl (by decide) rfl ?_
        refine BT.goto (tgt := 4) dX9_undone_59 (by decide) ?_
        refine BT.sub [3, 4, 1, 0] rfl ?_
        exact (((h.2 c2).2.2.2 c5).2 c7).2

theorem t_X9_undone {G : GT} {K : Int32 → Mem → Prop} {M : Mem} {v1 : Int32} (hw : WOk (wv M)) (h : K (w_undone (wv M) v1) M) : T_X9_undone G [.ref 8, .int v1] M K := by
  obtain ⟨⟨hn, h8⟩, -, hlf, -⟩ := hw
  have hn0 := hn
  rw [wv_at (by decide)] at hn
  refine e_X9_undone (k_X9_undone_0 ?_)
  refine up_loop (P := fun j => B_X9_undone G K 4 [(0, .ref 8), (1, .int v1), (2, .int (w_gone (wv M) v1 j)), (3, .int (nI j))] [] M) (w_n (wv M)) ?_ (fun j hj ih => ?_) 0 (Nat.zero_le _)
  · refine k_X9_undone_4 ⟨fun _ => ?_, fun c => ?_⟩
    · unfold w_undone at h
      rw [wv_at (by decide)] at h
      exact h
    · rw [hn] at c
      exact absurd (Int32.le_refl _) c
  · obtain ⟨l, hl, el⟩ := hlf j hj
    have e0 : M.1 50 j = nI l := by rw [← el, wv_at (by decide)]
    have e1 : ∀ k, wv M (10 + 5 * l) k = M.1 (10 + 5 * l) k := fun k => wv_at (by omega)
    simp only [w_gone, el, ix_nI (show l < 2 ^ 31 by omega)] at ih
    refine k_X9_undone_4 ?_
    simp only [ix_nI (show j < 2 ^ 31 by omega), e0, ix_nI (show l < 2 ^ 31 by omega), nI_1, ← e1]
    refine ⟨fun c => ?_, fun c => ⟨vp_nI (by omega) (by decide), vp_nI (by omega) (by decide), fun d => ?_, fun d => ⟨fun f => ?_, fun f => ⟨vp_nI (by omega) (by decide), ?_⟩⟩⟩⟩
    · rw [hn, nI_leI (by omega) (by omega)] at c
      omega
    · rw [sel_f (fun q => d q.1)] at ih
      exact ih
    · rw [sel_f (fun q => f q.2)] at ih
      exact ih
    · rw [sel_t ⟨d, f⟩] at ih
      exact ih

/-! BetweenLaws$World.turnsOn(I)Z -/
abbrev rm_X9_turnsOn : Room := { frames := 0, cells := 0, slots := 0, locals := 0 }
abbrev B_X9_turnsOn (G : GT) (K : Int32 → Mem → Prop) := BT G (Rep G) RX9 "turnsOn" cX9_turnsOn 3 (some .boolean) rm_X9_turnsOn K 0 0
abbrev T_X9_turnsOn (G : GT) (as : List Value) (M : Mem) (K : Int32 → Mem → Prop) : Prop := MT G (Rep G) yX9_turnsOn cX9_turnsOn 3 (some .boolean) rm_X9_turnsOn as M K
theorem e_X9_turnsOn {G : GT} {K : Int32 → Mem → Prop} {M : Mem} {v1 : Int32} (h : B_X9_turnsOn G K 0 [(0, .ref 8), (1, .int v1)] [] M) : T_X9_turnsOn G [.ref 8, .int v1] M K := MT.of (by decide +kernel) rfl rfl (Nat.le_of_ble_eq_true rfl) rfl h
set_option maxRecDepth 4000 in
theorem k_X9_turnsOn_0 {G : GT} {K : Int32 → Mem → Prop} {M : Mem} {v1 : Int32} (h : B_X9_turnsOn G K 2 [(0, .ref 8), (1, .int v1), (2, .int 0)] [] M) : B_X9_turnsOn G K 0 [(0, .ref 8), (1, .int v1)] [] M := by
  refine BT.iconst (v := 0) dX9_turnsOn_0 (by decide) ?_
  refine BT.istore_n (L' := [(2, .int 0), (0, .ref 8), (1, .int v1)]) dX9_turnsOn_1 rfl (by decide) rfl ?_
  refine BT.sub [1, 2, 0] rfl ?_
  exact h
set_option maxRecDepth 4000 in
theorem k_X9_turnsOn_2 {G : GT} {K : Int32 → Mem → Prop} {M : Mem} {v1 : Int32} {v2 : Int32} (h : ((M.1 8 1) ≤ v2 → K 0 M) ∧ (¬ (M.1 8 1) ≤ v2 → (vp_in v2 8) ∧ ((M.1 (10 + 5 * (Int32.toNatClampNeg v2)) 0) = v1 → K 1 M) ∧ (¬ (M.1 (10 + 5 * (Int32.toNatClampNeg v2)) 0) = v1 → (vp_in v2 8) ∧ (¬ (M.1 (10 + 5 * (Int32.toNatClampNeg v2)) 1) = v1 → B_X9_turnsOn G K 2 [(0, .ref 8), (1, .int v1), (2, .int (v2 + 1))] [] M) ∧ ((M.1 (10 + 5 * (Int32.toNatClampNeg v2)) 1) = v1 → K 1 M)))) : B_X9_turnsOn G K 2 [(0, .ref 8), (1, .int v1), (2, .int v2)] [] M := by
  refine BT.iload_n dX9_turnsOn_2 rfl 2 rfl ?_
  refine BT.aload_n dX9_turnsOn_3 rfl 0 rfl ?_
  refine BT.getI fl_X9_29 ho_8 rfl dX9_turnsOn_4 ?_
  refine BT.icmp_ge (tgt := 44) dX9_turnsOn_7 (by decide) (fun c => ?_) (fun c => ?_)
  · have c1 := c
    refine BT.iconst (v := 0) dX9_turnsOn_44 (by decide) ?_
    exact BT.zret dX9_turnsOn_45 rfl (by decide) (by decide) (nar01 ((Or.inl rfl))) (h.1 c1)
  · have c2 := c
    refine BT.aload_n dX9_turnsOn_10 rfl 0 rfl ?_
    refine BT.getR (r := 9) fl_X9_11 ho_8 rfl dX9_turnsOn_11 ?_
    refine BT.iload_n dX9_turnsOn_14 rfl 2 rfl ?_
    refine BT.aald ha_9 (by decide) (h.2 c2).1 dX9_turnsOn_15 ?_
    refine BT.getI fl_X9_40 (lawC8 (h.2 c2).1).1 rfl dX9_turnsOn_16 ?_
    refine BT.iload_n dX9_turnsOn_19 rfl 1 rfl ?_
    refine BT.icmp_eq (tgt := 36) dX9_turnsOn_20 (by decide) (fun c => ?_) (fun c => ?_)
    · have c3 := c
      refine BT.iconst (v := 1) dX9_turnsOn_36 (by decide) ?_
      exact BT.zret dX9_turnsOn_37 rfl (by decide) (by decide) (nar01 ((Or.inr rfl))) ((h.2 c2).2.1 c3)
    · have c4 := c
      refine BT.aload_n dX9_turnsOn_23 rfl 0 rfl ?_
      refine BT.getR (r := 9) fl_X9_11 ho_8 rfl dX9_turnsOn_24 ?_
      refine BT.iload_n dX9_turnsOn_27 rfl 2 rfl ?_
      refine BT.aald ha_9 (by decide) ((h.2 c2).2.2 c4).1 dX9_turnsOn_28 ?_
      refine BT.getI fl_X9_43 (lawC8 ((h.2 c2).2.2 c4).1).1 rfl dX9_turnsOn_29 ?_
      refine BT.iload_n dX9_turnsOn_32 rfl 1 rfl ?_
      refine BT.icmp_ne (tgt := 38) dX9_turnsOn_33 (by decide) (fun c => ?_) (fun c => ?_)
      · have c5 := c
        refine BT.iinc (j := 2) (v := (v2 + 1)) (L' := [(2, .int (v2 + 1)), (0, .ref 8), (1, .int v1)]) dX9_turnsOn_38 rfl rfl (by decide) rfl ?_
        refine BT.goto (tgt := 2) dX9_turnsOn_41 (by decide) ?_
        refine BT.sub [1, 2, 0] rfl ?_
        exact (((h.2 c2).2.2 c4).2.1 c5)
      · have c6 := c
        refine BT.iconst (v := 1) dX9_turnsOn_36 (by decide) ?_
        exact BT.zret dX9_turnsOn_37 rfl (by decide) (by decide) (nar01 ((Or.inr rfl))) (((h.2 c2).2.2 c4).2.2 c6)

theorem t_X9_turnsOn {G : GT} {K : Int32 → Mem → Prop} {M : Mem} {v1 : Int32} (hw : WOk (wv M)) (h : K (bi (w_turns (wv M) v1)) M) : T_X9_turnsOn G [.ref 8, .int v1] M K := by
  obtain ⟨⟨hn, h8⟩, -⟩ := hw
  rw [wv_at (by decide)] at hn
  obtain ⟨h1, h0⟩ := bi_K h
  refine e_X9_turnsOn (k_X9_turnsOn_0 ?_)
  refine up_loop (P := fun j => (∀ l, l < j → ¬ (wv M (10 + 5 * l) 0 = v1 ∨ wv M (10 + 5 * l) 1 = v1)) → B_X9_turnsOn G K 2 [(0, .ref 8), (1, .int v1), (2, .int (nI j))] [] M) (w_n (wv M)) (fun hno => ?_) (fun j hj ih hno => ?_) 0 (Nat.zero_le _) (fun l hl => absurd hl (Nat.not_lt_zero l))
  · refine k_X9_turnsOn_2 ⟨fun _ => h0 (fun q => ?_), fun c => ?_⟩
    · obtain ⟨l, hl, e⟩ := q
      exact hno l hl e
    · rw [hn] at c
      exact absurd (Int32.le_refl _) c
  · have e1 : ∀ k, wv M (10 + 5 * j) k = M.1 (10 + 5 * j) k := fun k => wv_at (by omega)
    refine k_X9_turnsOn_2 ?_
    simp only [ix_nI (show j < 2 ^ 31 by omega), nI_1, ← e1]
    refine ⟨fun c => ?_, fun c => ⟨vp_nI (by omega) (by decide), fun d => h1 ⟨j, hj, Or.inl d⟩, fun d => ⟨vp_nI (by omega) (by decide), fun f => ih (fun l hl => ?_), fun f => h1 ⟨j, hj, Or.inr f⟩⟩⟩⟩
    · rw [hn, nI_leI (by omega) (by omega)] at c
      omega
    · rcases Nat.lt_succ_iff_lt_or_eq.mp hl with q | rfl
      · exact hno l q
      · exact fun q => q.elim d f

