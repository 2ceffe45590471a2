/-! ===== 21.calls ===== -/
/-! ===== the calls: what they are refused with ===== -/
noncomputable def q_rp (W : Nat → Nat → Int32) (p d : Int32) : Int32 := sel ((0 : Int32) ≤ p ∧ p < W 8 4) (sel ((0 : Int32) ≤ d ∧ d ≤ 99) 0 (-2)) (-1)
noncomputable def q_rl (W : Nat → Nat → Int32) (l p d : Int32) : Int32 := sel ((0 : Int32) ≤ l ∧ l < W 8 1) (q_rp W p d) (-1)
theorem q_rp_wv {M : Mem} {p d : Int32} : q_rp M.1 p d = q_rp (wv M) p d := by
  unfold q_rp
  rw [wv_at (by decide)]
theorem q_rl_wv {M : Mem} {l p d : Int32} : q_rl M.1 l p d = q_rl (wv M) l p d := by
  unfold q_rl
  rw [q_rp_wv, wv_at (by decide)]
theorem q_rp_0 {W : Nat → Nat → Int32} {p d : Int32} (h : q_rp W p d = 0) : ((0 : Int32) ≤ p ∧ p < W 8 4) ∧ (0 : Int32) ≤ d ∧ d ≤ 99 := by
  unfold q_rp at h
  by_cases h1 : (0 : Int32) ≤ p ∧ p < W 8 4
  · rw [sel_t h1] at h
    by_cases h2 : (0 : Int32) ≤ d ∧ d ≤ 99
    · exact ⟨h1, h2⟩
    · rw [sel_f h2] at h; exact absurd h (by decide)
  · rw [sel_f h1] at h; exact absurd h (by decide)
theorem q_rl_0 {W : Nat → Nat → Int32} {l p d : Int32} (h : q_rl W l p d = 0) : ((0 : Int32) ≤ l ∧ l < W 8 1) ∧ ((0 : Int32) ≤ p ∧ p < W 8 4) ∧ (0 : Int32) ≤ d ∧ d ≤ 99 := by
  unfold q_rl at h
  by_cases h1 : (0 : Int32) ≤ l ∧ l < W 8 1
  · rw [sel_t h1] at h
    exact ⟨h1, q_rp_0 h⟩
  · rw [sel_f h1] at h; exact absurd h (by decide)
/-- a piece that is there -/
theorem pc_ix {W : WT} (hw : WOk W) {v : Int32} (h : (0 : Int32) ≤ v ∧ v < W 8 4) : Int32.toNatClampNeg v < w_p W ∧ Int32.toNatClampNeg v < 8 ∧ v = nI (Int32.toNatClampNeg v) := by
  obtain ⟨-, ⟨hq, h9⟩, -⟩ := hw
  obtain ⟨j, hj, rfl⟩ := i_nat (show w_p W < 2 ^ 31 by omega) h.1 (by rw [← hq]; exact h.2)
  rw [ix_nI (by omega)]
  exact ⟨hj, by omega, rfl⟩
theorem lw_ix {W : WT} (hw : WOk W) {v : Int32} (h : (0 : Int32) ≤ v ∧ v < W 8 1) : Int32.toNatClampNeg v < w_n W ∧ Int32.toNatClampNeg v < 8 ∧ v = nI (Int32.toNatClampNeg v) := by
  obtain ⟨⟨hq, h9⟩, -, -⟩ := hw
  obtain ⟨j, hj, rfl⟩ := i_nat (show w_n W < 2 ^ 31 by omega) h.1 (by rw [← hq]; exact h.2)
  rw [ix_nI (by omega)]
  exact ⟨hj, by omega, rfl⟩
theorem vp8 {v : Int32} (h : Int32.toNatClampNeg v < 8) (e : v = nI (Int32.toNatClampNeg v)) : vp_in v 8 := by
  rw [e]; exact vp_nI h (by decide)
theorem pc_b {W : WT} (hw : WOk W) {v : Int32} (h : Int32.toNatClampNeg v < w_p W) : BOk W (52 + Int32.toNatClampNeg v) := hw.2.2.2 _ h
theorem Sc9.s10 {M N : Mem} (h : Sc9 M N) : Sc10 M N := Sc10.rf.same h
theorem Scr.s10 {M N : Mem} (h : Scr M N) : Sc10 M N := h.s9.s10
theorem ScX.s10 {M N : Mem} (h : ScX M N) : Sc10 M N := h.s9.s10

/-! BetweenLaws.refusedPiece(II)I -/
abbrev rm_X10_refusedPiece : Room := { frames := 2, cells := 0, slots := 0, locals := 42 }
abbrev B_X10_refusedPiece (G : GT) (K : Int32 → Mem → Prop) := BT G (Rep G) RX10 "refusedPiece" cX10_refusedPiece 3 (some .int) rm_X10_refusedPiece K 0 0
abbrev T_X10_refusedPiece (G : GT) (as : List Value) (M : Mem) (K : Int32 → Mem → Prop) : Prop := MT G (Rep G) yX10_refusedPiece cX10_refusedPiece 3 (some .int) rm_X10_refusedPiece as M K
theorem e_X10_refusedPiece {G : GT} {K : Int32 → Mem → Prop} {M : Mem} {v1 : Int32} {v2 : Int32} (h : B_X10_refusedPiece G K 0 [(0, .ref 0), (1, .int v1), (2, .int v2)] [] M) : T_X10_refusedPiece G [.ref 0, .int v1, .int v2] M K := MT.of (by decide +kernel) rfl rfl (Nat.le_of_ble_eq_true rfl) rfl h
set_option maxRecDepth 4000 in
theorem k_X10_refusedPiece_0 {G : GT} {K : Int32 → Mem → Prop} {M : Mem} {v1 : Int32} {v2 : Int32} (h : (((0 : Int32) ≤ v1 ∧ v1 < (M.1 8 4)) → (¬ ((0 : Int32) ≤ v2 ∧ v2 ≤ 99) → K (-2) M) ∧ (((0 : Int32) ≤ v2 ∧ v2 ≤ 99) → K 0 M)) ∧ (¬ ((0 : Int32) ≤ v1 ∧ v1 < (M.1 8 4)) → K (-1) M)) : B_X10_refusedPiece G K 0 [(0, .ref 0), (1, .int v1), (2, .int v2)] [] M := by
  refine BT.aload_n dX10_refusedPiece_0 rfl 0 rfl ?_
  refine BT.getR (r := 8) fl_X10_26 ho_0 rfl dX10_refusedPiece_1 ?_
  refine BT.iload_n dX10_refusedPiece_4 rfl 1 rfl ?_
  refine BT.mcV [.int v1] (t_X9_hasPiece  ?_) mb_X9_hasPiece mv_X9_hasPiece lk_X10_186 rfl (by decide) rfl (recvRep ho_8 rfl) (Nat.le_of_ble_eq_true rfl) dX10_refusedPiece_5
  show B_X10_refusedPiece G K 8 [(0, .ref 0), (1, .int v1), (2, .int v2)] [.int (bi ((0 : Int32) ≤ v1 ∧ v1 < (M.1 8 4)))] M
  refine BT.if_ne (tgt := 13) dX10_refusedPiece_8 (by decide) (fun c => ?_) (fun c => ?_)
  · have c2 := bi_ne0.mp c
    refine BT.iload_n dX10_refusedPiece_13 rfl 2 rfl ?_
    refine BT.mcS [.int v2] (t_X10_isDay  ?_) mb_X10_isDay ms_X10_isDay lk_X10_101 rfl (by decide) rfl (Nat.le_of_ble_eq_true rfl) dX10_refusedPiece_14
    show B_X10_refusedPiece G K 17 [(0, .ref 0), (1, .int v1), (2, .int v2)] [.int (bi ((0 : Int32) ≤ v2 ∧ v2 ≤ 99))] M
    refine BT.if_eq (tgt := 24) dX10_refusedPiece_17 (by decide) (fun c => ?_) (fun c => ?_)
    · have c5 := bi_eq0.mp c
      refine BT.bipush (v := (-2)) dX10_refusedPiece_24 (by decide) ?_
      exact BT.iret dX10_refusedPiece_26 rfl (by decide) (by decide) ((h.1 c2).1 c5)
    · have c6 := bi_ne0.mp c
      refine BT.iconst (v := 0) dX10_refusedPiece_20 (by decide) ?_
      refine BT.goto (tgt := 26) dX10_refusedPiece_21 (by decide) ?_
      exact BT.iret dX10_refusedPiece_26 rfl (by decide) (by decide) ((h.1 c2).2 c6)
  · have c3 := bi_eq0.mp c
    refine BT.iconst (v := (-1)) dX10_refusedPiece_11 (by decide) ?_
    exact BT.iret dX10_refusedPiece_12 rfl (by decide) (by decide) (h.2 c3)

theorem t_X10_refusedPiece {G : GT} {K : Int32 → Mem → Prop} {M : Mem} {v1 v2 : Int32} (h : K (q_rp M.1 v1 v2) M) : T_X10_refusedPiece G [.ref 0, .int v1, .int v2] M K := by
  refine e_X10_refusedPiece (k_X10_refusedPiece_0 ?_)
  unfold q_rp at h
  refine ⟨fun c => ⟨fun c2 => ?_, fun c2 => ?_⟩, fun c => ?_⟩
  all_goals first
    | (rw [sel_t c, sel_t c2] at h; exact h)
    | (rw [sel_t c, sel_f c2] at h; exact h)
    | (rw [sel_f c] at h; exact h)

/-! BetweenLaws.refusedLaw(III)I -/
abbrev rm_X10_refusedLaw : Room := { frames := 3, cells := 0, slots := 0, locals := 64 }
abbrev B_X10_refusedLaw (G : GT) (K : Int32 → Mem → Prop) := BT G (Rep G) RX10 "refusedLaw" cX10_refusedLaw 4 (some .int) rm_X10_refusedLaw K 0 0
abbrev T_X10_refusedLaw (G : GT) (as : List Value) (M : Mem) (K : Int32 → Mem → Prop) : Prop := MT G (Rep G) yX10_refusedLaw cX10_refusedLaw 4 (some .int) rm_X10_refusedLaw as M K
theorem e_X10_refusedLaw {G : GT} {K : Int32 → Mem → Prop} {M : Mem} {v1 : Int32} {v2 : Int32} {v3 : Int32} (h : B_X10_refusedLaw G K 0 [(0, .ref 0), (1, .int v1), (2, .int v2), (3, .int v3)] [] M) : T_X10_refusedLaw G [.ref 0, .int v1, .int v2, .int v3] M K := MT.of (by decide +kernel) rfl rfl (Nat.le_of_ble_eq_true rfl) rfl h
set_option maxRecDepth 4000 in
theorem k_X10_refusedLaw_0 {G : GT} {K : Int32 → Mem → Prop} {M : Mem} {v1 : Int32} {v2 : Int32} {v3 : Int32} (h : (¬ ((0 : Int32) ≤ v1 ∧ v1 < (M.1 8 1)) → K (-1) M) ∧ (((0 : Int32) ≤ v1 ∧ v1 < (M.1 8 1)) → K (q_rp M.1 v2 v3) M)) : B_X10_refusedLaw G K 0 [(0, .ref 0), (1, .int v1), (2, .int v2), (3, .int v3)] [] M := by
  refine BT.aload_n dX10_refusedLaw_0 rfl 0 rfl ?_
  refine BT.getR (r := 8) fl_X10_26 ho_0 rfl dX10_refusedLaw_1 ?_
  refine BT.iload_n dX10_refusedLaw_4 rfl 1 rfl ?_
  refine BT.mcV [.int v1] (t_X9_hasLaw  ?_) mb_X9_hasLaw mv_X9_hasLaw lk_X10_111 rfl (by decide) rfl (recvRep ho_8 rfl) (Nat.le_of_ble_eq_true rfl) dX10_refusedLaw_5
  show B_X10_refusedLaw G K 8 [(0, .ref 0), (1, .int v1), (2, .int v2), (3, .int v3)] [.int (bi ((0 : Int32) ≤ v1 ∧ v1 < (M.1 8 1)))] M
  refine BT.if_eq (tgt := 20) dX10_refusedLaw_8 (by decide) (fun c => ?_) (fun c => ?_)
  · have c2 := bi_eq0.mp c
    refine BT.iconst (v := (-1)) dX10_refusedLaw_20 (by decide) ?_
    exact BT.iret dX10_refusedLaw_21 rfl (by decide) (by decide) (h.1 c2)
  · have c3 := bi_ne0.mp c
    refine BT.aload_n dX10_refusedLaw_11 rfl 0 rfl ?_
    refine BT.iload_n dX10_refusedLaw_12 rfl 2 rfl ?_
    refine BT.iload_n dX10_refusedLaw_13 rfl 3 rfl ?_
    refine BT.mcV [.int v2, .int v3] (t_X10_refusedPiece  ?_) mb_X10_refusedPiece mv_X10_refusedPiece lk_X10_234 rfl (by decide) rfl (recvRep ho_0 rfl) (Nat.le_of_ble_eq_true rfl) dX10_refusedLaw_14
    show B_X10_refusedLaw G K 17 [(0, .ref 0), (1, .int v1), (2, .int v2), (3, .int v3)] [.int (q_rp M.1 v2 v3)] M
    refine BT.goto (tgt := 21) dX10_refusedLaw_17 (by decide) ?_
    exact BT.iret dX10_refusedLaw_21 rfl (by decide) (by decide) (h.2 c3)

theorem t_X10_refusedLaw {G : GT} {K : Int32 → Mem → Prop} {M : Mem} {v1 v2 v3 : Int32} (h : K (q_rl M.1 v1 v2 v3) M) : T_X10_refusedLaw G [.ref 0, .int v1, .int v2, .int v3] M K := by
  refine e_X10_refusedLaw (k_X10_refusedLaw_0 ?_)
  unfold q_rl at h
  refine ⟨fun c => ?_, fun c => ?_⟩
  all_goals first
    | (rw [sel_t c] at h; exact h)
    | (rw [sel_f c] at h; exact h)

theorem K_eq {K : Int32 → Mem → Prop} {a b : Int32} {N : Mem} (h : K a N) (e : a = b) : K b N := e ▸ h
abbrev ppc (v : Int32) : Nat := 52 + Int32.toNatClampNeg v
abbrev plw (v : Int32) : Nat := 10 + 5 * Int32.toNatClampNeg v
noncomputable def a_meets (W : WT) (l p d : Int32) : Int32 := sel (q_rl W l p d = 0) (sel (w_obst W (Int32.toNatClampNeg l) (ppc p) (c_dayOn W (ppc p) d) (w_undone W (c_dayOn W (ppc p) d)) = 0) 1 0) (q_rl W l p d)
noncomputable def a_why (W : WT) (l p d : Int32) : Int32 := sel (q_rl W l p d = 0) (sel (w_gov W (ppc p) (c_dayOn W (ppc p) d) = l) 0 (sel (w_obst W (Int32.toNatClampNeg l) (ppc p) (c_dayOn W (ppc p) d) (w_undone W (c_dayOn W (ppc p) d)) = 0) 6 (w_obst W (Int32.toNatClampNeg l) (ppc p) (c_dayOn W (ppc p) d) (w_undone W (c_dayOn W (ppc p) d))))) (q_rl W l p d)
noncomputable def a_governs (W : WT) (p d : Int32) : Int32 := sel (q_rp W p d = 0) (w_gov W (ppc p) (c_dayOn W (ppc p) d)) (q_rp W p d)
noncomputable def a_gives (W : WT) (p d : Int32) : Int32 := sel (q_rp W p d = 0) (w_given W (ppc p) d) (q_rp W p d)
noncomputable def a_thoseN (W : WT) (d how : Int32) : Nat → Int32
  | 0 => 0
  | p + 1 => sel (w_those W (52 + p) d how) (a_thoseN W d how p ||| ((1 : Int32) <<< (nI p &&& 31))) (a_thoseN W d how p)
noncomputable def a_those (W : WT) (d how : Int32) : Int32 := sel ((0 : Int32) ≤ d ∧ d ≤ 99) (sel (0 ≤ how ∧ how ≤ 3) (a_thoseN W d how (w_p W)) (-2)) (-2)
noncomputable def a_sumN (W : WT) (d : Int32) : Nat → Int32
  | 0 => 0
  | p + 1 => sel (w_given W (52 + p) d < 0) (a_sumN W d p) (a_sumN W d p + w_given W (52 + p) d)
noncomputable def a_sum (W : WT) (d : Int32) : Int32 := sel ((0 : Int32) ≤ d ∧ d ≤ 99) (a_sumN W d (w_p W)) (-2)
noncomputable def a_pathAt (W : WT) (p : Nat) (t i : Int32) : Int32 := sel (i = -1) (nI (w_path9 W p (w_gov W p t) t).length) (sel (0 ≤ i ∧ i ≤ nI (w_path9 W p (w_gov W p t) t).length - 1) ((w_path9 W p (w_gov W p t) t).getD (Int32.toNatClampNeg i) (-6)) (-6))
noncomputable def a_route (W : WT) (p d i : Int32) : Int32 := sel (q_rp W p d = 0) (a_pathAt W (ppc p) (c_dayOn W (ppc p) d) i) (q_rp W p d)
noncomputable def a_thr (W : WT) (p : Nat) (i : Int32) : Int32 × CrT := r_thr W p i (100 - w_b W p) (r_begin W p)
noncomputable def a_passage (W : WT) (p i k : Int32) : Int32 := sel ((0 : Int32) ≤ p ∧ p < W 8 4) (sel (0 ≤ k ∧ k ≤ 1) (sel (-1 ≤ i) (sel (i = -1) (a_thr W (ppc p) i).2.1 (sel ((a_thr W (ppc p) i).1 = 1) (sel (k = 0) (a_thr W (ppc p) i).2.2.1 (a_thr W (ppc p) i).2.2.2.1) (-6))) (-6)) (-2)) (-1)
noncomputable def a_till (W : WT) (p : Nat) (d : Int32) : CrT := r_till W p d (100 - w_b W p) (r_begin W p)
noncomputable def a_term (W : WT) (p d k : Int32) : Int32 := sel (q_rp W p d = 0) (sel (0 ≤ k ∧ k ≤ 1) (sel (W (ppc p) 0 ≤ d) (sel (k = 0) (a_till W (ppc p) d).2.2.2.1 (a_till W (ppc p) d).2.2.2.2) (-3)) (-2)) (q_rp W p d)
noncomputable def a_whole (W : WT) (p way : Int32) : Int32 := sel ((0 : Int32) ≤ p ∧ p < W 8 4) (sel (0 ≤ way ∧ way ≤ 3) (r_who W (ppc p) (aw_f1 (Int32.toNatClampNeg way)) (100 - w_b W (ppc p)) (r_begin W (ppc p))) (-2)) (-1)
noncomputable def a_taken (W : WT) (l : Int32) : Int32 := sel ((0 : Int32) ≤ l ∧ l < W 8 1) (w_taken W l (w_p W)) (-1)
noncomputable def a_caught (W : WT) (l : Int32) : Int32 := sel ((0 : Int32) ≤ l ∧ l < W 8 1) (w_caught W l (w_p W)) (-1)
noncomputable def a_brief (W : WT) (k : Int32) : Int32 := sel (0 ≤ k ∧ k ≤ 1) (sel (W 8 1 = 0) (-3) (sel (k = 0) (nI (w_brief W (w_n W))) (W (10 + 5 * w_brief W (w_n W)) 1 - W (10 + 5 * w_brief W (w_n W)) 0))) (-2)
noncomputable def a_read (W : WT) (p d r : Int32) : Int32 := sel (q_rp W p d = 0) (sel (0 ≤ r ∧ r ≤ 255) (w_given (w_rd W r) (ppc p) d) (-2)) (q_rp W p d)
noncomputable def a_two (a : Int64 × Int64) : Int32 := l_bc a.1 + l_bc a.2
noncomputable def a_ways (W : WT) (p d : Int32) : Int32 := sel (q_rp W p d = 0) (a_two (a_unl W (ppc p) d (w_times W 8) 256)) (q_rp W p d)
noncomputable def a_hangs (W : WT) (d k : Int32) : Int32 := sel ((0 : Int32) ≤ d ∧ d ≤ 99) (sel (0 ≤ k ∧ k ≤ 1) (sel (k = 0) (w_wei W d (min (w_len W (w_n W)) 8)).1 (w_wei W d (min (w_len W (w_n W)) 8)).2) (-2)) (-2)
noncomputable def a_force (W : WT) (d how : Int32) : Int32 := sel ((0 : Int32) ≤ d ∧ d ≤ 99) (sel (0 ≤ how ∧ how ≤ 2) (sel (how = 0) (w_force W d (w_n W)) (sel (how = 1) (w_undone W d) (w_force W d (w_n W) &&& (w_undone W d ^^^ (-1))))) (-2)) (-2)
noncomputable def a_open (W : WT) (i : Int32) : Int32 := sel (i = -1) (nI (w_len W (w_n W))) (w_wordAt W i)
noncomputable def a_all (W : WT) (d k : Int32) : Int32 := sel ((0 : Int32) ≤ d ∧ d ≤ 99) (sel (0 ≤ k ∧ k ≤ 1) (sel (k = 0) (a_two (su W d (Int32.toNatClampNeg d + 1))) ((fu W d (Int32.toNatClampNeg d) (Int32.toNatClampNeg d + 1)).getD (-6))) (-2)) (-2)
noncomputable def a_mend (W : WT) (l d k : Int32) : Int32 := sel ((0 : Int32) ≤ l ∧ l < W 8 1) (sel ((0 : Int32) ≤ d ∧ d ≤ 99) (sel (0 ≤ k ∧ k ≤ 3) (sel ((m_out W (Int32.toNatClampNeg l) d 6).1 = -6) (-5) (sel (k = 0) (m_out W (Int32.toNatClampNeg l) d 6).1 (sel (k = 1) (m_out W (Int32.toNatClampNeg l) d 6).2.1 (sel (k = 2) (m_out W (Int32.toNatClampNeg l) d 6).2.2.1 (m_out W (Int32.toNatClampNeg l) d 6).2.2.2)))) (-2)) (-2)) (-1)
noncomputable def a_of (W : WT) (l k : Int32) : Int32 := sel ((0 : Int32) ≤ l ∧ l < W 8 1) (sel (k = 0) (W (plw l) 0) (sel (k = 1) (W (plw l) 1) (sel (k = 2) (W (plw l) 2) (sel (k = 3) (W (plw l) 7) (sel (k = 4) (W (plw l) 8) (sel (k = 5) (sel (W (plw l) 10 = 0) 0 1) (sel (k = 6) (W (plw l) 11) (sel (k = 7) (W (plw l) 12) (sel (k = 8) (W (plw l) 13) (sel (k = 9) (W (plw l) 14) (-2))))))))))) (-1)
noncomputable def a_part (W : WT) (l i k : Int32) : Int32 := sel ((0 : Int32) ≤ l ∧ l < W 8 1) (sel (0 ≤ i ∧ i ≤ W (plw l) 2 - 1) (sel (0 ≤ k ∧ k ≤ 1) (sel (k = 0) (W (plw l + 1) (Int32.toNatClampNeg i)) (W (plw l + 2) (Int32.toNatClampNeg i))) (-2)) (-1)) (-1)
noncomputable def a_about (W : WT) (p k : Int32) : Int32 := sel ((0 : Int32) ≤ p ∧ p < W 8 4) (sel (k = 0) (W (ppc p) 0) (sel (k = 1) (W (ppc p) 1) (sel (k = 2) (W (ppc p) 2) (sel (k = 3) (W (ppc p) 3) (sel (k = 4) (W (ppc p) 4) (-2)))))) (-1)
noncomputable def a_told (W : WT) (k : Int32) : Int32 := sel (k = 0) (W 8 1) (sel (k = 1) (W 8 4) (sel (k = 2) (W 1 1) (sel (k = 3) (W 8 5) (sel (k = 4) (W 8 6) (sel (k = 5) (W 8 7) (-2))))))
theorem w_path_len (W : WT) (m gone : Int32) : ∀ (k : Nat) (been l : Int32), (w_path W m gone k been l).length ≤ k - 1
  | 0, _, _ => Nat.le_refl _
  | k + 1, been, l => by
    have ih := w_path_len W m gone k
    unfold w_path sel
    split
    · exact Nat.zero_le _
    · split
      · exact Nat.zero_le _
      · split
        · exact Nat.zero_le _
        · rename_i h
          split
          · have := ih (been ||| ((1 : Int32) <<< (l &&& 31))) (c_gift W (10 + 5 * Int32.toNatClampNeg l) m - 100)
            have hk : ¬ k = 0 := fun z => h (Or.inr z)
            simp only [List.length_cons]
            omega
          · have hk : ¬ k = 0 := fun z => h (Or.inr z)
            simp only [List.length_cons, List.length_nil]
            omega
theorem w_path9_len (W : WT) (p : Nat) (f d : Int32) : (w_path9 W p f d).length ≤ 8 := w_path_len W _ _ 9 _ _
theorem i_le1 {x : Int32} {n : Nat} (h0 : 0 ≤ x) (h : x ≤ nI n - 1) (hn : n < 2 ^ 31) : ∃ j, j < n ∧ x = nI j := by
  cases n with
  | zero => exact absurd (Int32.le_trans h0 h) (by decide)
  | succ m =>
    rw [← nI_1, Int32.add_sub_cancel] at h
    obtain ⟨j, hj, rfl⟩ := nI_of (Int32.not_lt.mpr h0)
    exact ⟨j, by have := (nI_leI hj (by omega)).mp h; omega, rfl⟩

/-! BetweenLaws.meets(III)I -/
abbrev rm_X10_meets : Room := { frames := 4, cells := 0, slots := 0, locals := 87 }
abbrev B_X10_meets (G : GT) (K : Int32 → Mem → Prop) := BT G (Rep G) RX10 "meets" cX10_meets 7 (some .int) rm_X10_meets K 0 0
abbrev T_X10_meets (G : GT) (as : List Value) (M : Mem) (K : Int32 → Mem → Prop) : Prop := MT G (Rep G) yX10_meets cX10_meets 7 (some .int) rm_X10_meets as M K
theorem e_X10_meets {G : GT} {K : Int32 → Mem → Prop} {M : Mem} {v1 : Int32} {v2 : Int32} {v3 : Int32} (h : B_X10_meets G K 0 [(0, .ref 0), (1, .int v1), (2, .int v2), (3, .int v3)] [] M) : T_X10_meets G [.ref 0, .int v1, .int v2, .int v3] M K := MT.of (by decide +kernel) rfl rfl (Nat.le_of_ble_eq_true rfl) rfl h
set_option maxRecDepth 4000 in
theorem k_X10_meets_0 {G : GT} {K : Int32 → Mem → Prop} {M : Mem} {v1 : Int32} {v2 : Int32} {v3 : Int32} (h : ((q_rl M.1 v1 v2 v3) = 0 → (vp_in v2 8) ∧ (WOk (wv M)) ∧ (∀ r5 : Int32, r5 = (w_undone (wv M) (c_dayOn M.1 (52 + (Int32.toNatClampNeg v2)) v3)) → ((0 : Int32) ≤ v1 ∧ v1 < wv M 8 1) ∧ ((52 + (Int32.toNatClampNeg v2)) < 60 ∨ (52 + (Int32.toNatClampNeg v2)) = 174) ∧ (WOk (wv M)) ∧ (∀ r6 : Int32, r6 = (w_obst (wv M) (Int32.toNatClampNeg v1) (52 + (Int32.toNatClampNeg v2)) (c_dayOn M.1 (52 + (Int32.toNatClampNeg v2)) v3) r5) → (¬ r6 = 0 → K 0 M) ∧ (r6 = 0 → K 1 M)))) ∧ (¬ (q_rl M.1 v1 v2 v3) = 0 → K (q_rl M.1 v1 v2 v3) M)) : B_X10_meets G K 0 [(0, .ref 0), (1, .int v1), (2, .int v2), (3, .int v3)] [] M := by
  refine BT.aload_n dX10_meets_0 rfl 0 rfl ?_
  refine BT.iload_n dX10_meets_1 rfl 1 rfl ?_
  refine BT.iload_n dX10_meets_2 rfl 2 rfl ?_
  refine BT.iload_n dX10_meets_3 rfl 3 rfl ?_
  refine BT.mcV [.int v1, .int v2, .int v3] (t_X10_refusedLaw  ?_) mb_X10_refusedLaw mv_X10_refusedLaw lk_X10_219 rfl (by decide) rfl (recvRep ho_0 rfl) (Nat.le_of_ble_eq_true rfl) dX10_meets_4
  show B_X10_meets G K 7 [(0, .ref 0), (1, .int v1), (2, .int v2), (3, .int v3)] [.int (q_rl M.1 v1 v2 v3)] M
  refine BT.istore (L' := [(4, .int (q_rl M.1 v1 v2 v3)), (0, .ref 0), (1, .int v1), (2, .int v2), (3, .int v3)]) dX10_meets_7 (by decide) rfl ?_
  refine BT.iload dX10_meets_9 0 rfl ?_
  refine BT.if_eq (tgt := 17) dX10_meets_11 (by decide) (fun c => ?_) (fun c => ?_)
  · have c2 := c
    refine BT.aload_n dX10_meets_17 rfl 1 rfl ?_
    refine BT.getR (r := 8) fl_X10_26 ho_0 rfl dX10_meets_18 ?_
    refine BT.getR (r := 51) fl_X10_189 ho_8 rfl dX10_meets_21 ?_
    refine BT.iload_n dX10_meets_24 rfl 3 rfl ?_
    refine BT.aald1 ha_51 (by decide) (h.1 c2).1 dX10_meets_25 ?_
    refine BT.astore (L' := [(5, .ref (52 + (Int32.toNatClampNeg v2))), (4, .int (q_rl M.1 v1 v2 v3)), (0, .ref 0), (1, .int v1), (2, .int v2), (3, .int v3)]) dX10_meets_26 (by decide) rfl ?_
    refine BT.aload dX10_meets_28 0 rfl ?_
    refine BT.iload_n dX10_meets_30 rfl 5 rfl ?_
    refine BT.mcV [.int v3] (t_X6_dayOn (pieceC8 (h.1 c2).1) ?_) mb_X6_dayOn mv_X6_dayOn lk_X10_223 rfl (by decide) rfl (recvRep (pieceC8 (h.1 c2).1) rfl) (Nat.le_of_ble_eq_true rfl) dX10_meets_31
    show B_X10_meets G K 34 [(5, .ref (52 + (Int32.toNatClampNeg v2))), (4, .int (q_rl M.1 v1 v2 v3)), (0, .ref 0), (1, .int v1), (2, .int v2), (3, .int v3)] [.int (c_dayOn M.1 (52 + (Int32.toNatClampNeg v2)) v3)] M
    refine BT.istore (L' := [(6, .int (c_dayOn M.1 (52 + (Int32.toNatClampNeg v2)) v3)), (5, .ref (52 + (Int32.toNatClampNeg v2))), (4, .int (q_rl M.1 v1 v2 v3)), (0, .ref 0), (1, .int v1), (2, .int v2), (3, .int v3)]) dX10_meets_34 (by decide) rfl ?_
    refine BT.aload_n dX10_meets_36 rfl 3 rfl ?_
    refine BT.getR (r := 167) fl_X10_46 ho_0 rfl dX10_meets_37 ?_
    refine BT.iload_n dX10_meets_40 rfl 4 rfl ?_
    refine BT.aload dX10_meets_41 1 rfl ?_
    refine BT.iload dX10_meets_43 0 rfl ?_
    refine BT.aload_n dX10_meets_45 rfl 3 rfl ?_
    refine BT.getR (r := 8) fl_X10_26 ho_0 rfl dX10_meets_46 ?_
    refine BT.iload dX10_meets_49 0 rfl ?_
    refine BT.mcVr [.int (c_dayOn M.1 (52 + (Int32.toNatClampNeg v2)) v3)] (t_X9_undone (h.1 c2).2.1 ⟨rfl, rfl⟩) mb_X9_undone mv_X9_undone lk_X10_167 rfl (by decide) rfl (recvRep ho_8 rfl) (Nat.le_of_ble_eq_true rfl) dX10_meets_51 (fun r5 e5 => ?_)
    show B_X10_meets G K 54 [(6, .int (c_dayOn M.1 (52 + (Int32.toNatClampNeg v2)) v3)), (5, .ref (52 + (Int32.toNatClampNeg v2))), (4, .int (q_rl M.1 v1 v2 v3)), (0, .ref 0), (1, .int v1), (2, .int v2), (3, .int v3)] [.int r5, .int (c_dayOn M.1 (52 + (Int32.toNatClampNeg v2)) v3), .ref (52 + (Int32.toNatClampNeg v2)), .int v1, .ref 167] M
    refine BT.mcVr [.int v1, .ref (52 + (Int32.toNatClampNeg v2)), .int (c_dayOn M.1 (52 + (Int32.toNatClampNeg v2)) v3), .int r5] (t_X2_obstacle (pieceC8 (h.1 c2).1) ((h.1 c2).2.2 r5 e5).1 ((h.1 c2).2.2 r5 e5).2.1 ((h.1 c2).2.2 r5 e5).2.2.1 ⟨rfl, rfl⟩) mb_X2_obstacle mv_X2_obstacle lk_X10_226 rfl (by decide) rfl (recvRep ho_167 rfl) (Nat.le_of_ble_eq_true rfl) dX10_meets_54 (fun r6 e6 => ?_)
    show B_X10_meets G K 57 [(6, .int (c_dayOn M.1 (52 + (Int32.toNatClampNeg v2)) v3)), (5, .ref (52 + (Int32.toNatClampNeg v2))), (4, .int (q_rl M.1 v1 v2 v3)), (0, .ref 0), (1, .int v1), (2, .int v2), (3, .int v3)] [.int r6] M
    refine BT.if_ne (tgt := 64) dX10_meets_57 (by decide) (fun c => ?_) (fun c => ?_)
    · have c7 := c
      refine BT.iconst (v := 0) dX10_meets_64 (by decide) ?_
      exact BT.iret dX10_meets_65 rfl (by decide) (by decide) ((((h.1 c2).2.2 r5 e5).2.2.2 r6 e6).1 c7)
    · have c8 := c
      refine BT.iconst (v := 1) dX10_meets_60 (by decide) ?_
      refine BT.goto (tgt := 65) dX10_meets_61 (by decide) ?_
      exact BT.iret dX10_meets_65 rfl (by decide) (by decide) ((((h.1 c2).2.2 r5 e5).2.2.2 r6 e6).2 c8)
  · have c3 := c
    refine BT.iload dX10_meets_14 0 rfl ?_
    exact BT.iret dX10_meets_16 rfl (by decide) (by decide) (h.2 c3)

theorem t_X10_meets {G : GT} {K : Int32 → Mem → Prop} {M : Mem} {v1 v2 v3 : Int32} (hw : WOk (wv M)) (h : ∀ N, Sc10 M N → K (a_meets (wv M) v1 v2 v3) N) : T_X10_meets G [.ref 0, .int v1, .int v2, .int v3] M K := by
  refine e_X10_meets (k_X10_meets_0 ?_)
  rw [q_rl_wv]
  unfold a_meets at h
  refine ⟨fun c => ?_, fun c => ?_⟩
  · obtain ⟨hl, hp, hd⟩ := q_rl_0 c
    obtain ⟨i1, i2, i3⟩ := pc_ix hw hp
    rw [c_dayOn_wv (by omega)]
    rw [sel_t c] at h
    refine ⟨vp8 i2 i3, hw, fun r5 e5 => ⟨hl, by omega, hw, fun r6 e6 => ⟨fun c6 => ?_, fun c6 => ?_⟩⟩⟩
    · rw [e6, e5] at c6; rw [sel_f c6] at h; exact h _ Sc10.rf
    · rw [e6, e5] at c6; rw [sel_t c6] at h; exact h _ Sc10.rf
  · rw [sel_f c] at h; exact h _ Sc10.rf

/-! BetweenLaws.why(III)I -/
abbrev rm_X10_why : Room := { frames := 4, cells := 0, slots := 0, locals := 100 }
abbrev B_X10_why (G : GT) (K : Int32 → Mem → Prop) := BT G (Rep G) RX10 "why" cX10_why 8 (some .int) rm_X10_why K 0 0
abbrev T_X10_why (G : GT) (as : List Value) (M : Mem) (K : Int32 → Mem → Prop) : Prop := MT G (Rep G) yX10_why cX10_why 8 (some .int) rm_X10_why as M K
theorem e_X10_why {G : GT} {K : Int32 → Mem → Prop} {M : Mem} {v1 : Int32} {v2 : Int32} {v3 : Int32} (h : B_X10_why G K 0 [(0, .ref 0), (1, .int v1), (2, .int v2), (3, .int v3)] [] M) : T_X10_why G [.ref 0, .int v1, .int v2, .int v3] M K := MT.of (by decide +kernel) rfl rfl (Nat.le_of_ble_eq_true rfl) rfl h
set_option maxRecDepth 4000 in
theorem k_X10_why_0 {G : GT} {K : Int32 → Mem → Prop} {M : Mem} {v1 : Int32} {v2 : Int32} {v3 : Int32} (h : ((q_rl M.1 v1 v2 v3) = 0 → (vp_in v2 8) ∧ ((52 + (Int32.toNatClampNeg v2)) < 60 ∨ (52 + (Int32.toNatClampNeg v2)) = 174) ∧ (WOk (wv M)) ∧ (∀ r5 : Int32, r5 = (w_gov (wv M) (52 + (Int32.toNatClampNeg v2)) (c_dayOn M.1 (52 + (Int32.toNatClampNeg v2)) v3)) → ∀ N5 : Mem, (Scr M N5 ∧ N5.1 167 1 = (w_gov2 (wv M) (52 + (Int32.toNatClampNeg v2)) (c_dayOn M.1 (52 + (Int32.toNatClampNeg v2)) v3)).2) → (¬ r5 = v1 → (WOk (wv N5)) ∧ (∀ r8 : Int32, r8 = (w_undone (wv N5) (c_dayOn M.1 (52 + (Int32.toNatClampNeg v2)) v3)) → ((0 : Int32) ≤ v1 ∧ v1 < wv N5 8 1) ∧ ((52 + (Int32.toNatClampNeg v2)) < 60 ∨ (52 + (Int32.toNatClampNeg v2)) = 174) ∧ (WOk (wv N5)) ∧ (∀ r9 : Int32, r9 = (w_obst (wv N5) (Int32.toNatClampNeg v1) (52 + (Int32.toNatClampNeg v2)) (c_dayOn M.1 (52 + (Int32.toNatClampNeg v2)) v3) r8) → (¬ r9 = 0 → K r9 N5) ∧ (r9 = 0 → K 6 N5)))) ∧ (r5 = v1 → K 0 N5))) ∧ (¬ (q_rl M.1 v1 v2 v3) = 0 → K (q_rl M.1 v1 v2 v3) M)) : B_X10_why G K 0 [(0, .ref 0), (1, .int v1), (2, .int v2), (3, .int v3)] [] M := by
  refine BT.aload_n dX10_why_0 rfl 0 rfl ?_
  refine BT.iload_n dX10_why_1 rfl 1 rfl ?_
  refine BT.iload_n dX10_why_2 rfl 2 rfl ?_
  refine BT.iload_n dX10_why_3 rfl 3 rfl ?_
  refine BT.mcV [.int v1, .int v2, .int v3] (t_X10_refusedLaw  ?_) mb_X10_refusedLaw mv_X10_refusedLaw lk_X10_219 rfl (by decide) rfl (recvRep ho_0 rfl) (Nat.le_of_ble_eq_true rfl) dX10_why_4
  show B_X10_why G K 7 [(0, .ref 0), (1, .int v1), (2, .int v2), (3, .int v3)] [.int (q_rl M.1 v1 v2 v3)] M
  refine BT.istore (L' := [(4, .int (q_rl M.1 v1 v2 v3)), (0, .ref 0), (1, .int v1), (2, .int v2), (3, .int v3)]) dX10_why_7 (by decide) rfl ?_
  refine BT.iload dX10_why_9 0 rfl ?_
  refine BT.if_eq (tgt := 17) dX10_why_11 (by decide) (fun c => ?_) (fun c => ?_)
  · have c2 := c
    refine BT.aload_n dX10_why_17 rfl 1 rfl ?_
    refine BT.getR (r := 8) fl_X10_26 ho_0 rfl dX10_why_18 ?_
    refine BT.getR (r := 51) fl_X10_189 ho_8 rfl dX10_why_21 ?_
    refine BT.iload_n dX10_why_24 rfl 3 rfl ?_
    refine BT.aald1 ha_51 (by decide) (h.1 c2).1 dX10_why_25 ?_
    refine BT.astore (L' := [(5, .ref (52 + (Int32.toNatClampNeg v2))), (4, .int (q_rl M.1 v1 v2 v3)), (0, .ref 0), (1, .int v1), (2, .int v2), (3, .int v3)]) dX10_why_26 (by decide) rfl ?_
    refine BT.aload dX10_why_28 0 rfl ?_
    refine BT.iload_n dX10_why_30 rfl 5 rfl ?_
    refine BT.mcV [.int v3] (t_X6_dayOn (pieceC8 (h.1 c2).1) ?_) mb_X6_dayOn mv_X6_dayOn lk_X10_223 rfl (by decide) rfl (recvRep (pieceC8 (h.1 c2).1) rfl) (Nat.le_of_ble_eq_true rfl) dX10_why_31
    show B_X10_why G K 34 [(5, .ref (52 + (Int32.toNatClampNeg v2))), (4, .int (q_rl M.1 v1 v2 v3)), (0, .ref 0), (1, .int v1), (2, .int v2), (3, .int v3)] [.int (c_dayOn M.1 (52 + (Int32.toNatClampNeg v2)) v3)] M
    refine BT.istore (L' := [(6, .int (c_dayOn M.1 (52 + (Int32.toNatClampNeg v2)) v3)), (5, .ref (52 + (Int32.toNatClampNeg v2))), (4, .int (q_rl M.1 v1 v2 v3)), (0, .ref 0), (1, .int v1), (2, .int v2), (3, .int v3)]) dX10_why_34 (by decide) rfl ?_
    refine BT.aload_n dX10_why_36 rfl 3 rfl ?_
    refine BT.getR (r := 167) fl_X10_46 ho_0 rfl dX10_why_37 ?_
    refine BT.aload dX10_why_40 1 rfl ?_
    refine BT.iload dX10_why_42 0 rfl ?_
    refine BT.mcVp [.ref (52 + (Int32.toNatClampNeg v2)), .int (c_dayOn M.1 (52 + (Int32.toNatClampNeg v2)) v3)] (t_X2_governor (pieceC8 (h.1 c2).1) (h.1 c2).2.1 (h.1 c2).2.2.1 (fun N hN => ⟨rfl, hN⟩)) mb_X2_governor mv_X2_governor lk_X10_230 rfl (by decide) rfl (recvRep ho_167 rfl) (Nat.le_of_ble_eq_true rfl) dX10_why_44 (P := fun N5 => Scr M N5 ∧ N5.1 167 1 = (w_gov2 (wv M) (52 + (Int32.toNatClampNeg v2)) (c_dayOn M.1 (52 + (Int32.toNatClampNeg v2)) v3)).2) (fun r5 e5 N5 g5 => ?_)
    show B_X10_why G K 47 [(6, .int (c_dayOn M.1 (52 + (Int32.toNatClampNeg v2)) v3)), (5, .ref (52 + (Int32.toNatClampNeg v2))), (4, .int (q_rl M.1 v1 v2 v3)), (0, .ref 0), (1, .int v1), (2, .int v2), (3, .int v3)] [.int r5] N5
    refine BT.iload_n dX10_why_47 rfl 4 rfl ?_
    refine BT.icmp_ne (tgt := 53) dX10_why_48 (by decide) (fun c => ?_) (fun c => ?_)
    · have c6 := c
      refine BT.aload_n dX10_why_53 rfl 3 rfl ?_
      refine BT.getR (r := 167) fl_X10_46 ho_0 rfl dX10_why_54 ?_
      refine BT.iload_n dX10_why_57 rfl 4 rfl ?_
      refine BT.aload dX10_why_58 1 rfl ?_
      refine BT.iload dX10_why_60 0 rfl ?_
      refine BT.aload_n dX10_why_62 rfl 3 rfl ?_
      refine BT.getR (r := 8) fl_X10_26 ho_0 rfl dX10_why_63 ?_
      refine BT.iload dX10_why_66 0 rfl ?_
      refine BT.mcVr [.int (c_dayOn M.1 (52 + (Int32.toNatClampNeg v2)) v3)] (t_X9_undone (((h.1 c2).2.2.2 r5 e5 N5 g5).1 c6).1 ⟨rfl, rfl⟩) mb_X9_undone mv_X9_undone lk_X10_167 rfl (by decide) rfl (recvRep ho_8 rfl) (Nat.le_of_ble_eq_true rfl) dX10_why_68 (fun r8 e8 => ?_)
      show B_X10_why G K 71 [(6, .int (c_dayOn M.1 (52 + (Int32.toNatClampNeg v2)) v3)), (5, .ref (52 + (Int32.toNatClampNeg v2))), (4, .int (q_rl M.1 v1 v2 v3)), (0, .ref 0), (1, .int v1), (2, .int v2), (3, .int v3)] [.int r8, .int (c_dayOn M.1 (52 + (Int32.toNatClampNeg v2)) v3), .ref (52 + (Int32.toNatClampNeg v2)), .int v1, .ref 167] N5
      refine BT.mcVr [.int v1, .ref (52 + (Int32.toNatClampNeg v2)), .int (c_dayOn M.1 (52 + (Int32.toNatClampNeg v2)) v3), .int r8] (t_X2_obstacle (pieceC8 (h.1 c2).1) ((((h.1 c2).2.2.2 r5 e5 N5 g5).1 c6).2 r8 e8).1 ((((h.1 c2).2.2.2 r5 e5 N5 g5).1 c6).2 r8 e8).2.1 ((((h.1 c2).2.2.2 r5 e5 N5 g5).1 c6).2 r8 e8).2.2.1 ⟨rfl, rfl⟩) mb_X2_obstacle mv_X2_obstacle lk_X10_226 rfl (by decide) rfl (recvRep ho_167 rfl) (Nat.le_of_ble_eq_true rfl) dX10_why_71 (fun r9 e9 => ?_)
      show B_X10_why G K 74 [(6, .int (c_dayOn M.1 (52 + (Int32.toNatClampNeg v2)) v3)), (5, .ref (52 + (Int32.toNatClampNeg v2))), (4, .int (q_rl M.1 v1 v2 v3)), (0, .ref 0), (1, .int v1), (2, .int v2), (3, .int v3)] [.int r9] N5
      refine BT.istore (L' := [(7, .int r9), (6, .int (c_dayOn M.1 (52 + (Int32.toNatClampNeg v2)) v3)), (5, .ref (52 + (Int32.toNatClampNeg v2))), (4, .int (q_rl M.1 v1 v2 v3)), (0, .ref 0), (1, .int v1), (2, .int v2), (3, .int v3)]) dX10_why_74 (by decide) rfl ?_
      refine BT.iload dX10_why_76 0 rfl ?_
      refine BT.if_ne (tgt := 86) dX10_why_78 (by decide) (fun c => ?_) (fun c => ?_)
      · have c10 := c
        refine BT.iload dX10_why_86 0 rfl ?_
        exact BT.iret dX10_why_88 rfl (by decide) (by decide) ((((((h.1 c2).2.2.2 r5 e5 N5 g5).1 c6).2 r8 e8).2.2.2 r9 e9).1 c10)
      · have c11 := c
        refine BT.bipush (v := 6) dX10_why_81 (by decide) ?_
        refine BT.goto (tgt := 88) dX10_why_83 (by decide) ?_
        exact BT.iret dX10_why_88 rfl (by decide) (by decide) ((((((h.1 c2).2.2.2 r5 e5 N5 g5).1 c6).2 r8 e8).2.2.2 r9 e9).2 c11)
    · have c7 := c
      refine BT.iconst (v := 0) dX10_why_51 (by decide) ?_
      exact BT.iret dX10_why_52 rfl (by decide) (by decide) (((h.1 c2).2.2.2 r5 e5 N5 g5).2 c7)
  · have c3 := c
    refine BT.iload dX10_why_14 0 rfl ?_
    exact BT.iret dX10_why_16 rfl (by decide) (by decide) (h.2 c3)

theorem t_X10_why {G : GT} {K : Int32 → Mem → Prop} {M : Mem} {v1 v2 v3 : Int32} (hw : WOk (wv M)) (h : ∀ N, Sc10 M N → K (a_why (wv M) v1 v2 v3) N) : T_X10_why G [.ref 0, .int v1, .int v2, .int v3] M K := by
  refine e_X10_why (k_X10_why_0 ?_)
  rw [q_rl_wv]
  unfold a_why at h
  refine ⟨fun c => ?_, fun c => ?_⟩
  · obtain ⟨hl, hp, hd⟩ := q_rl_0 c
    obtain ⟨i1, i2, i3⟩ := pc_ix hw hp
    rw [c_dayOn_wv (by omega)]
    rw [sel_t c] at h
    refine ⟨vp8 i2 i3, by omega, hw, fun r5 e5 N5 g5 => ⟨fun c5 => ⟨by rw [g5.1.wvE]; exact hw, fun r8 e8 => ⟨by rw [g5.1.wvE]; exact hl, by omega, by rw [g5.1.wvE]; exact hw, fun r9 e9 => ?_⟩⟩, fun c5 => ?_⟩⟩
    · rw [g5.1.wvE] at e8 e9
      rw [e5] at c5; rw [sel_f c5] at h
      rw [e8] at e9
      refine ⟨fun c9 => ?_, fun c9 => ?_⟩
      · rw [e9] at c9 ⊢; rw [sel_f c9] at h; exact h _ g5.1.s10
      · rw [e9] at c9; rw [sel_t c9] at h; exact h _ g5.1.s10
    · rw [e5] at c5; rw [sel_t c5] at h; exact h _ g5.1.s10
  · rw [sel_f c] at h; exact h _ Sc10.rf

/-! BetweenLaws.governs(II)I -/
abbrev rm_X10_governs : Room := { frames := 4, cells := 0, slots := 0, locals := 100 }
abbrev B_X10_governs (G : GT) (K : Int32 → Mem → Prop) := BT G (Rep G) RX10 "governs" cX10_governs 5 (some .int) rm_X10_governs K 0 0
abbrev T_X10_governs (G : GT) (as : List Value) (M : Mem) (K : Int32 → Mem → Prop) : Prop := MT G (Rep G) yX10_governs cX10_governs 5 (some .int) rm_X10_governs as M K
theorem e_X10_governs {G : GT} {K : Int32 → Mem → Prop} {M : Mem} {v1 : Int32} {v2 : Int32} (h : B_X10_governs G K 0 [(0, .ref 0), (1, .int v1), (2, .int v2)] [] M) : T_X10_governs G [.ref 0, .int v1, .int v2] M K := MT.of (by decide +kernel) rfl rfl (Nat.le_of_ble_eq_true rfl) rfl h
set_option maxRecDepth 4000 in
theorem k_X10_governs_0 {G : GT} {K : Int32 → Mem → Prop} {M : Mem} {v1 : Int32} {v2 : Int32} (h : ((q_rp M.1 v1 v2) = 0 → (vp_in v1 8) ∧ ((52 + (Int32.toNatClampNeg v1)) < 60 ∨ (52 + (Int32.toNatClampNeg v1)) = 174) ∧ (WOk (wv M)) ∧ (∀ r5 : Int32, r5 = (w_gov (wv M) (52 + (Int32.toNatClampNeg v1)) (c_dayOn M.1 (52 + (Int32.toNatClampNeg v1)) v2)) → ∀ N5 : Mem, (Scr M N5 ∧ N5.1 167 1 = (w_gov2 (wv M) (52 + (Int32.toNatClampNeg v1)) (c_dayOn M.1 (52 + (Int32.toNatClampNeg v1)) v2)).2) → K r5 N5)) ∧ (¬ (q_rp M.1 v1 v2) = 0 → K (q_rp M.1 v1 v2) M)) : B_X10_governs G K 0 [(0, .ref 0), (1, .int v1), (2, .int v2)] [] M := by
  refine BT.aload_n dX10_governs_0 rfl 0 rfl ?_
  refine BT.iload_n dX10_governs_1 rfl 1 rfl ?_
  refine BT.iload_n dX10_governs_2 rfl 2 rfl ?_
  refine BT.mcV [.int v1, .int v2] (t_X10_refusedPiece  ?_) mb_X10_refusedPiece mv_X10_refusedPiece lk_X10_234 rfl (by decide) rfl (recvRep ho_0 rfl) (Nat.le_of_ble_eq_true rfl) dX10_governs_3
  show B_X10_governs G K 6 [(0, .ref 0), (1, .int v1), (2, .int v2)] [.int (q_rp M.1 v1 v2)] M
  refine BT.istore_n (L' := [(3, .int (q_rp M.1 v1 v2)), (0, .ref 0), (1, .int v1), (2, .int v2)]) dX10_governs_6 rfl (by decide) rfl ?_
  refine BT.iload_n dX10_governs_7 rfl 0 rfl ?_
  refine BT.if_eq (tgt := 13) dX10_governs_8 (by decide) (fun c => ?_) (fun c => ?_)
  · have c2 := c
    refine BT.aload_n dX10_governs_13 rfl 1 rfl ?_
    refine BT.getR (r := 8) fl_X10_26 ho_0 rfl dX10_governs_14 ?_
    refine BT.getR (r := 51) fl_X10_189 ho_8 rfl dX10_governs_17 ?_
    refine BT.iload_n dX10_governs_20 rfl 2 rfl ?_
    refine BT.aald1 ha_51 (by decide) (h.1 c2).1 dX10_governs_21 ?_
    refine BT.astore (L' := [(4, .ref (52 + (Int32.toNatClampNeg v1))), (3, .int (q_rp M.1 v1 v2)), (0, .ref 0), (1, .int v1), (2, .int v2)]) dX10_governs_22 (by decide) rfl ?_
    refine BT.aload_n dX10_governs_24 rfl 2 rfl ?_
    refine BT.getR (r := 167) fl_X10_46 ho_0 rfl dX10_governs_25 ?_
    refine BT.aload dX10_governs_28 0 rfl ?_
    refine BT.aload dX10_governs_30 0 rfl ?_
    refine BT.iload_n dX10_governs_32 rfl 4 rfl ?_
    refine BT.mcV [.int v2] (t_X6_dayOn (pieceC8 (h.1 c2).1) ?_) mb_X6_dayOn mv_X6_dayOn lk_X10_223 rfl (by decide) rfl (recvRep (pieceC8 (h.1 c2).1) rfl) (Nat.le_of_ble_eq_true rfl) dX10_governs_33
    show B_X10_governs G K 36 [(4, .ref (52 + (Int32.toNatClampNeg v1))), (3, .int (q_rp M.1 v1 v2)), (0, .ref 0), (1, .int v1), (2, .int v2)] [.int (c_dayOn M.1 (52 + (Int32.toNatClampNeg v1)) v2), .ref (52 + (Int32.toNatClampNeg v1)), .ref 167] M
    refine BT.mcVp [.ref (52 + (Int32.toNatClampNeg v1)), .int (c_dayOn M.1 (52 + (Int32.toNatClampNeg v1)) v2)] (t_X2_governor (pieceC8 (h.1 c2).1) (h.1 c2).2.1 (h.1 c2).2.2.1 (fun N hN => ⟨rfl, hN⟩)) mb_X2_governor mv_X2_governor lk_X10_230 rfl (by decide) rfl (recvRep ho_167 rfl) (Nat.le_of_ble_eq_true rfl) dX10_governs_36 (P := fun N5 => Scr M N5 ∧ N5.1 167 1 = (w_gov2 (wv M) (52 + (Int32.toNatClampNeg v1)) (c_dayOn M.1 (52 + (Int32.toNatClampNeg v1)) v2)).2) (fun r5 e5 N5 g5 => ?_)
    show B_X10_governs G K 39 [(4, .ref (52 + (Int32.toNatClampNeg v1))), (3, .int (q_rp M.1 v1 v2)), (0, .ref 0), (1, .int v1), (2, .int v2)] [.int r5] N5
    exact BT.iret dX10_governs_39 rfl (by decide) (by decide) ((h.1 c2).2.2.2 r5 e5 N5 g5)
  · have c3 := c
    refine BT.iload_n dX10_governs_11 rfl 0 rfl ?_
    exact BT.iret dX10_governs_12 rfl (by decide) (by decide) (h.2 c3)

theorem t_X10_governs {G : GT} {K : Int32 → Mem → Prop} {M : Mem} {v1 v2 : Int32} (hw : WOk (wv M)) (h : ∀ N, Sc10 M N → K (a_governs (wv M) v1 v2) N) : T_X10_governs G [.ref 0, .int v1, .int v2] M K := by
  refine e_X10_governs (k_X10_governs_0 ?_)
  rw [q_rp_wv]
  unfold a_governs at h
  refine ⟨fun c => ?_, fun c => ?_⟩
  · obtain ⟨hp, hd⟩ := q_rp_0 c
    obtain ⟨i1, i2, i3⟩ := pc_ix hw hp
    rw [c_dayOn_wv (by omega)]
    rw [sel_t c] at h
    exact ⟨vp8 i2 i3, by omega, hw, fun r5 e5 N5 g5 => by rw [e5]; exact h _ g5.1.s10⟩
  · rw [sel_f c] at h; exact h _ Sc10.rf

/-! BetweenLaws.gives(II)I -/
abbrev rm_X10_gives : Room := { frames := 5, cells := 0, slots := 0, locals := 126 }
abbrev B_X10_gives (G : GT) (K : Int32 → Mem → Prop) := BT G (Rep G) RX10 "gives" cX10_gives 4 (some .int) rm_X10_gives K 0 0
abbrev T_X10_gives (G : GT) (as : List Value) (M : Mem) (K : Int32 → Mem → Prop) : Prop := MT G (Rep G) yX10_gives cX10_gives 4 (some .int) rm_X10_gives as M K
theorem e_X10_gives {G : GT} {K : Int32 → Mem → Prop} {M : Mem} {v1 : Int32} {v2 : Int32} (h : B_X10_gives G K 0 [(0, .ref 0), (1, .int v1), (2, .int v2)] [] M) : T_X10_gives G [.ref 0, .int v1, .int v2] M K := MT.of (by decide +kernel) rfl rfl (Nat.le_of_ble_eq_true rfl) rfl h
set_option maxRecDepth 4000 in
theorem k_X10_gives_0 {G : GT} {K : Int32 → Mem → Prop} {M : Mem} {v1 : Int32} {v2 : Int32} (h : ((q_rp M.1 v1 v2) = 0 → (vp_in v1 8) ∧ ((52 + (Int32.toNatClampNeg v1)) < 60 ∨ (52 + (Int32.toNatClampNeg v1)) = 174) ∧ (WOk (wv M)) ∧ (∀ r4 : Int32, r4 = (w_given (wv M) (52 + (Int32.toNatClampNeg v1)) v2) → ∀ N4 : Mem, (Scr M N4) → K r4 N4)) ∧ (¬ (q_rp M.1 v1 v2) = 0 → K (q_rp M.1 v1 v2) M)) : B_X10_gives G K 0 [(0, .ref 0), (1, .int v1), (2, .int v2)] [] M := by
  refine BT.aload_n dX10_gives_0 rfl 0 rfl ?_
  refine BT.iload_n dX10_gives_1 rfl 1 rfl ?_
  refine BT.iload_n dX10_gives_2 rfl 2 rfl ?_
  refine BT.mcV [.int v1, .int v2] (t_X10_refusedPiece  ?_) mb_X10_refusedPiece mv_X10_refusedPiece lk_X10_234 rfl (by decide) rfl (recvRep ho_0 rfl) (Nat.le_of_ble_eq_true rfl) dX10_gives_3
  show B_X10_gives G K 6 [(0, .ref 0), (1, .int v1), (2, .int v2)] [.int (q_rp M.1 v1 v2)] M
  refine BT.istore_n (L' := [(3, .int (q_rp M.1 v1 v2)), (0, .ref 0), (1, .int v1), (2, .int v2)]) dX10_gives_6 rfl (by decide) rfl ?_
  refine BT.iload_n dX10_gives_7 rfl 0 rfl ?_
  refine BT.if_eq (tgt := 15) dX10_gives_8 (by decide) (fun c => ?_) (fun c => ?_)
  · have c2 := c
    refine BT.aload_n dX10_gives_15 rfl 1 rfl ?_
    refine BT.getR (r := 167) fl_X10_46 ho_0 rfl dX10_gives_16 ?_
    refine BT.aload_n dX10_gives_19 rfl 1 rfl ?_
    refine BT.getR (r := 8) fl_X10_26 ho_0 rfl dX10_gives_20 ?_
    refine BT.getR (r := 51) fl_X10_189 ho_8 rfl dX10_gives_23 ?_
    refine BT.iload_n dX10_gives_26 rfl 2 rfl ?_
    refine BT.aald1 ha_51 (by decide) (h.1 c2).1 dX10_gives_27 ?_
    refine BT.iload_n dX10_gives_28 rfl 3 rfl ?_
    refine BT.mcVp [.ref (52 + (Int32.toNatClampNeg v1)), .int v2] (t_X2_given (pieceC8 (h.1 c2).1) (h.1 c2).2.1 (h.1 c2).2.2.1 (fun N hN => ⟨rfl, hN⟩)) mb_X2_given mv_X2_given lk_X10_241 rfl (by decide) rfl (recvRep ho_167 rfl) (Nat.le_of_ble_eq_true rfl) dX10_gives_29 (P := fun N4 => Scr M N4) (fun r4 e4 N4 g4 => ?_)
    show B_X10_gives G K 32 [(3, .int (q_rp M.1 v1 v2)), (0, .ref 0), (1, .int v1), (2, .int v2)] [.int r4] N4
    exact BT.iret dX10_gives_32 rfl (by decide) (by decide) ((h.1 c2).2.2.2 r4 e4 N4 g4)
  · have c3 := c
    refine BT.iload_n dX10_gives_11 rfl 0 rfl ?_
    refine BT.goto (tgt := 32) dX10_gives_12 (by decide) ?_
    exact BT.iret dX10_gives_32 rfl (by decide) (by decide) (h.2 c3)

theorem t_X10_gives {G : GT} {K : Int32 → Mem → Prop} {M : Mem} {v1 v2 : Int32} (hw : WOk (wv M)) (h : ∀ N, Sc10 M N → K (a_gives (wv M) v1 v2) N) : T_X10_gives G [.ref 0, .int v1, .int v2] M K := by
  refine e_X10_gives (k_X10_gives_0 ?_)
  rw [q_rp_wv]
  unfold a_gives at h
  refine ⟨fun c => ?_, fun c => ?_⟩
  · obtain ⟨hp, hd⟩ := q_rp_0 c
    obtain ⟨i1, i2, i3⟩ := pc_ix hw hp
    rw [sel_t c] at h
    exact ⟨vp8 i2 i3, by omega, hw, fun r5 e5 N5 g5 => by rw [e5]; exact h _ g5.s10⟩
  · rw [sel_f c] at h; exact h _ Sc10.rf

/-! BetweenLaws.those(II)I -/
abbrev rm_X10_those : Room := { frames := 5, cells := 0, slots := 0, locals := 126 }
abbrev B_X10_those (G : GT) (K : Int32 → Mem → Prop) := BT G (Rep G) RX10 "those" cX10_those 5 (some .int) rm_X10_those K 0 0
abbrev T_X10_those (G : GT) (as : List Value) (M : Mem) (K : Int32 → Mem → Prop) : Prop := MT G (Rep G) yX10_those cX10_those 5 (some .int) rm_X10_those as M K
theorem e_X10_those {G : GT} {K : Int32 → Mem → Prop} {M : Mem} {v1 : Int32} {v2 : Int32} (h : B_X10_those G K 0 [(0, .ref 0), (1, .int v1), (2, .int v2)] [] M) : T_X10_those G [.ref 0, .int v1, .int v2] M K := MT.of (by decide +kernel) rfl rfl (Nat.le_of_ble_eq_true rfl) rfl h
set_option maxRecDepth 4000 in
theorem k_X10_those_0 {G : GT} {K : Int32 → Mem → Prop} {M : Mem} {v1 : Int32} {v2 : Int32} (h : (¬ ((0 : Int32) ≤ v1 ∧ v1 ≤ 99) → K (-2) M) ∧ (((0 : Int32) ≤ v1 ∧ v1 ≤ 99) → ((0 ≤ v2 ∧ v2 ≤ 3) → B_X10_those G K 24 [(0, .ref 0), (1, .int v1), (2, .int v2), (3, .int 0), (4, .int 0)] [] M) ∧ (¬ (0 ≤ v2 ∧ v2 ≤ 3) → K (-2) M))) : B_X10_those G K 0 [(0, .ref 0), (1, .int v1), (2, .int v2)] [] M := by
  refine BT.iload_n dX10_those_0 rfl 1 rfl ?_
  refine BT.mcS [.int v1] (t_X10_isDay  ?_) mb_X10_isDay ms_X10_isDay lk_X10_101 rfl (by decide) rfl (Nat.le_of_ble_eq_true rfl) dX10_those_1
  show B_X10_those G K 4 [(0, .ref 0), (1, .int v1), (2, .int v2)] [.int (bi ((0 : Int32) ≤ v1 ∧ v1 ≤ 99))] M
  refine BT.if_eq (tgt := 16) dX10_those_4 (by decide) (fun c => ?_) (fun c => ?_)
  · have c2 := bi_eq0.mp c
    refine BT.bipush (v := (-2)) dX10_those_16 (by decide) ?_
    exact BT.iret dX10_those_18 rfl (by decide) (by decide) (h.1 c2)
  · have c3 := bi_ne0.mp c
    refine BT.iload_n dX10_those_7 rfl 2 rfl ?_
    refine BT.iconst (v := 0) dX10_those_8 (by decide) ?_
    refine BT.iconst (v := 3) dX10_those_9 (by decide) ?_
    refine BT.mcS [.int v2, .int 0, .int 3] (t_X10_within  ?_) mb_X10_within ms_X10_within lk_X10_82 rfl (by decide) rfl (Nat.le_of_ble_eq_true rfl) dX10_those_10
    show B_X10_those G K 13 [(0, .ref 0), (1, .int v1), (2, .int v2)] [.int (bi (0 ≤ v2 ∧ v2 ≤ 3))] M
    refine BT.if_ne (tgt := 19) dX10_those_13 (by decide) (fun c => ?_) (fun c => ?_)
    · have c5 := bi_ne0.mp c
      refine BT.iconst (v := 0) dX10_those_19 (by decide) ?_
      refine BT.istore_n (L' := [(3, .int 0), (0, .ref 0), (1, .int v1), (2, .int v2)]) dX10_those_20 rfl (by decide) rfl ?_
      refine BT.iconst (v := 0) dX10_those_21 (by decide) ?_
      refine BT.istore (L' := [(4, .int 0), (3, .int 0), (0, .ref 0), (1, .int v1), (2, .int v2)]) dX10_those_22 (by decide) rfl ?_
      refine BT.sub [2, 3, 4, 1, 0] rfl ?_
      exact ((h.2 c3).1 c5)
    · have c6 := bi_eq0.mp c
      refine BT.bipush (v := (-2)) dX10_those_16 (by decide) ?_
      exact BT.iret dX10_those_18 rfl (by decide) (by decide) ((h.2 c3).2 c6)
set_option maxRecDepth 4000 in
theorem k_X10_those_24 {G : GT} {K : Int32 → Mem → Prop} {M : Mem} {v1 : Int32} {v2 : Int32} {v3 : Int32} {v4 : Int32} (h : ((M.1 8 4) ≤ v4 → K v3 M) ∧ (¬ (M.1 8 4) ≤ v4 → (vp_in v4 8) ∧ ((52 + (Int32.toNatClampNeg v4)) < 60 ∨ (52 + (Int32.toNatClampNeg v4)) = 174) ∧ (WOk (wv M)) ∧ (∀ N3 : Mem, (Scr M N3) → (¬ (w_those (wv M) (52 + (Int32.toNatClampNeg v4)) v1 v2) → B_X10_those G K 24 [(0, .ref 0), (1, .int v1), (2, .int v2), (3, .int v3), (4, .int (v4 + 1))] [] N3) ∧ ((w_those (wv M) (52 + (Int32.toNatClampNeg v4)) v1 v2) → B_X10_those G K 24 [(0, .ref 0), (1, .int v1), (2, .int v2), (3, .int (v3 ||| ((1 : Int32) <<< (v4 &&& 31)))), (4, .int (v4 + 1))] [] N3)))) : B_X10_those G K 24 [(0, .ref 0), (1, .int v1), (2, .int v2), (3, .int v3), (4, .int v4)] [] M := by
  refine BT.iload dX10_those_24 4 rfl ?_
  refine BT.aload_n dX10_those_26 rfl 0 rfl ?_
  refine BT.getR (r := 8) fl_X10_26 ho_0 rfl dX10_those_27 ?_
  refine BT.getI fl_X10_179 ho_8 rfl dX10_those_30 ?_
  refine BT.icmp_ge (tgt := 71) dX10_those_33 (by decide) (fun c => ?_) (fun c => ?_)
  · have c1 := c
    refine BT.iload_n dX10_those_71 rfl 3 rfl ?_
    exact BT.iret dX10_those_72 rfl (by decide) (by decide) (h.1 c1)
  · have c2 := c
    refine BT.aload_n dX10_those_36 rfl 0 rfl ?_
    refine BT.getR (r := 167) fl_X10_46 ho_0 rfl dX10_those_37 ?_
    refine BT.aload_n dX10_those_40 rfl 0 rfl ?_
    refine BT.getR (r := 8) fl_X10_26 ho_0 rfl dX10_those_41 ?_
    refine BT.getR (r := 51) fl_X10_189 ho_8 rfl dX10_those_44 ?_
    refine BT.iload dX10_those_47 4 rfl ?_
    refine BT.aald1 ha_51 (by decide) (h.2 c2).1 dX10_those_49 ?_
    refine BT.iload_n dX10_those_50 rfl 1 rfl ?_
    refine BT.iload_n dX10_those_51 rfl 2 rfl ?_
    refine BT.mcVq [.ref (52 + (Int32.toNatClampNeg v4)), .int v1, .int v2] (t_X2_isOfThose (pieceC8 (h.2 c2).1) (h.2 c2).2.1 (h.2 c2).2.2.1 (fun N hN => ⟨rfl, hN⟩)) mb_X2_isOfThose mv_X2_isOfThose lk_X10_237 rfl (by decide) rfl (recvRep ho_167 rfl) (Nat.le_of_ble_eq_true rfl) dX10_those_52 (P := fun N3 => Scr M N3) (fun N3 g3 => ?_)
    show B_X10_those G K 55 [(0, .ref 0), (1, .int v1), (2, .int v2), (3, .int v3), (4, .int v4)] [.int (bi (w_those (wv M) (52 + (Int32.toNatClampNeg v4)) v1 v2))] N3
    refine BT.if_eq (tgt := 65) dX10_those_55 (by decide) (fun c => ?_) (fun c => ?_)
    · have c4 := bi_eq0.mp c
      refine BT.iinc (j := 4) (v := (v4 + 1)) (L' := [(4, .int (v4 + 1)), (0, .ref 0), (1, .int v1), (2, .int v2), (3, .int v3)]) dX10_those_65 rfl rfl (by decide) rfl ?_
      refine BT.goto (tgt := 24) dX10_those_68 (by decide) ?_
      refine BT.sub [1, 2, 3, 4, 0] rfl ?_
      exact (((h.2 c2).2.2.2 N3 g3).1 c4)
    · have c5 := bi_ne0.mp c
      refine BT.iload_n dX10_those_58 rfl 3 rfl ?_
      refine BT.iconst (v := 1) dX10_those_59 (by decide) ?_
      refine BT.iload dX10_those_60 4 rfl ?_
      refine BT.ishl dX10_those_62 ?_
      refine BT.ior dX10_those_63 ?_
      refine BT.istore_n (L' := [(3, .int (v3 ||| ((1 : Int32) <<< (v4 &&& 31)))), (0, .ref 0), (1, .int v1), (2, .int v2), (4, .int v4)]) dX10_those_64 rfl (by decide) rfl ?_
      refine BT.iinc (j := 4) (v := (v4 + 1)) (L' := [(4, .int (v4 + 1)), (3, .int (v3 ||| ((1 : Int32) <<< (v4 &&& 31)))), (0, .ref 0), (1, .int v1), (2, .int v2)]) dX10_those_65 rfl rfl (by decide) rfl ?_
      refine BT.goto (tgt := 24) dX10_those_68 (by decide) ?_
      refine BT.sub [2, 3, 4, 1, 0] rfl ?_
      exact (((h.2 c2).2.2.2 N3 g3).2 c5)

theorem t_X10_those {G : GT} {K : Int32 → Mem → Prop} {M : Mem} {v1 v2 : Int32} (hw : WOk (wv M)) (h : ∀ N, Sc10 M N → K (a_those (wv M) v1 v2) N) : T_X10_those G [.ref 0, .int v1, .int v2] M K := by
  refine e_X10_those (k_X10_those_0 ?_)
  unfold a_those at h
  refine ⟨fun c => ?_, fun c => ⟨fun c2 => ?_, fun c2 => ?_⟩⟩
  · rw [sel_f c] at h; exact h _ Sc10.rf
  · rw [sel_t c, sel_t c2] at h
    obtain ⟨-, ⟨hq, h9⟩, -⟩ := id hw
    refine up_loop (P := fun j => ∀ N, Scr M N → B_X10_those G K 24 [(0, .ref 0), (1, .int v1), (2, .int v2), (3, .int (a_thoseN (wv M) v1 v2 j)), (4, .int (nI j))] [] N) (w_p (wv M)) (fun N hN => ?_) (fun j hj ih N hN => ?_) 0 (Nat.zero_le _) M Scr.rf
    · have e4 : N.1 8 4 = nI (w_p (wv M)) := by rw [hN.1 8 (by decide), ← hq, wv_at (by decide)]
      refine k_X10_those_24 ⟨fun _ => h N hN.s10, fun c => ?_⟩
      rw [e4] at c
      exact absurd (Int32.le_refl _) c
    · have e4 : N.1 8 4 = nI (w_p (wv M)) := by rw [hN.1 8 (by decide), ← hq, wv_at (by decide)]
      refine k_X10_those_24 ?_
      rw [e4, hN.wvE]
      simp only [ix_nI (show j < 2 ^ 31 by omega)]
      rw [nI_1]
      unfold a_thoseN at ih
      refine ⟨fun c => ?_, fun c => ⟨vp_nI (by omega) (by decide), by omega, hw, fun N3 g3 => ⟨fun c3 => ?_, fun c3 => ?_⟩⟩⟩
      · rw [nI_leI (by omega) (by omega)] at c
        omega
      · rw [sel_f c3] at ih
        exact ih N3 (hN.tr g3)
      · rw [sel_t c3] at ih
        exact ih N3 (hN.tr g3)
  · rw [sel_t c, sel_f c2] at h; exact h _ Sc10.rf

/-! BetweenLaws.sum(I)I -/
abbrev rm_X10_sum : Room := { frames := 5, cells := 0, slots := 0, locals := 126 }
abbrev B_X10_sum (G : GT) (K : Int32 → Mem → Prop) := BT G (Rep G) RX10 "sum" cX10_sum 5 (some .int) rm_X10_sum K 0 0
abbrev T_X10_sum (G : GT) (as : List Value) (M : Mem) (K : Int32 → Mem → Prop) : Prop := MT G (Rep G) yX10_sum cX10_sum 5 (some .int) rm_X10_sum as M K
theorem e_X10_sum {G : GT} {K : Int32 → Mem → Prop} {M : Mem} {v1 : Int32} (h : B_X10_sum G K 0 [(0, .ref 0), (1, .int v1)] [] M) : T_X10_sum G [.ref 0, .int v1] M K := MT.of (by decide +kernel) rfl rfl (Nat.le_of_ble_eq_true rfl) rfl h
set_option maxRecDepth 4000 in
theorem k_X10_sum_0 {G : GT} {K : Int32 → Mem → Prop} {M : Mem} {v1 : Int32} (h : (((0 : Int32) ≤ v1 ∧ v1 ≤ 99) → B_X10_sum G K 14 [(0, .ref 0), (1, .int v1), (2, .int 0), (3, .int 0)] [] M) ∧ (¬ ((0 : Int32) ≤ v1 ∧ v1 ≤ 99) → K (-2) M)) : B_X10_sum G K 0 [(0, .ref 0), (1, .int v1)] [] M := by
  refine BT.iload_n dX10_sum_0 rfl 1 rfl ?_
  refine BT.mcS [.int v1] (t_X10_isDay  ?_) mb_X10_isDay ms_X10_isDay lk_X10_101 rfl (by decide) rfl (Nat.le_of_ble_eq_true rfl) dX10_sum_1
  show B_X10_sum G K 4 [(0, .ref 0), (1, .int v1)] [.int (bi ((0 : Int32) ≤ v1 ∧ v1 ≤ 99))] M
  refine BT.if_ne (tgt := 10) dX10_sum_4 (by decide) (fun c => ?_) (fun c => ?_)
  · have c2 := bi_ne0.mp c
    refine BT.iconst (v := 0) dX10_sum_10 (by decide) ?_
    refine BT.istore_n (L' := [(2, .int 0), (0, .ref 0), (1, .int v1)]) dX10_sum_11 rfl (by decide) rfl ?_
    refine BT.iconst (v := 0) dX10_sum_12 (by decide) ?_
    refine BT.istore_n (L' := [(3, .int 0), (2, .int 0), (0, .ref 0), (1, .int v1)]) dX10_sum_13 rfl (by decide) rfl ?_
    refine BT.sub [2, 3, 1, 0] rfl ?_
    exact (h.1 c2)
  · have c3 := bi_eq0.mp c
    refine BT.bipush (v := (-2)) dX10_sum_7 (by decide) ?_
    exact BT.iret dX10_sum_9 rfl (by decide) (by decide) (h.2 c3)
set_option maxRecDepth 4000 in
theorem k_X10_sum_14 {G : GT} {K : Int32 → Mem → Prop} {M : Mem} {v1 : Int32} {v2 : Int32} {v3 : Int32} (h : ((M.1 8 4) ≤ v3 → K v2 M) ∧ (¬ (M.1 8 4) ≤ v3 → (vp_in v3 8) ∧ ((52 + (Int32.toNatClampNeg v3)) < 60 ∨ (52 + (Int32.toNatClampNeg v3)) = 174) ∧ (WOk (wv M)) ∧ (∀ r3 : Int32, r3 = (w_given (wv M) (52 + (Int32.toNatClampNeg v3)) v1) → ∀ N3 : Mem, (Scr M N3) → (r3 < 0 → B_X10_sum G K 14 [(0, .ref 0), (1, .int v1), (2, .int v2), (3, .int (v3 + 1))] [] N3) ∧ (¬ r3 < 0 → B_X10_sum G K 14 [(0, .ref 0), (1, .int v1), (2, .int (v2 + r3)), (3, .int (v3 + 1))] [] N3)))) : B_X10_sum G K 14 [(0, .ref 0), (1, .int v1), (2, .int v2), (3, .int v3)] [] M := by
  refine BT.iload_n dX10_sum_14 rfl 3 rfl ?_
  refine BT.aload_n dX10_sum_15 rfl 0 rfl ?_
  refine BT.getR (r := 8) fl_X10_26 ho_0 rfl dX10_sum_16 ?_
  refine BT.getI fl_X10_179 ho_8 rfl dX10_sum_19 ?_
  refine BT.icmp_ge (tgt := 60) dX10_sum_22 (by decide) (fun c => ?_) (fun c => ?_)
  · have c1 := c
    refine BT.iload_n dX10_sum_60 rfl 2 rfl ?_
    exact BT.iret dX10_sum_61 rfl (by decide) (by decide) (h.1 c1)
  · have c2 := c
    refine BT.aload_n dX10_sum_25 rfl 0 rfl ?_
    refine BT.getR (r := 167) fl_X10_46 ho_0 rfl dX10_sum_26 ?_
    refine BT.aload_n dX10_sum_29 rfl 0 rfl ?_
    refine BT.getR (r := 8) fl_X10_26 ho_0 rfl dX10_sum_30 ?_
    refine BT.getR (r := 51) fl_X10_189 ho_8 rfl dX10_sum_33 ?_
    refine BT.iload_n dX10_sum_36 rfl 3 rfl ?_
    refine BT.aald1 ha_51 (by decide) (h.2 c2).1 dX10_sum_37 ?_
    refine BT.iload_n dX10_sum_38 rfl 1 rfl ?_
    refine BT.mcVp [.ref (52 + (Int32.toNatClampNeg v3)), .int v1] (t_X2_given (pieceC8 (h.2 c2).1) (h.2 c2).2.1 (h.2 c2).2.2.1 (fun N hN => ⟨rfl, hN⟩)) mb_X2_given mv_X2_given lk_X10_241 rfl (by decide) rfl (recvRep ho_167 rfl) (Nat.le_of_ble_eq_true rfl) dX10_sum_39 (P := fun N3 => Scr M N3) (fun r3 e3 N3 g3 => ?_)
    show B_X10_sum G K 42 [(0, .ref 0), (1, .int v1), (2, .int v2), (3, .int v3)] [.int r3] N3
    refine BT.istore (L' := [(4, .int r3), (0, .ref 0), (1, .int v1), (2, .int v2), (3, .int v3)]) dX10_sum_42 (by decide) rfl ?_
    refine BT.iload dX10_sum_44 0 rfl ?_
    refine BT.if_lt (tgt := 54) dX10_sum_46 (by decide) (fun c => ?_) (fun c => ?_)
    · have c4 := c
      refine BT.iinc (j := 4) (v := (v3 + 1)) (L' := [(3, .int (v3 + 1)), (4, .int r3), (0, .ref 0), (1, .int v1), (2, .int v2)]) dX10_sum_54 rfl rfl (by decide) rfl ?_
      refine BT.goto (tgt := 14) dX10_sum_57 (by decide) ?_
      refine BT.sub [2, 3, 4, 0] rfl ?_
      exact (((h.2 c2).2.2.2 r3 e3 N3 g3).1 c4)
    · have c5 := c
      refine BT.iload_n dX10_sum_49 rfl 3 rfl ?_
      refine BT.iload dX10_sum_50 0 rfl ?_
      refine BT.iadd dX10_sum_52 ?_
      refine BT.istore_n (L' := [(2, .int (v2 + r3)), (4, .int r3), (0, .ref 0), (1, .int v1), (3, .int v3)]) dX10_sum_53 rfl (by decide) rfl ?_
      refine BT.iinc (j := 4) (v := (v3 + 1)) (L' := [(3, .int (v3 + 1)), (2, .int (v2 + r3)), (4, .int r3), (0, .ref 0), (1, .int v1)]) dX10_sum_54 rfl rfl (by decide) rfl ?_
      refine BT.goto (tgt := 14) dX10_sum_57 (by decide) ?_
      refine BT.sub [3, 4, 1, 0] rfl ?_
      exact (((h.2 c2).2.2.2 r3 e3 N3 g3).2 c5)

theorem t_X10_sum {G : GT} {K : Int32 → Mem → Prop} {M : Mem} {v1 : Int32} (hw : WOk (wv M)) (h : ∀ N, Sc10 M N → K (a_sum (wv M) v1) N) : T_X10_sum G [.ref 0, .int v1] M K := by
  refine e_X10_sum (k_X10_sum_0 ?_)
  unfold a_sum at h
  refine ⟨fun c => ?_, fun c => ?_⟩
  · rw [sel_t c] at h
    obtain ⟨-, ⟨hq, h9⟩, -⟩ := id hw
    refine up_loop (P := fun j => ∀ N, Scr M N → B_X10_sum G K 14 [(0, .ref 0), (1, .int v1), (2, .int (a_sumN (wv M) v1 j)), (3, .int (nI j))] [] N) (w_p (wv M)) (fun N hN => ?_) (fun j hj ih N hN => ?_) 0 (Nat.zero_le _) M Scr.rf
    · have e4 : N.1 8 4 = nI (w_p (wv M)) := by rw [hN.1 8 (by decide), ← hq, wv_at (by decide)]
      refine k_X10_sum_14 ⟨fun _ => h N hN.s10, fun c => ?_⟩
      rw [e4] at c
      exact absurd (Int32.le_refl _) c
    · have e4 : N.1 8 4 = nI (w_p (wv M)) := by rw [hN.1 8 (by decide), ← hq, wv_at (by decide)]
      refine k_X10_sum_14 ?_
      rw [e4, hN.wvE]
      simp only [ix_nI (show j < 2 ^ 31 by omega)]
      rw [nI_1]
      unfold a_sumN at ih
      refine ⟨fun c => ?_, fun c => ⟨vp_nI (by omega) (by decide), by omega, hw, fun r3 e3 N3 g3 => ⟨fun c3 => ?_, fun c3 => ?_⟩⟩⟩
      · rw [nI_leI (by omega) (by omega)] at c
        omega
      · rw [e3] at c3
        rw [sel_t c3] at ih
        exact ih N3 (hN.tr g3)
      · rw [e3] at c3 ⊢
        rw [sel_f c3] at ih
        exact ih N3 (hN.tr g3)
  · rw [sel_f c] at h; exact h _ Sc10.rf

/-! BetweenLaws.route(III)I -/
abbrev rm_X10_route : Room := { frames := 4, cells := 0, slots := 0, locals := 100 }
abbrev B_X10_route (G : GT) (K : Int32 → Mem → Prop) := BT G (Rep G) RX10 "route" cX10_route 7 (some .int) rm_X10_route K 0 0
abbrev T_X10_route (G : GT) (as : List Value) (M : Mem) (K : Int32 → Mem → Prop) : Prop := MT G (Rep G) yX10_route cX10_route 7 (some .int) rm_X10_route as M K
theorem e_X10_route {G : GT} {K : Int32 → Mem → Prop} {M : Mem} {v1 : Int32} {v2 : Int32} {v3 : Int32} (h : B_X10_route G K 0 [(0, .ref 0), (1, .int v1), (2, .int v2), (3, .int v3)] [] M) : T_X10_route G [.ref 0, .int v1, .int v2, .int v3] M K := MT.of (by decide +kernel) rfl rfl (Nat.le_of_ble_eq_true rfl) rfl h
set_option maxRecDepth 4000 in
theorem k_X10_route_0 {G : GT} {K : Int32 → Mem → Prop} {M : Mem} {v1 : Int32} {v2 : Int32} {v3 : Int32} (h : ((q_rp M.1 v1 v2) = 0 → (vp_in v1 8) ∧ ((52 + (Int32.toNatClampNeg v1)) < 60 ∨ (52 + (Int32.toNatClampNeg v1)) = 174) ∧ (WOk (wv M)) ∧ (∀ r5 : Int32, r5 = (w_gov (wv M) (52 + (Int32.toNatClampNeg v1)) (c_dayOn M.1 (52 + (Int32.toNatClampNeg v1)) v2)) → ∀ N5 : Mem, (Scr M N5 ∧ N5.1 167 1 = (w_gov2 (wv M) (52 + (Int32.toNatClampNeg v1)) (c_dayOn M.1 (52 + (Int32.toNatClampNeg v1)) v2)).2) → ((52 + (Int32.toNatClampNeg v1)) < 60 ∨ (52 + (Int32.toNatClampNeg v1)) = 174) ∧ (WOk (wv N5)) ∧ (∀ r6 : Int32, r6 = (w_fol9 (wv N5) (52 + (Int32.toNatClampNeg v1)) r5 (c_dayOn M.1 (52 + (Int32.toNatClampNeg v1)) v2)) → ∀ N6 : Mem, (Scr N5 N6 ∧ HasPath N6 (w_path9 (wv N5) (52 + (Int32.toNatClampNeg v1)) r5 (c_dayOn M.1 (52 + (Int32.toNatClampNeg v1)) v2))) → (¬ v3 = (-1) → (¬ (0 ≤ v3 ∧ v3 ≤ ((N6.1 167 3) - 1)) → K (-6) N6) ∧ ((0 ≤ v3 ∧ v3 ≤ ((N6.1 167 3) - 1)) → (vp_in v3 8) ∧ K (N6.1 168 (Int32.toNatClampNeg v3)) N6)) ∧ (v3 = (-1) → K (N6.1 167 3) N6)))) ∧ (¬ (q_rp M.1 v1 v2) = 0 → K (q_rp M.1 v1 v2) M)) : B_X10_route G K 0 [(0, .ref 0), (1, .int v1), (2, .int v2), (3, .int v3)] [] M := by
  refine BT.aload_n dX10_route_0 rfl 0 rfl ?_
  refine BT.iload_n dX10_route_1 rfl 1 rfl ?_
  refine BT.iload_n dX10_route_2 rfl 2 rfl ?_
  refine BT.mcV [.int v1, .int v2] (t_X10_refusedPiece  ?_) mb_X10_refusedPiece mv_X10_refusedPiece lk_X10_234 rfl (by decide) rfl (recvRep ho_0 rfl) (Nat.le_of_ble_eq_true rfl) dX10_route_3
  show B_X10_route G K 6 [(0, .ref 0), (1, .int v1), (2, .int v2), (3, .int v3)] [.int (q_rp M.1 v1 v2)] M
  refine BT.istore (L' := [(4, .int (q_rp M.1 v1 v2)), (0, .ref 0), (1, .int v1), (2, .int v2), (3, .int v3)]) dX10_route_6 (by decide) rfl ?_
  refine BT.iload dX10_route_8 0 rfl ?_
  refine BT.if_eq (tgt := 16) dX10_route_10 (by decide) (fun c => ?_) (fun c => ?_)
  · have c2 := c
    refine BT.aload_n dX10_route_16 rfl 1 rfl ?_
    refine BT.getR (r := 8) fl_X10_26 ho_0 rfl dX10_route_17 ?_
    refine BT.getR (r := 51) fl_X10_189 ho_8 rfl dX10_route_20 ?_
    refine BT.iload_n dX10_route_23 rfl 2 rfl ?_
    refine BT.aald1 ha_51 (by decide) (h.1 c2).1 dX10_route_24 ?_
    refine BT.astore (L' := [(5, .ref (52 + (Int32.toNatClampNeg v1))), (4, .int (q_rp M.1 v1 v2)), (0, .ref 0), (1, .int v1), (2, .int v2), (3, .int v3)]) dX10_route_25 (by decide) rfl ?_
    refine BT.aload dX10_route_27 0 rfl ?_
    refine BT.iload_n dX10_route_29 rfl 4 rfl ?_
    refine BT.mcV [.int v2] (t_X6_dayOn (pieceC8 (h.1 c2).1) ?_) mb_X6_dayOn mv_X6_dayOn lk_X10_223 rfl (by decide) rfl (recvRep (pieceC8 (h.1 c2).1) rfl) (Nat.le_of_ble_eq_true rfl) dX10_route_30
    show B_X10_route G K 33 [(5, .ref (52 + (Int32.toNatClampNeg v1))), (4, .int (q_rp M.1 v1 v2)), (0, .ref 0), (1, .int v1), (2, .int v2), (3, .int v3)] [.int (c_dayOn M.1 (52 + (Int32.toNatClampNeg v1)) v2)] M
    refine BT.istore (L' := [(6, .int (c_dayOn M.1 (52 + (Int32.toNatClampNeg v1)) v2)), (5, .ref (52 + (Int32.toNatClampNeg v1))), (4, .int (q_rp M.1 v1 v2)), (0, .ref 0), (1, .int v1), (2, .int v2), (3, .int v3)]) dX10_route_33 (by decide) rfl ?_
    refine BT.aload_n dX10_route_35 rfl 3 rfl ?_
    refine BT.getR (r := 167) fl_X10_46 ho_0 rfl dX10_route_36 ?_
    refine BT.aload dX10_route_39 1 rfl ?_
    refine BT.aload_n dX10_route_41 rfl 3 rfl ?_
    refine BT.getR (r := 167) fl_X10_46 ho_0 rfl dX10_route_42 ?_
    refine BT.aload dX10_route_45 1 rfl ?_
    refine BT.iload dX10_route_47 0 rfl ?_
    refine BT.mcVp [.ref (52 + (Int32.toNatClampNeg v1)), .int (c_dayOn M.1 (52 + (Int32.toNatClampNeg v1)) v2)] (t_X2_governor (pieceC8 (h.1 c2).1) (h.1 c2).2.1 (h.1 c2).2.2.1 (fun N hN => ⟨rfl, hN⟩)) mb_X2_governor mv_X2_governor lk_X10_230 rfl (by decide) rfl (recvRep ho_167 rfl) (Nat.le_of_ble_eq_true rfl) dX10_route_49 (P := fun N5 => Scr M N5 ∧ N5.1 167 1 = (w_gov2 (wv M) (52 + (Int32.toNatClampNeg v1)) (c_dayOn M.1 (52 + (Int32.toNatClampNeg v1)) v2)).2) (fun r5 e5 N5 g5 => ?_)
    show B_X10_route G K 52 [(6, .int (c_dayOn M.1 (52 + (Int32.toNatClampNeg v1)) v2)), (5, .ref (52 + (Int32.toNatClampNeg v1))), (4, .int (q_rp M.1 v1 v2)), (0, .ref 0), (1, .int v1), (2, .int v2), (3, .int v3)] [.int r5, .ref (52 + (Int32.toNatClampNeg v1)), .ref 167] N5
    refine BT.iload dX10_route_52 0 rfl ?_
    refine BT.mcVp [.ref (52 + (Int32.toNatClampNeg v1)), .int r5, .int (c_dayOn M.1 (52 + (Int32.toNatClampNeg v1)) v2)] (t_X2_follow (pieceC8 (h.1 c2).1) ((h.1 c2).2.2.2 r5 e5 N5 g5).1 ((h.1 c2).2.2.2 r5 e5 N5 g5).2.1 (fun N hN => ⟨rfl, hN⟩)) mb_X2_follow mv_X2_follow lk_X10_244 rfl (by decide) rfl (recvRep ho_167 rfl) (Nat.le_of_ble_eq_true rfl) dX10_route_54 (P := fun N6 => Scr N5 N6 ∧ HasPath N6 (w_path9 (wv N5) (52 + (Int32.toNatClampNeg v1)) r5 (c_dayOn M.1 (52 + (Int32.toNatClampNeg v1)) v2))) (fun r6 e6 N6 g6 => ?_)
    show B_X10_route G K 57 [(6, .int (c_dayOn M.1 (52 + (Int32.toNatClampNeg v1)) v2)), (5, .ref (52 + (Int32.toNatClampNeg v1))), (4, .int (q_rp M.1 v1 v2)), (0, .ref 0), (1, .int v1), (2, .int v2), (3, .int v3)] [.int r6] N6
    refine BT.pop dX10_route_57 rfl ?_
    refine BT.iload_n dX10_route_58 rfl 6 rfl ?_
    refine BT.iconst (v := (-1)) dX10_route_59 (by decide) ?_
    refine BT.icmp_ne (tgt := 71) dX10_route_60 (by decide) (fun c => ?_) (fun c => ?_)
    · have c7 := c
      refine BT.iload_n dX10_route_71 rfl 6 rfl ?_
      refine BT.iconst (v := 0) dX10_route_72 (by decide) ?_
      refine BT.aload_n dX10_route_73 rfl 3 rfl ?_
      refine BT.getR (r := 167) fl_X10_46 ho_0 rfl dX10_route_74 ?_
      refine BT.getI fl_X10_248 ho_167 rfl dX10_route_77 ?_
      refine BT.iconst (v := 1) dX10_route_80 (by decide) ?_
      refine BT.isub dX10_route_81 ?_
      refine BT.mcS [.int v3, .int 0, .int ((N6.1 167 3) - 1)] (t_X10_within  ?_) mb_X10_within ms_X10_within lk_X10_82 rfl (by decide) rfl (Nat.le_of_ble_eq_true rfl) dX10_route_82
      show B_X10_route G K 85 [(6, .int (c_dayOn M.1 (52 + (Int32.toNatClampNeg v1)) v2)), (5, .ref (52 + (Int32.toNatClampNeg v1))), (4, .int (q_rp M.1 v1 v2)), (0, .ref 0), (1, .int v1), (2, .int v2), (3, .int v3)] [.int (bi (0 ≤ v3 ∧ v3 ≤ ((N6.1 167 3) - 1)))] N6
      refine BT.if_eq (tgt := 100) dX10_route_85 (by decide) (fun c => ?_) (fun c => ?_)
      · have c10 := bi_eq0.mp c
        refine BT.bipush (v := (-6)) dX10_route_100 (by decide) ?_
        exact BT.iret dX10_route_102 rfl (by decide) (by decide) (((((h.1 c2).2.2.2 r5 e5 N5 g5).2.2 r6 e6 N6 g6).1 c7).1 c10)
      · have c11 := bi_ne0.mp c
        refine BT.aload_n dX10_route_88 rfl 3 rfl ?_
        refine BT.getR (r := 167) fl_X10_46 ho_0 rfl dX10_route_89 ?_
        refine BT.getR (r := 168) fl_X10_251 ho_167 rfl dX10_route_92 ?_
        refine BT.iload_n dX10_route_95 rfl 6 rfl ?_
        refine BT.iald ha_168 (((((h.1 c2).2.2.2 r5 e5 N5 g5).2.2 r6 e6 N6 g6).1 c7).2 c11).1 dX10_route_96 ?_
        refine BT.goto (tgt := 102) dX10_route_97 (by decide) ?_
        exact BT.iret dX10_route_102 rfl (by decide) (by decide) (((((h.1 c2).2.2.2 r5 e5 N5 g5).2.2 r6 e6 N6 g6).1 c7).2 c11).2
    · have c8 := c
      refine BT.aload_n dX10_route_63 rfl 3 rfl ?_
      refine BT.getR (r := 167) fl_X10_46 ho_0 rfl dX10_route_64 ?_
      refine BT.getI fl_X10_248 ho_167 rfl dX10_route_67 ?_
      exact BT.iret dX10_route_70 rfl (by decide) (by decide) ((((h.1 c2).2.2.2 r5 e5 N5 g5).2.2 r6 e6 N6 g6).2 c8)
  · have c3 := c
    refine BT.iload dX10_route_13 0 rfl ?_
    exact BT.iret dX10_route_15 rfl (by decide) (by decide) (h.2 c3)

theorem t_X10_route {G : GT} {K : Int32 → Mem → Prop} {M : Mem} {v1 v2 v3 : Int32} (hw : WOk (wv M)) (h : ∀ N, Sc10 M N → K (a_route (wv M) v1 v2 v3) N) : T_X10_route G [.ref 0, .int v1, .int v2, .int v3] M K := by
  refine e_X10_route (k_X10_route_0 ?_)
  rw [q_rp_wv]
  unfold a_route a_pathAt at h
  refine ⟨fun c => ?_, fun c => ?_⟩
  · obtain ⟨hp, hd⟩ := q_rp_0 c
    obtain ⟨i1, i2, i3⟩ := pc_ix hw hp
    rw [c_dayOn_wv (by omega)]
    rw [sel_t c] at h
    refine ⟨vp8 i2 i3, by omega, hw, fun r5 e5 N5 g5 => ⟨by omega, by rw [g5.1.wvE]; exact hw, fun r6 e6 N6 g6 => ?_⟩⟩
    have gs := (g5.1.tr g6.1).s10
    have gp := g6.2
    rw [g5.1.wvE, e5] at gp
    obtain ⟨p1, p2⟩ := gp
    have p3 := w_path9_len (wv M) (52 + Int32.toNatClampNeg v1) (w_gov (wv M) (52 + Int32.toNatClampNeg v1) (c_dayOn (wv M) (52 + Int32.toNatClampNeg v1) v2)) (c_dayOn (wv M) (52 + Int32.toNatClampNeg v1) v2)
    rw [p1]
    refine ⟨fun c1 => ?_, fun c1 => ?_⟩
    · rw [sel_f c1] at h
      refine ⟨fun c2 => ?_, fun c2 => ?_⟩
      · rw [sel_f c2] at h; exact h _ gs
      · rw [sel_t c2] at h
        obtain ⟨j, hj, rfl⟩ := i_le1 c2.1 c2.2 (by omega)
        rw [ix_nI (by omega)] at h ⊢
        refine ⟨vp_nI (by omega) (by decide), ?_⟩
        rw [List.getD_eq_getElem?_getD, p2 j hj] at h
        exact h _ gs
    · rw [sel_t c1] at h; exact h _ gs
  · rw [sel_f c] at h; exact h _ Sc10.rf

/-! BetweenLaws.passage(III)I -/
abbrev rm_X10_passage : Room := { frames := 6, cells := 0, slots := 0, locals := 149 }
abbrev B_X10_passage (G : GT) (K : Int32 → Mem → Prop) := BT G (Rep G) RX10 "passage" cX10_passage 5 (some .int) rm_X10_passage K 0 0
abbrev T_X10_passage (G : GT) (as : List Value) (M : Mem) (K : Int32 → Mem → Prop) : Prop := MT G (Rep G) yX10_passage cX10_passage 5 (some .int) rm_X10_passage as M K
theorem e_X10_passage {G : GT} {K : Int32 → Mem → Prop} {M : Mem} {v1 : Int32} {v2 : Int32} {v3 : Int32} (h : B_X10_passage G K 0 [(0, .ref 0), (1, .int v1), (2, .int v2), (3, .int v3)] [] M) : T_X10_passage G [.ref 0, .int v1, .int v2, .int v3] M K := MT.of (by decide +kernel) rfl rfl (Nat.le_of_ble_eq_true rfl) rfl h
set_option maxRecDepth 4000 in
theorem k_X10_passage_0 {G : GT} {K : Int32 → Mem → Prop} {M : Mem} {v1 : Int32} {v2 : Int32} {v3 : Int32} (h : (((0 : Int32) ≤ v1 ∧ v1 < (M.1 8 4)) → ((0 ≤ v3 ∧ v3 ≤ 1) → ((-1) ≤ v2 → (vp_in v1 8) ∧ ((52 + (Int32.toNatClampNeg v1)) < 60 ∨ (52 + (Int32.toNatClampNeg v1)) = 174) ∧ (WOk (wv M)) ∧ (BOk (wv M) (52 + (Int32.toNatClampNeg v1))) ∧ (∀ N9 : Mem, (ScX M N9 ∧ c_cr N9 = (r_thr (wv M) (52 + (Int32.toNatClampNeg v1)) v2 (100 - w_b (wv M) (52 + (Int32.toNatClampNeg v1))) (r_begin (wv M) (52 + (Int32.toNatClampNeg v1)))).2) → (¬ v2 = (-1) → (((r_thr (wv M) (52 + (Int32.toNatClampNeg v1)) v2 (100 - w_b (wv M) (52 + (Int32.toNatClampNeg v1))) (r_begin (wv M) (52 + (Int32.toNatClampNeg v1)))).1 = 1) → (¬ v3 = 0 → K (N9.1 169 4) N9) ∧ (v3 = 0 → K (N9.1 169 3) N9)) ∧ (¬ ((r_thr (wv M) (52 + (Int32.toNatClampNeg v1)) v2 (100 - w_b (wv M) (52 + (Int32.toNatClampNeg v1))) (r_begin (wv M) (52 + (Int32.toNatClampNeg v1)))).1 = 1) → K (-6) N9)) ∧ (v2 = (-1) → K (N9.1 169 2) N9))) ∧ (¬ (-1) ≤ v2 → K (-6) M)) ∧ (¬ (0 ≤ v3 ∧ v3 ≤ 1) → K (-2) M)) ∧ (¬ ((0 : Int32) ≤ v1 ∧ v1 < (M.1 8 4)) → K (-1) M)) : B_X10_passage G K 0 [(0, .ref 0), (1, .int v1), (2, .int v2), (3, .int v3)] [] M := by
  refine BT.aload_n dX10_passage_0 rfl 0 rfl ?_
  refine BT.getR (r := 8) fl_X10_26 ho_0 rfl dX10_passage_1 ?_
  refine BT.iload_n dX10_passage_4 rfl 1 rfl ?_
  refine BT.mcV [.int v1] (t_X9_hasPiece  ?_) mb_X9_hasPiece mv_X9_hasPiece lk_X10_186 rfl (by decide) rfl (recvRep ho_8 rfl) (Nat.le_of_ble_eq_true rfl) dX10_passage_5
  show B_X10_passage G K 8 [(0, .ref 0), (1, .int v1), (2, .int v2), (3, .int v3)] [.int (bi ((0 : Int32) ≤ v1 ∧ v1 < (M.1 8 4)))] M
  refine BT.if_ne (tgt := 13) dX10_passage_8 (by decide) (fun c => ?_) (fun c => ?_)
  · have c2 := bi_ne0.mp c
    refine BT.iload_n dX10_passage_13 rfl 3 rfl ?_
    refine BT.iconst (v := 0) dX10_passage_14 (by decide) ?_
    refine BT.iconst (v := 1) dX10_passage_15 (by decide) ?_
    refine BT.mcS [.int v3, .int 0, .int 1] (t_X10_within  ?_) mb_X10_within ms_X10_within lk_X10_82 rfl (by decide) rfl (Nat.le_of_ble_eq_true rfl) dX10_passage_16
    show B_X10_passage G K 19 [(0, .ref 0), (1, .int v1), (2, .int v2), (3, .int v3)] [.int (bi (0 ≤ v3 ∧ v3 ≤ 1))] M
    refine BT.if_ne (tgt := 25) dX10_passage_19 (by decide) (fun c => ?_) (fun c => ?_)
    · have c5 := bi_ne0.mp c
      refine BT.iload_n dX10_passage_25 rfl 2 rfl ?_
      refine BT.iconst (v := (-1)) dX10_passage_26 (by decide) ?_
      refine BT.icmp_ge (tgt := 33) dX10_passage_27 (by decide) (fun c => ?_) (fun c => ?_)
      · have c7 := c
        refine BT.aload_n dX10_passage_33 rfl 0 rfl ?_
        refine BT.getR (r := 169) fl_X10_55 ho_0 rfl dX10_passage_34 ?_
        refine BT.aload_n dX10_passage_37 rfl 0 rfl ?_
        refine BT.getR (r := 8) fl_X10_26 ho_0 rfl dX10_passage_38 ?_
        refine BT.getR (r := 51) fl_X10_189 ho_8 rfl dX10_passage_41 ?_
        refine BT.iload_n dX10_passage_44 rfl 1 rfl ?_
        refine BT.aald1 ha_51 (by decide) (((h.1 c2).1 c5).1 c7).1 dX10_passage_45 ?_
        refine BT.iload_n dX10_passage_46 rfl 2 rfl ?_
        refine BT.mcVq [.ref (52 + (Int32.toNatClampNeg v1)), .int v2] (t_X1_goThrough (pieceC8 (((h.1 c2).1 c5).1 c7).1) (((h.1 c2).1 c5).1 c7).2.1 (((h.1 c2).1 c5).1 c7).2.2.1 (((h.1 c2).1 c5).1 c7).2.2.2.1 (fun N hN => ⟨rfl, hN⟩)) mb_X1_goThrough mv_X1_goThrough lk_X10_254 rfl (by decide) rfl (recvRep ho_169 rfl) (Nat.le_of_ble_eq_true rfl) dX10_passage_47 (P := fun N9 => ScX M N9 ∧ c_cr N9 = (r_thr (wv M) (52 + (Int32.toNatClampNeg v1)) v2 (100 - w_b (wv M) (52 + (Int32.toNatClampNeg v1))) (r_begin (wv M) (52 + (Int32.toNatClampNeg v1)))).2) (fun N9 g9 => ?_)
        show B_X10_passage G K 50 [(0, .ref 0), (1, .int v1), (2, .int v2), (3, .int v3)] [.int (bi ((r_thr (wv M) (52 + (Int32.toNatClampNeg v1)) v2 (100 - w_b (wv M) (52 + (Int32.toNatClampNeg v1))) (r_begin (wv M) (52 + (Int32.toNatClampNeg v1)))).1 = 1))] N9
        refine BT.istore (L' := [(4, .int (bi ((r_thr (wv M) (52 + (Int32.toNatClampNeg v1)) v2 (100 - w_b (wv M) (52 + (Int32.toNatClampNeg v1))) (r_begin (wv M) (52 + (Int32.toNatClampNeg v1)))).1 = 1))), (0, .ref 0), (1, .int v1), (2, .int v2), (3, .int v3)]) dX10_passage_50 (by decide) rfl ?_
        refine BT.iload_n dX10_passage_52 rfl 3 rfl ?_
        refine BT.iconst (v := (-1)) dX10_passage_53 (by decide) ?_
        refine BT.icmp_ne (tgt := 65) dX10_passage_54 (by decide) (fun c => ?_) (fun c => ?_)
        · have c10 := c
          refine BT.iload dX10_passage_65 0 rfl ?_
          refine BT.if_ne (tgt := 73) dX10_passage_67 (by decide) (fun c => ?_) (fun c => ?_)
          · have c12 := bi_ne0.mp c
            refine BT.iload_n dX10_passage_73 rfl 4 rfl ?_
            refine BT.if_ne (tgt := 87) dX10_passage_74 (by decide) (fun c => ?_) (fun c => ?_)
            · have c14 := c
              refine BT.aload_n dX10_passage_87 rfl 1 rfl ?_
              refine BT.getR (r := 169) fl_X10_55 ho_0 rfl dX10_passage_88 ?_
              refine BT.getI fl_X10_264 ho_169 rfl dX10_passage_91 ?_
              exact BT.iret dX10_passage_94 rfl (by decide) (by decide) (((((((h.1 c2).1 c5).1 c7).2.2.2.2 N9 g9).1 c10).1 c12).1 c14)
            · have c15 := c
              refine BT.aload_n dX10_passage_77 rfl 1 rfl ?_
              refine BT.getR (r := 169) fl_X10_55 ho_0 rfl dX10_passage_78 ?_
              refine BT.getI fl_X10_261 ho_169 rfl dX10_passage_81 ?_
              refine BT.goto (tgt := 94) dX10_passage_84 (by decide) ?_
              exact BT.iret dX10_passage_94 rfl (by decide) (by decide) (((((((h.1 c2).1 c5).1 c7).2.2.2.2 N9 g9).1 c10).1 c12).2 c15)
          · have c13 := bi_eq0.mp c
            refine BT.bipush (v := (-6)) dX10_passage_70 (by decide) ?_
            exact BT.iret dX10_passage_72 rfl (by decide) (by decide) ((((((h.1 c2).1 c5).1 c7).2.2.2.2 N9 g9).1 c10).2 c13)
        · have c11 := c
          refine BT.aload_n dX10_passage_57 rfl 1 rfl ?_
          refine BT.getR (r := 169) fl_X10_55 ho_0 rfl dX10_passage_58 ?_
          refine BT.getI fl_X10_258 ho_169 rfl dX10_passage_61 ?_
          exact BT.iret dX10_passage_64 rfl (by decide) (by decide) (((((h.1 c2).1 c5).1 c7).2.2.2.2 N9 g9).2 c11)
      · have c8 := c
        refine BT.bipush (v := (-6)) dX10_passage_30 (by decide) ?_
        exact BT.iret dX10_passage_32 rfl (by decide) (by decide) (((h.1 c2).1 c5).2 c8)
    · have c6 := bi_eq0.mp c
      refine BT.bipush (v := (-2)) dX10_passage_22 (by decide) ?_
      exact BT.iret dX10_passage_24 rfl (by decide) (by decide) ((h.1 c2).2 c6)
  · have c3 := bi_eq0.mp c
    refine BT.iconst (v := (-1)) dX10_passage_11 (by decide) ?_
    exact BT.iret dX10_passage_12 rfl (by decide) (by decide) (h.2 c3)

theorem t_X10_passage {G : GT} {K : Int32 → Mem → Prop} {M : Mem} {v1 v2 v3 : Int32} (hw : WOk (wv M)) (h : ∀ N, Sc10 M N → K (a_passage (wv M) v1 v2 v3) N) : T_X10_passage G [.ref 0, .int v1, .int v2, .int v3] M K := by
  refine e_X10_passage (k_X10_passage_0 ?_)
  unfold a_passage at h
  rw [← wv_at (M := M) (c := 8) (k := 4) (by decide)]
  refine ⟨fun c => ?_, fun c => ?_⟩
  · rw [sel_t c] at h
    obtain ⟨i1, i2, i3⟩ := pc_ix hw c
    refine ⟨fun c2 => ?_, fun c2 => ?_⟩
    · rw [sel_t c2] at h
      refine ⟨fun c3 => ?_, fun c3 => ?_⟩
      · rw [sel_t c3] at h
        refine ⟨vp8 i2 i3, by omega, hw, pc_b hw i1, fun N9 g9 => ?_⟩
        obtain ⟨gx, ge⟩ := g9
        have gs := gx.s10
        have e2 : N9.1 169 2 = (a_thr (wv M) (ppc v1) v2).2.1 := congrArg (fun z : CrT => z.1) ge
        have e3 : N9.1 169 3 = (a_thr (wv M) (ppc v1) v2).2.2.1 := congrArg (fun z : CrT => z.2.1) ge
        have e4 : N9.1 169 4 = (a_thr (wv M) (ppc v1) v2).2.2.2.1 := congrArg (fun z : CrT => z.2.2.1) ge
        rw [e2, e3, e4]
        refine ⟨fun c4 => ?_, fun c4 => ?_⟩
        · rw [sel_f c4] at h
          refine ⟨fun c5 => ?_, fun c5 => ?_⟩
          · rw [sel_t (show (a_thr (wv M) (ppc v1) v2).1 = 1 from c5)] at h
            refine ⟨fun c6 => ?_, fun c6 => ?_⟩
            · rw [sel_f c6] at h; exact h _ gs
            · rw [sel_t c6] at h; exact h _ gs
          · rw [sel_f (show ¬ (a_thr (wv M) (ppc v1) v2).1 = 1 from c5)] at h; exact h _ gs
        · rw [sel_t c4] at h; exact h _ gs
      · rw [sel_f c3] at h; exact h _ Sc10.rf
    · rw [sel_f c2] at h; exact h _ Sc10.rf
  · rw [sel_f c] at h; exact h _ Sc10.rf

/-! BetweenLaws.term(III)I -/
abbrev rm_X10_term : Room := { frames := 6, cells := 0, slots := 0, locals := 149 }
abbrev B_X10_term (G : GT) (K : Int32 → Mem → Prop) := BT G (Rep G) RX10 "term" cX10_term 5 (some .int) rm_X10_term K 0 0
abbrev T_X10_term (G : GT) (as : List Value) (M : Mem) (K : Int32 → Mem → Prop) : Prop := MT G (Rep G) yX10_term cX10_term 5 (some .int) rm_X10_term as M K
theorem e_X10_term {G : GT} {K : Int32 → Mem → Prop} {M : Mem} {v1 : Int32} {v2 : Int32} {v3 : Int32} (h : B_X10_term G K 0 [(0, .ref 0), (1, .int v1), (2, .int v2), (3, .int v3)] [] M) : T_X10_term G [.ref 0, .int v1, .int v2, .int v3] M K := MT.of (by decide +kernel) rfl rfl (Nat.le_of_ble_eq_true rfl) rfl h
set_option maxRecDepth 4000 in
theorem k_X10_term_0 {G : GT} {K : Int32 → Mem → Prop} {M : Mem} {v1 : Int32} {v2 : Int32} {v3 : Int32} (h : ((q_rp M.1 v1 v2) = 0 → ((0 ≤ v3 ∧ v3 ≤ 1) → (vp_in v1 8) ∧ ((M.1 (52 + (Int32.toNatClampNeg v1)) 0) ≤ v2 → (vp_in v1 8) ∧ ((52 + (Int32.toNatClampNeg v1)) < 60 ∨ (52 + (Int32.toNatClampNeg v1)) = 174) ∧ (WOk (wv M)) ∧ (BOk (wv M) (52 + (Int32.toNatClampNeg v1))) ∧ (∀ N9 : Mem, (ScX M N9 ∧ c_cr N9 = r_till (wv M) (52 + (Int32.toNatClampNeg v1)) v2 (100 - w_b (wv M) (52 + (Int32.toNatClampNeg v1))) (r_begin (wv M) (52 + (Int32.toNatClampNeg v1)))) → (¬ v3 = 0 → K (N9.1 169 6) N9) ∧ (v3 = 0 → K (N9.1 169 5) N9))) ∧ (¬ (M.1 (52 + (Int32.toNatClampNeg v1)) 0) ≤ v2 → K (-3) M)) ∧ (¬ (0 ≤ v3 ∧ v3 ≤ 1) → K (-2) M)) ∧ (¬ (q_rp M.1 v1 v2) = 0 → K (q_rp M.1 v1 v2) M)) : B_X10_term G K 0 [(0, .ref 0), (1, .int v1), (2, .int v2), (3, .int v3)] [] M := by
  refine BT.aload_n dX10_term_0 rfl 0 rfl ?_
  refine BT.iload_n dX10_term_1 rfl 1 rfl ?_
  refine BT.iload_n dX10_term_2 rfl 2 rfl ?_
  refine BT.mcV [.int v1, .int v2] (t_X10_refusedPiece  ?_) mb_X10_refusedPiece mv_X10_refusedPiece lk_X10_234 rfl (by decide) rfl (recvRep ho_0 rfl) (Nat.le_of_ble_eq_true rfl) dX10_term_3
  show B_X10_term G K 6 [(0, .ref 0), (1, .int v1), (2, .int v2), (3, .int v3)] [.int (q_rp M.1 v1 v2)] M
  refine BT.istore (L' := [(4, .int (q_rp M.1 v1 v2)), (0, .ref 0), (1, .int v1), (2, .int v2), (3, .int v3)]) dX10_term_6 (by decide) rfl ?_
  refine BT.iload dX10_term_8 0 rfl ?_
  refine BT.if_eq (tgt := 16) dX10_term_10 (by decide) (fun c => ?_) (fun c => ?_)
  · have c2 := c
    refine BT.iload_n dX10_term_16 rfl 4 rfl ?_
    refine BT.iconst (v := 0) dX10_term_17 (by decide) ?_
    refine BT.iconst (v := 1) dX10_term_18 (by decide) ?_
    refine BT.mcS [.int v3, .int 0, .int 1] (t_X10_within  ?_) mb_X10_within ms_X10_within lk_X10_82 rfl (by decide) rfl (Nat.le_of_ble_eq_true rfl) dX10_term_19
    show B_X10_term G K 22 [(4, .int (q_rp M.1 v1 v2)), (0, .ref 0), (1, .int v1), (2, .int v2), (3, .int v3)] [.int (bi (0 ≤ v3 ∧ v3 ≤ 1))] M
    refine BT.if_ne (tgt := 28) dX10_term_22 (by decide) (fun c => ?_) (fun c => ?_)
    · have c5 := bi_ne0.mp c
      refine BT.iload_n dX10_term_28 rfl 3 rfl ?_
      refine BT.aload_n dX10_term_29 rfl 1 rfl ?_
      refine BT.getR (r := 8) fl_X10_26 ho_0 rfl dX10_term_30 ?_
      refine BT.getR (r := 51) fl_X10_189 ho_8 rfl dX10_term_33 ?_
      refine BT.iload_n dX10_term_36 rfl 2 rfl ?_
      refine BT.aald1 ha_51 (by decide) ((h.1 c2).1 c5).1 dX10_term_37 ?_
      refine BT.getI fl_X10_193 (pieceC8 ((h.1 c2).1 c5).1) rfl dX10_term_38 ?_
      refine BT.icmp_ge (tgt := 47) dX10_term_41 (by decide) (fun c => ?_) (fun c => ?_)
      · have c7 := c
        refine BT.aload_n dX10_term_47 rfl 1 rfl ?_
        refine BT.getR (r := 169) fl_X10_55 ho_0 rfl dX10_term_48 ?_
        refine BT.aload_n dX10_term_51 rfl 1 rfl ?_
        refine BT.getR (r := 8) fl_X10_26 ho_0 rfl dX10_term_52 ?_
        refine BT.getR (r := 51) fl_X10_189 ho_8 rfl dX10_term_55 ?_
        refine BT.iload_n dX10_term_58 rfl 2 rfl ?_
        refine BT.aald1 ha_51 (by decide) (((h.1 c2).1 c5).2.1 c7).1 dX10_term_59 ?_
        refine BT.iload_n dX10_term_60 rfl 3 rfl ?_
        refine BT.mcVvp [.ref (52 + (Int32.toNatClampNeg v1)), .int v2] (t_X1_goTill (pieceC8 (((h.1 c2).1 c5).2.1 c7).1) (((h.1 c2).1 c5).2.1 c7).2.1 (((h.1 c2).1 c5).2.1 c7).2.2.1 (((h.1 c2).1 c5).2.1 c7).2.2.2.1 (fun N hN => ⟨rfl, hN⟩)) mb_X1_goTill mv_X1_goTill lk_X10_266 rfl (by decide) rfl (recvRep ho_169 rfl) (Nat.le_of_ble_eq_true rfl) dX10_term_61 (P := fun N9 => ScX M N9 ∧ c_cr N9 = r_till (wv M) (52 + (Int32.toNatClampNeg v1)) v2 (100 - w_b (wv M) (52 + (Int32.toNatClampNeg v1))) (r_begin (wv M) (52 + (Int32.toNatClampNeg v1)))) (fun N9 g9 => ?_)
        show B_X10_term G K 64 [(4, .int (q_rp M.1 v1 v2)), (0, .ref 0), (1, .int v1), (2, .int v2), (3, .int v3)] [] N9
        refine BT.iload_n dX10_term_64 rfl 4 rfl ?_
        refine BT.if_ne (tgt := 78) dX10_term_65 (by decide) (fun c => ?_) (fun c => ?_)
        · have c10 := c
          refine BT.aload_n dX10_term_78 rfl 1 rfl ?_
          refine BT.getR (r := 169) fl_X10_55 ho_0 rfl dX10_term_79 ?_
          refine BT.getI fl_X10_273 ho_169 rfl dX10_term_82 ?_
          exact BT.iret dX10_term_85 rfl (by decide) (by decide) (((((h.1 c2).1 c5).2.1 c7).2.2.2.2 N9 g9).1 c10)
        · have c11 := c
          refine BT.aload_n dX10_term_68 rfl 1 rfl ?_
          refine BT.getR (r := 169) fl_X10_55 ho_0 rfl dX10_term_69 ?_
          refine BT.getI fl_X10_270 ho_169 rfl dX10_term_72 ?_
          refine BT.goto (tgt := 85) dX10_term_75 (by decide) ?_
          exact BT.iret dX10_term_85 rfl (by decide) (by decide) (((((h.1 c2).1 c5).2.1 c7).2.2.2.2 N9 g9).2 c11)
      · have c8 := c
        refine BT.bipush (v := (-3)) dX10_term_44 (by decide) ?_
        exact BT.iret dX10_term_46 rfl (by decide) (by decide) (((h.1 c2).1 c5).2.2 c8)
    · have c6 := bi_eq0.mp c
      refine BT.bipush (v := (-2)) dX10_term_25 (by decide) ?_
      exact BT.iret dX10_term_27 rfl (by decide) (by decide) ((h.1 c2).2 c6)
  · have c3 := c
    refine BT.iload dX10_term_13 0 rfl ?_
    exact BT.iret dX10_term_15 rfl (by decide) (by decide) (h.2 c3)

theorem t_X10_term {G : GT} {K : Int32 → Mem → Prop} {M : Mem} {v1 v2 v3 : Int32} (hw : WOk (wv M)) (h : ∀ N, Sc10 M N → K (a_term (wv M) v1 v2 v3) N) : T_X10_term G [.ref 0, .int v1, .int v2, .int v3] M K := by
  refine e_X10_term (k_X10_term_0 ?_)
  rw [q_rp_wv]
  unfold a_term at h
  refine ⟨fun c => ?_, fun c => ?_⟩
  · rw [sel_t c] at h
    obtain ⟨hp, hd⟩ := q_rp_0 c
    obtain ⟨i1, i2, i3⟩ := pc_ix hw hp
    rw [← wv_at (M := M) (c := 52 + Int32.toNatClampNeg v1) (k := 0) (by omega)]
    refine ⟨fun c2 => ?_, fun c2 => ?_⟩
    · rw [sel_t c2] at h
      refine ⟨vp8 i2 i3, fun c3 => ?_, fun c3 => ?_⟩
      · rw [sel_t c3] at h
        refine ⟨vp8 i2 i3, by omega, hw, pc_b hw i1, fun N9 g9 => ?_⟩
        obtain ⟨gx, ge⟩ := g9
        have gs := gx.s10
        have e5 : N9.1 169 5 = (a_till (wv M) (ppc v1) v2).2.2.2.1 := congrArg (fun z : CrT => z.2.2.2.1) ge
        have e6 : N9.1 169 6 = (a_till (wv M) (ppc v1) v2).2.2.2.2 := congrArg (fun z : CrT => z.2.2.2.2) ge
        rw [e5, e6]
        refine ⟨fun c6 => ?_, fun c6 => ?_⟩
        · rw [sel_f c6] at h; exact h _ gs
        · rw [sel_t c6] at h; exact h _ gs
      · rw [sel_f c3] at h; exact h _ Sc10.rf
    · rw [sel_f c2] at h; exact h _ Sc10.rf
  · rw [sel_f c] at h; exact h _ Sc10.rf

/-! BetweenLaws.whole(II)I -/
abbrev rm_X10_whole : Room := { frames := 6, cells := 0, slots := 0, locals := 149 }
abbrev B_X10_whole (G : GT) (K : Int32 → Mem → Prop) := BT G (Rep G) RX10 "whole" cX10_whole 3 (some .int) rm_X10_whole K 0 0
abbrev T_X10_whole (G : GT) (as : List Value) (M : Mem) (K : Int32 → Mem → Prop) : Prop := MT G (Rep G) yX10_whole cX10_whole 3 (some .int) rm_X10_whole as M K
theorem e_X10_whole {G : GT} {K : Int32 → Mem → Prop} {M : Mem} {v1 : Int32} {v2 : Int32} (h : B_X10_whole G K 0 [(0, .ref 0), (1, .int v1), (2, .int v2)] [] M) : T_X10_whole G [.ref 0, .int v1, .int v2] M K := MT.of (by decide +kernel) rfl rfl (Nat.le_of_ble_eq_true rfl) rfl h
set_option maxRecDepth 4000 in
theorem k_X10_whole_0 {G : GT} {K : Int32 → Mem → Prop} {M : Mem} {v1 : Int32} {v2 : Int32} (h : (((0 : Int32) ≤ v1 ∧ v1 < (M.1 8 4)) → ((0 ≤ v2 ∧ v2 ≤ ((4 : Int32) - 1)) → (vp_in v1 8) ∧ (vp_in v2 4) ∧ ((52 + (Int32.toNatClampNeg v1)) < 60 ∨ (52 + (Int32.toNatClampNeg v1)) = 174) ∧ (WOk (wv M)) ∧ (BOk (wv M) (52 + (Int32.toNatClampNeg v1))) ∧ (∀ r7 : Int32, r7 = (r_who (wv M) (52 + (Int32.toNatClampNeg v1)) (aw_f1 (Int32.toNatClampNeg v2)) (100 - w_b (wv M) (52 + (Int32.toNatClampNeg v1))) (r_begin (wv M) (52 + (Int32.toNatClampNeg v1)))) → ∀ N7 : Mem, (ScX M N7) → K r7 N7)) ∧ (¬ (0 ≤ v2 ∧ v2 ≤ ((4 : Int32) - 1)) → K (-2) M)) ∧ (¬ ((0 : Int32) ≤ v1 ∧ v1 < (M.1 8 4)) → K (-1) M)) : B_X10_whole G K 0 [(0, .ref 0), (1, .int v1), (2, .int v2)] [] M := by
  refine BT.aload_n dX10_whole_0 rfl 0 rfl ?_
  refine BT.getR (r := 8) fl_X10_26 ho_0 rfl dX10_whole_1 ?_
  refine BT.iload_n dX10_whole_4 rfl 1 rfl ?_
  refine BT.mcV [.int v1] (t_X9_hasPiece  ?_) mb_X9_hasPiece mv_X9_hasPiece lk_X10_186 rfl (by decide) rfl (recvRep ho_8 rfl) (Nat.le_of_ble_eq_true rfl) dX10_whole_5
  show B_X10_whole G K 8 [(0, .ref 0), (1, .int v1), (2, .int v2)] [.int (bi ((0 : Int32) ≤ v1 ∧ v1 < (M.1 8 4)))] M
  refine BT.if_ne (tgt := 13) dX10_whole_8 (by decide) (fun c => ?_) (fun c => ?_)
  · have c2 := bi_ne0.mp c
    refine BT.iload_n dX10_whole_13 rfl 2 rfl ?_
    refine BT.iconst (v := 0) dX10_whole_14 (by decide) ?_
    refine BT.gst1 gs_1 dX10_whole_15 ?_
    refine BT.slen1 dX10_whole_18 ?_
    refine BT.iconst (v := 1) dX10_whole_19 (by decide) ?_
    refine BT.isub dX10_whole_20 ?_
    refine BT.mcS [.int v2, .int 0, .int ((4 : Int32) - 1)] (t_X10_within  ?_) mb_X10_within ms_X10_within lk_X10_82 rfl (by decide) rfl (Nat.le_of_ble_eq_true rfl) dX10_whole_21
    show B_X10_whole G K 24 [(0, .ref 0), (1, .int v1), (2, .int v2)] [.int (bi (0 ≤ v2 ∧ v2 ≤ ((4 : Int32) - 1)))] M
    refine BT.if_ne (tgt := 30) dX10_whole_24 (by decide) (fun c => ?_) (fun c => ?_)
    · have c5 := bi_ne0.mp c
      refine BT.aload_n dX10_whole_30 rfl 0 rfl ?_
      refine BT.getR (r := 169) fl_X10_55 ho_0 rfl dX10_whole_31 ?_
      refine BT.aload_n dX10_whole_34 rfl 0 rfl ?_
      refine BT.getR (r := 8) fl_X10_26 ho_0 rfl dX10_whole_35 ?_
      refine BT.getR (r := 51) fl_X10_189 ho_8 rfl dX10_whole_38 ?_
      refine BT.iload_n dX10_whole_41 rfl 1 rfl ?_
      refine BT.aald1 ha_51 (by decide) ((h.1 c2).1 c5).1 dX10_whole_42 ?_
      refine BT.gst1 gs_1 dX10_whole_43 ?_
      refine BT.iload_n dX10_whole_46 rfl 2 rfl ?_
      refine BT.sald1 ((h.1 c2).1 c5).2.1 dX10_whole_47 ?_
      refine BT.mcVp [.ref (52 + (Int32.toNatClampNeg v1)), .int (aw_f1 (Int32.toNatClampNeg v2))] (t_X1_wholeFrom (pieceC8 ((h.1 c2).1 c5).1) ((h.1 c2).1 c5).2.2.1 ((h.1 c2).1 c5).2.2.2.1 ((h.1 c2).1 c5).2.2.2.2.1 (fun N hN => ⟨rfl, hN⟩)) mb_X1_wholeFrom mv_X1_wholeFrom lk_X10_279 rfl (by decide) rfl (recvRep ho_169 rfl) (Nat.le_of_ble_eq_true rfl) dX10_whole_48 (P := fun N7 => ScX M N7) (fun r7 e7 N7 g7 => ?_)
      show B_X10_whole G K 51 [(0, .ref 0), (1, .int v1), (2, .int v2)] [.int r7] N7
      exact BT.iret dX10_whole_51 rfl (by decide) (by decide) (((h.1 c2).1 c5).2.2.2.2.2 r7 e7 N7 g7)
    · have c6 := bi_eq0.mp c
      refine BT.bipush (v := (-2)) dX10_whole_27 (by decide) ?_
      exact BT.iret dX10_whole_29 rfl (by decide) (by decide) ((h.1 c2).2 c6)
  · have c3 := bi_eq0.mp c
    refine BT.iconst (v := (-1)) dX10_whole_11 (by decide) ?_
    exact BT.iret dX10_whole_12 rfl (by decide) (by decide) (h.2 c3)

theorem t_X10_whole {G : GT} {K : Int32 → Mem → Prop} {M : Mem} {v1 v2 : Int32} (hw : WOk (wv M)) (h : ∀ N, Sc10 M N → K (a_whole (wv M) v1 v2) N) : T_X10_whole G [.ref 0, .int v1, .int v2] M K := by
  refine e_X10_whole (k_X10_whole_0 ?_)
  unfold a_whole at h
  rw [← wv_at (M := M) (c := 8) (k := 4) (by decide), show ((4 : Int32) - 1) = 3 from by decide]
  refine ⟨fun c => ?_, fun c => ?_⟩
  · rw [sel_t c] at h
    obtain ⟨i1, i2, i3⟩ := pc_ix hw c
    refine ⟨fun c2 => ?_, fun c2 => ?_⟩
    · rw [sel_t c2] at h
      obtain ⟨j, hj, e⟩ := i_nat (x := v2) (N := 4) (by decide) c2.1 (Int32.lt_of_le_of_lt c2.2 (by decide))
      exact ⟨vp8 i2 i3, by rw [e]; exact vp_nI hj (by decide), by omega, hw, pc_b hw i1, fun r7 e7 N7 g7 => by rw [e7]; exact h _ g7.s10⟩
    · rw [sel_f c2] at h; exact h _ Sc10.rf
  · rw [sel_f c] at h; exact h _ Sc10.rf

/-! BetweenLaws.taken(I)I -/
abbrev rm_X10_taken : Room := { frames := 5, cells := 0, slots := 0, locals := 126 }
abbrev B_X10_taken (G : GT) (K : Int32 → Mem → Prop) := BT G (Rep G) RX10 "taken" cX10_taken 2 (some .int) rm_X10_taken K 0 0
abbrev T_X10_taken (G : GT) (as : List Value) (M : Mem) (K : Int32 → Mem → Prop) : Prop := MT G (Rep G) yX10_taken cX10_taken 2 (some .int) rm_X10_taken as M K
theorem e_X10_taken {G : GT} {K : Int32 → Mem → Prop} {M : Mem} {v1 : Int32} (h : B_X10_taken G K 0 [(0, .ref 0), (1, .int v1)] [] M) : T_X10_taken G [.ref 0, .int v1] M K := MT.of (by decide +kernel) rfl rfl (Nat.le_of_ble_eq_true rfl) rfl h
set_option maxRecDepth 4000 in
theorem k_X10_taken_0 {G : GT} {K : Int32 → Mem → Prop} {M : Mem} {v1 : Int32} (h : (¬ ((0 : Int32) ≤ v1 ∧ v1 < (M.1 8 1)) → K (-1) M) ∧ (((0 : Int32) ≤ v1 ∧ v1 < (M.1 8 1)) → (WOk (wv M)) ∧ ((0 : Int32) ≤ v1 ∧ v1 < wv M 8 1) ∧ (∀ r4 : Int32, r4 = (w_taken (wv M) v1 (w_p (wv M))) → ∀ N4 : Mem, (Scr M N4) → K r4 N4))) : B_X10_taken G K 0 [(0, .ref 0), (1, .int v1)] [] M := by
  refine BT.aload_n dX10_taken_0 rfl 0 rfl ?_
  refine BT.getR (r := 8) fl_X10_26 ho_0 rfl dX10_taken_1 ?_
  refine BT.iload_n dX10_taken_4 rfl 1 rfl ?_
  refine BT.mcV [.int v1] (t_X9_hasLaw  ?_) mb_X9_hasLaw mv_X9_hasLaw lk_X10_111 rfl (by decide) rfl (recvRep ho_8 rfl) (Nat.le_of_ble_eq_true rfl) dX10_taken_5
  show B_X10_taken G K 8 [(0, .ref 0), (1, .int v1)] [.int (bi ((0 : Int32) ≤ v1 ∧ v1 < (M.1 8 1)))] M
  refine BT.if_eq (tgt := 22) dX10_taken_8 (by decide) (fun c => ?_) (fun c => ?_)
  · have c2 := bi_eq0.mp c
    refine BT.iconst (v := (-1)) dX10_taken_22 (by decide) ?_
    exact BT.iret dX10_taken_23 rfl (by decide) (by decide) (h.1 c2)
  · have c3 := bi_ne0.mp c
    refine BT.aload_n dX10_taken_11 rfl 0 rfl ?_
    refine BT.getR (r := 167) fl_X10_46 ho_0 rfl dX10_taken_12 ?_
    refine BT.iload_n dX10_taken_15 rfl 1 rfl ?_
    refine BT.mcVp [.int v1] (t_X2_takenBy (h.2 c3).1 (h.2 c3).2.1 (fun N hN => ⟨rfl, hN⟩)) mb_X2_takenBy mv_X2_takenBy lk_X10_282 rfl (by decide) rfl (recvRep ho_167 rfl) (Nat.le_of_ble_eq_true rfl) dX10_taken_16 (P := fun N4 => Scr M N4) (fun r4 e4 N4 g4 => ?_)
    show B_X10_taken G K 19 [(0, .ref 0), (1, .int v1)] [.int r4] N4
    refine BT.goto (tgt := 23) dX10_taken_19 (by decide) ?_
    exact BT.iret dX10_taken_23 rfl (by decide) (by decide) ((h.2 c3).2.2 r4 e4 N4 g4)

theorem t_X10_taken {G : GT} {K : Int32 → Mem → Prop} {M : Mem} {v1 : Int32} (hw : WOk (wv M)) (h : ∀ N, Sc10 M N → K (a_taken (wv M) v1) N) : T_X10_taken G [.ref 0, .int v1] M K := by
  refine e_X10_taken (k_X10_taken_0 ?_)
  unfold a_taken at h
  rw [← wv_at (M := M) (c := 8) (k := 1) (by decide)]
  refine ⟨fun c => ?_, fun c => ?_⟩
  · rw [sel_f c] at h; exact h _ Sc10.rf
  · rw [sel_t c] at h
    exact ⟨hw, c, fun r4 e4 N4 g4 => by rw [e4]; exact h _ g4.s10⟩

/-! BetweenLaws.caught(I)I -/
abbrev rm_X10_caught : Room := { frames := 6, cells := 0, slots := 0, locals := 147 }
abbrev B_X10_caught (G : GT) (K : Int32 → Mem → Prop) := BT G (Rep G) RX10 "caught" cX10_caught 2 (some .int) rm_X10_caught K 0 0
abbrev T_X10_caught (G : GT) (as : List Value) (M : Mem) (K : Int32 → Mem → Prop) : Prop := MT G (Rep G) yX10_caught cX10_caught 2 (some .int) rm_X10_caught as M K
theorem e_X10_caught {G : GT} {K : Int32 → Mem → Prop} {M : Mem} {v1 : Int32} (h : B_X10_caught G K 0 [(0, .ref 0), (1, .int v1)] [] M) : T_X10_caught G [.ref 0, .int v1] M K := MT.of (by decide +kernel) rfl rfl (Nat.le_of_ble_eq_true rfl) rfl h
set_option maxRecDepth 4000 in
theorem k_X10_caught_0 {G : GT} {K : Int32 → Mem → Prop} {M : Mem} {v1 : Int32} (h : (¬ ((0 : Int32) ≤ v1 ∧ v1 < (M.1 8 1)) → K (-1) M) ∧ (((0 : Int32) ≤ v1 ∧ v1 < (M.1 8 1)) → (WOk (wv M)) ∧ (∀ r4 : Int32, r4 = (w_caught (wv M) v1 (w_p (wv M))) → ∀ N4 : Mem, (Scr M N4) → K r4 N4))) : B_X10_caught G K 0 [(0, .ref 0), (1, .int v1)] [] M := by
  refine BT.aload_n dX10_caught_0 rfl 0 rfl ?_
  refine BT.getR (r := 8) fl_X10_26 ho_0 rfl dX10_caught_1 ?_
  refine BT.iload_n dX10_caught_4 rfl 1 rfl ?_
  refine BT.mcV [.int v1] (t_X9_hasLaw  ?_) mb_X9_hasLaw mv_X9_hasLaw lk_X10_111 rfl (by decide) rfl (recvRep ho_8 rfl) (Nat.le_of_ble_eq_true rfl) dX10_caught_5
  show B_X10_caught G K 8 [(0, .ref 0), (1, .int v1)] [.int (bi ((0 : Int32) ≤ v1 ∧ v1 < (M.1 8 1)))] M
  refine BT.if_eq (tgt := 22) dX10_caught_8 (by decide) (fun c => ?_) (fun c => ?_)
  · have c2 := bi_eq0.mp c
    refine BT.iconst (v := (-1)) dX10_caught_22 (by decide) ?_
    exact BT.iret dX10_caught_23 rfl (by decide) (by decide) (h.1 c2)
  · have c3 := bi_ne0.mp c
    refine BT.aload_n dX10_caught_11 rfl 0 rfl ?_
    refine BT.getR (r := 167) fl_X10_46 ho_0 rfl dX10_caught_12 ?_
    refine BT.iload_n dX10_caught_15 rfl 1 rfl ?_
    refine BT.mcVp [.int v1] (t_X2_caughtBy (h.2 c3).1 (fun N hN => ⟨rfl, hN⟩)) mb_X2_caughtBy mv_X2_caughtBy lk_X10_291 rfl (by decide) rfl (recvRep ho_167 rfl) (Nat.le_of_ble_eq_true rfl) dX10_caught_16 (P := fun N4 => Scr M N4) (fun r4 e4 N4 g4 => ?_)
    show B_X10_caught G K 19 [(0, .ref 0), (1, .int v1)] [.int r4] N4
    refine BT.goto (tgt := 23) dX10_caught_19 (by decide) ?_
    exact BT.iret dX10_caught_23 rfl (by decide) (by decide) ((h.2 c3).2 r4 e4 N4 g4)

theorem t_X10_caught {G : GT} {K : Int32 → Mem → Prop} {M : Mem} {v1 : Int32} (hw : WOk (wv M)) (h : ∀ N, Sc10 M N → K (a_caught (wv M) v1) N) : T_X10_caught G [.ref 0, .int v1] M K := by
  refine e_X10_caught (k_X10_caught_0 ?_)
  unfold a_caught at h
  rw [← wv_at (M := M) (c := 8) (k := 1) (by decide)]
  refine ⟨fun c => ?_, fun c => ?_⟩
  · rw [sel_f c] at h; exact h _ Sc10.rf
  · rw [sel_t c] at h
    exact ⟨hw, fun r4 e4 N4 g4 => by rw [e4]; exact h _ g4.s10⟩

/-! BetweenLaws.brief(I)I -/
abbrev rm_X10_brief : Room := { frames := 2, cells := 0, slots := 0, locals := 42 }
abbrev B_X10_brief (G : GT) (K : Int32 → Mem → Prop) := BT G (Rep G) RX10 "brief" cX10_brief 3 (some .int) rm_X10_brief K 0 0
abbrev T_X10_brief (G : GT) (as : List Value) (M : Mem) (K : Int32 → Mem → Prop) : Prop := MT G (Rep G) yX10_brief cX10_brief 3 (some .int) rm_X10_brief as M K
theorem e_X10_brief {G : GT} {K : Int32 → Mem → Prop} {M : Mem} {v1 : Int32} (h : B_X10_brief G K 0 [(0, .ref 0), (1, .int v1)] [] M) : T_X10_brief G [.ref 0, .int v1] M K := MT.of (by decide +kernel) rfl rfl (Nat.le_of_ble_eq_true rfl) rfl h
set_option maxRecDepth 4000 in
theorem k_X10_brief_0 {G : GT} {K : Int32 → Mem → Prop} {M : Mem} {v1 : Int32} (h : ((0 ≤ v1 ∧ v1 ≤ 1) → (¬ (M.1 8 1) = 0 → (WOk (wv M)) ∧ (0 < w_n (wv M)) ∧ (∀ r6 : Int32, r6 = (nI (w_brief (wv M) (w_n (wv M)))) → (¬ v1 = 0 → (vp_in r6 8) ∧ K ((M.1 (10 + 5 * (Int32.toNatClampNeg r6)) 1) - (M.1 (10 + 5 * (Int32.toNatClampNeg r6)) 0)) M) ∧ (v1 = 0 → K r6 M))) ∧ ((M.1 8 1) = 0 → K (-3) M)) ∧ (¬ (0 ≤ v1 ∧ v1 ≤ 1) → K (-2) M)) : B_X10_brief G K 0 [(0, .ref 0), (1, .int v1)] [] M := by
  refine BT.iload_n dX10_brief_0 rfl 1 rfl ?_
  refine BT.iconst (v := 0) dX10_brief_1 (by decide) ?_
  refine BT.iconst (v := 1) dX10_brief_2 (by decide) ?_
  refine BT.mcS [.int v1, .int 0, .int 1] (t_X10_within  ?_) mb_X10_within ms_X10_within lk_X10_82 rfl (by decide) rfl (Nat.le_of_ble_eq_true rfl) dX10_brief_3
  show B_X10_brief G K 6 [(0, .ref 0), (1, .int v1)] [.int (bi (0 ≤ v1 ∧ v1 ≤ 1))] M
  refine BT.if_ne (tgt := 12) dX10_brief_6 (by decide) (fun c => ?_) (fun c => ?_)
  · have c2 := bi_ne0.mp c
    refine BT.aload_n dX10_brief_12 rfl 0 rfl ?_
    refine BT.getR (r := 8) fl_X10_26 ho_0 rfl dX10_brief_13 ?_
    refine BT.getI fl_X10_104 ho_8 rfl dX10_brief_16 ?_
    refine BT.if_ne (tgt := 25) dX10_brief_19 (by decide) (fun c => ?_) (fun c => ?_)
    · have c4 := c
      refine BT.aload_n dX10_brief_25 rfl 0 rfl ?_
      refine BT.getR (r := 8) fl_X10_26 ho_0 rfl dX10_brief_26 ?_
      refine BT.mcVr [] (t_X9_briefest ((h.1 c2).1 c4).1 ((h.1 c2).1 c4).2.1 ⟨rfl, rfl⟩) mb_X9_briefest mv_X9_briefest lk_X10_285 rfl (by decide) rfl (recvRep ho_8 rfl) (Nat.le_of_ble_eq_true rfl) dX10_brief_29 (fun r6 e6 => ?_)
      show B_X10_brief G K 32 [(0, .ref 0), (1, .int v1)] [.int r6] M
      refine BT.istore_n (L' := [(2, .int r6), (0, .ref 0), (1, .int v1)]) dX10_brief_32 rfl (by decide) rfl ?_
      refine BT.iload_n dX10_brief_33 rfl 2 rfl ?_
      refine BT.if_ne (tgt := 41) dX10_brief_34 (by decide) (fun c => ?_) (fun c => ?_)
      · have c7 := c
        refine BT.aload_n dX10_brief_41 rfl 1 rfl ?_
        refine BT.getR (r := 8) fl_X10_26 ho_0 rfl dX10_brief_42 ?_
        refine BT.getR (r := 9) fl_X10_114 ho_8 rfl dX10_brief_45 ?_
        refine BT.iload_n dX10_brief_48 rfl 0 rfl ?_
        refine BT.aald ha_9 (by decide) ((((h.1 c2).1 c4).2.2 r6 e6).1 c7).1 dX10_brief_49 ?_
        refine BT.mcV [] (t_X3_daysInForce (lawC8 ((((h.1 c2).1 c4).2.2 r6 e6).1 c7).1) ?_) mb_X3_daysInForce mv_X3_daysInForce lk_X10_288 rfl (by decide) rfl (recvRep (lawC8 ((((h.1 c2).1 c4).2.2 r6 e6).1 c7).1).1 rfl) (Nat.le_of_ble_eq_true rfl) dX10_brief_50
        show B_X10_brief G K 53 [(2, .int r6), (0, .ref 0), (1, .int v1)] [.int ((M.1 (10 + 5 * (Int32.toNatClampNeg r6)) 1) - (M.1 (10 + 5 * (Int32.toNatClampNeg r6)) 0))] M
        exact BT.iret dX10_brief_53 rfl (by decide) (by decide) ((((h.1 c2).1 c4).2.2 r6 e6).1 c7).2
      · have c8 := c
        refine BT.iload_n dX10_brief_37 rfl 0 rfl ?_
        refine BT.goto (tgt := 53) dX10_brief_38 (by decide) ?_
        exact BT.iret dX10_brief_53 rfl (by decide) (by decide) ((((h.1 c2).1 c4).2.2 r6 e6).2 c8)
    · have c5 := c
      refine BT.bipush (v := (-3)) dX10_brief_22 (by decide) ?_
      exact BT.iret dX10_brief_24 rfl (by decide) (by decide) ((h.1 c2).2 c5)
  · have c3 := bi_eq0.mp c
    refine BT.bipush (v := (-2)) dX10_brief_9 (by decide) ?_
    exact BT.iret dX10_brief_11 rfl (by decide) (by decide) (h.2 c3)

theorem t_X10_brief {G : GT} {K : Int32 → Mem → Prop} {M : Mem} {v1 : Int32} (hw : WOk (wv M)) (h : ∀ N, Sc10 M N → K (a_brief (wv M) v1) N) : T_X10_brief G [.ref 0, .int v1] M K := by
  refine e_X10_brief (k_X10_brief_0 ?_)
  unfold a_brief at h
  rw [← wv_at (M := M) (c := 8) (k := 1) (by decide)]
  have hn := hw.1
  refine ⟨fun c => ⟨fun c2 => ?_, fun c2 => ?_⟩, fun c => ?_⟩
  · rw [sel_t c, sel_f c2] at h
    have h0 : 0 < w_n (wv M) := by
      rcases Nat.eq_zero_or_pos (w_n (wv M)) with z | z
      · rw [hn.1, z] at c2; exact absurd rfl c2
      · exact z
    have hb := w_brief_lt (wv M) _ h0
    refine ⟨hw, h0, fun r6 e6 => ⟨fun c3 => ?_, fun c3 => ?_⟩⟩
    · rw [sel_f c3] at h
      rw [e6, ix_nI (by omega), ← wv_at (M := M) (k := 1) (by omega), ← wv_at (M := M) (k := 0) (by omega)]
      exact ⟨vp_nI (by omega) (by decide), h _ Sc10.rf⟩
    · rw [sel_t c3] at h
      rw [e6]; exact h _ Sc10.rf
  · rw [sel_t c, sel_t c2] at h; exact h _ Sc10.rf
  · rw [sel_f c] at h; exact h _ Sc10.rf

/-! BetweenLaws.read(III)I -/
abbrev rm_X10_read : Room := { frames := 6, cells := 0, slots := 0, locals := 150 }
abbrev B_X10_read (G : GT) (K : Int32 → Mem → Prop) := BT G (Rep G) RX10 "read" cX10_read 5 (some .int) rm_X10_read K 0 0
abbrev T_X10_read (G : GT) (as : List Value) (M : Mem) (K : Int32 → Mem → Prop) : Prop := MT G (Rep G) yX10_read cX10_read 5 (some .int) rm_X10_read as M K
theorem e_X10_read {G : GT} {K : Int32 → Mem → Prop} {M : Mem} {v1 : Int32} {v2 : Int32} {v3 : Int32} (h : B_X10_read G K 0 [(0, .ref 0), (1, .int v1), (2, .int v2), (3, .int v3)] [] M) : T_X10_read G [.ref 0, .int v1, .int v2, .int v3] M K := MT.of (by decide +kernel) rfl rfl (Nat.le_of_ble_eq_true rfl) rfl h
set_option maxRecDepth 4000 in
theorem k_X10_read_0 {G : GT} {K : Int32 → Mem → Prop} {M : Mem} {v1 : Int32} {v2 : Int32} {v3 : Int32} (h : ((q_rp M.1 v1 v2) = 0 → ((0 ≤ v3 ∧ v3 ≤ 255) → (vp_in v1 8) ∧ ((52 + (Int32.toNatClampNeg v1)) < 60 ∨ (52 + (Int32.toNatClampNeg v1)) = 174) ∧ (WOk (wv M)) ∧ (RdOk (wv M)) ∧ (∀ r7 : Int32, r7 = (w_given (w_rd (wv M) v3) (52 + (Int32.toNatClampNeg v1)) v2) → ∀ N7 : Mem, (Scr M N7) → K r7 N7)) ∧ (¬ (0 ≤ v3 ∧ v3 ≤ 255) → K (-2) M)) ∧ (¬ (q_rp M.1 v1 v2) = 0 → K (q_rp M.1 v1 v2) M)) : B_X10_read G K 0 [(0, .ref 0), (1, .int v1), (2, .int v2), (3, .int v3)] [] M := by
  refine BT.aload_n dX10_read_0 rfl 0 rfl ?_
  refine BT.iload_n dX10_read_1 rfl 1 rfl ?_
  refine BT.iload_n dX10_read_2 rfl 2 rfl ?_
  refine BT.mcV [.int v1, .int v2] (t_X10_refusedPiece  ?_) mb_X10_refusedPiece mv_X10_refusedPiece lk_X10_234 rfl (by decide) rfl (recvRep ho_0 rfl) (Nat.le_of_ble_eq_true rfl) dX10_read_3
  show B_X10_read G K 6 [(0, .ref 0), (1, .int v1), (2, .int v2), (3, .int v3)] [.int (q_rp M.1 v1 v2)] M
  refine BT.istore (L' := [(4, .int (q_rp M.1 v1 v2)), (0, .ref 0), (1, .int v1), (2, .int v2), (3, .int v3)]) dX10_read_6 (by decide) rfl ?_
  refine BT.iload dX10_read_8 0 rfl ?_
  refine BT.if_eq (tgt := 16) dX10_read_10 (by decide) (fun c => ?_) (fun c => ?_)
  · have c2 := c
    refine BT.iload_n dX10_read_16 rfl 4 rfl ?_
    refine BT.iconst (v := 0) dX10_read_17 (by decide) ?_
    refine BT.sipush (v := 255) dX10_read_18 (by decide) ?_
    refine BT.mcS [.int v3, .int 0, .int 255] (t_X10_within  ?_) mb_X10_within ms_X10_within lk_X10_82 rfl (by decide) rfl (Nat.le_of_ble_eq_true rfl) dX10_read_21
    show B_X10_read G K 24 [(4, .int (q_rp M.1 v1 v2)), (0, .ref 0), (1, .int v1), (2, .int v2), (3, .int v3)] [.int (bi (0 ≤ v3 ∧ v3 ≤ 255))] M
    refine BT.if_ne (tgt := 30) dX10_read_24 (by decide) (fun c => ?_) (fun c => ?_)
    · have c5 := bi_ne0.mp c
      refine BT.aload_n dX10_read_30 rfl 1 rfl ?_
      refine BT.getR (r := 170) fl_X10_64 ho_0 rfl dX10_read_31 ?_
      refine BT.iload_n dX10_read_34 rfl 4 rfl ?_
      refine BT.aload_n dX10_read_35 rfl 1 rfl ?_
      refine BT.getR (r := 8) fl_X10_26 ho_0 rfl dX10_read_36 ?_
      refine BT.getR (r := 51) fl_X10_189 ho_8 rfl dX10_read_39 ?_
      refine BT.iload_n dX10_read_42 rfl 2 rfl ?_
      refine BT.aald1 ha_51 (by decide) ((h.1 c2).1 c5).1 dX10_read_43 ?_
      refine BT.iload_n dX10_read_44 rfl 3 rfl ?_
      refine BT.mcVp [.int v3, .ref (52 + (Int32.toNatClampNeg v1)), .int v2] (t_X7_givenBy (pieceC8 ((h.1 c2).1 c5).1) ((h.1 c2).1 c5).2.1 ((h.1 c2).1 c5).2.2.1 ((h.1 c2).1 c5).2.2.2.1 (fun N hN => ⟨rfl, hN⟩)) mb_X7_givenBy mv_X7_givenBy lk_X10_294 rfl (by decide) rfl (recvRep ho_170 rfl) (Nat.le_of_ble_eq_true rfl) dX10_read_45 (P := fun N7 => Scr M N7) (fun r7 e7 N7 g7 => ?_)
      show B_X10_read G K 48 [(4, .int (q_rp M.1 v1 v2)), (0, .ref 0), (1, .int v1), (2, .int v2), (3, .int v3)] [.int r7] N7
      exact BT.iret dX10_read_48 rfl (by decide) (by decide) (((h.1 c2).1 c5).2.2.2.2 r7 e7 N7 g7)
    · have c6 := bi_eq0.mp c
      refine BT.bipush (v := (-2)) dX10_read_27 (by decide) ?_
      exact BT.iret dX10_read_29 rfl (by decide) (by decide) ((h.1 c2).2 c6)
  · have c3 := c
    refine BT.iload dX10_read_13 0 rfl ?_
    exact BT.iret dX10_read_15 rfl (by decide) (by decide) (h.2 c3)

theorem t_X10_read {G : GT} {K : Int32 → Mem → Prop} {M : Mem} {v1 v2 v3 : Int32} (hw : WOk (wv M)) (hr : RdOk (wv M)) (h : ∀ N, Sc10 M N → K (a_read (wv M) v1 v2 v3) N) : T_X10_read G [.ref 0, .int v1, .int v2, .int v3] M K := by
  refine e_X10_read (k_X10_read_0 ?_)
  rw [q_rp_wv]
  unfold a_read at h
  refine ⟨fun c => ?_, fun c => ?_⟩
  · rw [sel_t c] at h
    obtain ⟨hp, hd⟩ := q_rp_0 c
    obtain ⟨i1, i2, i3⟩ := pc_ix hw hp
    refine ⟨fun c2 => ?_, fun c2 => ?_⟩
    · rw [sel_t c2] at h
      exact ⟨vp8 i2 i3, by omega, hw, hr, fun r7 e7 N7 g7 => by rw [e7]; exact h _ g7.s10⟩
    · rw [sel_f c2] at h; exact h _ Sc10.rf
  · rw [sel_f c] at h; exact h _ Sc10.rf

/-! BetweenLaws.ways(II)I -/
abbrev rm_X10_ways : Room := { frames := 7, cells := 0, slots := 0, locals := 174 }
abbrev B_X10_ways (G : GT) (K : Int32 → Mem → Prop) := BT G (Rep G) RX10 "ways" cX10_ways 4 (some .int) rm_X10_ways K 0 0
abbrev T_X10_ways (G : GT) (as : List Value) (M : Mem) (K : Int32 → Mem → Prop) : Prop := MT G (Rep G) yX10_ways cX10_ways 4 (some .int) rm_X10_ways as M K
theorem e_X10_ways {G : GT} {K : Int32 → Mem → Prop} {M : Mem} {v1 : Int32} {v2 : Int32} (h : B_X10_ways G K 0 [(0, .ref 0), (1, .int v1), (2, .int v2)] [] M) : T_X10_ways G [.ref 0, .int v1, .int v2] M K := MT.of (by decide +kernel) rfl rfl (Nat.le_of_ble_eq_true rfl) rfl h
set_option maxRecDepth 4000 in
theorem k_X10_ways_0 {G : GT} {K : Int32 → Mem → Prop} {M : Mem} {v1 : Int32} {v2 : Int32} (h : ((q_rp M.1 v1 v2) = 0 → (vp_in v1 8) ∧ ((52 + (Int32.toNatClampNeg v1)) < 60 ∨ (52 + (Int32.toNatClampNeg v1)) = 174) ∧ (WOk (wv M)) ∧ (RdOk (wv M)) ∧ (∀ r4 : Int32, r4 = (l_bc (a_unl (wv M) (52 + (Int32.toNatClampNeg v1)) v2 (w_times (wv M) 8) 256).1 + l_bc (a_unl (wv M) (52 + (Int32.toNatClampNeg v1)) v2 (w_times (wv M) 8) 256).2) → ∀ N4 : Mem, (Sc9 M N4) → K r4 N4)) ∧ (¬ (q_rp M.1 v1 v2) = 0 → K (q_rp M.1 v1 v2) M)) : B_X10_ways G K 0 [(0, .ref 0), (1, .int v1), (2, .int v2)] [] M := by
  refine BT.aload_n dX10_ways_0 rfl 0 rfl ?_
  refine BT.iload_n dX10_ways_1 rfl 1 rfl ?_
  refine BT.iload_n dX10_ways_2 rfl 2 rfl ?_
  refine BT.mcV [.int v1, .int v2] (t_X10_refusedPiece  ?_) mb_X10_refusedPiece mv_X10_refusedPiece lk_X10_234 rfl (by decide) rfl (recvRep ho_0 rfl) (Nat.le_of_ble_eq_true rfl) dX10_ways_3
  show B_X10_ways G K 6 [(0, .ref 0), (1, .int v1), (2, .int v2)] [.int (q_rp M.1 v1 v2)] M
  refine BT.istore_n (L' := [(3, .int (q_rp M.1 v1 v2)), (0, .ref 0), (1, .int v1), (2, .int v2)]) dX10_ways_6 rfl (by decide) rfl ?_
  refine BT.iload_n dX10_ways_7 rfl 0 rfl ?_
  refine BT.if_eq (tgt := 15) dX10_ways_8 (by decide) (fun c => ?_) (fun c => ?_)
  · have c2 := c
    refine BT.aload_n dX10_ways_15 rfl 1 rfl ?_
    refine BT.getR (r := 170) fl_X10_64 ho_0 rfl dX10_ways_16 ?_
    refine BT.aload_n dX10_ways_19 rfl 1 rfl ?_
    refine BT.getR (r := 8) fl_X10_26 ho_0 rfl dX10_ways_20 ?_
    refine BT.getR (r := 51) fl_X10_189 ho_8 rfl dX10_ways_23 ?_
    refine BT.iload_n dX10_ways_26 rfl 2 rfl ?_
    refine BT.aald1 ha_51 (by decide) (h.1 c2).1 dX10_ways_27 ?_
    refine BT.iload_n dX10_ways_28 rfl 3 rfl ?_
    refine BT.mcVp [.ref (52 + (Int32.toNatClampNeg v1)), .int v2] (t_X7_unlike (pieceC8 (h.1 c2).1) (h.1 c2).2.1 (h.1 c2).2.2.1 (h.1 c2).2.2.2.1 (fun N hN => ⟨rfl, hN⟩)) mb_X7_unlike mv_X7_unlike lk_X10_298 rfl (by decide) rfl (recvRep ho_170 rfl) (Nat.le_of_ble_eq_true rfl) dX10_ways_29 (P := fun N4 => Sc9 M N4) (fun r4 e4 N4 g4 => ?_)
    show B_X10_ways G K 32 [(3, .int (q_rp M.1 v1 v2)), (0, .ref 0), (1, .int v1), (2, .int v2)] [.int r4] N4
    exact BT.iret dX10_ways_32 rfl (by decide) (by decide) ((h.1 c2).2.2.2.2 r4 e4 N4 g4)
  · have c3 := c
    refine BT.iload_n dX10_ways_11 rfl 0 rfl ?_
    refine BT.goto (tgt := 32) dX10_ways_12 (by decide) ?_
    exact BT.iret dX10_ways_32 rfl (by decide) (by decide) (h.2 c3)

theorem t_X10_ways {G : GT} {K : Int32 → Mem → Prop} {M : Mem} {v1 v2 : Int32} (hw : WOk (wv M)) (hr : RdOk (wv M)) (h : ∀ N, Sc10 M N → K (a_ways (wv M) v1 v2) N) : T_X10_ways G [.ref 0, .int v1, .int v2] M K := by
  refine e_X10_ways (k_X10_ways_0 ?_)
  rw [q_rp_wv]
  unfold a_ways at h
  refine ⟨fun c => ?_, fun c => ?_⟩
  · rw [sel_t c] at h
    obtain ⟨hp, hd⟩ := q_rp_0 c
    obtain ⟨i1, i2, i3⟩ := pc_ix hw hp
    exact ⟨vp8 i2 i3, by omega, hw, hr, fun r7 e7 N7 g7 => by rw [e7]; exact h _ g7.s10⟩
  · rw [sel_f c] at h; exact h _ Sc10.rf

/-! BetweenLaws.hangs(II)I -/
abbrev rm_X10_hangs : Room := { frames := 7, cells := 0, slots := 0, locals := 176 }
abbrev B_X10_hangs (G : GT) (K : Int32 → Mem → Prop) := BT G (Rep G) RX10 "hangs" cX10_hangs 3 (some .int) rm_X10_hangs K 0 0
abbrev T_X10_hangs (G : GT) (as : List Value) (M : Mem) (K : Int32 → Mem → Prop) : Prop := MT G (Rep G) yX10_hangs cX10_hangs 3 (some .int) rm_X10_hangs as M K
theorem e_X10_hangs {G : GT} {K : Int32 → Mem → Prop} {M : Mem} {v1 : Int32} {v2 : Int32} (h : B_X10_hangs G K 0 [(0, .ref 0), (1, .int v1), (2, .int v2)] [] M) : T_X10_hangs G [.ref 0, .int v1, .int v2] M K := MT.of (by decide +kernel) rfl rfl (Nat.le_of_ble_eq_true rfl) rfl h
set_option maxRecDepth 4000 in
theorem k_X10_hangs_0 {G : GT} {K : Int32 → Mem → Prop} {M : Mem} {v1 : Int32} {v2 : Int32} (h : (¬ ((0 : Int32) ≤ v1 ∧ v1 ≤ 99) → K (-2) M) ∧ (((0 : Int32) ≤ v1 ∧ v1 ≤ 99) → ((0 ≤ v2 ∧ v2 ≤ 1) → (WOk (wv M)) ∧ (RdOk (wv M)) ∧ (∀ N7 : Mem, (Sc9 M N7 ∧ N7.1 170 3 = (w_wei (wv M) v1 (min (w_len (wv M) (w_n (wv M))) 8)).1 ∧ N7.1 170 4 = (w_wei (wv M) v1 (min (w_len (wv M) (w_n (wv M))) 8)).2) → (¬ v2 = 0 → K (N7.1 170 4) N7) ∧ (v2 = 0 → K (N7.1 170 3) N7))) ∧ (¬ (0 ≤ v2 ∧ v2 ≤ 1) → K (-2) M))) : B_X10_hangs G K 0 [(0, .ref 0), (1, .int v1), (2, .int v2)] [] M := by
  refine BT.iload_n dX10_hangs_0 rfl 1 rfl ?_
  refine BT.mcS [.int v1] (t_X10_isDay  ?_) mb_X10_isDay ms_X10_isDay lk_X10_101 rfl (by decide) rfl (Nat.le_of_ble_eq_true rfl) dX10_hangs_1
  show B_X10_hangs G K 4 [(0, .ref 0), (1, .int v1), (2, .int v2)] [.int (bi ((0 : Int32) ≤ v1 ∧ v1 ≤ 99))] M
  refine BT.if_eq (tgt := 16) dX10_hangs_4 (by decide) (fun c => ?_) (fun c => ?_)
  · have c2 := bi_eq0.mp c
    refine BT.bipush (v := (-2)) dX10_hangs_16 (by decide) ?_
    exact BT.iret dX10_hangs_18 rfl (by decide) (by decide) (h.1 c2)
  · have c3 := bi_ne0.mp c
    refine BT.iload_n dX10_hangs_7 rfl 2 rfl ?_
    refine BT.iconst (v := 0) dX10_hangs_8 (by decide) ?_
    refine BT.iconst (v := 1) dX10_hangs_9 (by decide) ?_
    refine BT.mcS [.int v2, .int 0, .int 1] (t_X10_within  ?_) mb_X10_within ms_X10_within lk_X10_82 rfl (by decide) rfl (Nat.le_of_ble_eq_true rfl) dX10_hangs_10
    show B_X10_hangs G K 13 [(0, .ref 0), (1, .int v1), (2, .int v2)] [.int (bi (0 ≤ v2 ∧ v2 ≤ 1))] M
    refine BT.if_ne (tgt := 19) dX10_hangs_13 (by decide) (fun c => ?_) (fun c => ?_)
    · have c5 := bi_ne0.mp c
      refine BT.aload_n dX10_hangs_19 rfl 0 rfl ?_
      refine BT.getR (r := 170) fl_X10_64 ho_0 rfl dX10_hangs_20 ?_
      refine BT.iload_n dX10_hangs_23 rfl 1 rfl ?_
      refine BT.mcVvp [.int v1] (t_X7_weigh ((h.2 c3).1 c5).1 ((h.2 c3).1 c5).2.1 (fun N hN => ⟨rfl, hN⟩)) mb_X7_weigh mv_X7_weigh lk_X10_301 rfl (by decide) rfl (recvRep ho_170 rfl) (Nat.le_of_ble_eq_true rfl) dX10_hangs_24 (P := fun N7 => Sc9 M N7 ∧ N7.1 170 3 = (w_wei (wv M) v1 (min (w_len (wv M) (w_n (wv M))) 8)).1 ∧ N7.1 170 4 = (w_wei (wv M) v1 (min (w_len (wv M) (w_n (wv M))) 8)).2) (fun N7 g7 => ?_)
      show B_X10_hangs G K 27 [(0, .ref 0), (1, .int v1), (2, .int v2)] [] N7
      refine BT.iload_n dX10_hangs_27 rfl 2 rfl ?_
      refine BT.if_ne (tgt := 41) dX10_hangs_28 (by decide) (fun c => ?_) (fun c => ?_)
      · have c8 := c
        refine BT.aload_n dX10_hangs_41 rfl 0 rfl ?_
        refine BT.getR (r := 170) fl_X10_64 ho_0 rfl dX10_hangs_42 ?_
        refine BT.getI fl_X10_308 ho_170 rfl dX10_hangs_45 ?_
        exact BT.iret dX10_hangs_48 rfl (by decide) (by decide) ((((h.2 c3).1 c5).2.2 N7 g7).1 c8)
      · have c9 := c
        refine BT.aload_n dX10_hangs_31 rfl 0 rfl ?_
        refine BT.getR (r := 170) fl_X10_64 ho_0 rfl dX10_hangs_32 ?_
        refine BT.getI fl_X10_305 ho_170 rfl dX10_hangs_35 ?_
        refine BT.goto (tgt := 48) dX10_hangs_38 (by decide) ?_
        exact BT.iret dX10_hangs_48 rfl (by decide) (by decide) ((((h.2 c3).1 c5).2.2 N7 g7).2 c9)
    · have c6 := bi_eq0.mp c
      refine BT.bipush (v := (-2)) dX10_hangs_16 (by decide) ?_
      exact BT.iret dX10_hangs_18 rfl (by decide) (by decide) ((h.2 c3).2 c6)

theorem t_X10_hangs {G : GT} {K : Int32 → Mem → Prop} {M : Mem} {v1 v2 : Int32} (hw : WOk (wv M)) (hr : RdOk (wv M)) (h : ∀ N, Sc10 M N → K (a_hangs (wv M) v1 v2) N) : T_X10_hangs G [.ref 0, .int v1, .int v2] M K := by
  refine e_X10_hangs (k_X10_hangs_0 ?_)
  unfold a_hangs at h
  refine ⟨fun c => ?_, fun c => ⟨fun c2 => ⟨hw, hr, fun N7 g7 => ?_⟩, fun c2 => ?_⟩⟩
  · rw [sel_f c] at h; exact h _ Sc10.rf
  · rw [sel_t c, sel_t c2] at h
    rw [g7.2.1, g7.2.2]
    refine ⟨fun c6 => ?_, fun c6 => ?_⟩
    · rw [sel_f c6] at h; exact h _ g7.1.s10
    · rw [sel_t c6] at h; exact h _ g7.1.s10
  · rw [sel_t c, sel_f c2] at h; exact h _ Sc10.rf

/-! BetweenLaws.force(II)I -/
abbrev rm_X10_force : Room := { frames := 2, cells := 0, slots := 0, locals := 45 }
abbrev B_X10_force (G : GT) (K : Int32 → Mem → Prop) := BT G (Rep G) RX10 "force" cX10_force 4 (some .int) rm_X10_force K 0 0
abbrev T_X10_force (G : GT) (as : List Value) (M : Mem) (K : Int32 → Mem → Prop) : Prop := MT G (Rep G) yX10_force cX10_force 4 (some .int) rm_X10_force as M K
theorem e_X10_force {G : GT} {K : Int32 → Mem → Prop} {M : Mem} {v1 : Int32} {v2 : Int32} (h : B_X10_force G K 0 [(0, .ref 0), (1, .int v1), (2, .int v2)] [] M) : T_X10_force G [.ref 0, .int v1, .int v2] M K := MT.of (by decide +kernel) rfl rfl (Nat.le_of_ble_eq_true rfl) rfl h
set_option maxRecDepth 4000 in
theorem k_X10_force_0 {G : GT} {K : Int32 → Mem → Prop} {M : Mem} {v1 : Int32} {v2 : Int32} (h : (¬ ((0 : Int32) ≤ v1 ∧ v1 ≤ 99) → K (-2) M) ∧ (((0 : Int32) ≤ v1 ∧ v1 ≤ 99) → ((0 ≤ v2 ∧ v2 ≤ 2) → (¬ v2 = 0 → (WOk (wv M)) ∧ (∀ r9 : Int32, r9 = (w_undone (wv M) v1) → (¬ v2 = 1 → (WOk (wv M)) ∧ (∀ r12 : Int32, r12 = (w_force (wv M) v1 (w_n (wv M))) → K (r12 &&& (r9 ^^^ (-1))) M)) ∧ (v2 = 1 → K r9 M))) ∧ (v2 = 0 → (WOk (wv M)) ∧ (∀ r13 : Int32, r13 = (w_force (wv M) v1 (w_n (wv M))) → K r13 M))) ∧ (¬ (0 ≤ v2 ∧ v2 ≤ 2) → K (-2) M))) : B_X10_force G K 0 [(0, .ref 0), (1, .int v1), (2, .int v2)] [] M := by
  refine BT.iload_n dX10_force_0 rfl 1 rfl ?_
  refine BT.mcS [.int v1] (t_X10_isDay  ?_) mb_X10_isDay ms_X10_isDay lk_X10_101 rfl (by decide) rfl (Nat.le_of_ble_eq_true rfl) dX10_force_1
  show B_X10_force G K 4 [(0, .ref 0), (1, .int v1), (2, .int v2)] [.int (bi ((0 : Int32) ≤ v1 ∧ v1 ≤ 99))] M
  refine BT.if_eq (tgt := 16) dX10_force_4 (by decide) (fun c => ?_) (fun c => ?_)
  · have c2 := bi_eq0.mp c
    refine BT.bipush (v := (-2)) dX10_force_16 (by decide) ?_
    exact BT.iret dX10_force_18 rfl (by decide) (by decide) (h.1 c2)
  · have c3 := bi_ne0.mp c
    refine BT.iload_n dX10_force_7 rfl 2 rfl ?_
    refine BT.iconst (v := 0) dX10_force_8 (by decide) ?_
    refine BT.iconst (v := 2) dX10_force_9 (by decide) ?_
    refine BT.mcS [.int v2, .int 0, .int 2] (t_X10_within  ?_) mb_X10_within ms_X10_within lk_X10_82 rfl (by decide) rfl (Nat.le_of_ble_eq_true rfl) dX10_force_10
    show B_X10_force G K 13 [(0, .ref 0), (1, .int v1), (2, .int v2)] [.int (bi (0 ≤ v2 ∧ v2 ≤ 2))] M
    refine BT.if_ne (tgt := 19) dX10_force_13 (by decide) (fun c => ?_) (fun c => ?_)
    · have c5 := bi_ne0.mp c
      refine BT.iload_n dX10_force_19 rfl 2 rfl ?_
      refine BT.if_ne (tgt := 32) dX10_force_20 (by decide) (fun c => ?_) (fun c => ?_)
      · have c7 := c
        refine BT.aload_n dX10_force_32 rfl 0 rfl ?_
        refine BT.getR (r := 8) fl_X10_26 ho_0 rfl dX10_force_33 ?_
        refine BT.iload_n dX10_force_36 rfl 1 rfl ?_
        refine BT.mcVr [.int v1] (t_X9_undone (((h.2 c3).1 c5).1 c7).1 ⟨rfl, rfl⟩) mb_X9_undone mv_X9_undone lk_X10_167 rfl (by decide) rfl (recvRep ho_8 rfl) (Nat.le_of_ble_eq_true rfl) dX10_force_37 (fun r9 e9 => ?_)
        show B_X10_force G K 40 [(0, .ref 0), (1, .int v1), (2, .int v2)] [.int r9] M
        refine BT.istore_n (L' := [(3, .int r9), (0, .ref 0), (1, .int v1), (2, .int v2)]) dX10_force_40 rfl (by decide) rfl ?_
        refine BT.iload_n dX10_force_41 rfl 3 rfl ?_
        refine BT.iconst (v := 1) dX10_force_42 (by decide) ?_
        refine BT.icmp_ne (tgt := 50) dX10_force_43 (by decide) (fun c => ?_) (fun c => ?_)
        · have c10 := c
          refine BT.aload_n dX10_force_50 rfl 1 rfl ?_
          refine BT.getR (r := 8) fl_X10_26 ho_0 rfl dX10_force_51 ?_
          refine BT.iload_n dX10_force_54 rfl 2 rfl ?_
          refine BT.mcVr [.int v1] (t_X9_lawsInForce (((((h.2 c3).1 c5).1 c7).2 r9 e9).1 c10).1 ⟨rfl, rfl⟩) mb_X9_lawsInForce mv_X9_lawsInForce lk_X10_163 rfl (by decide) rfl (recvRep ho_8 rfl) (Nat.le_of_ble_eq_true rfl) dX10_force_55 (fun r12 e12 => ?_)
          show B_X10_force G K 58 [(3, .int r9), (0, .ref 0), (1, .int v1), (2, .int v2)] [.int r12] M
          refine BT.iload_n dX10_force_58 rfl 0 rfl ?_
          refine BT.iconst (v := (-1)) dX10_force_59 (by decide) ?_
          refine BT.ixor dX10_force_60 ?_
          refine BT.iand dX10_force_61 ?_
          exact BT.iret dX10_force_62 rfl (by decide) (by decide) ((((((h.2 c3).1 c5).1 c7).2 r9 e9).1 c10).2 r12 e12)
        · have c11 := c
          refine BT.iload_n dX10_force_46 rfl 0 rfl ?_
          refine BT.goto (tgt := 62) dX10_force_47 (by decide) ?_
          exact BT.iret dX10_force_62 rfl (by decide) (by decide) (((((h.2 c3).1 c5).1 c7).2 r9 e9).2 c11)
      · have c8 := c
        refine BT.aload_n dX10_force_23 rfl 0 rfl ?_
        refine BT.getR (r := 8) fl_X10_26 ho_0 rfl dX10_force_24 ?_
        refine BT.iload_n dX10_force_27 rfl 1 rfl ?_
        refine BT.mcVr [.int v1] (t_X9_lawsInForce (((h.2 c3).1 c5).2 c8).1 ⟨rfl, rfl⟩) mb_X9_lawsInForce mv_X9_lawsInForce lk_X10_163 rfl (by decide) rfl (recvRep ho_8 rfl) (Nat.le_of_ble_eq_true rfl) dX10_force_28 (fun r13 e13 => ?_)
        show B_X10_force G K 31 [(0, .ref 0), (1, .int v1), (2, .int v2)] [.int r13] M
        exact BT.iret dX10_force_31 rfl (by decide) (by decide) ((((h.2 c3).1 c5).2 c8).2 r13 e13)
    · have c6 := bi_eq0.mp c
      refine BT.bipush (v := (-2)) dX10_force_16 (by decide) ?_
      exact BT.iret dX10_force_18 rfl (by decide) (by decide) ((h.2 c3).2 c6)

theorem t_X10_force {G : GT} {K : Int32 → Mem → Prop} {M : Mem} {v1 v2 : Int32} (hw : WOk (wv M)) (h : ∀ N, Sc10 M N → K (a_force (wv M) v1 v2) N) : T_X10_force G [.ref 0, .int v1, .int v2] M K := by
  refine e_X10_force (k_X10_force_0 ?_)
  unfold a_force at h
  refine ⟨fun c => ?_, fun c => ⟨fun c2 => ⟨fun c3 => ⟨hw, fun r9 e9 => ⟨fun c4 => ⟨hw, fun r12 e12 => ?_⟩, fun c4 => ?_⟩⟩, fun c3 => ⟨hw, fun r13 e13 => ?_⟩⟩, fun c2 => ?_⟩⟩
  · rw [sel_f c] at h; exact h _ Sc10.rf
  · rw [sel_t c, sel_t c2, sel_f c3, sel_f c4] at h; rw [e9, e12]; exact h _ Sc10.rf
  · rw [sel_t c, sel_t c2, sel_f c3, sel_t c4] at h; rw [e9]; exact h _ Sc10.rf
  · rw [sel_t c, sel_t c2, sel_t c3] at h; rw [e13]; exact h _ Sc10.rf
  · rw [sel_t c, sel_f c2] at h; exact h _ Sc10.rf

/-! BetweenLaws.open(I)I -/
abbrev rm_X10_open : Room := { frames := 1, cells := 0, slots := 0, locals := 23 }
abbrev B_X10_open (G : GT) (K : Int32 → Mem → Prop) := BT G (Rep G) RX10 "open" cX10_open 2 (some .int) rm_X10_open K 0 0
abbrev T_X10_open (G : GT) (as : List Value) (M : Mem) (K : Int32 → Mem → Prop) : Prop := MT G (Rep G) yX10_open cX10_open 2 (some .int) rm_X10_open as M K
theorem e_X10_open {G : GT} {K : Int32 → Mem → Prop} {M : Mem} {v1 : Int32} (h : B_X10_open G K 0 [(0, .ref 0), (1, .int v1)] [] M) : T_X10_open G [.ref 0, .int v1] M K := MT.of (by decide +kernel) rfl rfl (Nat.le_of_ble_eq_true rfl) rfl h
set_option maxRecDepth 4000 in
theorem k_X10_open_0 {G : GT} {K : Int32 → Mem → Prop} {M : Mem} {v1 : Int32} (h : (¬ v1 = (-1) → (WOk (wv M)) ∧ (∀ r3 : Int32, r3 = (w_wordAt (wv M) v1) → K r3 M)) ∧ (v1 = (-1) → (WOk (wv M)) ∧ (∀ r4 : Int32, r4 = (nI (w_len (wv M) (w_n (wv M)))) → K r4 M))) : B_X10_open G K 0 [(0, .ref 0), (1, .int v1)] [] M := by
  refine BT.iload_n dX10_open_0 rfl 1 rfl ?_
  refine BT.iconst (v := (-1)) dX10_open_1 (by decide) ?_
  refine BT.icmp_ne (tgt := 15) dX10_open_2 (by decide) (fun c => ?_) (fun c => ?_)
  · have c1 := c
    refine BT.aload_n dX10_open_15 rfl 0 rfl ?_
    refine BT.getR (r := 170) fl_X10_64 ho_0 rfl dX10_open_16 ?_
    refine BT.iload_n dX10_open_19 rfl 1 rfl ?_
    refine BT.mcVr [.int v1] (t_X7_word (h.1 c1).1 ⟨rfl, rfl⟩) mb_X7_word mv_X7_word lk_X10_173 rfl (by decide) rfl (recvRep ho_170 rfl) (Nat.le_of_ble_eq_true rfl) dX10_open_20 (fun r3 e3 => ?_)
    show B_X10_open G K 23 [(0, .ref 0), (1, .int v1)] [.int r3] M
    exact BT.iret dX10_open_23 rfl (by decide) (by decide) ((h.1 c1).2 r3 e3)
  · have c2 := c
    refine BT.aload_n dX10_open_5 rfl 0 rfl ?_
    refine BT.getR (r := 170) fl_X10_64 ho_0 rfl dX10_open_6 ?_
    refine BT.mcVr [] (t_X7_count (h.2 c2).1 ⟨rfl, rfl⟩) mb_X7_count mv_X7_count lk_X10_170 rfl (by decide) rfl (recvRep ho_170 rfl) (Nat.le_of_ble_eq_true rfl) dX10_open_9 (fun r4 e4 => ?_)
    show B_X10_open G K 12 [(0, .ref 0), (1, .int v1)] [.int r4] M
    refine BT.goto (tgt := 23) dX10_open_12 (by decide) ?_
    exact BT.iret dX10_open_23 rfl (by decide) (by decide) ((h.2 c2).2 r4 e4)

theorem t_X10_open {G : GT} {K : Int32 → Mem → Prop} {M : Mem} {v1 : Int32} (hw : WOk (wv M)) (h : ∀ N, Sc10 M N → K (a_open (wv M) v1) N) : T_X10_open G [.ref 0, .int v1] M K := by
  refine e_X10_open (k_X10_open_0 ?_)
  unfold a_open at h
  refine ⟨fun c => ⟨hw, fun r3 e3 => ?_⟩, fun c => ⟨hw, fun r3 e3 => ?_⟩⟩
  · rw [sel_f c] at h; rw [e3]; exact h _ Sc10.rf
  · rw [sel_t c] at h; rw [e3]; exact h _ Sc10.rf

/-! BetweenLaws.all(II)I -/
abbrev rm_X10_all : Room := { frames := 6, cells := 0, slots := 0, locals := 149 }
abbrev B_X10_all (G : GT) (K : Int32 → Mem → Prop) := BT G (Rep G) RX10 "all" cX10_all 3 (some .int) rm_X10_all K 0 0
abbrev T_X10_all (G : GT) (as : List Value) (M : Mem) (K : Int32 → Mem → Prop) : Prop := MT G (Rep G) yX10_all cX10_all 3 (some .int) rm_X10_all as M K
theorem e_X10_all {G : GT} {K : Int32 → Mem → Prop} {M : Mem} {v1 : Int32} {v2 : Int32} (h : B_X10_all G K 0 [(0, .ref 0), (1, .int v1), (2, .int v2)] [] M) : T_X10_all G [.ref 0, .int v1, .int v2] M K := MT.of (by decide +kernel) rfl rfl (Nat.le_of_ble_eq_true rfl) rfl h
set_option maxRecDepth 4000 in
theorem k_X10_all_0 {G : GT} {K : Int32 → Mem → Prop} {M : Mem} {v1 : Int32} {v2 : Int32} (h : (¬ ((0 : Int32) ≤ v1 ∧ v1 ≤ 99) → K (-2) M) ∧ (((0 : Int32) ≤ v1 ∧ v1 ≤ 99) → ((0 ≤ v2 ∧ v2 ≤ 1) → (¬ v2 = 0 → (∃ D, D < 100 ∧ v1 = nI D) ∧ (WOk (wv M)) ∧ (∀ r9 : Int32, r9 = ((fu (wv M) v1 (Int32.toNatClampNeg v1) (Int32.toNatClampNeg v1 + 1)).getD (-6)) → ∀ N9 : Mem, (Sc10 M N9) → K r9 N9)) ∧ (v2 = 0 → (∃ D, D < 100 ∧ v1 = nI D) ∧ (WOk (wv M)) ∧ (∀ r10 : Int32, r10 = (l_bc (su (wv M) v1 (Int32.toNatClampNeg v1 + 1)).1 + l_bc (su (wv M) v1 (Int32.toNatClampNeg v1 + 1)).2) → ∀ N10 : Mem, (Sc10 M N10) → K r10 N10))) ∧ (¬ (0 ≤ v2 ∧ v2 ≤ 1) → K (-2) M))) : B_X10_all G K 0 [(0, .ref 0), (1, .int v1), (2, .int v2)] [] M := by
  refine BT.iload_n dX10_all_0 rfl 1 rfl ?_
  refine BT.mcS [.int v1] (t_X10_isDay  ?_) mb_X10_isDay ms_X10_isDay lk_X10_101 rfl (by decide) rfl (Nat.le_of_ble_eq_true rfl) dX10_all_1
  show B_X10_all G K 4 [(0, .ref 0), (1, .int v1), (2, .int v2)] [.int (bi ((0 : Int32) ≤ v1 ∧ v1 ≤ 99))] M
  refine BT.if_eq (tgt := 16) dX10_all_4 (by decide) (fun c => ?_) (fun c => ?_)
  · have c2 := bi_eq0.mp c
    refine BT.bipush (v := (-2)) dX10_all_16 (by decide) ?_
    exact BT.iret dX10_all_18 rfl (by decide) (by decide) (h.1 c2)
  · have c3 := bi_ne0.mp c
    refine BT.iload_n dX10_all_7 rfl 2 rfl ?_
    refine BT.iconst (v := 0) dX10_all_8 (by decide) ?_
    refine BT.iconst (v := 1) dX10_all_9 (by decide) ?_
    refine BT.mcS [.int v2, .int 0, .int 1] (t_X10_within  ?_) mb_X10_within ms_X10_within lk_X10_82 rfl (by decide) rfl (Nat.le_of_ble_eq_true rfl) dX10_all_10
    show B_X10_all G K 13 [(0, .ref 0), (1, .int v1), (2, .int v2)] [.int (bi (0 ≤ v2 ∧ v2 ≤ 1))] M
    refine BT.if_ne (tgt := 19) dX10_all_13 (by decide) (fun c => ?_) (fun c => ?_)
    · have c5 := bi_ne0.mp c
      refine BT.iload_n dX10_all_19 rfl 2 rfl ?_
      refine BT.if_ne (tgt := 34) dX10_all_20 (by decide) (fun c => ?_) (fun c => ?_)
      · have c7 := c
        refine BT.aload_n dX10_all_34 rfl 0 rfl ?_
        refine BT.getR (r := 173) fl_X10_78 ho_0 rfl dX10_all_35 ?_
        refine BT.iload_n dX10_all_38 rfl 1 rfl ?_
        refine BT.mcVp [.int v1] (t_X8_firstUngoverned (((h.2 c3).1 c5).1 c7).1 (((h.2 c3).1 c5).1 c7).2.1 (fun N hN => ⟨rfl, hN⟩)) mb_X8_firstUngoverned mv_X8_firstUngoverned lk_X10_326 rfl (by decide) rfl (recvRep ho_173 rfl) (Nat.le_of_ble_eq_true rfl) dX10_all_39 (P := fun N9 => Sc10 M N9) (fun r9 e9 N9 g9 => ?_)
        show B_X10_all G K 42 [(0, .ref 0), (1, .int v1), (2, .int v2)] [.int r9] N9
        exact BT.iret dX10_all_42 rfl (by decide) (by decide) ((((h.2 c3).1 c5).1 c7).2.2 r9 e9 N9 g9)
      · have c8 := c
        refine BT.aload_n dX10_all_23 rfl 0 rfl ?_
        refine BT.getR (r := 173) fl_X10_78 ho_0 rfl dX10_all_24 ?_
        refine BT.iload_n dX10_all_27 rfl 1 rfl ?_
        refine BT.mcVp [.int v1] (t_X8_unlike (((h.2 c3).1 c5).2 c8).1 (((h.2 c3).1 c5).2 c8).2.1 (fun N hN => ⟨rfl, hN⟩)) mb_X8_unlike mv_X8_unlike lk_X10_324 rfl (by decide) rfl (recvRep ho_173 rfl) (Nat.le_of_ble_eq_true rfl) dX10_all_28 (P := fun N10 => Sc10 M N10) (fun r10 e10 N10 g10 => ?_)
        show B_X10_all G K 31 [(0, .ref 0), (1, .int v1), (2, .int v2)] [.int r10] N10
        refine BT.goto (tgt := 42) dX10_all_31 (by decide) ?_
        exact BT.iret dX10_all_42 rfl (by decide) (by decide) ((((h.2 c3).1 c5).2 c8).2.2 r10 e10 N10 g10)
    · have c6 := bi_eq0.mp c
      refine BT.bipush (v := (-2)) dX10_all_16 (by decide) ?_
      exact BT.iret dX10_all_18 rfl (by decide) (by decide) ((h.2 c3).2 c6)

theorem t_X10_all {G : GT} {K : Int32 → Mem → Prop} {M : Mem} {v1 v2 : Int32} (hw : WOk (wv M)) (h : ∀ N, Sc10 M N → K (a_all (wv M) v1 v2) N) : T_X10_all G [.ref 0, .int v1, .int v2] M K := by
  refine e_X10_all (k_X10_all_0 ?_)
  unfold a_all at h
  refine ⟨fun c => ?_, fun c => ⟨fun c2 => ⟨fun c3 => ⟨i_nat (by decide) c.1 (Int32.lt_of_le_of_lt c.2 (by decide)), hw, fun r9 e9 N9 g9 => ?_⟩, fun c3 => ⟨i_nat (by decide) c.1 (Int32.lt_of_le_of_lt c.2 (by decide)), hw, fun r9 e9 N9 g9 => ?_⟩⟩, fun c2 => ?_⟩⟩
  · rw [sel_f c] at h; exact h _ Sc10.rf
  · rw [sel_t c, sel_t c2, sel_f c3] at h; rw [e9]; exact h _ g9
  · rw [sel_t c, sel_t c2, sel_t c3] at h; rw [e9]; exact h _ g9
  · rw [sel_t c, sel_f c2] at h; exact h _ Sc10.rf

/-! BetweenLaws.mend(III)I -/
abbrev rm_X10_mend : Room := { frames := 7, cells := 0, slots := 0, locals := 177 }
abbrev B_X10_mend (G : GT) (K : Int32 → Mem → Prop) := BT G (Rep G) RX10 "mend" cX10_mend 4 (some .int) rm_X10_mend K 0 0
abbrev T_X10_mend (G : GT) (as : List Value) (M : Mem) (K : Int32 → Mem → Prop) : Prop := MT G (Rep G) yX10_mend cX10_mend 4 (some .int) rm_X10_mend as M K
theorem e_X10_mend {G : GT} {K : Int32 → Mem → Prop} {M : Mem} {v1 : Int32} {v2 : Int32} {v3 : Int32} (h : B_X10_mend G K 0 [(0, .ref 0), (1, .int v1), (2, .int v2), (3, .int v3)] [] M) : T_X10_mend G [.ref 0, .int v1, .int v2, .int v3] M K := MT.of (by decide +kernel) rfl rfl (Nat.le_of_ble_eq_true rfl) rfl h
set_option maxRecDepth 4000 in
theorem k_X10_mend_0 {G : GT} {K : Int32 → Mem → Prop} {M : Mem} {v1 : Int32} {v2 : Int32} {v3 : Int32} (h : (((0 : Int32) ≤ v1 ∧ v1 < (M.1 8 1)) → (¬ ((0 : Int32) ≤ v2 ∧ v2 ≤ 99) → K (-2) M) ∧ (((0 : Int32) ≤ v2 ∧ v2 ≤ 99) → ((0 ≤ v3 ∧ v3 ≤ 3) → (vp_in v1 8) ∧ (∃ l, l < w_n (wv M) ∧ (10 + 5 * (Int32.toNatClampNeg v1)) = 10 + 5 * l) ∧ (WOk (wv M)) ∧ (RdOk (wv M)) ∧ (wv M (10 + 5 * (Int32.toNatClampNeg v1)) 10 = 0 ∨ wv M (10 + 5 * (Int32.toNatClampNeg v1)) 10 = 1) ∧ (∀ N10 : Mem, (Sc9 M N10 ∧ MdOk N10 (m_out (wv M) (((10 + 5 * (Int32.toNatClampNeg v1)) - 10) / 5) v2 6)) → (¬ (N10.1 171 3) = (-6) → ((v3.toInt < 0 ∨ 2 < v3.toInt) → K (N10.1 171 6) N10) ∧ (v3 = 0 → K (N10.1 171 3) N10) ∧ (v3 = 1 → K (N10.1 171 4) N10) ∧ (v3 = 2 → K (N10.1 171 5) N10)) ∧ ((N10.1 171 3) = (-6) → K (-5) N10))) ∧ (¬ (0 ≤ v3 ∧ v3 ≤ 3) → K (-2) M))) ∧ (¬ ((0 : Int32) ≤ v1 ∧ v1 < (M.1 8 1)) → K (-1) M)) : B_X10_mend G K 0 [(0, .ref 0), (1, .int v1), (2, .int v2), (3, .int v3)] [] M := by
  refine BT.aload_n dX10_mend_0 rfl 0 rfl ?_
  refine BT.getR (r := 8) fl_X10_26 ho_0 rfl dX10_mend_1 ?_
  refine BT.iload_n dX10_mend_4 rfl 1 rfl ?_
  refine BT.mcV [.int v1] (t_X9_hasLaw  ?_) mb_X9_hasLaw mv_X9_hasLaw lk_X10_111 rfl (by decide) rfl (recvRep ho_8 rfl) (Nat.le_of_ble_eq_true rfl) dX10_mend_5
  show B_X10_mend G K 8 [(0, .ref 0), (1, .int v1), (2, .int v2), (3, .int v3)] [.int (bi ((0 : Int32) ≤ v1 ∧ v1 < (M.1 8 1)))] M
  refine BT.if_ne (tgt := 13) dX10_mend_8 (by decide) (fun c => ?_) (fun c => ?_)
  · have c2 := bi_ne0.mp c
    refine BT.iload_n dX10_mend_13 rfl 2 rfl ?_
    refine BT.mcS [.int v2] (t_X10_isDay  ?_) mb_X10_isDay ms_X10_isDay lk_X10_101 rfl (by decide) rfl (Nat.le_of_ble_eq_true rfl) dX10_mend_14
    show B_X10_mend G K 17 [(0, .ref 0), (1, .int v1), (2, .int v2), (3, .int v3)] [.int (bi ((0 : Int32) ≤ v2 ∧ v2 ≤ 99))] M
    refine BT.if_eq (tgt := 29) dX10_mend_17 (by decide) (fun c => ?_) (fun c => ?_)
    · have c5 := bi_eq0.mp c
      refine BT.bipush (v := (-2)) dX10_mend_29 (by decide) ?_
      exact BT.iret dX10_mend_31 rfl (by decide) (by decide) ((h.1 c2).1 c5)
    · have c6 := bi_ne0.mp c
      refine BT.iload_n dX10_mend_20 rfl 3 rfl ?_
      refine BT.iconst (v := 0) dX10_mend_21 (by decide) ?_
      refine BT.iconst (v := 3) dX10_mend_22 (by decide) ?_
      refine BT.mcS [.int v3, .int 0, .int 3] (t_X10_within  ?_) mb_X10_within ms_X10_within lk_X10_82 rfl (by decide) rfl (Nat.le_of_ble_eq_true rfl) dX10_mend_23
      show B_X10_mend G K 26 [(0, .ref 0), (1, .int v1), (2, .int v2), (3, .int v3)] [.int (bi (0 ≤ v3 ∧ v3 ≤ 3))] M
      refine BT.if_ne (tgt := 32) dX10_mend_26 (by decide) (fun c => ?_) (fun c => ?_)
      · have c8 := bi_ne0.mp c
        refine BT.aload_n dX10_mend_32 rfl 0 rfl ?_
        refine BT.getR (r := 171) fl_X10_71 ho_0 rfl dX10_mend_33 ?_
        refine BT.aload_n dX10_mend_36 rfl 0 rfl ?_
        refine BT.getR (r := 8) fl_X10_26 ho_0 rfl dX10_mend_37 ?_
        refine BT.getR (r := 9) fl_X10_114 ho_8 rfl dX10_mend_40 ?_
        refine BT.iload_n dX10_mend_43 rfl 1 rfl ?_
        refine BT.aald ha_9 (by decide) (((h.1 c2).2 c6).1 c8).1 dX10_mend_44 ?_
        refine BT.iload_n dX10_mend_45 rfl 2 rfl ?_
        refine BT.mcVvp [.ref (10 + 5 * (Int32.toNatClampNeg v1)), .int v2] (t_X4_search (lawC8 (((h.1 c2).2 c6).1 c8).1) (((h.1 c2).2 c6).1 c8).2.1 (((h.1 c2).2 c6).1 c8).2.2.1 (((h.1 c2).2 c6).1 c8).2.2.2.1 (((h.1 c2).2 c6).1 c8).2.2.2.2.1 (fun N hN => ⟨rfl, hN⟩)) mb_X4_search mv_X4_search lk_X10_311 rfl (by decide) rfl (recvRep ho_171 rfl) (Nat.le_of_ble_eq_true rfl) dX10_mend_46 (P := fun N10 => Sc9 M N10 ∧ MdOk N10 (m_out (wv M) (((10 + 5 * (Int32.toNatClampNeg v1)) - 10) / 5) v2 6)) (fun N10 g10 => ?_)
        show B_X10_mend G K 49 [(0, .ref 0), (1, .int v1), (2, .int v2), (3, .int v3)] [] N10
        refine BT.aload_n dX10_mend_49 rfl 0 rfl ?_
        refine BT.getR (r := 171) fl_X10_71 ho_0 rfl dX10_mend_50 ?_
        refine BT.getI fl_X10_315 ho_171 rfl dX10_mend_53 ?_
        refine BT.bipush (v := (-6)) dX10_mend_56 (by decide) ?_
        refine BT.icmp_ne (tgt := 64) dX10_mend_58 (by decide) (fun c => ?_) (fun c => ?_)
        · have c11 := c
          refine BT.iload_n dX10_mend_64 rfl 3 rfl ?_
          refine BT.tsw (td := 116) dX10_mend_65 (by decide) (fun c => ?_) (fun j c cj => ?_)
          · have c13 : (v3.toInt < 0 ∨ 2 < v3.toInt) := c
            refine BT.aload_n dX10_mend_116 rfl 0 rfl ?_
            refine BT.getR (r := 171) fl_X10_71 ho_0 rfl dX10_mend_117 ?_
            refine BT.getI fl_X10_321 ho_171 rfl dX10_mend_120 ?_
            exact BT.iret dX10_mend_123 rfl (by decide) (by decide) ((((((h.1 c2).2 c6).1 c8).2.2.2.2.2 N10 g10).1 c11).1 c13)
          · match j, c, cj with
            | 0, c, _ =>
              have c : v3 = 0 := Int32.toInt_inj.mp (by rw [c]; rfl)
              refine ⟨92, 27, rfl, by decide, ?_⟩
              have c14 : v3 = 0 := c
              refine BT.aload_n dX10_mend_92 rfl 0 rfl ?_
              refine BT.getR (r := 171) fl_X10_71 ho_0 rfl dX10_mend_93 ?_
              refine BT.getI fl_X10_315 ho_171 rfl dX10_mend_96 ?_
              exact BT.iret dX10_mend_99 rfl (by decide) (by decide) ((((((h.1 c2).2 c6).1 c8).2.2.2.2.2 N10 g10).1 c11).2.1 c14)
            | 1, c, _ =>
              have c : v3 = 1 := Int32.toInt_inj.mp (by rw [c]; rfl)
              refine ⟨100, 35, rfl, by decide, ?_⟩
              have c15 : v3 = 1 := c
              refine BT.aload_n dX10_mend_100 rfl 0 rfl ?_
              refine BT.getR (r := 171) fl_X10_71 ho_0 rfl dX10_mend_101 ?_
              refine BT.getI fl_X10_318 ho_171 rfl dX10_mend_104 ?_
              exact BT.iret dX10_mend_107 rfl (by decide) (by decide) ((((((h.1 c2).2 c6).1 c8).2.2.2.2.2 N10 g10).1 c11).2.2.1 c15)
            | 2, c, _ =>
              have c : v3 = 2 := Int32.toInt_inj.mp (by rw [c]; rfl)
              refine ⟨108, 43, rfl, by decide, ?_⟩
              have c16 : v3 = 2 := c
              refine BT.aload_n dX10_mend_108 rfl 0 rfl ?_
              refine BT.getR (r := 171) fl_X10_71 ho_0 rfl dX10_mend_109 ?_
              refine BT.getI fl_X10_319 ho_171 rfl dX10_mend_112 ?_
              exact BT.iret dX10_mend_115 rfl (by decide) (by decide) ((((((h.1 c2).2 c6).1 c8).2.2.2.2.2 N10 g10).1 c11).2.2.2 c16)
            | k + 3, _, h => exact absurd h (by omega)
        · have c12 := c
          refine BT.bipush (v := (-5)) dX10_mend_61 (by decide) ?_
          exact BT.iret dX10_mend_63 rfl (by decide) (by decide) (((((h.1 c2).2 c6).1 c8).2.2.2.2.2 N10 g10).2 c12)
      · have c9 := bi_eq0.mp c
        refine BT.bipush (v := (-2)) dX10_mend_29 (by decide) ?_
        exact BT.iret dX10_mend_31 rfl (by decide) (by decide) (((h.1 c2).2 c6).2 c9)
  · have c3 := bi_eq0.mp c
    refine BT.iconst (v := (-1)) dX10_mend_11 (by decide) ?_
    exact BT.iret dX10_mend_12 rfl (by decide) (by decide) (h.2 c3)

theorem t_X10_mend {G : GT} {K : Int32 → Mem → Prop} {M : Mem} {v1 v2 v3 : Int32} (hw : WOk (wv M)) (hr : RdOk (wv M)) (hq : ∀ l, l < w_n (wv M) → wv M (10 + 5 * l) 10 = 0 ∨ wv M (10 + 5 * l) 10 = 1) (h : ∀ N, Sc10 M N → K (a_mend (wv M) v1 v2 v3) N) : T_X10_mend G [.ref 0, .int v1, .int v2, .int v3] M K := by
  refine e_X10_mend (k_X10_mend_0 ?_)
  unfold a_mend at h
  rw [← wv_at (M := M) (c := 8) (k := 1) (by decide)]
  refine ⟨fun c => ?_, fun c => ?_⟩
  · rw [sel_t c] at h
    obtain ⟨i1, i2, i3⟩ := lw_ix hw c
    refine ⟨fun c2 => ?_, fun c2 => ?_⟩
    · rw [sel_f c2] at h; exact h _ Sc10.rf
    · rw [sel_t c2] at h
      refine ⟨fun c3 => ?_, fun c3 => ?_⟩
      · rw [sel_t c3] at h
        refine ⟨vp8 i2 i3, ⟨_, i1, rfl⟩, hw, hr, hq _ i1, fun N gN => ?_⟩
        rw [show ((10 + 5 * Int32.toNatClampNeg v1) - 10) / 5 = Int32.toNatClampNeg v1 by omega] at gN
        obtain ⟨g1, g2, g3⟩ := gN
        have gs := g1.s10
        rw [g2]
        refine ⟨fun c4 => ?_, fun c4 => ?_⟩
        · rw [sel_f c4] at h
          have g4 := g3 c4
          have e4 : N.1 171 4 = (m_out (wv M) (Int32.toNatClampNeg v1) v2 6).2.1 := congrArg (fun z : CmT => z.2.1) g4
          have e5 : N.1 171 5 = (m_out (wv M) (Int32.toNatClampNeg v1) v2 6).2.2.1 := congrArg (fun z : CmT => z.2.2.1) g4
          have e6 : N.1 171 6 = (m_out (wv M) (Int32.toNatClampNeg v1) v2 6).2.2.2 := congrArg (fun z : CmT => z.2.2.2) g4
          rw [e4, e5, e6]
          refine ⟨fun c5 => ?_, fun c5 => ?_, fun c5 => ?_, fun c5 => ?_⟩
          · have n0 : ¬ v3 = 0 := by rintro rfl; exact absurd c5 (by decide)
            have n1 : ¬ v3 = 1 := by rintro rfl; exact absurd c5 (by decide)
            have n2 : ¬ v3 = 2 := by rintro rfl; exact absurd c5 (by decide)
            rw [sel_f n0, sel_f n1, sel_f n2] at h; exact h _ gs
          · rw [sel_t c5] at h; exact h _ gs
          · rw [sel_f (by rw [c5]; decide), sel_t c5] at h; exact h _ gs
          · rw [sel_f (by rw [c5]; decide), sel_f (by rw [c5]; decide), sel_t c5] at h; exact h _ gs
        · rw [sel_t c4] at h; exact h _ gs
      · rw [sel_f c3] at h; exact h _ Sc10.rf
  · rw [sel_f c] at h; exact h _ Sc10.rf

/-! BetweenLaws.of(II)I -/
abbrev rm_X10_of : Room := { frames := 1, cells := 0, slots := 0, locals := 21 }
abbrev B_X10_of (G : GT) (K : Int32 → Mem → Prop) := BT G (Rep G) RX10 "of" cX10_of 4 (some .int) rm_X10_of K 0 0
abbrev T_X10_of (G : GT) (as : List Value) (M : Mem) (K : Int32 → Mem → Prop) : Prop := MT G (Rep G) yX10_of cX10_of 4 (some .int) rm_X10_of as M K
theorem e_X10_of {G : GT} {K : Int32 → Mem → Prop} {M : Mem} {v1 : Int32} {v2 : Int32} (h : B_X10_of G K 0 [(0, .ref 0), (1, .int v1), (2, .int v2)] [] M) : T_X10_of G [.ref 0, .int v1, .int v2] M K := MT.of (by decide +kernel) rfl rfl (Nat.le_of_ble_eq_true rfl) rfl h
set_option maxRecDepth 4000 in
theorem k_X10_of_0 {G : GT} {K : Int32 → Mem → Prop} {M : Mem} {v1 : Int32} {v2 : Int32} (h : (((0 : Int32) ≤ v1 ∧ v1 < (M.1 8 1)) → (vp_in v1 8) ∧ ((v2.toInt < 0 ∨ 9 < v2.toInt) → K (-2) M) ∧ (v2 = 0 → K (M.1 (10 + 5 * (Int32.toNatClampNeg v1)) 0) M) ∧ (v2 = 1 → K (M.1 (10 + 5 * (Int32.toNatClampNeg v1)) 1) M) ∧ (v2 = 2 → K (M.1 (10 + 5 * (Int32.toNatClampNeg v1)) 2) M) ∧ (v2 = 3 → K (M.1 (10 + 5 * (Int32.toNatClampNeg v1)) 7) M) ∧ (v2 = 4 → K (M.1 (10 + 5 * (Int32.toNatClampNeg v1)) 8) M) ∧ (v2 = 5 → ((M.1 (10 + 5 * (Int32.toNatClampNeg v1)) 10) = 0 → K 0 M) ∧ (¬ (M.1 (10 + 5 * (Int32.toNatClampNeg v1)) 10) = 0 → K 1 M)) ∧ (v2 = 6 → K (M.1 (10 + 5 * (Int32.toNatClampNeg v1)) 11) M) ∧ (v2 = 7 → K (M.1 (10 + 5 * (Int32.toNatClampNeg v1)) 12) M) ∧ (v2 = 8 → K (M.1 (10 + 5 * (Int32.toNatClampNeg v1)) 13) M) ∧ (v2 = 9 → K (M.1 (10 + 5 * (Int32.toNatClampNeg v1)) 14) M)) ∧ (¬ ((0 : Int32) ≤ v1 ∧ v1 < (M.1 8 1)) → K (-1) M)) : B_X10_of G K 0 [(0, .ref 0), (1, .int v1), (2, .int v2)] [] M := by
  refine BT.aload_n dX10_of_0 rfl 0 rfl ?_
  refine BT.getR (r := 8) fl_X10_26 ho_0 rfl dX10_of_1 ?_
  refine BT.iload_n dX10_of_4 rfl 1 rfl ?_
  refine BT.mcV [.int v1] (t_X9_hasLaw  ?_) mb_X9_hasLaw mv_X9_hasLaw lk_X10_111 rfl (by decide) rfl (recvRep ho_8 rfl) (Nat.le_of_ble_eq_true rfl) dX10_of_5
  show B_X10_of G K 8 [(0, .ref 0), (1, .int v1), (2, .int v2)] [.int (bi ((0 : Int32) ≤ v1 ∧ v1 < (M.1 8 1)))] M
  refine BT.if_ne (tgt := 13) dX10_of_8 (by decide) (fun c => ?_) (fun c => ?_)
  · have c2 := bi_ne0.mp c
    refine BT.aload_n dX10_of_13 rfl 0 rfl ?_
    refine BT.getR (r := 8) fl_X10_26 ho_0 rfl dX10_of_14 ?_
    refine BT.getR (r := 9) fl_X10_114 ho_8 rfl dX10_of_17 ?_
    refine BT.iload_n dX10_of_20 rfl 1 rfl ?_
    refine BT.aald ha_9 (by decide) (h.1 c2).1 dX10_of_21 ?_
    refine BT.astore_n (L' := [(3, .ref (10 + 5 * (Int32.toNatClampNeg v1))), (0, .ref 0), (1, .int v1), (2, .int v2)]) dX10_of_22 rfl (by decide) rfl ?_
    refine BT.iload_n dX10_of_23 rfl 3 rfl ?_
    refine BT.tsw (td := 138) dX10_of_24 (by decide) (fun c => ?_) (fun j c cj => ?_)
    · have c4 : (v2.toInt < 0 ∨ 9 < v2.toInt) := c
      refine BT.bipush (v := (-2)) dX10_of_138 (by decide) ?_
      exact BT.iret dX10_of_140 rfl (by decide) (by decide) ((h.1 c2).2.1 c4)
    · match j, c, cj with
      | 0, c, _ =>
        have c : v2 = 0 := Int32.toInt_inj.mp (by rw [c]; rfl)
        refine ⟨80, 56, rfl, by decide, ?_⟩
        have c5 : v2 = 0 := c
        refine BT.aload_n dX10_of_80 rfl 0 rfl ?_
        refine BT.getI fl_X10_125 (lawC8 (h.1 c2).1).1 rfl dX10_of_81 ?_
        exact BT.iret dX10_of_84 rfl (by decide) (by decide) ((h.1 c2).2.2.1 c5)
      | 1, c, _ =>
        have c : v2 = 1 := Int32.toInt_inj.mp (by rw [c]; rfl)
        refine ⟨85, 61, rfl, by decide, ?_⟩
        have c6 : v2 = 1 := c
        refine BT.aload_n dX10_of_85 rfl 0 rfl ?_
        refine BT.getI fl_X10_128 (lawC8 (h.1 c2).1).1 rfl dX10_of_86 ?_
        exact BT.iret dX10_of_89 rfl (by decide) (by decide) ((h.1 c2).2.2.2.1 c6)
      | 2, c, _ =>
        have c : v2 = 2 := Int32.toInt_inj.mp (by rw [c]; rfl)
        refine ⟨90, 66, rfl, by decide, ?_⟩
        have c7 : v2 = 2 := c
        refine BT.aload_n dX10_of_90 rfl 0 rfl ?_
        refine BT.getI fl_X10_122 (lawC8 (h.1 c2).1).1 rfl dX10_of_91 ?_
        exact BT.iret dX10_of_94 rfl (by decide) (by decide) ((h.1 c2).2.2.2.2.1 c7)
      | 3, c, _ =>
        have c : v2 = 3 := Int32.toInt_inj.mp (by rw [c]; rfl)
        refine ⟨95, 71, rfl, by decide, ?_⟩
        have c8 : v2 = 3 := c
        refine BT.aload_n dX10_of_95 rfl 0 rfl ?_
        refine BT.getI fl_X10_134 (lawC8 (h.1 c2).1).1 rfl dX10_of_96 ?_
        exact BT.iret dX10_of_99 rfl (by decide) (by decide) ((h.1 c2).2.2.2.2.2.1 c8)
      | 4, c, _ =>
        have c : v2 = 4 := Int32.toInt_inj.mp (by rw [c]; rfl)
        refine ⟨100, 76, rfl, by decide, ?_⟩
        have c9 : v2 = 4 := c
        refine BT.aload_n dX10_of_100 rfl 0 rfl ?_
        refine BT.getI fl_X10_137 (lawC8 (h.1 c2).1).1 rfl dX10_of_101 ?_
        exact BT.iret dX10_of_104 rfl (by decide) (by decide) ((h.1 c2).2.2.2.2.2.2.1 c9)
      | 5, c, _ =>
        have c : v2 = 5 := Int32.toInt_inj.mp (by rw [c]; rfl)
        refine ⟨105, 81, rfl, by decide, ?_⟩
        have c10 : v2 = 5 := c
        refine BT.aload_n dX10_of_105 rfl 0 rfl ?_
        refine BT.getI fl_X10_140 (lawC8 (h.1 c2).1).1 rfl dX10_of_106 ?_
        refine BT.if_eq (tgt := 116) dX10_of_109 (by decide) (fun c => ?_) (fun c => ?_)
        · have c11 := c
          refine BT.iconst (v := 0) dX10_of_116 (by decide) ?_
          exact BT.iret dX10_of_117 rfl (by decide) (by decide) (((h.1 c2).2.2.2.2.2.2.2.1 c10).1 c11)
        · have c12 := c
          refine BT.iconst (v := 1) dX10_of_112 (by decide) ?_
          refine BT.goto (tgt := 117) dX10_of_113 (by decide) ?_
          exact BT.iret dX10_of_117 rfl (by decide) (by decide) (((h.1 c2).2.2.2.2.2.2.2.1 c10).2 c12)
      | 6, c, _ =>
        have c : v2 = 6 := Int32.toInt_inj.mp (by rw [c]; rfl)
        refine ⟨118, 94, rfl, by decide, ?_⟩
        have c13 : v2 = 6 := c
        refine BT.aload_n dX10_of_118 rfl 0 rfl ?_
        refine BT.getI fl_X10_144 (lawC8 (h.1 c2).1).1 rfl dX10_of_119 ?_
        exact BT.iret dX10_of_122 rfl (by decide) (by decide) ((h.1 c2).2.2.2.2.2.2.2.2.1 c13)
      | 7, c, _ =>
        have c : v2 = 7 := Int32.toInt_inj.mp (by rw [c]; rfl)
        refine ⟨123, 99, rfl, by decide, ?_⟩
        have c14 : v2 = 7 := c
        refine BT.aload_n dX10_of_123 rfl 0 rfl ?_
        refine BT.getI fl_X10_147 (lawC8 (h.1 c2).1).1 rfl dX10_of_124 ?_
        exact BT.iret dX10_of_127 rfl (by decide) (by decide) ((h.1 c2).2.2.2.2.2.2.2.2.2.1 c14)
      | 8, c, _ =>
        have c : v2 = 8 := Int32.toInt_inj.mp (by rw [c]; rfl)
        refine ⟨128, 104, rfl, by decide, ?_⟩
        have c15 : v2 = 8 := c
        refine BT.aload_n dX10_of_128 rfl 0 rfl ?_
        refine BT.getI fl_X10_150 (lawC8 (h.1 c2).1).1 rfl dX10_of_129 ?_
        exact BT.iret dX10_of_132 rfl (by decide) (by decide) ((h.1 c2).2.2.2.2.2.2.2.2.2.2.1 c15)
      | 9, c, _ =>
        have c : v2 = 9 := Int32.toInt_inj.mp (by rw [c]; rfl)
        refine ⟨133, 109, rfl, by decide, ?_⟩
        have c16 : v2 = 9 := c
        refine BT.aload_n dX10_of_133 rfl 0 rfl ?_
        refine BT.getI fl_X10_153 (lawC8 (h.1 c2).1).1 rfl dX10_of_134 ?_
        exact BT.iret dX10_of_137 rfl (by decide) (by decide) ((h.1 c2).2.2.2.2.2.2.2.2.2.2.2 c16)
      | k + 10, _, h => exact absurd h (by omega)
  · have c3 := bi_eq0.mp c
    refine BT.iconst (v := (-1)) dX10_of_11 (by decide) ?_
    exact BT.iret dX10_of_12 rfl (by decide) (by decide) (h.2 c3)

theorem t_X10_of {G : GT} {K : Int32 → Mem → Prop} {M : Mem} {v1 v2 : Int32} (hw : WOk (wv M)) (h : ∀ N, Sc10 M N → K (a_of (wv M) v1 v2) N) : T_X10_of G [.ref 0, .int v1, .int v2] M K := by
  refine e_X10_of (k_X10_of_0 ?_)
  unfold a_of at h
  rw [← wv_at (M := M) (c := 8) (k := 1) (by decide)]
  refine ⟨fun c => ?_, fun c => ?_⟩
  · rw [sel_t c] at h
    obtain ⟨i1, i2, i3⟩ := lw_ix hw c
    have e : ∀ k, M.1 (10 + 5 * Int32.toNatClampNeg v1) k = wv M (plw v1) k := fun k => (wv_at (by omega)).symm
    simp only [e]
    refine ⟨vp8 i2 i3, fun c5 => ?_, ?_⟩
    · have n : ∀ x : Int32, ¬ (x.toInt < 0 ∨ 9 < x.toInt) → ¬ v2 = x := by rintro x hx rfl; exact hx c5
      rw [sel_f (n 0 (by decide)), sel_f (n 1 (by decide)), sel_f (n 2 (by decide)), sel_f (n 3 (by decide)), sel_f (n 4 (by decide)), sel_f (n 5 (by decide)), sel_f (n 6 (by decide)), sel_f (n 7 (by decide)), sel_f (n 8 (by decide)), sel_f (n 9 (by decide))] at h
      exact h _ Sc10.rf
    · have H := h _ Sc10.rf
      clear h
      unfold sel at H
      refine ⟨?_, ?_, ?_, ?_, ?_, ?_, ?_, ?_, ?_, ?_⟩ <;> intro c5 <;> subst c5 <;> simp at H
      all_goals first
        | exact H
        | (refine ⟨fun c6 => ?_, fun c6 => ?_⟩ <;> simp [c6] at H <;> exact H)
  · rw [sel_f c] at h; exact h _ Sc10.rf

/-! BetweenLaws.about(II)I -/
abbrev rm_X10_about : Room := { frames := 1, cells := 0, slots := 0, locals := 21 }
abbrev B_X10_about (G : GT) (K : Int32 → Mem → Prop) := BT G (Rep G) RX10 "about" cX10_about 4 (some .int) rm_X10_about K 0 0
abbrev T_X10_about (G : GT) (as : List Value) (M : Mem) (K : Int32 → Mem → Prop) : Prop := MT G (Rep G) yX10_about cX10_about 4 (some .int) rm_X10_about as M K
theorem e_X10_about {G : GT} {K : Int32 → Mem → Prop} {M : Mem} {v1 : Int32} {v2 : Int32} (h : B_X10_about G K 0 [(0, .ref 0), (1, .int v1), (2, .int v2)] [] M) : T_X10_about G [.ref 0, .int v1, .int v2] M K := MT.of (by decide +kernel) rfl rfl (Nat.le_of_ble_eq_true rfl) rfl h
set_option maxRecDepth 4000 in
theorem k_X10_about_0 {G : GT} {K : Int32 → Mem → Prop} {M : Mem} {v1 : Int32} {v2 : Int32} (h : (((0 : Int32) ≤ v1 ∧ v1 < (M.1 8 4)) → (vp_in v1 8) ∧ ((v2.toInt < 0 ∨ 4 < v2.toInt) → K (-2) M) ∧ (v2 = 0 → K (M.1 (52 + (Int32.toNatClampNeg v1)) 0) M) ∧ (v2 = 1 → K (M.1 (52 + (Int32.toNatClampNeg v1)) 1) M) ∧ (v2 = 2 → K (M.1 (52 + (Int32.toNatClampNeg v1)) 2) M) ∧ (v2 = 3 → K (M.1 (52 + (Int32.toNatClampNeg v1)) 3) M) ∧ (v2 = 4 → K (M.1 (52 + (Int32.toNatClampNeg v1)) 4) M)) ∧ (¬ ((0 : Int32) ≤ v1 ∧ v1 < (M.1 8 4)) → K (-1) M)) : B_X10_about G K 0 [(0, .ref 0), (1, .int v1), (2, .int v2)] [] M := by
  refine BT.aload_n dX10_about_0 rfl 0 rfl ?_
  refine BT.getR (r := 8) fl_X10_26 ho_0 rfl dX10_about_1 ?_
  refine BT.iload_n dX10_about_4 rfl 1 rfl ?_
  refine BT.mcV [.int v1] (t_X9_hasPiece  ?_) mb_X9_hasPiece mv_X9_hasPiece lk_X10_186 rfl (by decide) rfl (recvRep ho_8 rfl) (Nat.le_of_ble_eq_true rfl) dX10_about_5
  show B_X10_about G K 8 [(0, .ref 0), (1, .int v1), (2, .int v2)] [.int (bi ((0 : Int32) ≤ v1 ∧ v1 < (M.1 8 4)))] M
  refine BT.if_ne (tgt := 13) dX10_about_8 (by decide) (fun c => ?_) (fun c => ?_)
  · have c2 := bi_ne0.mp c
    refine BT.aload_n dX10_about_13 rfl 0 rfl ?_
    refine BT.getR (r := 8) fl_X10_26 ho_0 rfl dX10_about_14 ?_
    refine BT.getR (r := 51) fl_X10_189 ho_8 rfl dX10_about_17 ?_
    refine BT.iload_n dX10_about_20 rfl 1 rfl ?_
    refine BT.aald1 ha_51 (by decide) (h.1 c2).1 dX10_about_21 ?_
    refine BT.astore_n (L' := [(3, .ref (52 + (Int32.toNatClampNeg v1))), (0, .ref 0), (1, .int v1), (2, .int v2)]) dX10_about_22 rfl (by decide) rfl ?_
    refine BT.iload_n dX10_about_23 rfl 3 rfl ?_
    refine BT.tsw (td := 85) dX10_about_24 (by decide) (fun c => ?_) (fun j c cj => ?_)
    · have c4 : (v2.toInt < 0 ∨ 4 < v2.toInt) := c
      refine BT.bipush (v := (-2)) dX10_about_85 (by decide) ?_
      exact BT.iret dX10_about_87 rfl (by decide) (by decide) ((h.1 c2).2.1 c4)
    · match j, c, cj with
      | 0, c, _ =>
        have c : v2 = 0 := Int32.toInt_inj.mp (by rw [c]; rfl)
        refine ⟨60, 36, rfl, by decide, ?_⟩
        have c5 : v2 = 0 := c
        refine BT.aload_n dX10_about_60 rfl 0 rfl ?_
        refine BT.getI fl_X10_193 (pieceC8 (h.1 c2).1) rfl dX10_about_61 ?_
        exact BT.iret dX10_about_64 rfl (by decide) (by decide) ((h.1 c2).2.2.1 c5)
      | 1, c, _ =>
        have c : v2 = 1 := Int32.toInt_inj.mp (by rw [c]; rfl)
        refine ⟨65, 41, rfl, by decide, ?_⟩
        have c6 : v2 = 1 := c
        refine BT.aload_n dX10_about_65 rfl 0 rfl ?_
        refine BT.getI fl_X10_198 (pieceC8 (h.1 c2).1) rfl dX10_about_66 ?_
        exact BT.iret dX10_about_69 rfl (by decide) (by decide) ((h.1 c2).2.2.2.1 c6)
      | 2, c, _ =>
        have c : v2 = 2 := Int32.toInt_inj.mp (by rw [c]; rfl)
        refine ⟨70, 46, rfl, by decide, ?_⟩
        have c7 : v2 = 2 := c
        refine BT.aload_n dX10_about_70 rfl 0 rfl ?_
        refine BT.getI fl_X10_201 (pieceC8 (h.1 c2).1) rfl dX10_about_71 ?_
        exact BT.iret dX10_about_74 rfl (by decide) (by decide) ((h.1 c2).2.2.2.2.1 c7)
      | 3, c, _ =>
        have c : v2 = 3 := Int32.toInt_inj.mp (by rw [c]; rfl)
        refine ⟨75, 51, rfl, by decide, ?_⟩
        have c8 : v2 = 3 := c
        refine BT.aload_n dX10_about_75 rfl 0 rfl ?_
        refine BT.getI fl_X10_204 (pieceC8 (h.1 c2).1) rfl dX10_about_76 ?_
        exact BT.iret dX10_about_79 rfl (by decide) (by decide) ((h.1 c2).2.2.2.2.2.1 c8)
      | 4, c, _ =>
        have c : v2 = 4 := Int32.toInt_inj.mp (by rw [c]; rfl)
        refine ⟨80, 56, rfl, by decide, ?_⟩
        have c9 : v2 = 4 := c
        refine BT.aload_n dX10_about_80 rfl 0 rfl ?_
        refine BT.getI fl_X10_207 (pieceC8 (h.1 c2).1) rfl dX10_about_81 ?_
        exact BT.iret dX10_about_84 rfl (by decide) (by decide) ((h.1 c2).2.2.2.2.2.2 c9)
      | k + 5, _, h => exact absurd h (by omega)
  · have c3 := bi_eq0.mp c
    refine BT.iconst (v := (-1)) dX10_about_11 (by decide) ?_
    exact BT.iret dX10_about_12 rfl (by decide) (by decide) (h.2 c3)

theorem t_X10_about {G : GT} {K : Int32 → Mem → Prop} {M : Mem} {v1 v2 : Int32} (hw : WOk (wv M)) (h : ∀ N, Sc10 M N → K (a_about (wv M) v1 v2) N) : T_X10_about G [.ref 0, .int v1, .int v2] M K := by
  refine e_X10_about (k_X10_about_0 ?_)
  unfold a_about at h
  rw [← wv_at (M := M) (c := 8) (k := 4) (by decide)]
  refine ⟨fun c => ?_, fun c => ?_⟩
  · rw [sel_t c] at h
    obtain ⟨i1, i2, i3⟩ := pc_ix hw c
    have e : ∀ k, M.1 (52 + Int32.toNatClampNeg v1) k = wv M (ppc v1) k := fun k => (wv_at (by omega)).symm
    simp only [e]
    refine ⟨vp8 i2 i3, fun c5 => ?_, ?_⟩
    · have n : ∀ x : Int32, ¬ (x.toInt < 0 ∨ 4 < x.toInt) → ¬ v2 = x := by rintro x hx rfl; exact hx c5
      rw [sel_f (n 0 (by decide)), sel_f (n 1 (by decide)), sel_f (n 2 (by decide)), sel_f (n 3 (by decide)), sel_f (n 4 (by decide))] at h
      exact h _ Sc10.rf
    · have H := h _ Sc10.rf
      clear h
      unfold sel at H
      refine ⟨?_, ?_, ?_, ?_, ?_⟩ <;> intro c5 <;> subst c5 <;> simp at H <;> exact H
  · rw [sel_f c] at h; exact h _ Sc10.rf

/-! BetweenLaws.told(I)I -/
abbrev rm_X10_told : Room := { frames := 0, cells := 0, slots := 0, locals := 0 }
abbrev B_X10_told (G : GT) (K : Int32 → Mem → Prop) := BT G (Rep G) RX10 "told" cX10_told 2 (some .int) rm_X10_told K 0 0
abbrev T_X10_told (G : GT) (as : List Value) (M : Mem) (K : Int32 → Mem → Prop) : Prop := MT G (Rep G) yX10_told cX10_told 2 (some .int) rm_X10_told as M K
theorem e_X10_told {G : GT} {K : Int32 → Mem → Prop} {M : Mem} {v1 : Int32} (h : B_X10_told G K 0 [(0, .ref 0), (1, .int v1)] [] M) : T_X10_told G [.ref 0, .int v1] M K := MT.of (by decide +kernel) rfl rfl (Nat.le_of_ble_eq_true rfl) rfl h
set_option maxRecDepth 4000 in
theorem k_X10_told_0 {G : GT} {K : Int32 → Mem → Prop} {M : Mem} {v1 : Int32} (h : ((v1.toInt < 0 ∨ 5 < v1.toInt) → K (-2) M) ∧ (v1 = 0 → K (M.1 8 1) M) ∧ (v1 = 1 → K (M.1 8 4) M) ∧ (v1 = 2 → K (M.1 1 1) M) ∧ (v1 = 3 → K (M.1 8 5) M) ∧ (v1 = 4 → K (M.1 8 6) M) ∧ (v1 = 5 → K (M.1 8 7) M)) : B_X10_told G K 0 [(0, .ref 0), (1, .int v1)] [] M := by
  refine BT.iload_n dX10_told_0 rfl 1 rfl ?_
  refine BT.tsw (td := 88) dX10_told_1 (by decide) (fun c => ?_) (fun j c cj => ?_)
  · have c1 : (v1.toInt < 0 ∨ 5 < v1.toInt) := c
    refine BT.bipush (v := (-2)) dX10_told_88 (by decide) ?_
    exact BT.iret dX10_told_90 rfl (by decide) (by decide) (h.1 c1)
  · match j, c, cj with
    | 0, c, _ =>
      have c : v1 = 0 := Int32.toInt_inj.mp (by rw [c]; rfl)
      refine ⟨40, 39, rfl, by decide, ?_⟩
      have c2 : v1 = 0 := c
      refine BT.aload_n dX10_told_40 rfl 0 rfl ?_
      refine BT.getR (r := 8) fl_X10_26 ho_0 rfl dX10_told_41 ?_
      refine BT.getI fl_X10_104 ho_8 rfl dX10_told_44 ?_
      exact BT.iret dX10_told_47 rfl (by decide) (by decide) (h.2.1 c2)
    | 1, c, _ =>
      have c : v1 = 1 := Int32.toInt_inj.mp (by rw [c]; rfl)
      refine ⟨48, 47, rfl, by decide, ?_⟩
      have c3 : v1 = 1 := c
      refine BT.aload_n dX10_told_48 rfl 0 rfl ?_
      refine BT.getR (r := 8) fl_X10_26 ho_0 rfl dX10_told_49 ?_
      refine BT.getI fl_X10_179 ho_8 rfl dX10_told_52 ?_
      exact BT.iret dX10_told_55 rfl (by decide) (by decide) (h.2.2.1 c3)
    | 2, c, _ =>
      have c : v1 = 2 := Int32.toInt_inj.mp (by rw [c]; rfl)
      refine ⟨56, 55, rfl, by decide, ?_⟩
      have c4 : v1 = 2 := c
      refine BT.aload_n dX10_told_56 rfl 0 rfl ?_
      refine BT.getR (r := 1) fl_X10_10 ho_0 rfl dX10_told_57 ?_
      refine BT.getI fl_X10_90 ho_1 rfl dX10_told_60 ?_
      exact BT.iret dX10_told_63 rfl (by decide) (by decide) (h.2.2.2.1 c4)
    | 3, c, _ =>
      have c : v1 = 3 := Int32.toInt_inj.mp (by rw [c]; rfl)
      refine ⟨64, 63, rfl, by decide, ?_⟩
      have c5 : v1 = 3 := c
      refine BT.aload_n dX10_told_64 rfl 0 rfl ?_
      refine BT.getR (r := 8) fl_X10_26 ho_0 rfl dX10_told_65 ?_
      refine BT.getI fl_X10_210 ho_8 rfl dX10_told_68 ?_
      exact BT.iret dX10_told_71 rfl (by decide) (by decide) (h.2.2.2.2.1 c5)
    | 4, c, _ =>
      have c : v1 = 4 := Int32.toInt_inj.mp (by rw [c]; rfl)
      refine ⟨72, 71, rfl, by decide, ?_⟩
      have c6 : v1 = 4 := c
      refine BT.aload_n dX10_told_72 rfl 0 rfl ?_
      refine BT.getR (r := 8) fl_X10_26 ho_0 rfl dX10_told_73 ?_
      refine BT.getI fl_X10_213 ho_8 rfl dX10_told_76 ?_
      exact BT.iret dX10_told_79 rfl (by decide) (by decide) (h.2.2.2.2.2.1 c6)
    | 5, c, _ =>
      have c : v1 = 5 := Int32.toInt_inj.mp (by rw [c]; rfl)
      refine ⟨80, 79, rfl, by decide, ?_⟩
      have c7 : v1 = 5 := c
      refine BT.aload_n dX10_told_80 rfl 0 rfl ?_
      refine BT.getR (r := 8) fl_X10_26 ho_0 rfl dX10_told_81 ?_
      refine BT.getI fl_X10_216 ho_8 rfl dX10_told_84 ?_
      exact BT.iret dX10_told_87 rfl (by decide) (by decide) (h.2.2.2.2.2.2 c7)
    | k + 6, _, h => exact absurd h (by omega)

theorem t_X10_told {G : GT} {K : Int32 → Mem → Prop} {M : Mem} {v1 : Int32} (hw : WOk (wv M)) (h : ∀ N, Sc10 M N → K (a_told (wv M) v1) N) : T_X10_told G [.ref 0, .int v1] M K := by
  refine e_X10_told (k_X10_told_0 ?_)
  unfold a_told at h
  have e : ∀ c k, c < 60 → M.1 c k = wv M c k := fun c k hc => (wv_at (Or.inl hc)).symm
  rw [e 8 1 (by decide), e 8 4 (by decide), e 1 1 (by decide), e 8 5 (by decide), e 8 6 (by decide), e 8 7 (by decide)]
  refine ⟨fun c5 => ?_, ?_⟩
  · have n : ∀ x : Int32, ¬ (x.toInt < 0 ∨ 5 < x.toInt) → ¬ v1 = x := by rintro x hx rfl; exact hx c5
    rw [sel_f (n 0 (by decide)), sel_f (n 1 (by decide)), sel_f (n 2 (by decide)), sel_f (n 3 (by decide)), sel_f (n 4 (by decide)), sel_f (n 5 (by decide))] at h
    exact h _ Sc10.rf
  · have H := h _ Sc10.rf
    clear h
    unfold sel at H
    refine ⟨?_, ?_, ?_, ?_, ?_, ?_⟩ <;> intro c5 <;> subst c5 <;> simp at H <;> exact H

/-! BetweenLaws.part(III)I -/
abbrev rm_X10_part : Room := { frames := 1, cells := 0, slots := 0, locals := 22 }
abbrev B_X10_part (G : GT) (K : Int32 → Mem → Prop) := BT G (Rep G) RX10 "part" cX10_part 5 (some .int) rm_X10_part K 0 0
abbrev T_X10_part (G : GT) (as : List Value) (M : Mem) (K : Int32 → Mem → Prop) : Prop := MT G (Rep G) yX10_part cX10_part 5 (some .int) rm_X10_part as M K
theorem e_X10_part {G : GT} {K : Int32 → Mem → Prop} {M : Mem} {v1 : Int32} {v2 : Int32} {v3 : Int32} (h : B_X10_part G K 0 [(0, .ref 0), (1, .int v1), (2, .int v2), (3, .int v3)] [] M) : T_X10_part G [.ref 0, .int v1, .int v2, .int v3] M K := MT.of (by decide +kernel) rfl rfl (Nat.le_of_ble_eq_true rfl) rfl h
set_option maxRecDepth 4000 in
theorem k_X10_part_0 {G : GT} {K : Int32 → Mem → Prop} {M : Mem} {v1 : Int32} {v2 : Int32} {v3 : Int32} (h : (((0 : Int32) ≤ v1 ∧ v1 < (M.1 8 1)) → (vp_in v1 8) ∧ ((0 ≤ v2 ∧ v2 ≤ ((M.1 (10 + 5 * (Int32.toNatClampNeg v1)) 2) - 1)) → ((0 ≤ v3 ∧ v3 ≤ 1) → (¬ v3 = 0 → (vp_in v2 6) ∧ K (M.1 ((10 + 5 * (Int32.toNatClampNeg v1)) + 2) (Int32.toNatClampNeg v2)) M) ∧ (v3 = 0 → (vp_in v2 6) ∧ K (M.1 ((10 + 5 * (Int32.toNatClampNeg v1)) + 1) (Int32.toNatClampNeg v2)) M)) ∧ (¬ (0 ≤ v3 ∧ v3 ≤ 1) → K (-2) M)) ∧ (¬ (0 ≤ v2 ∧ v2 ≤ ((M.1 (10 + 5 * (Int32.toNatClampNeg v1)) 2) - 1)) → K (-1) M)) ∧ (¬ ((0 : Int32) ≤ v1 ∧ v1 < (M.1 8 1)) → K (-1) M)) : B_X10_part G K 0 [(0, .ref 0), (1, .int v1), (2, .int v2), (3, .int v3)] [] M := by
  refine BT.aload_n dX10_part_0 rfl 0 rfl ?_
  refine BT.getR (r := 8) fl_X10_26 ho_0 rfl dX10_part_1 ?_
  refine BT.iload_n dX10_part_4 rfl 1 rfl ?_
  refine BT.mcV [.int v1] (t_X9_hasLaw  ?_) mb_X9_hasLaw mv_X9_hasLaw lk_X10_111 rfl (by decide) rfl (recvRep ho_8 rfl) (Nat.le_of_ble_eq_true rfl) dX10_part_5
  show B_X10_part G K 8 [(0, .ref 0), (1, .int v1), (2, .int v2), (3, .int v3)] [.int (bi ((0 : Int32) ≤ v1 ∧ v1 < (M.1 8 1)))] M
  refine BT.if_ne (tgt := 13) dX10_part_8 (by decide) (fun c => ?_) (fun c => ?_)
  · have c2 := bi_ne0.mp c
    refine BT.aload_n dX10_part_13 rfl 0 rfl ?_
    refine BT.getR (r := 8) fl_X10_26 ho_0 rfl dX10_part_14 ?_
    refine BT.getR (r := 9) fl_X10_114 ho_8 rfl dX10_part_17 ?_
    refine BT.iload_n dX10_part_20 rfl 1 rfl ?_
    refine BT.aald ha_9 (by decide) (h.1 c2).1 dX10_part_21 ?_
    refine BT.astore (L' := [(4, .ref (10 + 5 * (Int32.toNatClampNeg v1))), (0, .ref 0), (1, .int v1), (2, .int v2), (3, .int v3)]) dX10_part_22 (by decide) rfl ?_
    refine BT.iload_n dX10_part_24 rfl 3 rfl ?_
    refine BT.iconst (v := 0) dX10_part_25 (by decide) ?_
    refine BT.aload dX10_part_26 0 rfl ?_
    refine BT.getI fl_X10_122 (lawC8 (h.1 c2).1).1 rfl dX10_part_28 ?_
    refine BT.iconst (v := 1) dX10_part_31 (by decide) ?_
    refine BT.isub dX10_part_32 ?_
    refine BT.mcS [.int v2, .int 0, .int ((M.1 (10 + 5 * (Int32.toNatClampNeg v1)) 2) - 1)] (t_X10_within  ?_) mb_X10_within ms_X10_within lk_X10_82 rfl (by decide) rfl (Nat.le_of_ble_eq_true rfl) dX10_part_33
    show B_X10_part G K 36 [(4, .ref (10 + 5 * (Int32.toNatClampNeg v1))), (0, .ref 0), (1, .int v1), (2, .int v2), (3, .int v3)] [.int (bi (0 ≤ v2 ∧ v2 ≤ ((M.1 (10 + 5 * (Int32.toNatClampNeg v1)) 2) - 1)))] M
    refine BT.if_ne (tgt := 41) dX10_part_36 (by decide) (fun c => ?_) (fun c => ?_)
    · have c5 := bi_ne0.mp c
      refine BT.iload_n dX10_part_41 rfl 4 rfl ?_
      refine BT.iconst (v := 0) dX10_part_42 (by decide) ?_
      refine BT.iconst (v := 1) dX10_part_43 (by decide) ?_
      refine BT.mcS [.int v3, .int 0, .int 1] (t_X10_within  ?_) mb_X10_within ms_X10_within lk_X10_82 rfl (by decide) rfl (Nat.le_of_ble_eq_true rfl) dX10_part_44
      show B_X10_part G K 47 [(4, .ref (10 + 5 * (Int32.toNatClampNeg v1))), (0, .ref 0), (1, .int v1), (2, .int v2), (3, .int v3)] [.int (bi (0 ≤ v3 ∧ v3 ≤ 1))] M
      refine BT.if_ne (tgt := 53) dX10_part_47 (by decide) (fun c => ?_) (fun c => ?_)
      · have c8 := bi_ne0.mp c
        refine BT.iload_n dX10_part_53 rfl 4 rfl ?_
        refine BT.if_ne (tgt := 67) dX10_part_54 (by decide) (fun c => ?_) (fun c => ?_)
        · have c10 := c
          refine BT.aload dX10_part_67 0 rfl ?_
          refine BT.getR (r := ((10 + 5 * (Int32.toNatClampNeg v1)) + 2)) fl_X10_160 (lawC8 (h.1 c2).1).1 rfl dX10_part_69 ?_
          refine BT.iload_n dX10_part_72 rfl 3 rfl ?_
          refine BT.iald (lawC8 (h.1 c2).1).2.2.1 ((((h.1 c2).2.1 c5).1 c8).1 c10).1 dX10_part_73 ?_
          exact BT.iret dX10_part_74 rfl (by decide) (by decide) ((((h.1 c2).2.1 c5).1 c8).1 c10).2
        · have c11 := c
          refine BT.aload dX10_part_57 0 rfl ?_
          refine BT.getR (r := ((10 + 5 * (Int32.toNatClampNeg v1)) + 1)) fl_X10_156 (lawC8 (h.1 c2).1).1 rfl dX10_part_59 ?_
          refine BT.iload_n dX10_part_62 rfl 3 rfl ?_
          refine BT.iald (lawC8 (h.1 c2).1).2.1 ((((h.1 c2).2.1 c5).1 c8).2 c11).1 dX10_part_63 ?_
          refine BT.goto (tgt := 74) dX10_part_64 (by decide) ?_
          exact BT.iret dX10_part_74 rfl (by decide) (by decide) ((((h.1 c2).2.1 c5).1 c8).2 c11).2
      · have c9 := bi_eq0.mp c
        refine BT.bipush (v := (-2)) dX10_part_50 (by decide) ?_
        exact BT.iret dX10_part_52 rfl (by decide) (by decide) (((h.1 c2).2.1 c5).2 c9)
    · have c6 := bi_eq0.mp c
      refine BT.iconst (v := (-1)) dX10_part_39 (by decide) ?_
      exact BT.iret dX10_part_40 rfl (by decide) (by decide) ((h.1 c2).2.2 c6)
  · have c3 := bi_eq0.mp c
    refine BT.iconst (v := (-1)) dX10_part_11 (by decide) ?_
    exact BT.iret dX10_part_12 rfl (by decide) (by decide) (h.2 c3)

theorem t_X10_part {G : GT} {K : Int32 → Mem → Prop} {M : Mem} {v1 v2 v3 : Int32} (hw : WOk (wv M)) (hq : ∀ l, l < w_n (wv M) → ∃ n, n ≤ 6 ∧ wv M (10 + 5 * l) 2 = nI n) (h : ∀ N, Sc10 M N → K (a_part (wv M) v1 v2 v3) N) : T_X10_part G [.ref 0, .int v1, .int v2, .int v3] M K := by
  refine e_X10_part (k_X10_part_0 ?_)
  unfold a_part at h
  rw [← wv_at (M := M) (c := 8) (k := 1) (by decide)]
  refine ⟨fun c => ?_, fun c => ?_⟩
  · rw [sel_t c] at h
    obtain ⟨i1, i2, i3⟩ := lw_ix hw c
    rw [← wv_at (M := M) (c := 10 + 5 * Int32.toNatClampNeg v1) (k := 2) (by omega), ← wv_at (M := M) (c := 10 + 5 * Int32.toNatClampNeg v1 + 2) (by omega), ← wv_at (M := M) (c := 10 + 5 * Int32.toNatClampNeg v1 + 1) (by omega)]
    refine ⟨vp8 i2 i3, fun c2 => ?_, fun c2 => ?_⟩
    · rw [sel_t c2] at h
      obtain ⟨n, hn, en⟩ := hq _ i1
      obtain ⟨j, hj, ej⟩ := i_le1 c2.1 (by rw [← en]; exact c2.2) (by omega)
      have vp : vp_in v2 6 := by rw [ej]; exact vp_nI (by omega) (by decide)
      refine ⟨fun c3 => ⟨fun c4 => ⟨vp, ?_⟩, fun c4 => ⟨vp, ?_⟩⟩, fun c3 => ?_⟩
      · rw [sel_t c3, sel_f c4] at h; exact h _ Sc10.rf
      · rw [sel_t c3, sel_t c4] at h; exact h _ Sc10.rf
      · rw [sel_f c3] at h; exact h _ Sc10.rf
    · rw [sel_f c2] at h; exact h _ Sc10.rf
  · rw [sel_f c] at h; exact h _ Sc10.rf

