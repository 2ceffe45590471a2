/-! ===== 19.survey ===== -/
/-- the world with a piece that could be -/
def w_cb (W : WT) (d m : Int32) : WT := fun c k => if c = 174 then (if k = 0 then d else if k = 1 then -6 else if k = 2 then -6 else if k = 3 then m else if k = 4 then -6 else W c k) else W c k
/-- all scratch, and the piece that could be -/
def Sc10 (M N : Mem) : Prop := (∀ c, ¬ (166 ≤ c ∧ c ≤ 174) → N.1 c = M.1 c) ∧ ∀ k, 5 ≤ k → N.1 174 k = M.1 174 k
theorem Sc10.rf {M : Mem} : Sc10 M M := ⟨fun _ _ => rfl, fun _ _ => rfl⟩
theorem Sc10.same {M N P : Mem} (h : Sc10 M N) (h2 : Sc9 N P) : Sc10 M P := ⟨fun c hc => (h2 c (by omega)).trans (h.1 c hc), fun k hk => by rw [h2 174 (by decide)]; exact h.2 k hk⟩
theorem Sc10.begin {M N : Mem} (h : Sc10 M N) (d m : Int32) : Sc10 M (c_begin N 174 d m) ∧ wv (c_begin N 174 d m) = w_cb (wv M) d m := by
  have off : ∀ c, ¬ c = 174 → (c_begin N 174 d m).1 c = N.1 c := by
    intro c hc
    unfold c_begin
    rw [mi_off hc, mi_off hc, mi_off hc, mi_off hc, mi_off hc]
  have at5 : ∀ k, 5 ≤ k → (c_begin N 174 d m).1 174 k = N.1 174 k := by
    intro k hk
    unfold c_begin
    rw [m_i_ne (by omega), m_i_ne (by omega), m_i_ne (by omega), m_i_ne (by omega), m_i_ne (by omega)]
  refine ⟨⟨fun c hc => (off c (by omega)).trans (h.1 c hc), fun k hk => (at5 k hk).trans (h.2 k hk)⟩, ?_⟩
  funext c k
  unfold w_cb
  by_cases hc : c = 174
  · subst hc
    rw [wv_at (by decide), if_pos rfl]
    by_cases h5 : 5 ≤ k
    · rw [at5 k h5, h.2 k h5, if_neg (by omega), if_neg (by omega), if_neg (by omega), if_neg (by omega), if_neg (by omega), wv_at (by decide)]
    · unfold c_begin
      match k, h5 with
      | 0, _ => simp [m_i]
      | 1, _ => simp [m_i]
      | 2, _ => simp [m_i]
      | 3, _ => simp [m_i]
      | 4, _ => simp [m_i]
      | k + 5, h => exact absurd (by omega) h
  · rw [if_neg hc]
    by_cases hd : c < 60 ∨ c = 174
    · rw [wv_at hd, wv_at hd, off c hc, h.1 c (by omega)]
    · exact (if_neg hd).trans (if_neg hd).symm
theorem w_ok_congr {W V : WT} (h : ∀ c, c < 60 → W c = V c) (hw : WOk W) : WOk V := by
  have h8 : W 8 = V 8 := h 8 (by decide)
  unfold WOk BOk w_n w_p at *
  rw [← h8, ← h 50 (by decide)]
  refine ⟨hw.1, hw.2.1, hw.2.2.1, fun i hi => ?_⟩
  rw [← h (52 + i) (by have := hw.2.1.2; omega)]
  exact hw.2.2.2 i hi
theorem w_turns_congr {W V : WT} (h : ∀ c, c < 60 → W c = V c) (hn : w_n W ≤ 8) (d : Int32) : w_turns W d ↔ w_turns V d := by
  have e : w_n V = w_n W := by unfold w_n; rw [h 8 (by decide)]
  unfold w_turns
  rw [e]
  constructor
  · rintro ⟨l, hl, q⟩
    exact ⟨l, hl, by rw [← h (10 + 5 * l) (by omega)]; exact q⟩
  · rintro ⟨l, hl, q⟩
    exact ⟨l, hl, by rw [h (10 + 5 * l) (by omega)]; exact q⟩
theorem Sc10.low {M N : Mem} (h : Sc10 M N) : ∀ c, c < 60 → wv N c = wv M c := by
  intro c hc
  funext k
  rw [wv_at (Or.inl hc), wv_at (Or.inl hc), h.1 c (by omega)]
noncomputable def su_in (W : WT) (d day : Int32) : Nat → Int64 × Int64 → Int64 × Int64
  | 0, s => s
  | m + 1, s => a_put (su_in W d day m s) (w_given (w_cb W d (nI m)) 174 day)
noncomputable def su (W : WT) (day : Int32) : Nat → Int64 × Int64
  | 0 => (0, 0)
  | d + 1 => sel (d = 0 ∨ w_turns W (nI d)) (su_in W (nI d) day 32 (su W day d)) (su W day d)
noncomputable def fu_in (W : WT) (d day : Int32) : Nat → Option Int32
  | 0 => none
  | k + 1 => sel (w_gov (w_cb W d (nI (31 - k))) 174 day = -6) (some (100 * d + nI (31 - k))) (fu_in W d day k)
noncomputable def fu (W : WT) (day : Int32) (D : Nat) : Nat → Option Int32
  | 0 => none
  | k + 1 => sel (D - k = 0 ∨ w_turns W (nI (D - k))) ((fu_in W (nI (D - k)) day 32).elim (fu W day D k) some) (fu W day D k)

/-! BetweenLaws$Survey.unlike(I)I -/
abbrev rm_X8_unlike : Room := { frames := 5, cells := 0, slots := 0, locals := 126 }
abbrev B_X8_unlike (G : GT) (K : Int32 → Mem → Prop) := BT G (Rep G) RX8 "unlike" cX8_unlike 4 (some .int) rm_X8_unlike K 0 0
abbrev T_X8_unlike (G : GT) (as : List Value) (M : Mem) (K : Int32 → Mem → Prop) : Prop := MT G (Rep G) yX8_unlike cX8_unlike 4 (some .int) rm_X8_unlike as M K
theorem e_X8_unlike {G : GT} {K : Int32 → Mem → Prop} {M : Mem} {v1 : Int32} (h : B_X8_unlike G K 0 [(0, .ref 173), (1, .int v1)] [] M) : T_X8_unlike G [.ref 173, .int v1] M K := MT.of (by decide +kernel) rfl rfl (Nat.le_of_ble_eq_true rfl) rfl h
set_option maxRecDepth 4000 in
theorem k_X8_unlike_0 {G : GT} {K : Int32 → Mem → Prop} {M : Mem} {v1 : Int32} (h : (∀ N1 : Mem, (N1.1 = M.1 ∧ c_ans N1 = (0, 0)) → B_X8_unlike G K 9 [(0, .ref 173), (1, .int v1), (2, .int 0)] [] N1)) : B_X8_unlike G K 0 [(0, .ref 173), (1, .int v1)] [] M := by
  refine BT.aload_n dX8_unlike_0 rfl 0 rfl ?_
  refine BT.getR (r := 166) fl_X8_19 ho_173 rfl dX8_unlike_1 ?_
  refine BT.mcVvp [] (t_X0_clear  (fun N hN => ⟨rfl, hN⟩)) mb_X0_clear mv_X0_clear lk_X8_30 rfl (by decide) rfl (recvRep ho_166 rfl) (Nat.le_of_ble_eq_true rfl) dX8_unlike_4 (P := fun N1 => N1.1 = M.1 ∧ c_ans N1 = (0, 0)) (fun N1 g1 => ?_)
  show B_X8_unlike G K 7 [(0, .ref 173), (1, .int v1)] [] N1
  refine BT.iconst (v := 0) dX8_unlike_7 (by decide) ?_
  refine BT.istore_n (L' := [(2, .int 0), (0, .ref 173), (1, .int v1)]) dX8_unlike_8 rfl (by decide) rfl ?_
  refine BT.sub [1, 2, 0] rfl ?_
  exact (h N1 g1)
set_option maxRecDepth 4000 in
theorem k_X8_unlike_9 {G : GT} {K : Int32 → Mem → Prop} {M : Mem} {v1 : Int32} {v2 : Int32} (h : (v1 < v2 → (∀ r3 : Int32, r3 = (l_bc (c_ans M).1 + l_bc (c_ans M).2) → K r3 M)) ∧ (¬ v1 < v2 → (v2 ≤ 0 → B_X8_unlike G K 34 [(0, .ref 173), (1, .int v1), (2, .int v2), (3, .int 0)] [] M) ∧ (¬ v2 ≤ 0 → (WOk (wv M)) ∧ ((w_turns (wv M) v2) → B_X8_unlike G K 34 [(0, .ref 173), (1, .int v1), (2, .int v2), (3, .int 0)] [] M) ∧ (¬ (w_turns (wv M) v2) → B_X8_unlike G K 9 [(0, .ref 173), (1, .int v1), (2, .int (v2 + 1))] [] M)))) : B_X8_unlike G K 9 [(0, .ref 173), (1, .int v1), (2, .int v2)] [] M := by
  refine BT.iload_n dX8_unlike_9 rfl 2 rfl ?_
  refine BT.iload_n dX8_unlike_10 rfl 1 rfl ?_
  refine BT.icmp_gt (tgt := 80) dX8_unlike_11 (by decide) (fun c => ?_) (fun c => ?_)
  · have c1 := c
    refine BT.aload_n dX8_unlike_80 rfl 0 rfl ?_
    refine BT.getR (r := 166) fl_X8_19 ho_173 rfl dX8_unlike_81 ?_
    refine BT.mcVr [] (t_X0_count  ⟨rfl, rfl⟩) mb_X0_count mv_X0_count lk_X8_55 rfl (by decide) rfl (recvRep ho_166 rfl) (Nat.le_of_ble_eq_true rfl) dX8_unlike_84 (fun r3 e3 => ?_)
    show B_X8_unlike G K 87 [(0, .ref 173), (1, .int v1), (2, .int v2)] [.int r3] M
    exact BT.iret dX8_unlike_87 rfl (by decide) (by decide) ((h.1 c1) r3 e3)
  · have c2 := c
    refine BT.iload_n dX8_unlike_14 rfl 2 rfl ?_
    refine BT.if_le (tgt := 32) dX8_unlike_15 (by decide) (fun c => ?_) (fun c => ?_)
    · have c4 := c
      refine BT.iconst (v := 0) dX8_unlike_32 (by decide) ?_
      refine BT.istore_n (L' := [(3, .int 0), (0, .ref 173), (1, .int v1), (2, .int v2)]) dX8_unlike_33 rfl (by decide) rfl ?_
      refine BT.sub [1, 2, 3, 0] rfl ?_
      exact ((h.2 c2).1 c4)
    · have c5 := c
      refine BT.aload_n dX8_unlike_18 rfl 0 rfl ?_
      refine BT.getR (r := 8) fl_X8_9 ho_173 rfl dX8_unlike_19 ?_
      refine BT.iload_n dX8_unlike_22 rfl 2 rfl ?_
      refine BT.mcV [.int v2] (t_X9_turnsOn ((h.2 c2).2 c5).1 ?_) mb_X9_turnsOn mv_X9_turnsOn lk_X8_35 rfl (by decide) rfl (recvRep ho_8 rfl) (Nat.le_of_ble_eq_true rfl) dX8_unlike_23
      show B_X8_unlike G K 26 [(0, .ref 173), (1, .int v1), (2, .int v2)] [.int (bi (w_turns (wv M) v2))] M
      refine BT.if_ne (tgt := 32) dX8_unlike_26 (by decide) (fun c => ?_) (fun c => ?_)
      · have c7 := bi_ne0.mp c
        refine BT.iconst (v := 0) dX8_unlike_32 (by decide) ?_
        refine BT.istore_n (L' := [(3, .int 0), (0, .ref 173), (1, .int v1), (2, .int v2)]) dX8_unlike_33 rfl (by decide) rfl ?_
        refine BT.sub [1, 2, 3, 0] rfl ?_
        exact (((h.2 c2).2 c5).2.1 c7)
      · have c8 := bi_eq0.mp c
        refine BT.goto (tgt := 74) dX8_unlike_29 (by decide) ?_
        refine BT.iinc (j := 2) (v := (v2 + 1)) (L' := [(2, .int (v2 + 1)), (0, .ref 173), (1, .int v1)]) dX8_unlike_74 rfl rfl (by decide) rfl ?_
        refine BT.goto (tgt := 9) dX8_unlike_77 (by decide) ?_
        refine BT.sub [1, 2, 0] rfl ?_
        exact (((h.2 c2).2 c5).2.2 c8)
set_option maxRecDepth 4000 in
theorem k_X8_unlike_34 {G : GT} {K : Int32 → Mem → Prop} {M : Mem} {v1 : Int32} {v2 : Int32} {v3 : Int32} (h : (32 ≤ v3 → B_X8_unlike G K 9 [(0, .ref 173), (1, .int v1), (2, .int (v2 + 1))] [] M) ∧ (¬ 32 ≤ v3 → (∀ N3 : Mem, N3 = (c_begin M 174 v2 v3) → (174 < 60 ∨ 174 = 174) ∧ (WOk (wv N3)) ∧ (∀ r4 : Int32, r4 = (w_given (wv N3) 174 v1) → ∀ N4 : Mem, (Scr N3 N4) → (∀ N5 : Mem, (N5.1 = N4.1 ∧ c_ans N5 = a_put (c_ans N4) r4) → B_X8_unlike G K 34 [(0, .ref 173), (1, .int v1), (2, .int v2), (3, .int (v3 + 1))] [] N5))))) : B_X8_unlike G K 34 [(0, .ref 173), (1, .int v1), (2, .int v2), (3, .int v3)] [] M := by
  refine BT.iload_n dX8_unlike_34 rfl 3 rfl ?_
  refine BT.bipush (v := 32) dX8_unlike_35 (by decide) ?_
  refine BT.icmp_ge (tgt := 74) dX8_unlike_37 (by decide) (fun c => ?_) (fun c => ?_)
  · have c1 := c
    refine BT.iinc (j := 2) (v := (v2 + 1)) (L' := [(2, .int (v2 + 1)), (0, .ref 173), (1, .int v1), (3, .int v3)]) dX8_unlike_74 rfl rfl (by decide) rfl ?_
    refine BT.goto (tgt := 9) dX8_unlike_77 (by decide) ?_
    refine BT.sub [1, 2, 0] rfl ?_
    exact (h.1 c1)
  · have c2 := c
    refine BT.aload_n dX8_unlike_40 rfl 0 rfl ?_
    refine BT.getR (r := 174) fl_X8_26 ho_173 rfl dX8_unlike_41 ?_
    refine BT.iload_n dX8_unlike_44 rfl 2 rfl ?_
    refine BT.iload_n dX8_unlike_45 rfl 3 rfl ?_
    refine BT.mcVvm [.int v2, .int v3] (t_X6_begin pieceC_174 ⟨rfl, rfl⟩) mb_X6_begin mv_X6_begin lk_X8_41 rfl (by decide) rfl (recvRep ho_174 rfl) (Nat.le_of_ble_eq_true rfl) dX8_unlike_46 (fun N3 g3 => ?_)
    show B_X8_unlike G K 49 [(0, .ref 173), (1, .int v1), (2, .int v2), (3, .int v3)] [] N3
    refine BT.aload_n dX8_unlike_49 rfl 0 rfl ?_
    refine BT.getR (r := 166) fl_X8_19 ho_173 rfl dX8_unlike_50 ?_
    refine BT.aload_n dX8_unlike_53 rfl 0 rfl ?_
    refine BT.getR (r := 167) fl_X8_15 ho_173 rfl dX8_unlike_54 ?_
    refine BT.aload_n dX8_unlike_57 rfl 0 rfl ?_
    refine BT.getR (r := 174) fl_X8_26 ho_173 rfl dX8_unlike_58 ?_
    refine BT.iload_n dX8_unlike_61 rfl 1 rfl ?_
    refine BT.mcVp [.ref 174, .int v1] (t_X2_given pieceC_174 ((h.2 c2) N3 g3).1 ((h.2 c2) N3 g3).2.1 (fun N hN => ⟨rfl, hN⟩)) mb_X2_given mv_X2_given lk_X8_45 rfl (by decide) rfl (recvRep ho_167 rfl) (Nat.le_of_ble_eq_true rfl) dX8_unlike_62 (P := fun N4 => Scr N3 N4) (fun r4 e4 N4 g4 => ?_)
    show B_X8_unlike G K 65 [(0, .ref 173), (1, .int v1), (2, .int v2), (3, .int v3)] [.int r4, .ref 166] N4
    refine BT.mcVvp [.int r4] (t_X0_put  (fun N hN => ⟨rfl, hN⟩)) mb_X0_put mv_X0_put lk_X8_51 rfl (by decide) rfl (recvRep ho_166 rfl) (Nat.le_of_ble_eq_true rfl) dX8_unlike_65 (P := fun N5 => N5.1 = N4.1 ∧ c_ans N5 = a_put (c_ans N4) r4) (fun N5 g5 => ?_)
    show B_X8_unlike G K 68 [(0, .ref 173), (1, .int v1), (2, .int v2), (3, .int v3)] [] N5
    refine BT.iinc (j := 3) (v := (v3 + 1)) (L' := [(3, .int (v3 + 1)), (0, .ref 173), (1, .int v1), (2, .int v2)]) dX8_unlike_68 rfl rfl (by decide) rfl ?_
    refine BT.goto (tgt := 34) dX8_unlike_71 (by decide) ?_
    refine BT.sub [1, 2, 3, 0] rfl ?_
    exact ((((h.2 c2) N3 g3).2.2 r4 e4 N4 g4) N5 g5)

theorem t_X8_unlike {G : GT} {K : Int32 → Mem → Prop} {M : Mem} {v1 : Int32} (hd : ∃ D, D < 100 ∧ v1 = nI D) (hw : WOk (wv M)) (h : ∀ N, Sc10 M N → K (l_bc (su (wv M) v1 (Int32.toNatClampNeg v1 + 1)).1 + l_bc (su (wv M) v1 (Int32.toNatClampNeg v1 + 1)).2) N) : T_X8_unlike G [.ref 173, .int v1] M K := by
  obtain ⟨D, hD, rfl⟩ := hd
  rw [ix_nI (by omega)] at h
  have h8 := hw.1.2
  refine e_X8_unlike (k_X8_unlike_0 (fun N1 g1 => ?_))
  have s1 : Sc10 M N1 := Sc10.rf.same (fun c _ => by rw [g1.1])
  refine up_loop (P := fun j => ∀ N, Sc10 M N → c_ans N = su (wv M) (nI D) j → B_X8_unlike G K 9 [(0, .ref 173), (1, .int (nI D)), (2, .int (nI j))] [] N) (D + 1) (fun N hN hA => ?_) (fun j hj ih N hN hA => ?_) 0 (Nat.zero_le _) N1 s1 g1.2
  · refine k_X8_unlike_9 ⟨fun _ r3 e3 => ?_, fun c => absurd (nI_lt (by omega) (by omega)) c⟩
    rw [e3, hA]
    exact h N hN
  · have hwN : WOk (wv N) := w_ok_congr (fun c hc => (hN.low c hc).symm) hw
    have et := w_turns_congr (W := wv M) (V := wv N) (fun c hc => (hN.low c hc).symm) h8 (nI j)
    have inner : (j = 0 ∨ w_turns (wv M) (nI j)) → B_X8_unlike G K 34 [(0, .ref 173), (1, .int (nI D)), (2, .int (nI j)), (3, .int 0)] [] N := by
      intro hq
      rw [su, sel_t hq] at ih
      refine up_loop (P := fun m => ∀ N', Sc10 M N' → c_ans N' = su_in (wv M) (nI j) (nI D) m (su (wv M) (nI D) j) → B_X8_unlike G K 34 [(0, .ref 173), (1, .int (nI D)), (2, .int (nI j)), (3, .int (nI m))] [] N') 32 (fun N' hN' hA' => ?_) (fun m hm ihm N' hN' hA' => ?_) 0 (Nat.zero_le _) N hN hA
      · exact k_X8_unlike_34 ⟨fun _ => by rw [nI_1]; exact ih N' hN' hA', fun c => absurd (Int32.le_refl _) c⟩
      · obtain ⟨b1, b2⟩ := hN'.begin (nI j) (nI m)
        refine k_X8_unlike_34 ⟨fun c => absurd c (Int32.not_le.mpr (nI_lt hm (by decide))), fun _ N3 e3 => ?_⟩
        rw [← e3] at b1 b2
        refine ⟨Or.inr rfl, by rw [b2]; exact w_ok_congr (fun c hc => by funext k; unfold w_cb; rw [if_neg (by omega)]) hw, fun r4 e4 N4 g4 N5 g5 => ?_⟩
        rw [nI_1]
        refine ihm N5 (b1.same (fun c hc => by rw [g5.1]; exact g4.s9 c hc)) ?_
        rw [g5.2, e4, b2, su_in, ← hA']
        congr 1
        unfold c_ans
        rw [g4.2, e3]
        rfl
    have skip : ¬ (j = 0 ∨ w_turns (wv M) (nI j)) → B_X8_unlike G K 9 [(0, .ref 173), (1, .int (nI D)), (2, .int (nI j + 1))] [] N := by
      intro hq
      rw [nI_1]
      refine ih N hN ?_
      rw [su, sel_f hq, hA]
    refine k_X8_unlike_9 ⟨fun c => absurd c (nI_nlt (by omega) (by omega)), fun _ => ⟨fun c => inner (Or.inl ?_), fun c => ⟨hwN, fun c1 => inner (Or.inr (et.mpr c1)), fun c1 => skip (fun q => ?_)⟩⟩⟩
    · have : j ≤ 0 := (nI_leI (by omega) (by decide)).mp c
      omega
    · rcases q with q | q
      · exact c (by rw [q]; decide)
      · exact c1 (et.mp q)

/-! BetweenLaws$Survey.firstUngoverned(I)I -/
abbrev rm_X8_firstUngoverned : Room := { frames := 4, cells := 0, slots := 0, locals := 100 }
abbrev B_X8_firstUngoverned (G : GT) (K : Int32 → Mem → Prop) := BT G (Rep G) RX8 "firstUngoverned" cX8_firstUngoverned 4 (some .int) rm_X8_firstUngoverned K 0 0
abbrev T_X8_firstUngoverned (G : GT) (as : List Value) (M : Mem) (K : Int32 → Mem → Prop) : Prop := MT G (Rep G) yX8_firstUngoverned cX8_firstUngoverned 4 (some .int) rm_X8_firstUngoverned as M K
theorem e_X8_firstUngoverned {G : GT} {K : Int32 → Mem → Prop} {M : Mem} {v1 : Int32} (h : B_X8_firstUngoverned G K 0 [(0, .ref 173), (1, .int v1)] [] M) : T_X8_firstUngoverned G [.ref 173, .int v1] M K := MT.of (by decide +kernel) rfl rfl (Nat.le_of_ble_eq_true rfl) rfl h
set_option maxRecDepth 4000 in
theorem k_X8_firstUngoverned_0 {G : GT} {K : Int32 → Mem → Prop} {M : Mem} {v1 : Int32} (h : B_X8_firstUngoverned G K 2 [(0, .ref 173), (1, .int v1), (2, .int 0)] [] M) : B_X8_firstUngoverned G K 0 [(0, .ref 173), (1, .int v1)] [] M := by
  refine BT.iconst (v := 0) dX8_firstUngoverned_0 (by decide) ?_
  refine BT.istore_n (L' := [(2, .int 0), (0, .ref 173), (1, .int v1)]) dX8_firstUngoverned_1 rfl (by decide) rfl ?_
  refine BT.sub [1, 2, 0] rfl ?_
  exact h
set_option maxRecDepth 4000 in
theorem k_X8_firstUngoverned_2 {G : GT} {K : Int32 → Mem → Prop} {M : Mem} {v1 : Int32} {v2 : Int32} (h : (v1 < v2 → K (-6) M) ∧ (¬ v1 < v2 → (v2 ≤ 0 → B_X8_firstUngoverned G K 27 [(0, .ref 173), (1, .int v1), (2, .int v2), (3, .int 0)] [] M) ∧ (¬ v2 ≤ 0 → (WOk (wv M)) ∧ ((w_turns (wv M) v2) → B_X8_firstUngoverned G K 27 [(0, .ref 173), (1, .int v1), (2, .int v2), (3, .int 0)] [] M) ∧ (¬ (w_turns (wv M) v2) → B_X8_firstUngoverned G K 2 [(0, .ref 173), (1, .int v1), (2, .int (v2 + 1))] [] M)))) : B_X8_firstUngoverned G K 2 [(0, .ref 173), (1, .int v1), (2, .int v2)] [] M := by
  refine BT.iload_n dX8_firstUngoverned_2 rfl 2 rfl ?_
  refine BT.iload_n dX8_firstUngoverned_3 rfl 1 rfl ?_
  refine BT.icmp_gt (tgt := 78) dX8_firstUngoverned_4 (by decide) (fun c => ?_) (fun c => ?_)
  · have c1 := c
    refine BT.bipush (v := (-6)) dX8_firstUngoverned_78 (by decide) ?_
    exact BT.iret dX8_firstUngoverned_80 rfl (by decide) (by decide) (h.1 c1)
  · have c2 := c
    refine BT.iload_n dX8_firstUngoverned_7 rfl 2 rfl ?_
    refine BT.if_le (tgt := 25) dX8_firstUngoverned_8 (by decide) (fun c => ?_) (fun c => ?_)
    · have c3 := c
      refine BT.iconst (v := 0) dX8_firstUngoverned_25 (by decide) ?_
      refine BT.istore_n (L' := [(3, .int 0), (0, .ref 173), (1, .int v1), (2, .int v2)]) dX8_firstUngoverned_26 rfl (by decide) rfl ?_
      refine BT.sub [1, 2, 3, 0] rfl ?_
      exact ((h.2 c2).1 c3)
    · have c4 := c
      refine BT.aload_n dX8_firstUngoverned_11 rfl 0 rfl ?_
      refine BT.getR (r := 8) fl_X8_9 ho_173 rfl dX8_firstUngoverned_12 ?_
      refine BT.iload_n dX8_firstUngoverned_15 rfl 2 rfl ?_
      refine BT.mcV [.int v2] (t_X9_turnsOn ((h.2 c2).2 c4).1 ?_) mb_X9_turnsOn mv_X9_turnsOn lk_X8_35 rfl (by decide) rfl (recvRep ho_8 rfl) (Nat.le_of_ble_eq_true rfl) dX8_firstUngoverned_16
      show B_X8_firstUngoverned G K 19 [(0, .ref 173), (1, .int v1), (2, .int v2)] [.int (bi (w_turns (wv M) v2))] M
      refine BT.if_ne (tgt := 25) dX8_firstUngoverned_19 (by decide) (fun c => ?_) (fun c => ?_)
      · have c6 := bi_ne0.mp c
        refine BT.iconst (v := 0) dX8_firstUngoverned_25 (by decide) ?_
        refine BT.istore_n (L' := [(3, .int 0), (0, .ref 173), (1, .int v1), (2, .int v2)]) dX8_firstUngoverned_26 rfl (by decide) rfl ?_
        refine BT.sub [1, 2, 3, 0] rfl ?_
        exact (((h.2 c2).2 c4).2.1 c6)
      · have c7 := bi_eq0.mp c
        refine BT.goto (tgt := 72) dX8_firstUngoverned_22 (by decide) ?_
        refine BT.iinc (j := 2) (v := (v2 + 1)) (L' := [(2, .int (v2 + 1)), (0, .ref 173), (1, .int v1)]) dX8_firstUngoverned_72 rfl rfl (by decide) rfl ?_
        refine BT.goto (tgt := 2) dX8_firstUngoverned_75 (by decide) ?_
        refine BT.sub [1, 2, 0] rfl ?_
        exact (((h.2 c2).2 c4).2.2 c7)
set_option maxRecDepth 4000 in
theorem k_X8_firstUngoverned_27 {G : GT} {K : Int32 → Mem → Prop} {M : Mem} {v1 : Int32} {v2 : Int32} {v3 : Int32} (h : (32 ≤ v3 → B_X8_firstUngoverned G K 2 [(0, .ref 173), (1, .int v1), (2, .int (v2 + 1))] [] M) ∧ (¬ 32 ≤ v3 → (∀ N3 : Mem, N3 = (c_begin M 174 v2 v3) → (174 < 60 ∨ 174 = 174) ∧ (WOk (wv N3)) ∧ (∀ r4 : Int32, r4 = (w_gov (wv N3) 174 v1) → ∀ N4 : Mem, (Scr N3 N4 ∧ N4.1 167 1 = (w_gov2 (wv N3) 174 v1).2) → (¬ r4 = (-6) → B_X8_firstUngoverned G K 27 [(0, .ref 173), (1, .int v1), (2, .int v2), (3, .int (v3 + 1))] [] N4) ∧ (r4 = (-6) → K (((100 : Int32) * v2) + v3) N4))))) : B_X8_firstUngoverned G K 27 [(0, .ref 173), (1, .int v1), (2, .int v2), (3, .int v3)] [] M := by
  refine BT.iload_n dX8_firstUngoverned_27 rfl 3 rfl ?_
  refine BT.bipush (v := 32) dX8_firstUngoverned_28 (by decide) ?_
  refine BT.icmp_ge (tgt := 72) dX8_firstUngoverned_30 (by decide) (fun c => ?_) (fun c => ?_)
  · have c1 := c
    refine BT.iinc (j := 2) (v := (v2 + 1)) (L' := [(2, .int (v2 + 1)), (0, .ref 173), (1, .int v1), (3, .int v3)]) dX8_firstUngoverned_72 rfl rfl (by decide) rfl ?_
    refine BT.goto (tgt := 2) dX8_firstUngoverned_75 (by decide) ?_
    refine BT.sub [1, 2, 0] rfl ?_
    exact (h.1 c1)
  · have c2 := c
    refine BT.aload_n dX8_firstUngoverned_33 rfl 0 rfl ?_
    refine BT.getR (r := 174) fl_X8_26 ho_173 rfl dX8_firstUngoverned_34 ?_
    refine BT.iload_n dX8_firstUngoverned_37 rfl 2 rfl ?_
    refine BT.iload_n dX8_firstUngoverned_38 rfl 3 rfl ?_
    refine BT.mcVvm [.int v2, .int v3] (t_X6_begin pieceC_174 ⟨rfl, rfl⟩) mb_X6_begin mv_X6_begin lk_X8_41 rfl (by decide) rfl (recvRep ho_174 rfl) (Nat.le_of_ble_eq_true rfl) dX8_firstUngoverned_39 (fun N3 g3 => ?_)
    show B_X8_firstUngoverned G K 42 [(0, .ref 173), (1, .int v1), (2, .int v2), (3, .int v3)] [] N3
    refine BT.aload_n dX8_firstUngoverned_42 rfl 0 rfl ?_
    refine BT.getR (r := 167) fl_X8_15 ho_173 rfl dX8_firstUngoverned_43 ?_
    refine BT.aload_n dX8_firstUngoverned_46 rfl 0 rfl ?_
    refine BT.getR (r := 174) fl_X8_26 ho_173 rfl dX8_firstUngoverned_47 ?_
    refine BT.iload_n dX8_firstUngoverned_50 rfl 1 rfl ?_
    refine BT.mcVp [.ref 174, .int v1] (t_X2_governor pieceC_174 ((h.2 c2) N3 g3).1 ((h.2 c2) N3 g3).2.1 (fun N hN => ⟨rfl, hN⟩)) mb_X2_governor mv_X2_governor lk_X8_59 rfl (by decide) rfl (recvRep ho_167 rfl) (Nat.le_of_ble_eq_true rfl) dX8_firstUngoverned_51 (P := fun N4 => Scr N3 N4 ∧ N4.1 167 1 = (w_gov2 (wv N3) 174 v1).2) (fun r4 e4 N4 g4 => ?_)
    show B_X8_firstUngoverned G K 54 [(0, .ref 173), (1, .int v1), (2, .int v2), (3, .int v3)] [.int r4] N4
    refine BT.bipush (v := (-6)) dX8_firstUngoverned_54 (by decide) ?_
    refine BT.icmp_ne (tgt := 66) dX8_firstUngoverned_56 (by decide) (fun c => ?_) (fun c => ?_)
    · have c5 := c
      refine BT.iinc (j := 3) (v := (v3 + 1)) (L' := [(3, .int (v3 + 1)), (0, .ref 173), (1, .int v1), (2, .int v2)]) dX8_firstUngoverned_66 rfl rfl (by decide) rfl ?_
      refine BT.goto (tgt := 27) dX8_firstUngoverned_69 (by decide) ?_
      refine BT.sub [1, 2, 3, 0] rfl ?_
      exact ((((h.2 c2) N3 g3).2.2 r4 e4 N4 g4).1 c5)
    · have c6 := c
      refine BT.bipush (v := 100) dX8_firstUngoverned_59 (by decide) ?_
      refine BT.iload_n dX8_firstUngoverned_61 rfl 2 rfl ?_
      refine BT.imul dX8_firstUngoverned_62 ?_
      refine BT.iload_n dX8_firstUngoverned_63 rfl 3 rfl ?_
      refine BT.iadd dX8_firstUngoverned_64 ?_
      exact BT.iret dX8_firstUngoverned_65 rfl (by decide) (by decide) ((((h.2 c2) N3 g3).2.2 r4 e4 N4 g4).2 c6)

theorem t_X8_firstUngoverned {G : GT} {K : Int32 → Mem → Prop} {M : Mem} {v1 : Int32} (hd : ∃ D, D < 100 ∧ v1 = nI D) (hw : WOk (wv M)) (h : ∀ N, Sc10 M N → K ((fu (wv M) v1 (Int32.toNatClampNeg v1) (Int32.toNatClampNeg v1 + 1)).getD (-6)) N) : T_X8_firstUngoverned G [.ref 173, .int v1] M K := by
  obtain ⟨D, hD, rfl⟩ := hd
  rw [ix_nI (by omega)] at h
  have h8 := hw.1.2
  refine e_X8_firstUngoverned (k_X8_firstUngoverned_0 ?_)
  have key : ∀ (k : Nat) (N : Mem), k ≤ D + 1 → Sc10 M N → (∀ N', Sc10 M N' → K ((fu (wv M) (nI D) D k).getD (-6)) N') → B_X8_firstUngoverned G K 2 [(0, .ref 173), (1, .int (nI D)), (2, .int (nI (D + 1 - k)))] [] N := by
    intro k
    induction k with
    | zero =>
      intro N _ hN hk
      exact k_X8_firstUngoverned_2 ⟨fun _ => hk N hN, fun c => absurd (nI_lt (by omega) (by omega)) c⟩
    | succ k ih =>
      intro N hkD hN hk
      have ed : D + 1 - (k + 1) = D - k := by omega
      have hwN : WOk (wv N) := w_ok_congr (fun c hc => (hN.low c hc).symm) hw
      have et := w_turns_congr (W := wv M) (V := wv N) (fun c hc => (hN.low c hc).symm) h8 (nI (D - k))
      rw [ed]
      have nxt : nI (D - k) + 1 = nI (D + 1 - k) := by rw [nI_1, show D - k + 1 = D + 1 - k by omega]
      have inner : (D - k = 0 ∨ w_turns (wv M) (nI (D - k))) → B_X8_firstUngoverned G K 27 [(0, .ref 173), (1, .int (nI D)), (2, .int (nI (D - k))), (3, .int 0)] [] N := by
        intro hq
        rw [fu, sel_t hq] at hk
        have kin : ∀ (m : Nat) (N2 : Mem), m ≤ 32 → Sc10 M N2 → (∀ N', Sc10 M N' → K (((fu_in (wv M) (nI (D - k)) (nI D) m).elim (fu (wv M) (nI D) D k) some).getD (-6)) N') → B_X8_firstUngoverned G K 27 [(0, .ref 173), (1, .int (nI D)), (2, .int (nI (D - k))), (3, .int (nI (32 - m)))] [] N2 := by
          intro m
          induction m with
          | zero =>
            intro N2 _ hN2 hk2
            exact k_X8_firstUngoverned_27 ⟨fun _ => by rw [nxt]; exact ih N2 (by omega) hN2 hk2, fun c => absurd (Int32.le_refl _) c⟩
          | succ m ihm =>
            intro N2 hm hN2 hk2
            rw [show 32 - (m + 1) = 31 - m by omega]
            obtain ⟨b1, b2⟩ := hN2.begin (nI (D - k)) (nI (31 - m))
            refine k_X8_firstUngoverned_27 ⟨fun c => absurd c (Int32.not_le.mpr (nI_lt (show 31 - m < 32 by omega) (by decide))), fun _ N3 e3 => ?_⟩
            rw [← e3] at b1 b2
            rw [fu_in] at hk2
            refine ⟨Or.inr rfl, by rw [b2]; exact w_ok_congr (fun c hc => by funext k; unfold w_cb; rw [if_neg (by omega)]) hw, fun r4 e4 N4 g4 => ⟨fun c => ?_, fun c => ?_⟩⟩
            · rw [sel_f (by rw [← b2, ← e4]; exact c)] at hk2
              rw [nI_1, show 31 - m + 1 = 32 - m by omega]
              exact ihm N4 (by omega) (b1.same g4.1.s9) hk2
            · rw [sel_t (by rw [← b2, ← e4]; exact c)] at hk2
              exact hk2 N4 (b1.same g4.1.s9)
        exact kin 32 N (Nat.le_refl _) hN hk
      have skip : ¬ (D - k = 0 ∨ w_turns (wv M) (nI (D - k))) → B_X8_firstUngoverned G K 2 [(0, .ref 173), (1, .int (nI D)), (2, .int (nI (D - k) + 1))] [] N := by
        intro hq
        rw [fu, sel_f hq] at hk
        rw [nxt]
        exact ih N (by omega) hN hk
      refine k_X8_firstUngoverned_2 ⟨fun c => absurd c (nI_nlt (by omega) (by omega)), fun _ => ⟨fun c => inner (Or.inl ?_), fun c => ⟨hwN, fun c1 => inner (Or.inr (et.mpr c1)), fun c1 => skip (fun q => ?_)⟩⟩⟩
      · have : D - k ≤ 0 := (nI_leI (by omega) (by decide)).mp c
        omega
      · rcases q with q | q
        · exact c (by rw [q]; decide)
        · exact c1 (et.mp q)
  have := key (D + 1) M (Nat.le_refl _) Sc10.rf h
  rw [Nat.sub_self] at this
  exact this

