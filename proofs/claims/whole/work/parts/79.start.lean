/-! ===== the law, from its entry ===== -/
theorem cl_L_7 : Cond.classLink RL 7 RX10 ∈ aw_ws := aw_mem 80 (by decide +kernel) (by decide +kernel)
theorem cl_L_10 : Cond.classLink RL 10 RX11 ∈ aw_ws := aw_mem 966 (by decide +kernel) (by decide +kernel)
theorem ls_1 : Cond.laysStatic "BetweenLaws" "WAY_LETTERS" "[I" ∈ lw_tbl := List.mem_of_getElem? (i := 796) (by decide +kernel)
theorem ls_2 : Cond.laysStatic "BetweenLaws" "TIME_LETTERS" "[I" ∈ lw_tbl := List.mem_of_getElem? (i := 912) (by decide +kernel)
theorem law_lim {Ls i : Nat} (hL : Ls ≤ 2048) (hi : i ≤ Ls) (h : ¬ nI Ls - 4 < nI i) : i + 4 ≤ Ls := by
  by_cases q : 4 ≤ Ls
  · obtain ⟨a, rfl⟩ : ∃ a, Ls = a + 4 := ⟨Ls - 4, by omega⟩
    have e : nI (a + 4) - 4 = nI a := by
      rw [← nI_add]
      exact Int32.add_sub_cancel _ _
    rw [e, nI_ltI (by omega) (by omega)] at h
    omega
  · refine absurd (Int32.lt_of_lt_of_le ?_ (nI_pos' (show i < 2 ^ 31 by omega))) h
    match Ls, q with
    | 0, _ => decide
    | 1, _ => decide
    | 2, _ => decide
    | 3, _ => decide
    | n + 4, q => exact absurd (by omega) q
section LOOP
variable {G : GT} {p : Program} {e : Env} {s : State} {m : MethodId} {below : List Frame} {meth : Method} {c : Code} {bb Ls : Nat} {xs : Nat → Int32}
theorem law_loop (F : LCx G p s m meth c bb Ls xs) : ∀ f i, Ls ≤ i + f → i ≤ Ls → ∀ M, INV M → LwT G (Rep G) p e s m below meth c bb 199 3861 18 [(0, .float 1), (1, .ref 0), (2, .ref 175), (3, .int (nI i))] [] M := by
  have hL := F.2.2.2.2
  have head : ∀ i, i ≤ Ls → ∀ M, INV M → (i + 4 ≤ Ls → ∀ P, INV P → LwT G (Rep G) p e s m below meth c bb 199 3861 18 [(0, .float 1), (1, .ref 0), (2, .ref 175), (3, .int (nI (i + 4)))] [] P) → LwT G (Rep G) p e s m below meth c bb 199 3861 18 [(0, .float 1), (1, .ref 0), (2, .ref 175), (3, .int (nI i))] [] M := by
    intro i hi M hI next
    refine LwT.iload_n F dL_law_18 rfl 3 rfl ?_
    refine LwT.aloads F dL_law_19 rfl 0 rfl ?_
    refine LwT.slen F dL_law_20 ?_
    refine LwT.iconst (v := 4) F dL_law_21 (by decide) ?_
    refine LwT.isub F dL_law_22 ?_
    refine LwT.icmp_gt (tgt := 1346) F dL_law_23 (by decide) (fun _ => ?_) (fun q => ?_)
    · refine LwT.iconst (v := 1) F dL_law_1346 (by decide) ?_
      exact LwT.end_ F (Nat.le_of_ble_eq_true rfl) (Nat.le_of_ble_eq_true rfl) dL_law_1347
    · have hi4 := law_lim hL hi q
      have kk : ∀ P, INV P → LwT G (Rep G) p e s m below meth c bb 199 3861 1340 [(0, .float 1), (1, .ref 0), (2, .ref 175), (3, .int (nI i))] [] P := by
        intro P hP
        refine LwT.iinc (j := 3) (v := nI (i + 4)) (L' := [(3, .int (nI (i + 4))), (0, .float 1), (1, .ref 0), (2, .ref 175)]) F dL_law_1340 rfl (nI_add i 4) (by decide) rfl ?_
        refine LwT.goto (tgt := 18) F dL_law_1343 (by decide) ?_
        exact LwT.sub [1, 2, 3, 0] rfl (next hi4 P hP)
      refine LwT.aloads F dL_law_26 rfl 0 rfl ?_
      refine LwT.iload_n F dL_law_27 rfl 3 rfl ?_
      refine LwT.sald F (vp_nI (by omega) (by omega)) dL_law_28 ?_
      refine LwT.bipush (v := 63) F dL_law_29 (by decide) ?_
      refine LwT.iand F dL_law_31 ?_
      refine LwT.tsw (td := 1340) F dL_law_32 (by decide) (kk M hI) (fun j hj => ?_)
      match j, hj with
      | 0, _ => exact ⟨192, 160, rfl, by decide, lc_say F hi4 hI kk⟩
      | 1, _ => exact ⟨215, 183, rfl, by decide, lc_wipe F hi4 hI kk⟩
      | 2, _ => exact ⟨228, 196, rfl, by decide, lc_fault F hi4 hI kk⟩
      | 3, _ => exact ⟨241, 209, rfl, by decide, lc_law F hi4 hI kk⟩
      | 4, _ => exact ⟨274, 242, rfl, by decide, lc_anew F hi4 hI kk⟩
      | 5, _ => exact ⟨297, 265, rfl, by decide, lc_move F hi4 hI kk⟩
      | 6, _ => exact ⟨340, 308, rfl, by decide, lc_of F hi4 hI kk⟩
      | 7, _ => exact ⟨373, 341, rfl, by decide, lc_part F hi4 hI kk⟩
      | 8, _ => exact ⟨416, 384, rfl, by decide, lc_force F hi4 hI kk⟩
      | 9, _ => exact ⟨449, 417, rfl, by decide, lc_open F hi4 hI kk⟩
      | 10, _ => exact ⟨472, 440, rfl, by decide, lc_piece F hi4 hI kk⟩
      | 11, _ => exact ⟨505, 473, rfl, by decide, lc_about F hi4 hI kk⟩
      | 12, _ => exact ⟨538, 506, rfl, by decide, lc_change F hi4 hI kk⟩
      | 13, _ => exact ⟨581, 549, rfl, by decide, lc_set F hi4 hI kk⟩
      | 14, _ => exact ⟨614, 582, rfl, by decide, lc_meets F hi4 hI kk⟩
      | 15, _ => exact ⟨657, 625, rfl, by decide, lc_why F hi4 hI kk⟩
      | 16, _ => exact ⟨700, 668, rfl, by decide, lc_governs F hi4 hI kk⟩
      | 17, _ => exact ⟨733, 701, rfl, by decide, lc_those F hi4 hI kk⟩
      | 18, _ => exact ⟨766, 734, rfl, by decide, lc_gives F hi4 hI kk⟩
      | 19, _ => exact ⟨799, 767, rfl, by decide, lc_route F hi4 hI kk⟩
      | 20, _ => exact ⟨842, 810, rfl, by decide, lc_sum F hi4 hI kk⟩
      | 21, _ => exact ⟨865, 833, rfl, by decide, lc_passage F hi4 hI kk⟩
      | 22, _ => exact ⟨908, 876, rfl, by decide, lc_term F hi4 hI kk⟩
      | 23, _ => exact ⟨951, 919, rfl, by decide, lc_whole F hi4 hI kk⟩
      | 24, _ => exact ⟨984, 952, rfl, by decide, lc_taken F hi4 hI kk⟩
      | 25, _ => exact ⟨1007, 975, rfl, by decide, lc_brief F hi4 hI kk⟩
      | 26, _ => exact ⟨1030, 998, rfl, by decide, lc_caught F hi4 hI kk⟩
      | 27, _ => exact ⟨1053, 1021, rfl, by decide, lc_read F hi4 hI kk⟩
      | 28, _ => exact ⟨1096, 1064, rfl, by decide, lc_ways F hi4 hI kk⟩
      | 29, _ => exact ⟨1129, 1097, rfl, by decide, lc_hangs F hi4 hI kk⟩
      | 30, _ => exact ⟨1162, 1130, rfl, by decide, lc_wish F hi4 hI kk⟩
      | 31, _ => exact ⟨1195, 1163, rfl, by decide, lc_mend F hi4 hI kk⟩
      | 32, _ => exact ⟨1238, 1206, rfl, by decide, lc_all F hi4 hI kk⟩
      | 33, _ => exact ⟨1271, 1239, rfl, by decide, lc_image F hi4 hI kk⟩
      | 34, _ => exact ⟨1294, 1262, rfl, by decide, lc_restore F hi4 hI kk⟩
      | 35, _ => exact ⟨1317, 1285, rfl, by decide, lc_told F hi4 hI kk⟩
      | k + 36, h => exact absurd h (by omega)
  intro f
  induction f with
  | zero => exact fun i h1 h2 M hI => head i h2 M hI (fun h => absurd h (by omega))
  | succ f ih => exact fun i h1 h2 M hI => head i h2 M hI (fun h P hP => ih (i + 4) (by omega) h P hP)
end LOOP
theorem INV_0 : INV (m_i MZ 175 20 (-6)) := by
  have z : ∀ c k, ¬ (c = 175 ∧ k = 20) → (m_i MZ 175 20 (-6)).1 c k = 0 := fun c k h => m_i_ne h
  have w : ∀ c k, wv (m_i MZ 175 20 (-6)) c k = 0 := by
    intro c k
    unfold wv
    by_cases q : c < 60 ∨ c = 174
    · rw [if_pos q, z c k (by omega)]
    · rw [if_neg q]
  refine ⟨Tells_gen (n := 0) (p := 0) (w 8 1) (by omega) (w 8 4) (by omega) (Or.inl (w 8 7)) ⟨fun i h => absurd h (Nat.not_lt_zero i), fun i j _ h => absurd h (Nat.not_lt_zero j)⟩ (fun l h => absurd h (Nat.not_lt_zero l)) (fun q h => absurd h (Nat.not_lt_zero q)) ?_ ?_ ?_ ?_ ?_, ⟨z 175 19 (by omega), m_i_at⟩, ⟨0, by omega, z 1 1 (by omega), z 175 1 (by omega), ?_⟩, fun k _ => ⟨Or.inl (z 165 k (by omega)), ?_, fun h => absurd (z 165 k (by omega)) h⟩⟩
  · rw [z 175 18 (by omega), w]
  · rw [z 175 26 (by omega), w]
  · rw [z 175 27 (by omega), w]
  · rw [z 175 28 (by omega), w]
  · rw [z 175 29 (by omega), w]
  · funext j
    rw [z 2 j (by omega), z 176 j (by omega)]
  · rw [z 198 k (by omega), z 165 k (by omega)]
section START
variable {G : GT} {p : Program} {e : Env} {s : State} {m : MethodId} {below : List Frame} {meth : Method} {c : Code} {bb Ls : Nat} {xs : Nat → Int32}
theorem law_start (F : LCx G p s m meth c bb Ls xs) {f0 : Nat → va_E} : LwT G (R0 G) p e s m below meth c bb 0 0 0 [(0, .float 1)] [] (0, f0) := by
  refine LwT.new (N1 := 1) (kc1 := 1) (ks1 := 10) (ci := 10) (fs := bl_10) F rfl rfl rfl cl_L_7 ins_10 ini_10 inw_10 tyX10_ok rfl bl_10_ok (Nat.le_of_ble_eq_true rfl) (Nat.le_of_ble_eq_true rfl) dL_law_0 (fun f1 n1 _ => ?_)
  refine LwT.dup F dL_law_3 rfl ?_
  refine LwT.callI (kc1 := 175) (ks1 := 2618) F [] rfl (c_X10_init (f0 := f1) (K := MkP G f1 0 175) n1 (fun M hM => hM)) mb_X10_init rfl mi_X10_init lk_L_9 ⟨Nat.le_of_ble_eq_true rfl, Nat.le_of_ble_eq_true rfl⟩ rfl rfl ⟨Nat.le_of_ble_eq_true rfl, Nat.le_of_ble_eq_true rfl⟩ rfl (Nat.le_of_ble_eq_true rfl) dL_law_4 (fun M1 h1 => ?_)
  obtain ⟨N1, f2⟩ := M1
  obtain ⟨e1, -, a2⟩ := h1
  have e1 : N1 = 175 := e1
  subst e1
  refine LwT.astore_n (L' := [(1, .ref 0), (0, .float 1)]) F dL_law_7 rfl (by decide) rfl ?_
  refine LwT.new (N1 := 176) (kc1 := 176) (ks1 := 2660) (ci := 11) (fs := bl_11) F rfl rfl rfl cl_L_10 ins_11 ini_11 inw_11 tyX11_ok rfl bl_11_ok (Nat.le_of_ble_eq_true rfl) (Nat.le_of_ble_eq_true rfl) dL_law_8 (fun f3 n3 o3 => ?_)
  refine LwT.dup F dL_law_11 rfl ?_
  refine LwT.callI (kc1 := 199) (ks1 := 3861) F [] rfl (c_X11_init (f0 := f3) (K := fun _ M => ∃ f, M = (199, f) ∧ Cst G f3 175 175 199 f ∧ f 175 = cellOf G (m_i MZ 175 20 (-6)) 175) n3 (fun f s b => ⟨f, rfl, s, b⟩)) mb_X11_init rfl mi_X11_init lk_L_12 ⟨Nat.le_of_ble_eq_true rfl, Nat.le_of_ble_eq_true rfl⟩ rfl rfl ⟨Nat.le_of_ble_eq_true rfl, Nat.le_of_ble_eq_true rfl⟩ rfl (Nat.le_of_ble_eq_true rfl) dL_law_12 (fun M2 h2 => ?_)
  obtain ⟨f4, rfl, s4, b4⟩ := h2
  refine LwT.astore_n (L' := [(2, .ref 175), (1, .ref 0), (0, .float 1)]) F dL_law_15 rfl (by decide) rfl ?_
  refine LwT.rep (M := m_i MZ 175 20 (-6)) (fun d hd => ?_) ?_
  · by_cases q : d = 175
    · rw [q]; exact b4
    · rw [m_i_off d q]
      by_cases q2 : d < 175
      · rw [s4.1 d q2, o3 d q2]
        exact a2 d (Nat.zero_le _) q2
      · exact s4.2 d (by omega) hd q
  refine LwT.iconst (v := 0) F dL_law_16 (by decide) ?_
  refine LwT.istore_n (L' := [(3, .int 0), (2, .ref 175), (1, .ref 0), (0, .float 1)]) F dL_law_17 rfl (by decide) rfl ?_
  refine LwT.sub (L' := [(0, .float 1), (1, .ref 0), (2, .ref 175), (3, .int (nI 0))]) [3, 2, 1, 0] rfl ?_
  exact law_loop F Ls 0 (by omega) (by omega) _ INV_0
end START
set_option maxHeartbeats 4000000 in
set_option maxRecDepth 100000 in
/-- THE LAW, from its entry -/
theorem whole_start {p : Program} {e : Env} {s : State} {m : MethodId} {below : List Frame} {meth : Method} {c : Code} (l : Launch) (hflags : l.flags = flags0) {b L : Nat} {xs : Nat → Int32} (hL : L ≤ 2048) (C0 : lw_At p s m meth c b L xs) : W p l e room_1 s m #[Value.ref b] below meth c s.heap [] 0 0 (lw_Z below #[Value.ref b] s) (entryFrame m ([Value.ref b] : List Value).toArray 4) := by
  obtain ⟨hx, hb, hr, hml, hown, hts, hX, hbl, hlocks, hgv⟩ := id C0
  have hts' : ∀ w ∈ aw_ws, w.before #[Value.ref b] s = true := fun w hw => hts w (List.mem_filter.mp hw).1
  have hcl : ∀ k : Nat, ∃ (cC : ClassId) (iS : Nat → Nat), ∀ q : vw_C, vwCl[k]? = some q → u_Kn s q.1 q.2.1 q.2.2 cC iS := by
    intro k
    match k with
    | 0 =>
      obtain ⟨cC, iS, h⟩ := u_known hts' inw_0 (hts' _ ins_0)
      exact ⟨cC, iS, fun q hq => by cases hq; exact h⟩
    | 1 =>
      obtain ⟨cC, iS, h⟩ := u_known hts' inw_1 (hts' _ ins_1)
      exact ⟨cC, iS, fun q hq => by cases hq; exact h⟩
    | 2 =>
      obtain ⟨cC, iS, h⟩ := u_known hts' inw_2 (hts' _ ins_2)
      exact ⟨cC, iS, fun q hq => by cases hq; exact h⟩
    | 3 =>
      obtain ⟨cC, iS, h⟩ := u_known hts' inw_3 (hts' _ ins_3)
      exact ⟨cC, iS, fun q hq => by cases hq; exact h⟩
    | 4 =>
      obtain ⟨cC, iS, h⟩ := u_known hts' inw_4 (hts' _ ins_4)
      exact ⟨cC, iS, fun q hq => by cases hq; exact h⟩
    | 5 =>
      obtain ⟨cC, iS, h⟩ := u_known hts' inw_5 (hts' _ ins_5)
      exact ⟨cC, iS, fun q hq => by cases hq; exact h⟩
    | 6 =>
      obtain ⟨cC, iS, h⟩ := u_known hts' inw_6 (hts' _ ins_6)
      exact ⟨cC, iS, fun q hq => by cases hq; exact h⟩
    | 7 =>
      obtain ⟨cC, iS, h⟩ := u_known hts' inw_7 (hts' _ ins_7)
      exact ⟨cC, iS, fun q hq => by cases hq; exact h⟩
    | 8 =>
      obtain ⟨cC, iS, h⟩ := u_known hts' inw_8 (hts' _ ins_8)
      exact ⟨cC, iS, fun q hq => by cases hq; exact h⟩
    | 9 =>
      obtain ⟨cC, iS, h⟩ := u_known hts' inw_9 (hts' _ ins_9)
      exact ⟨cC, iS, fun q hq => by cases hq; exact h⟩
    | 10 =>
      obtain ⟨cC, iS, h⟩ := u_known hts' inw_10 (hts' _ ins_10)
      exact ⟨cC, iS, fun q hq => by cases hq; exact h⟩
    | 11 =>
      obtain ⟨cC, iS, h⟩ := u_known hts' inw_11 (hts' _ ins_11)
      exact ⟨cC, iS, fun q hq => by cases hq; exact h⟩
    | k + 12 =>
      obtain ⟨cC, iS, h⟩ := u_known hts' inw_0 (hts' _ ins_0)
      exact ⟨cC, iS, fun q hq => by simp at hq⟩
  obtain ⟨dC, dI, hKc⟩ : ∃ (dC : Nat → ClassId) (dI : Nat → Nat → Nat), ∀ (k : Nat) (q : vw_C), vwCl[k]? = some q → u_Kn s q.1 q.2.1 q.2.2 (dC k) (dI k) :=
    ⟨fun k => Classical.choose (hcl k), fun k => Classical.choose (Classical.choose_spec (hcl k)), fun k q hq => Classical.choose_spec (Classical.choose_spec (hcl k)) q hq⟩
  obtain ⟨a0, k0, comp0, f0, g0, h0⟩ := Cond.arrayClass_spec (hts' _ aw_int)
  obtain ⟨a1, k1, comp1, f1, g1, h1⟩ := Cond.arrayClass_spec (hts' _ aw_bool)
  obtain ⟨comp2, a2, k2, p2, -, q2, r2, t2⟩ := Cond.arrayOver_spec (hts _ ov_Law)
  obtain ⟨comp3, a3, k3, p3, -, q3, r3, t3⟩ := Cond.arrayOver_spec (hts _ ov_Piece)
  obtain ⟨comp4, a4, k4, p4, -, q4, r4, t4⟩ := Cond.arrayOver_spec (hts _ ov_World)
  have hs := flat_of_before _ hgv
  have hA : ∀ a : Nat, a < s.heap.size → ¬ (fun q : Nat => s.heap.size ≤ q) a := fun a h => Nat.not_le.mpr h
  obtain ⟨w1, ew1, T1⟩ := va_Tof (args := #[Value.ref b]) (s := s) (tm := .static "BetweenLaws" "WAY_LETTERS" "[I") (ty := .int) (N := 4) (f := fun j => .int (aw_f1 j)) (A := fun q : Nat => s.heap.size ≤ q) (by decide) (hs _ (by decide +kernel)) (va_eqt (z := 4) (hs _ (by decide +kernel))) (fun j hj => by
    match j, hj with
    | 0, _ => exact va_eqt (z := -6) (hs _ (by decide +kernel))
    | 1, _ => exact va_eqt (z := 99) (hs _ (by decide +kernel))
    | 2, _ => exact va_eqt (z := 98) (hs _ (by decide +kernel))
    | 3, _ => exact va_eqt (z := 108) (hs _ (by decide +kernel))
    | k + 4, h => exact absurd h (by omega)) hA
  obtain ⟨w2, ew2, T2⟩ := va_Tof (args := #[Value.ref b]) (s := s) (tm := .static "BetweenLaws" "TIME_LETTERS" "[I") (ty := .int) (N := 3) (f := fun j => .int (aw_f2 j)) (A := fun q : Nat => s.heap.size ≤ q) (by decide) (hs _ (by decide +kernel)) (va_eqt (z := 3) (hs _ (by decide +kernel))) (fun j hj => by
    match j, hj with
    | 0, _ => exact va_eqt (z := 110) (hs _ (by decide +kernel))
    | 1, _ => exact va_eqt (z := 104) (hs _ (by decide +kernel))
    | 2, _ => exact va_eqt (z := 97) (hs _ (by decide +kernel))
    | k + 3, h => exact absurd h (by omega)) hA
  have Z1 := va_Zof (hts _ ls_1) (hts' _ ini_10) ew1 hA
  have Z2 := va_Zof (hts _ ls_2) (hts' _ ini_10) ew2 hA
  obtain ⟨ga, hga⟩ : ∃ ga : Nat → ClassId, ga 0 = a0 ∧ ga 1 = a1 ∧ ga 2 = a2 ∧ ga 3 = a3 ∧ ga 4 = a4 := ⟨fun k => if k = 0 then a0 else if k = 1 then a1 else if k = 2 then a2 else if k = 3 then a3 else a4, rfl, rfl, rfl, rfl, rfl⟩
  obtain ⟨e0, e1, e2, e3, e4⟩ := hga
  have hK : aw_K (l, s.heap.size, (dC, dI), ga, w1, w2) s := by
    refine ⟨⟨hKc, fun k q hk => ?_⟩, fun w hw hn => ?_⟩
    · match k, hk with
      | 0, hk =>
        cases hk
        show ArrOfT s (ga 0) .int ∧ va_RA s (ga 0) .int
        rw [e0]; exact ⟨fun n z => ⟨fun k h => (by cases h), k0, g0, comp0, h0⟩, f0⟩
      | 1, hk =>
        cases hk
        show ArrOfT s (ga 1) .boolean ∧ va_RA s (ga 1) .boolean
        rw [e1]; exact ⟨fun n z => ⟨fun k h => (by cases h), k1, g1, comp1, h1⟩, f1⟩
      | 2, hk =>
        cases hk
        show ArrOfT s (ga 2) (.object "BetweenLaws$Law") ∧ va_RA s (ga 2) (.object "BetweenLaws$Law")
        rw [e2]; exact ⟨fun n z => ⟨fun k h => (by cases h), k2, q2, comp2, r2⟩, ⟨k2, comp2, q2, r2, p2, t2⟩⟩
      | 3, hk =>
        cases hk
        show ArrOfT s (ga 3) (.object "BetweenLaws$Piece") ∧ va_RA s (ga 3) (.object "BetweenLaws$Piece")
        rw [e3]; exact ⟨fun n z => ⟨fun k h => (by cases h), k3, q3, comp3, r3⟩, ⟨k3, comp3, q3, r3, p3, t3⟩⟩
      | 4, hk =>
        cases hk
        show ArrOfT s (ga 4) (.object "BetweenLaws$World") ∧ va_RA s (ga 4) (.object "BetweenLaws$World")
        rw [e4]; exact ⟨fun n z => ⟨fun k h => (by cases h), k4, q4, comp4, r4⟩, ⟨k4, comp4, q4, r4, p4, t4⟩⟩
      | k + 5, hk => simp at hk
    · have h1 := hts w hw
      cases w <;> first | (cases hn; done) | exact va_Nw.of rfl h1 | (rename_i t; cases t <;> first | (cases hn; done) | exact va_AO.of h1)
  have F : LCx (l, s.heap.size, (dC, dI), ga, w1, w2) p s m meth c b L xs := ⟨⟨hx, hb, hr, hml, hown, hts', hK, ⟨⟨Z1, T1⟩, ⟨Z2, T2⟩⟩, hlocks, rfl, Nat.le_refl _⟩, hX, hbl, rfl, hL⟩
  have hl := lv_entry ([.ref b]) (n := 4) (Nat.le_of_ble_eq_true rfl)
  rw [lg_entry_eq]
  generalize (lg_sl ([.ref b]) ++ List.replicate (4 - (lg_sl ([.ref b])).length) Slot.unset).toArray = ls at hl ⊢
  have hl : lv_has ls 4 [(0, .ref b)] := hl
  exact law_start F (f0 := fun _ => .inr (99, [])) s.heap [] ⟨fun k q hk => by simp [PL] at hk, rfl⟩ va_S.rf ls hl
