/-! ===== 67.pack ===== -/
/-! ===== the model's images ===== -/
theorem pos_lt {c k : Nat} (h : PkR c k) : pos c k < 221 := by
  unfold PkR at h
  unfold pos
  repeat' split
  all_goals omega
theorem pos_inj {c k d j : Nat} (h : PkR c k) (g : PkR d j) (e : pos c k = pos d j) : c = d ∧ k = j := by
  unfold PkR at h g
  unfold pos at e
  repeat' split at e
  all_goals omega
def PassN (M N : Mem) (x r : Int32) : Prop := r = (if M.1 175 41 = 0 then M.1 197 (Int32.toNatClampNeg (M.1 175 40)) else x) ∧ N = m_i (m_i M 197 (Int32.toNatClampNeg (M.1 175 40)) r) 175 40 (M.1 175 40 + 1)
/-- what comes into a cell and its place: of the image, or what it was -/
def pv (M : Mem) (b c k : Nat) : Int32 := if M.1 175 41 = 0 then M.1 197 (b + pos c k) else M.1 c k
def PF (M N : Mem) (b : Nat) : Prop := (∀ c, ¬ (c = 175 ∨ (177 ≤ c ∧ c ≤ 193) ∨ c = 197) → N.1 c = M.1 c) ∧ (∀ k, ¬ (k = 18 ∨ (26 ≤ k ∧ k ≤ 29) ∨ k = 40) → N.1 175 k = M.1 175 k) ∧ (∀ j, ¬ (b ≤ j ∧ j < b + 221) → N.1 197 j = M.1 197 j) ∧ N.2 = M.2
def PkN (M N : Mem) (b : Nat) : Prop := (∀ c k, PkR c k → N.1 c k = pv M b c k ∧ N.1 197 (b + pos c k) = pv M b c k) ∧ PF M N b
def IV (M : Mem) (b m : Nat) (N : Mem) : Prop := (∀ c k, PkR c k → pos c k < m → N.1 c k = pv M b c k ∧ N.1 197 (b + pos c k) = pv M b c k) ∧ (∀ c k, PkR c k → ¬ pos c k < m → N.1 c k = M.1 c k ∧ N.1 197 (b + pos c k) = M.1 197 (b + pos c k)) ∧ N.1 175 40 = nI (b + m) ∧ PF M N b
theorem IV.rf {M : Mem} {b : Nat} (h : M.1 175 40 = nI b) : IV M b 0 M := ⟨fun _ _ _ h => absurd h (Nat.not_lt_zero _), fun _ _ _ _ => ⟨rfl, rfl⟩, h, ⟨fun _ _ => rfl, fun _ _ => rfl, fun _ _ => rfl, rfl⟩⟩
theorem IV.at {M N : Mem} {b m : Nat} (h : IV M b m N) (hm : b + m < 800) : ∃ a, a < 800 ∧ N.1 175 40 = nI a := ⟨b + m, hm, h.2.2.1⟩
theorem IV.step {M N N1 N2 : Mem} {b m c0 k0 : Nat} {r : Int32} (h : IV M b m N) (hb : b + 221 ≤ 800) (hc : PkR c0 k0) (hp : pos c0 k0 = m) (g1 : PassN N N1 (N.1 c0 k0) r) (g2 : N2 = m_i N1 c0 k0 r) : IV M b (m + 1) N2 := by
  obtain ⟨h1, h2, h3, p1, p2, p3, p4⟩ := h
  obtain ⟨er, e1⟩ := g1
  have hlt := pos_lt hc
  have ix : Int32.toNatClampNeg (N.1 175 40) = b + m := by rw [h3, ix_nI (by omega)]
  rw [ix] at er e1
  rw [h3, nI_1] at e1
  obtain ⟨q1, q2⟩ := h2 c0 k0 hc (by omega)
  rw [hp] at q2
  rw [p2 41 (by decide), q1, q2] at er
  have er : r = pv M b c0 k0 := by
    unfold pv; rw [hp]; exact er
  have ne : ∀ c k, PkR c k → ¬ (c = c0 ∧ k = k0) → N2.1 c k = N.1 c k := by
    intro c k hk hn
    have hk2 := hk
    unfold PkR at hk2
    rw [g2, m_i_ne hn, e1, m_i_ne (by omega), m_i_ne (by omega)]
  have at0 : N2.1 c0 k0 = r := by rw [g2, m_i_at]
  have hc2 := hc
  unfold PkR at hc2
  have a197 : ∀ j, N2.1 197 j = if j = b + m then r else N.1 197 j := by
    intro j
    rw [g2, m_i_ne (by omega), e1, m_i_ne (by omega)]
    by_cases z : j = b + m
    · rw [if_pos z, z, m_i_at]
    · rw [if_neg z, m_i_ne (by omega)]
  refine ⟨fun c k hk hlt2 => ?_, fun c k hk hlt2 => ?_, ?_, fun c hcc => ?_, fun k hkk => ?_, fun j hj => ?_, ?_⟩
  · by_cases z : pos c k = m
    · obtain ⟨rfl, rfl⟩ := pos_inj hk hc (z.trans hp.symm)
      rw [at0, a197, hp, if_pos rfl]
      exact ⟨er, er⟩
    · rw [ne c k hk (fun y => z (by rw [y.1, y.2, hp])), a197, if_neg (by omega)]
      exact h1 c k hk (by omega)
  · have z : ¬ pos c k = m := by omega
    rw [ne c k hk (fun y => z (by rw [y.1, y.2, hp])), a197, if_neg (by omega)]
    exact h2 c k hk (by omega)
  · rw [g2, m_i_ne (by omega), e1, m_i_at]; rfl
  · rw [g2, mi_off (by omega), e1, mi_off (by omega), mi_off (by omega)]
    exact p1 c hcc
  · rw [g2, m_i_ne (by omega), e1, m_i_ne (by omega), m_i_ne (by omega)]
    exact p2 k hkk
  · rw [a197, if_neg (by omega)]
    exact p3 j hj
  · rw [g2, e1]; exact p4

/-! BetweenLawsModel.pass(I)I -/
abbrev rm_X11_pass : Room := { frames := 0, cells := 0, slots := 0, locals := 0 }
abbrev B_X11_pass (G : GT) (K : Int32 → Mem → Prop) := BT G (Rep G) RX11 "pass" cX11_pass 3 (some .int) rm_X11_pass K 0 0
abbrev T_X11_pass (G : GT) (as : List Value) (M : Mem) (K : Int32 → Mem → Prop) : Prop := MT G (Rep G) yX11_pass cX11_pass 3 (some .int) rm_X11_pass as M K
theorem e_X11_pass {G : GT} {K : Int32 → Mem → Prop} {M : Mem} {v1 : Int32} (h : B_X11_pass G K 0 [(0, .ref 175), (1, .int v1)] [] M) : T_X11_pass G [.ref 175, .int v1] M K := MT.of (by decide +kernel) rfl rfl (Nat.le_of_ble_eq_true rfl) rfl h
set_option maxRecDepth 4000 in
theorem k_X11_pass_0 {G : GT} {K : Int32 → Mem → Prop} {M : Mem} {v1 : Int32} (h : ((M.1 175 41) = 0 → (vp_in (M.1 175 40) 800) ∧ (vp_in (M.1 175 40) 800) ∧ K (M.1 197 (Int32.toNatClampNeg (M.1 175 40))) (m_i (m_i M 197 (Int32.toNatClampNeg (M.1 175 40)) (M.1 197 (Int32.toNatClampNeg (M.1 175 40)))) 175 40 (((m_i M 197 (Int32.toNatClampNeg (M.1 175 40)) (M.1 197 (Int32.toNatClampNeg (M.1 175 40)))).1 175 40) + 1))) ∧ (¬ (M.1 175 41) = 0 → (vp_in (M.1 175 40) 800) ∧ K v1 (m_i (m_i M 197 (Int32.toNatClampNeg (M.1 175 40)) v1) 175 40 (((m_i M 197 (Int32.toNatClampNeg (M.1 175 40)) v1).1 175 40) + 1)))) : B_X11_pass G K 0 [(0, .ref 175), (1, .int v1)] [] M := by
  refine BT.aload_n dX11_pass_0 rfl 0 rfl ?_
  refine BT.getI fl_X11_304 ho_175 rfl dX11_pass_1 ?_
  refine BT.if_eq (tgt := 11) dX11_pass_4 (by decide) (fun c => ?_) (fun c => ?_)
  · have c1 := c
    refine BT.aload_n dX11_pass_11 rfl 0 rfl ?_
    refine BT.getR (r := 197) fl_X11_78 ho_175 rfl dX11_pass_12 ?_
    refine BT.aload_n dX11_pass_15 rfl 0 rfl ?_
    refine BT.getI fl_X11_307 ho_175 rfl dX11_pass_16 ?_
    refine BT.iald ha_197 (h.1 c1).1 dX11_pass_19 ?_
    refine BT.istore_n (L' := [(2, .int (M.1 197 (Int32.toNatClampNeg (M.1 175 40)))), (0, .ref 175), (1, .int v1)]) dX11_pass_20 rfl (by decide) rfl ?_
    refine BT.aload_n dX11_pass_21 rfl 1 rfl ?_
    refine BT.getR (r := 197) fl_X11_78 ho_175 rfl dX11_pass_22 ?_
    refine BT.aload_n dX11_pass_25 rfl 1 rfl ?_
    refine BT.getI fl_X11_307 ho_175 rfl dX11_pass_26 ?_
    refine BT.iload_n dX11_pass_29 rfl 0 rfl ?_
    refine BT.iast ha_197 (h.1 c1).2.1 dX11_pass_30 ?_
    refine BT.aload_n dX11_pass_31 rfl 1 rfl ?_
    refine BT.dup dX11_pass_32 rfl ?_
    refine BT.getI fl_X11_307 ho_175 rfl dX11_pass_33 ?_
    refine BT.iconst (v := 1) dX11_pass_36 (by decide) ?_
    refine BT.iadd dX11_pass_37 ?_
    refine BT.putI fl_X11_307 ft_11_40 ho_175 rfl dX11_pass_38 ?_
    refine BT.iload_n dX11_pass_41 rfl 0 rfl ?_
    exact BT.iret dX11_pass_42 rfl (by decide) (by decide) (h.1 c1).2.2
  · have c2 := c
    refine BT.iload_n dX11_pass_7 rfl 1 rfl ?_
    refine BT.goto (tgt := 20) dX11_pass_8 (by decide) ?_
    refine BT.istore_n (L' := [(2, .int v1), (0, .ref 175), (1, .int v1)]) dX11_pass_20 rfl (by decide) rfl ?_
    refine BT.aload_n dX11_pass_21 rfl 1 rfl ?_
    refine BT.getR (r := 197) fl_X11_78 ho_175 rfl dX11_pass_22 ?_
    refine BT.aload_n dX11_pass_25 rfl 1 rfl ?_
    refine BT.getI fl_X11_307 ho_175 rfl dX11_pass_26 ?_
    refine BT.iload_n dX11_pass_29 rfl 0 rfl ?_
    refine BT.iast ha_197 (h.2 c2).1 dX11_pass_30 ?_
    refine BT.aload_n dX11_pass_31 rfl 1 rfl ?_
    refine BT.dup dX11_pass_32 rfl ?_
    refine BT.getI fl_X11_307 ho_175 rfl dX11_pass_33 ?_
    refine BT.iconst (v := 1) dX11_pass_36 (by decide) ?_
    refine BT.iadd dX11_pass_37 ?_
    refine BT.putI fl_X11_307 ft_11_40 ho_175 rfl dX11_pass_38 ?_
    refine BT.iload_n dX11_pass_41 rfl 0 rfl ?_
    exact BT.iret dX11_pass_42 rfl (by decide) (by decide) (h.2 c2).2

theorem t_X11_pass {G : GT} {K : Int32 → Mem → Prop} {M : Mem} {v1 : Int32} (ha : ∃ a, a < 800 ∧ M.1 175 40 = nI a) (h : ∀ (r : Int32) (N : Mem), PassN M N v1 r → K r N) : T_X11_pass G [.ref 175, .int v1] M K := by
  obtain ⟨a, ha, ea⟩ := ha
  have vp : vp_in (M.1 175 40) 800 := by rw [ea]; exact vp_nI ha (by decide)
  refine e_X11_pass (k_X11_pass_0 ⟨fun c => ⟨vp, vp, h _ _ ⟨?_, ?_⟩⟩, fun c => ⟨vp, h _ _ ⟨?_, ?_⟩⟩⟩)
  · rw [if_pos c]
  · rw [m_i_ne (by omega)]
  · rw [if_neg c]
  · rw [m_i_ne (by omega)]

/-! BetweenLawsModel.passAll()V -/
abbrev rm_X11_passAll : Room := { frames := 1, cells := 0, slots := 0, locals := 22 }
abbrev B_X11_passAll (G : GT) (K : Int32 → Mem → Prop) := BT G (Rep G) RX11 "passAll" cX11_passAll 2 none rm_X11_passAll K 0 0
abbrev T_X11_passAll (G : GT) (as : List Value) (M : Mem) (K : Int32 → Mem → Prop) : Prop := MT G (Rep G) yX11_passAll cX11_passAll 2 none rm_X11_passAll as M K
theorem e_X11_passAll {G : GT} {K : Int32 → Mem → Prop} {M : Mem}  (h : B_X11_passAll G K 0 [(0, .ref 175)] [] M) : T_X11_passAll G [.ref 175] M K := MT.of (by decide +kernel) rfl rfl (Nat.le_of_ble_eq_true rfl) rfl h
set_option maxRecDepth 4000 in
theorem k_X11_passAll_0 {G : GT} {K : Int32 → Mem → Prop} {M : Mem}  (h : (∃ a, a < 800 ∧ M.1 175 40 = nI a) ∧ (∀ (r1 : Int32) (N1 : Mem), (PassN M N1 (M.1 175 18) r1) → (∀ N2 : Mem, N2 = (m_i N1 175 18 r1) → (∃ a, a < 800 ∧ N2.1 175 40 = nI a) ∧ (∀ (r3 : Int32) (N3 : Mem), (PassN N2 N3 (N2.1 175 26) r3) → (∀ N4 : Mem, N4 = (m_i N3 175 26 r3) → (∃ a, a < 800 ∧ N4.1 175 40 = nI a) ∧ (∀ (r5 : Int32) (N5 : Mem), (PassN N4 N5 (N4.1 175 27) r5) → (∀ N6 : Mem, N6 = (m_i N5 175 27 r5) → (∃ a, a < 800 ∧ N6.1 175 40 = nI a) ∧ (∀ (r7 : Int32) (N7 : Mem), (PassN N6 N7 (N6.1 175 28) r7) → (∀ N8 : Mem, N8 = (m_i N7 175 28 r7) → (∃ a, a < 800 ∧ N8.1 175 40 = nI a) ∧ (∀ (r9 : Int32) (N9 : Mem), (PassN N8 N9 (N8.1 175 29) r9) → (∀ N10 : Mem, N10 = (m_i N9 175 29 r9) → B_X11_passAll G K 62 [(0, .ref 175), (1, .int 0)] [] N10))))))))))) : B_X11_passAll G K 0 [(0, .ref 175)] [] M := by
  refine BT.aload_n dX11_passAll_0 rfl 0 rfl ?_
  refine BT.aload_n dX11_passAll_1 rfl 0 rfl ?_
  refine BT.aload_n dX11_passAll_2 rfl 0 rfl ?_
  refine BT.getI fl_X11_149 ho_175 rfl dX11_passAll_3 ?_
  refine BT.mcV [.int (M.1 175 18)] (t_X11_pass h.1 (fun r1 N1 g1 => ?_)) mb_X11_pass mv_X11_pass lk_X11_310 rfl (by decide) rfl (recvRep ho_175 rfl) (Nat.le_of_ble_eq_true rfl) dX11_passAll_6
  show B_X11_passAll G K 9 [(0, .ref 175)] [.int r1, .ref 175] N1
  refine BT.putI fl_X11_149 ft_11_18 ho_175 rfl dX11_passAll_9 ?_
  refine BT.topm (fun N2 f2 => ?_)
  refine BT.aload_n dX11_passAll_12 rfl 0 rfl ?_
  refine BT.aload_n dX11_passAll_13 rfl 0 rfl ?_
  refine BT.aload_n dX11_passAll_14 rfl 0 rfl ?_
  refine BT.getI fl_X11_190 ho_175 rfl dX11_passAll_15 ?_
  refine BT.mcV [.int (N2.1 175 26)] (t_X11_pass ((h.2 r1 N1 g1) N2 f2).1 (fun r3 N3 g3 => ?_)) mb_X11_pass mv_X11_pass lk_X11_310 rfl (by decide) rfl (recvRep ho_175 rfl) (Nat.le_of_ble_eq_true rfl) dX11_passAll_18
  show B_X11_passAll G K 21 [(0, .ref 175)] [.int r3, .ref 175] N3
  refine BT.putI fl_X11_190 ft_11_26 ho_175 rfl dX11_passAll_21 ?_
  refine BT.topm (fun N4 f4 => ?_)
  refine BT.aload_n dX11_passAll_24 rfl 0 rfl ?_
  refine BT.aload_n dX11_passAll_25 rfl 0 rfl ?_
  refine BT.aload_n dX11_passAll_26 rfl 0 rfl ?_
  refine BT.getI fl_X11_201 ho_175 rfl dX11_passAll_27 ?_
  refine BT.mcV [.int (N4.1 175 27)] (t_X11_pass ((((h.2 r1 N1 g1) N2 f2).2 r3 N3 g3) N4 f4).1 (fun r5 N5 g5 => ?_)) mb_X11_pass mv_X11_pass lk_X11_310 rfl (by decide) rfl (recvRep ho_175 rfl) (Nat.le_of_ble_eq_true rfl) dX11_passAll_30
  show B_X11_passAll G K 33 [(0, .ref 175)] [.int r5, .ref 175] N5
  refine BT.putI fl_X11_201 ft_11_27 ho_175 rfl dX11_passAll_33 ?_
  refine BT.topm (fun N6 f6 => ?_)
  refine BT.aload_n dX11_passAll_36 rfl 0 rfl ?_
  refine BT.aload_n dX11_passAll_37 rfl 0 rfl ?_
  refine BT.aload_n dX11_passAll_38 rfl 0 rfl ?_
  refine BT.getI fl_X11_204 ho_175 rfl dX11_passAll_39 ?_
  refine BT.mcV [.int (N6.1 175 28)] (t_X11_pass ((((((h.2 r1 N1 g1) N2 f2).2 r3 N3 g3) N4 f4).2 r5 N5 g5) N6 f6).1 (fun r7 N7 g7 => ?_)) mb_X11_pass mv_X11_pass lk_X11_310 rfl (by decide) rfl (recvRep ho_175 rfl) (Nat.le_of_ble_eq_true rfl) dX11_passAll_42
  show B_X11_passAll G K 45 [(0, .ref 175)] [.int r7, .ref 175] N7
  refine BT.putI fl_X11_204 ft_11_28 ho_175 rfl dX11_passAll_45 ?_
  refine BT.topm (fun N8 f8 => ?_)
  refine BT.aload_n dX11_passAll_48 rfl 0 rfl ?_
  refine BT.aload_n dX11_passAll_49 rfl 0 rfl ?_
  refine BT.aload_n dX11_passAll_50 rfl 0 rfl ?_
  refine BT.getI fl_X11_207 ho_175 rfl dX11_passAll_51 ?_
  refine BT.mcV [.int (N8.1 175 29)] (t_X11_pass ((((((((h.2 r1 N1 g1) N2 f2).2 r3 N3 g3) N4 f4).2 r5 N5 g5) N6 f6).2 r7 N7 g7) N8 f8).1 (fun r9 N9 g9 => ?_)) mb_X11_pass mv_X11_pass lk_X11_310 rfl (by decide) rfl (recvRep ho_175 rfl) (Nat.le_of_ble_eq_true rfl) dX11_passAll_54
  show B_X11_passAll G K 57 [(0, .ref 175)] [.int r9, .ref 175] N9
  refine BT.putI fl_X11_207 ft_11_29 ho_175 rfl dX11_passAll_57 ?_
  refine BT.topm (fun N10 f10 => ?_)
  refine BT.iconst (v := 0) dX11_passAll_60 (by decide) ?_
  refine BT.istore_n (L' := [(1, .int 0), (0, .ref 175)]) dX11_passAll_61 rfl (by decide) rfl ?_
  refine BT.sub [1, 0] rfl ?_
  exact ((((((((((h.2 r1 N1 g1) N2 f2).2 r3 N3 g3) N4 f4).2 r5 N5 g5) N6 f6).2 r7 N7 g7) N8 f8).2 r9 N9 g9) N10 f10)
set_option maxRecDepth 4000 in
theorem k_X11_passAll_62 {G : GT} {K : Int32 → Mem → Prop} {M : Mem} {v1 : Int32} (h : (8 ≤ v1 → B_X11_passAll G K 236 [(0, .ref 175), (1, .int 0)] [] M) ∧ (¬ 8 ≤ v1 → (vp_in v1 8) ∧ (∃ a, a < 800 ∧ M.1 175 40 = nI a) ∧ (∀ (r3 : Int32) (N3 : Mem), (PassN M N3 (M.1 177 (Int32.toNatClampNeg v1)) r3) → (vp_in v1 8) ∧ (∀ N4 : Mem, N4 = (m_i N3 177 (Int32.toNatClampNeg v1) r3) → (vp_in v1 8) ∧ (∃ a, a < 800 ∧ N4.1 175 40 = nI a) ∧ (∀ (r5 : Int32) (N5 : Mem), (PassN N4 N5 (N4.1 178 (Int32.toNatClampNeg v1)) r5) → (vp_in v1 8) ∧ (∀ N6 : Mem, N6 = (m_i N5 178 (Int32.toNatClampNeg v1) r5) → (vp_in v1 8) ∧ (∃ a, a < 800 ∧ N6.1 175 40 = nI a) ∧ (∀ (r7 : Int32) (N7 : Mem), (PassN N6 N7 (N6.1 179 (Int32.toNatClampNeg v1)) r7) → (vp_in v1 8) ∧ (∀ N8 : Mem, N8 = (m_i N7 179 (Int32.toNatClampNeg v1) r7) → (vp_in v1 8) ∧ (∃ a, a < 800 ∧ N8.1 175 40 = nI a) ∧ (∀ (r9 : Int32) (N9 : Mem), (PassN N8 N9 (N8.1 182 (Int32.toNatClampNeg v1)) r9) → (vp_in v1 8) ∧ (∀ N10 : Mem, N10 = (m_i N9 182 (Int32.toNatClampNeg v1) r9) → (vp_in v1 8) ∧ (∃ a, a < 800 ∧ N10.1 175 40 = nI a) ∧ (∀ (r11 : Int32) (N11 : Mem), (PassN N10 N11 (N10.1 183 (Int32.toNatClampNeg v1)) r11) → (vp_in v1 8) ∧ (∀ N12 : Mem, N12 = (m_i N11 183 (Int32.toNatClampNeg v1) r11) → (vp_in v1 8) ∧ (∃ a, a < 800 ∧ N12.1 175 40 = nI a) ∧ (∀ (r13 : Int32) (N13 : Mem), (PassN N12 N13 (N12.1 184 (Int32.toNatClampNeg v1)) r13) → (vp_in v1 8) ∧ (∀ N14 : Mem, N14 = (m_i N13 184 (Int32.toNatClampNeg v1) r13) → (vp_in v1 8) ∧ (∃ a, a < 800 ∧ N14.1 175 40 = nI a) ∧ (∀ (r15 : Int32) (N15 : Mem), (PassN N14 N15 (N14.1 185 (Int32.toNatClampNeg v1)) r15) → (vp_in v1 8) ∧ (∀ N16 : Mem, N16 = (m_i N15 185 (Int32.toNatClampNeg v1) r15) → (vp_in v1 8) ∧ (∃ a, a < 800 ∧ N16.1 175 40 = nI a) ∧ (∀ (r17 : Int32) (N17 : Mem), (PassN N16 N17 (N16.1 186 (Int32.toNatClampNeg v1)) r17) → (vp_in v1 8) ∧ (∀ N18 : Mem, N18 = (m_i N17 186 (Int32.toNatClampNeg v1) r17) → (vp_in v1 8) ∧ (∃ a, a < 800 ∧ N18.1 175 40 = nI a) ∧ (∀ (r19 : Int32) (N19 : Mem), (PassN N18 N19 (N18.1 187 (Int32.toNatClampNeg v1)) r19) → (vp_in v1 8) ∧ (∀ N20 : Mem, N20 = (m_i N19 187 (Int32.toNatClampNeg v1) r19) → (vp_in v1 8) ∧ (∃ a, a < 800 ∧ N20.1 175 40 = nI a) ∧ (∀ (r21 : Int32) (N21 : Mem), (PassN N20 N21 (N20.1 188 (Int32.toNatClampNeg v1)) r21) → (vp_in v1 8) ∧ (∀ N22 : Mem, N22 = (m_i N21 188 (Int32.toNatClampNeg v1) r21) → B_X11_passAll G K 62 [(0, .ref 175), (1, .int (v1 + 1))] [] N22)))))))))))))))))))))) : B_X11_passAll G K 62 [(0, .ref 175), (1, .int v1)] [] M := by
  refine BT.iload_n dX11_passAll_62 rfl 1 rfl ?_
  refine BT.bipush (v := 8) dX11_passAll_63 (by decide) ?_
  refine BT.icmp_ge (tgt := 234) dX11_passAll_65 (by decide) (fun c => ?_) (fun c => ?_)
  · have c1 := c
    refine BT.iconst (v := 0) dX11_passAll_234 (by decide) ?_
    refine BT.istore_n (L' := [(1, .int 0), (0, .ref 175)]) dX11_passAll_235 rfl (by decide) rfl ?_
    refine BT.sub [1, 0] rfl ?_
    exact (h.1 c1)
  · have c2 := c
    refine BT.aload_n dX11_passAll_68 rfl 0 rfl ?_
    refine BT.getR (r := 177) fl_X11_13 ho_175 rfl dX11_passAll_69 ?_
    refine BT.iload_n dX11_passAll_72 rfl 1 rfl ?_
    refine BT.aload_n dX11_passAll_73 rfl 0 rfl ?_
    refine BT.aload_n dX11_passAll_74 rfl 0 rfl ?_
    refine BT.getR (r := 177) fl_X11_13 ho_175 rfl dX11_passAll_75 ?_
    refine BT.iload_n dX11_passAll_78 rfl 1 rfl ?_
    refine BT.iald ha_177 (h.2 c2).1 dX11_passAll_79 ?_
    refine BT.mcV [.int (M.1 177 (Int32.toNatClampNeg v1))] (t_X11_pass (h.2 c2).2.1 (fun r3 N3 g3 => ?_)) mb_X11_pass mv_X11_pass lk_X11_310 rfl (by decide) rfl (recvRep ho_175 rfl) (Nat.le_of_ble_eq_true rfl) dX11_passAll_80
    show B_X11_passAll G K 83 [(0, .ref 175), (1, .int v1)] [.int r3, .int v1, .ref 177] N3
    refine BT.iast ha_177 ((h.2 c2).2.2 r3 N3 g3).1 dX11_passAll_83 ?_
    refine BT.topm (fun N4 f4 => ?_)
    refine BT.aload_n dX11_passAll_84 rfl 0 rfl ?_
    refine BT.getR (r := 178) fl_X11_16 ho_175 rfl dX11_passAll_85 ?_
    refine BT.iload_n dX11_passAll_88 rfl 1 rfl ?_
    refine BT.aload_n dX11_passAll_89 rfl 0 rfl ?_
    refine BT.aload_n dX11_passAll_90 rfl 0 rfl ?_
    refine BT.getR (r := 178) fl_X11_16 ho_175 rfl dX11_passAll_91 ?_
    refine BT.iload_n dX11_passAll_94 rfl 1 rfl ?_
    refine BT.iald ha_178 (((h.2 c2).2.2 r3 N3 g3).2 N4 f4).1 dX11_passAll_95 ?_
    refine BT.mcV [.int (N4.1 178 (Int32.toNatClampNeg v1))] (t_X11_pass (((h.2 c2).2.2 r3 N3 g3).2 N4 f4).2.1 (fun r5 N5 g5 => ?_)) mb_X11_pass mv_X11_pass lk_X11_310 rfl (by decide) rfl (recvRep ho_175 rfl) (Nat.le_of_ble_eq_true rfl) dX11_passAll_96
    show B_X11_passAll G K 99 [(0, .ref 175), (1, .int v1)] [.int r5, .int v1, .ref 178] N5
    refine BT.iast ha_178 ((((h.2 c2).2.2 r3 N3 g3).2 N4 f4).2.2 r5 N5 g5).1 dX11_passAll_99 ?_
    refine BT.topm (fun N6 f6 => ?_)
    refine BT.aload_n dX11_passAll_100 rfl 0 rfl ?_
    refine BT.getR (r := 179) fl_X11_19 ho_175 rfl dX11_passAll_101 ?_
    refine BT.iload_n dX11_passAll_104 rfl 1 rfl ?_
    refine BT.aload_n dX11_passAll_105 rfl 0 rfl ?_
    refine BT.aload_n dX11_passAll_106 rfl 0 rfl ?_
    refine BT.getR (r := 179) fl_X11_19 ho_175 rfl dX11_passAll_107 ?_
    refine BT.iload_n dX11_passAll_110 rfl 1 rfl ?_
    refine BT.iald ha_179 (((((h.2 c2).2.2 r3 N3 g3).2 N4 f4).2.2 r5 N5 g5).2 N6 f6).1 dX11_passAll_111 ?_
    refine BT.mcV [.int (N6.1 179 (Int32.toNatClampNeg v1))] (t_X11_pass (((((h.2 c2).2.2 r3 N3 g3).2 N4 f4).2.2 r5 N5 g5).2 N6 f6).2.1 (fun r7 N7 g7 => ?_)) mb_X11_pass mv_X11_pass lk_X11_310 rfl (by decide) rfl (recvRep ho_175 rfl) (Nat.le_of_ble_eq_true rfl) dX11_passAll_112
    show B_X11_passAll G K 115 [(0, .ref 175), (1, .int v1)] [.int r7, .int v1, .ref 179] N7
    refine BT.iast ha_179 ((((((h.2 c2).2.2 r3 N3 g3).2 N4 f4).2.2 r5 N5 g5).2 N6 f6).2.2 r7 N7 g7).1 dX11_passAll_115 ?_
    refine BT.topm (fun N8 f8 => ?_)
    refine BT.aload_n dX11_passAll_116 rfl 0 rfl ?_
    refine BT.getR (r := 182) fl_X11_28 ho_175 rfl dX11_passAll_117 ?_
    refine BT.iload_n dX11_passAll_120 rfl 1 rfl ?_
    refine BT.aload_n dX11_passAll_121 rfl 0 rfl ?_
    refine BT.aload_n dX11_passAll_122 rfl 0 rfl ?_
    refine BT.getR (r := 182) fl_X11_28 ho_175 rfl dX11_passAll_123 ?_
    refine BT.iload_n dX11_passAll_126 rfl 1 rfl ?_
    refine BT.iald ha_182 (((((((h.2 c2).2.2 r3 N3 g3).2 N4 f4).2.2 r5 N5 g5).2 N6 f6).2.2 r7 N7 g7).2 N8 f8).1 dX11_passAll_127 ?_
    refine BT.mcV [.int (N8.1 182 (Int32.toNatClampNeg v1))] (t_X11_pass (((((((h.2 c2).2.2 r3 N3 g3).2 N4 f4).2.2 r5 N5 g5).2 N6 f6).2.2 r7 N7 g7).2 N8 f8).2.1 (fun r9 N9 g9 => ?_)) mb_X11_pass mv_X11_pass lk_X11_310 rfl (by decide) rfl (recvRep ho_175 rfl) (Nat.le_of_ble_eq_true rfl) dX11_passAll_128
    show B_X11_passAll G K 131 [(0, .ref 175), (1, .int v1)] [.int r9, .int v1, .ref 182] N9
    refine BT.iast ha_182 ((((((((h.2 c2).2.2 r3 N3 g3).2 N4 f4).2.2 r5 N5 g5).2 N6 f6).2.2 r7 N7 g7).2 N8 f8).2.2 r9 N9 g9).1 dX11_passAll_131 ?_
    refine BT.topm (fun N10 f10 => ?_)
    refine BT.aload_n dX11_passAll_132 rfl 0 rfl ?_
    refine BT.getR (r := 183) fl_X11_31 ho_175 rfl dX11_passAll_133 ?_
    refine BT.iload_n dX11_passAll_136 rfl 1 rfl ?_
    refine BT.aload_n dX11_passAll_137 rfl 0 rfl ?_
    refine BT.aload_n dX11_passAll_138 rfl 0 rfl ?_
    refine BT.getR (r := 183) fl_X11_31 ho_175 rfl dX11_passAll_139 ?_
    refine BT.iload_n dX11_passAll_142 rfl 1 rfl ?_
    refine BT.iald ha_183 (((((((((h.2 c2).2.2 r3 N3 g3).2 N4 f4).2.2 r5 N5 g5).2 N6 f6).2.2 r7 N7 g7).2 N8 f8).2.2 r9 N9 g9).2 N10 f10).1 dX11_passAll_143 ?_
    refine BT.mcV [.int (N10.1 183 (Int32.toNatClampNeg v1))] (t_X11_pass (((((((((h.2 c2).2.2 r3 N3 g3).2 N4 f4).2.2 r5 N5 g5).2 N6 f6).2.2 r7 N7 g7).2 N8 f8).2.2 r9 N9 g9).2 N10 f10).2.1 (fun r11 N11 g11 => ?_)) mb_X11_pass mv_X11_pass lk_X11_310 rfl (by decide) rfl (recvRep ho_175 rfl) (Nat.le_of_ble_eq_true rfl) dX11_passAll_144
    show B_X11_passAll G K 147 [(0, .ref 175), (1, .int v1)] [.int r11, .int v1, .ref 183] N11
    refine BT.iast ha_183 ((((((((((h.2 c2).2.2 r3 N3 g3).2 N4 f4).2.2 r5 N5 g5).2 N6 f6).2.2 r7 N7 g7).2 N8 f8).2.2 r9 N9 g9).2 N10 f10).2.2 r11 N11 g11).1 dX11_passAll_147 ?_
    refine BT.topm (fun N12 f12 => ?_)
    refine BT.aload_n dX11_passAll_148 rfl 0 rfl ?_
    refine BT.getR (r := 184) fl_X11_34 ho_175 rfl dX11_passAll_149 ?_
    refine BT.iload_n dX11_passAll_152 rfl 1 rfl ?_
    refine BT.aload_n dX11_passAll_153 rfl 0 rfl ?_
    refine BT.aload_n dX11_passAll_154 rfl 0 rfl ?_
    refine BT.getR (r := 184) fl_X11_34 ho_175 rfl dX11_passAll_155 ?_
    refine BT.iload_n dX11_passAll_158 rfl 1 rfl ?_
    refine BT.iald ha_184 (((((((((((h.2 c2).2.2 r3 N3 g3).2 N4 f4).2.2 r5 N5 g5).2 N6 f6).2.2 r7 N7 g7).2 N8 f8).2.2 r9 N9 g9).2 N10 f10).2.2 r11 N11 g11).2 N12 f12).1 dX11_passAll_159 ?_
    refine BT.mcV [.int (N12.1 184 (Int32.toNatClampNeg v1))] (t_X11_pass (((((((((((h.2 c2).2.2 r3 N3 g3).2 N4 f4).2.2 r5 N5 g5).2 N6 f6).2.2 r7 N7 g7).2 N8 f8).2.2 r9 N9 g9).2 N10 f10).2.2 r11 N11 g11).2 N12 f12).2.1 (fun r13 N13 g13 => ?_)) mb_X11_pass mv_X11_pass lk_X11_310 rfl (by decide) rfl (recvRep ho_175 rfl) (Nat.le_of_ble_eq_true rfl) dX11_passAll_160
    show B_X11_passAll G K 163 [(0, .ref 175), (1, .int v1)] [.int r13, .int v1, .ref 184] N13
    refine BT.iast ha_184 ((((((((((((h.2 c2).2.2 r3 N3 g3).2 N4 f4).2.2 r5 N5 g5).2 N6 f6).2.2 r7 N7 g7).2 N8 f8).2.2 r9 N9 g9).2 N10 f10).2.2 r11 N11 g11).2 N12 f12).2.2 r13 N13 g13).1 dX11_passAll_163 ?_
    refine BT.topm (fun N14 f14 => ?_)
    refine BT.aload_n dX11_passAll_164 rfl 0 rfl ?_
    refine BT.getR (r := 185) fl_X11_37 ho_175 rfl dX11_passAll_165 ?_
    refine BT.iload_n dX11_passAll_168 rfl 1 rfl ?_
    refine BT.aload_n dX11_passAll_169 rfl 0 rfl ?_
    refine BT.aload_n dX11_passAll_170 rfl 0 rfl ?_
    refine BT.getR (r := 185) fl_X11_37 ho_175 rfl dX11_passAll_171 ?_
    refine BT.iload_n dX11_passAll_174 rfl 1 rfl ?_
    refine BT.iald ha_185 (((((((((((((h.2 c2).2.2 r3 N3 g3).2 N4 f4).2.2 r5 N5 g5).2 N6 f6).2.2 r7 N7 g7).2 N8 f8).2.2 r9 N9 g9).2 N10 f10).2.2 r11 N11 g11).2 N12 f12).2.2 r13 N13 g13).2 N14 f14).1 dX11_passAll_175 ?_
    refine BT.mcV [.int (N14.1 185 (Int32.toNatClampNeg v1))] (t_X11_pass (((((((((((((h.2 c2).2.2 r3 N3 g3).2 N4 f4).2.2 r5 N5 g5).2 N6 f6).2.2 r7 N7 g7).2 N8 f8).2.2 r9 N9 g9).2 N10 f10).2.2 r11 N11 g11).2 N12 f12).2.2 r13 N13 g13).2 N14 f14).2.1 (fun r15 N15 g15 => ?_)) mb_X11_pass mv_X11_pass lk_X11_310 rfl (by decide) rfl (recvRep ho_175 rfl) (Nat.le_of_ble_eq_true rfl) dX11_passAll_176
    show B_X11_passAll G K 179 [(0, .ref 175), (1, .int v1)] [.int r15, .int v1, .ref 185] N15
    refine BT.iast ha_185 ((((((((((((((h.2 c2).2.2 r3 N3 g3).2 N4 f4).2.2 r5 N5 g5).2 N6 f6).2.2 r7 N7 g7).2 N8 f8).2.2 r9 N9 g9).2 N10 f10).2.2 r11 N11 g11).2 N12 f12).2.2 r13 N13 g13).2 N14 f14).2.2 r15 N15 g15).1 dX11_passAll_179 ?_
    refine BT.topm (fun N16 f16 => ?_)
    refine BT.aload_n dX11_passAll_180 rfl 0 rfl ?_
    refine BT.getR (r := 186) fl_X11_40 ho_175 rfl dX11_passAll_181 ?_
    refine BT.iload_n dX11_passAll_184 rfl 1 rfl ?_
    refine BT.aload_n dX11_passAll_185 rfl 0 rfl ?_
    refine BT.aload_n dX11_passAll_186 rfl 0 rfl ?_
    refine BT.getR (r := 186) fl_X11_40 ho_175 rfl dX11_passAll_187 ?_
    refine BT.iload_n dX11_passAll_190 rfl 1 rfl ?_
    refine BT.iald ha_186 (((((((((((((((h.2 c2).2.2 r3 N3 g3).2 N4 f4).2.2 r5 N5 g5).2 N6 f6).2.2 r7 N7 g7).2 N8 f8).2.2 r9 N9 g9).2 N10 f10).2.2 r11 N11 g11).2 N12 f12).2.2 r13 N13 g13).2 N14 f14).2.2 r15 N15 g15).2 N16 f16).1 dX11_passAll_191 ?_
    refine BT.mcV [.int (N16.1 186 (Int32.toNatClampNeg v1))] (t_X11_pass (((((((((((((((h.2 c2).2.2 r3 N3 g3).2 N4 f4).2.2 r5 N5 g5).2 N6 f6).2.2 r7 N7 g7).2 N8 f8).2.2 r9 N9 g9).2 N10 f10).2.2 r11 N11 g11).2 N12 f12).2.2 r13 N13 g13).2 N14 f14).2.2 r15 N15 g15).2 N16 f16).2.1 (fun r17 N17 g17 => ?_)) mb_X11_pass mv_X11_pass lk_X11_310 rfl (by decide) rfl (recvRep ho_175 rfl) (Nat.le_of_ble_eq_true rfl) dX11_passAll_192
    show B_X11_passAll G K 195 [(0, .ref 175), (1, .int v1)] [.int r17, .int v1, .ref 186] N17
    refine BT.iast ha_186 ((((((((((((((((h.2 c2).2.2 r3 N3 g3).2 N4 f4).2.2 r5 N5 g5).2 N6 f6).2.2 r7 N7 g7).2 N8 f8).2.2 r9 N9 g9).2 N10 f10).2.2 r11 N11 g11).2 N12 f12).2.2 r13 N13 g13).2 N14 f14).2.2 r15 N15 g15).2 N16 f16).2.2 r17 N17 g17).1 dX11_passAll_195 ?_
    refine BT.topm (fun N18 f18 => ?_)
    refine BT.aload_n dX11_passAll_196 rfl 0 rfl ?_
    refine BT.getR (r := 187) fl_X11_43 ho_175 rfl dX11_passAll_197 ?_
    refine BT.iload_n dX11_passAll_200 rfl 1 rfl ?_
    refine BT.aload_n dX11_passAll_201 rfl 0 rfl ?_
    refine BT.aload_n dX11_passAll_202 rfl 0 rfl ?_
    refine BT.getR (r := 187) fl_X11_43 ho_175 rfl dX11_passAll_203 ?_
    refine BT.iload_n dX11_passAll_206 rfl 1 rfl ?_
    refine BT.iald ha_187 (((((((((((((((((h.2 c2).2.2 r3 N3 g3).2 N4 f4).2.2 r5 N5 g5).2 N6 f6).2.2 r7 N7 g7).2 N8 f8).2.2 r9 N9 g9).2 N10 f10).2.2 r11 N11 g11).2 N12 f12).2.2 r13 N13 g13).2 N14 f14).2.2 r15 N15 g15).2 N16 f16).2.2 r17 N17 g17).2 N18 f18).1 dX11_passAll_207 ?_
    refine BT.mcV [.int (N18.1 187 (Int32.toNatClampNeg v1))] (t_X11_pass (((((((((((((((((h.2 c2).2.2 r3 N3 g3).2 N4 f4).2.2 r5 N5 g5).2 N6 f6).2.2 r7 N7 g7).2 N8 f8).2.2 r9 N9 g9).2 N10 f10).2.2 r11 N11 g11).2 N12 f12).2.2 r13 N13 g13).2 N14 f14).2.2 r15 N15 g15).2 N16 f16).2.2 r17 N17 g17).2 N18 f18).2.1 (fun r19 N19 g19 => ?_)) mb_X11_pass mv_X11_pass lk_X11_310 rfl (by decide) rfl (recvRep ho_175 rfl) (Nat.le_of_ble_eq_true rfl) dX11_passAll_208
    show B_X11_passAll G K 211 [(0, .ref 175), (1, .int v1)] [.int r19, .int v1, .ref 187] N19
    refine BT.iast ha_187 ((((((((((((((((((h.2 c2).2.2 r3 N3 g3).2 N4 f4).2.2 r5 N5 g5).2 N6 f6).2.2 r7 N7 g7).2 N8 f8).2.2 r9 N9 g9).2 N10 f10).2.2 r11 N11 g11).2 N12 f12).2.2 r13 N13 g13).2 N14 f14).2.2 r15 N15 g15).2 N16 f16).2.2 r17 N17 g17).2 N18 f18).2.2 r19 N19 g19).1 dX11_passAll_211 ?_
    refine BT.topm (fun N20 f20 => ?_)
    refine BT.aload_n dX11_passAll_212 rfl 0 rfl ?_
    refine BT.getR (r := 188) fl_X11_46 ho_175 rfl dX11_passAll_213 ?_
    refine BT.iload_n dX11_passAll_216 rfl 1 rfl ?_
    refine BT.aload_n dX11_passAll_217 rfl 0 rfl ?_
    refine BT.aload_n dX11_passAll_218 rfl 0 rfl ?_
    refine BT.getR (r := 188) fl_X11_46 ho_175 rfl dX11_passAll_219 ?_
    refine BT.iload_n dX11_passAll_222 rfl 1 rfl ?_
    refine BT.iald ha_188 (((((((((((((((((((h.2 c2).2.2 r3 N3 g3).2 N4 f4).2.2 r5 N5 g5).2 N6 f6).2.2 r7 N7 g7).2 N8 f8).2.2 r9 N9 g9).2 N10 f10).2.2 r11 N11 g11).2 N12 f12).2.2 r13 N13 g13).2 N14 f14).2.2 r15 N15 g15).2 N16 f16).2.2 r17 N17 g17).2 N18 f18).2.2 r19 N19 g19).2 N20 f20).1 dX11_passAll_223 ?_
    refine BT.mcV [.int (N20.1 188 (Int32.toNatClampNeg v1))] (t_X11_pass (((((((((((((((((((h.2 c2).2.2 r3 N3 g3).2 N4 f4).2.2 r5 N5 g5).2 N6 f6).2.2 r7 N7 g7).2 N8 f8).2.2 r9 N9 g9).2 N10 f10).2.2 r11 N11 g11).2 N12 f12).2.2 r13 N13 g13).2 N14 f14).2.2 r15 N15 g15).2 N16 f16).2.2 r17 N17 g17).2 N18 f18).2.2 r19 N19 g19).2 N20 f20).2.1 (fun r21 N21 g21 => ?_)) mb_X11_pass mv_X11_pass lk_X11_310 rfl (by decide) rfl (recvRep ho_175 rfl) (Nat.le_of_ble_eq_true rfl) dX11_passAll_224
    show B_X11_passAll G K 227 [(0, .ref 175), (1, .int v1)] [.int r21, .int v1, .ref 188] N21
    refine BT.iast ha_188 ((((((((((((((((((((h.2 c2).2.2 r3 N3 g3).2 N4 f4).2.2 r5 N5 g5).2 N6 f6).2.2 r7 N7 g7).2 N8 f8).2.2 r9 N9 g9).2 N10 f10).2.2 r11 N11 g11).2 N12 f12).2.2 r13 N13 g13).2 N14 f14).2.2 r15 N15 g15).2 N16 f16).2.2 r17 N17 g17).2 N18 f18).2.2 r19 N19 g19).2 N20 f20).2.2 r21 N21 g21).1 dX11_passAll_227 ?_
    refine BT.topm (fun N22 f22 => ?_)
    refine BT.iinc (j := 1) (v := (v1 + 1)) (L' := [(1, .int (v1 + 1)), (0, .ref 175)]) dX11_passAll_228 rfl rfl (by decide) rfl ?_
    refine BT.goto (tgt := 62) dX11_passAll_231 (by decide) ?_
    refine BT.sub [1, 0] rfl ?_
    exact (((((((((((((((((((((h.2 c2).2.2 r3 N3 g3).2 N4 f4).2.2 r5 N5 g5).2 N6 f6).2.2 r7 N7 g7).2 N8 f8).2.2 r9 N9 g9).2 N10 f10).2.2 r11 N11 g11).2 N12 f12).2.2 r13 N13 g13).2 N14 f14).2.2 r15 N15 g15).2 N16 f16).2.2 r17 N17 g17).2 N18 f18).2.2 r19 N19 g19).2 N20 f20).2.2 r21 N21 g21).2 N22 f22)
set_option maxRecDepth 4000 in
theorem k_X11_passAll_236 {G : GT} {K : Int32 → Mem → Prop} {M : Mem} {v1 : Int32} (h : (48 ≤ v1 → B_X11_passAll G K 282 [(0, .ref 175), (1, .int 0)] [] M) ∧ (¬ 48 ≤ v1 → (vp_in v1 48) ∧ (∃ a, a < 800 ∧ M.1 175 40 = nI a) ∧ (∀ (r3 : Int32) (N3 : Mem), (PassN M N3 (M.1 180 (Int32.toNatClampNeg v1)) r3) → (vp_in v1 48) ∧ (∀ N4 : Mem, N4 = (m_i N3 180 (Int32.toNatClampNeg v1) r3) → (vp_in v1 48) ∧ (∃ a, a < 800 ∧ N4.1 175 40 = nI a) ∧ (∀ (r5 : Int32) (N5 : Mem), (PassN N4 N5 (N4.1 181 (Int32.toNatClampNeg v1)) r5) → (vp_in v1 48) ∧ (∀ N6 : Mem, N6 = (m_i N5 181 (Int32.toNatClampNeg v1) r5) → B_X11_passAll G K 236 [(0, .ref 175), (1, .int (v1 + 1))] [] N6)))))) : B_X11_passAll G K 236 [(0, .ref 175), (1, .int v1)] [] M := by
  refine BT.iload_n dX11_passAll_236 rfl 1 rfl ?_
  refine BT.bipush (v := 48) dX11_passAll_237 (by decide) ?_
  refine BT.icmp_ge (tgt := 280) dX11_passAll_239 (by decide) (fun c => ?_) (fun c => ?_)
  · have c1 := c
    refine BT.iconst (v := 0) dX11_passAll_280 (by decide) ?_
    refine BT.istore_n (L' := [(1, .int 0), (0, .ref 175)]) dX11_passAll_281 rfl (by decide) rfl ?_
    refine BT.sub [1, 0] rfl ?_
    exact (h.1 c1)
  · have c2 := c
    refine BT.aload_n dX11_passAll_242 rfl 0 rfl ?_
    refine BT.getR (r := 180) fl_X11_22 ho_175 rfl dX11_passAll_243 ?_
    refine BT.iload_n dX11_passAll_246 rfl 1 rfl ?_
    refine BT.aload_n dX11_passAll_247 rfl 0 rfl ?_
    refine BT.aload_n dX11_passAll_248 rfl 0 rfl ?_
    refine BT.getR (r := 180) fl_X11_22 ho_175 rfl dX11_passAll_249 ?_
    refine BT.iload_n dX11_passAll_252 rfl 1 rfl ?_
    refine BT.iald ha_180 (h.2 c2).1 dX11_passAll_253 ?_
    refine BT.mcV [.int (M.1 180 (Int32.toNatClampNeg v1))] (t_X11_pass (h.2 c2).2.1 (fun r3 N3 g3 => ?_)) mb_X11_pass mv_X11_pass lk_X11_310 rfl (by decide) rfl (recvRep ho_175 rfl) (Nat.le_of_ble_eq_true rfl) dX11_passAll_254
    show B_X11_passAll G K 257 [(0, .ref 175), (1, .int v1)] [.int r3, .int v1, .ref 180] N3
    refine BT.iast ha_180 ((h.2 c2).2.2 r3 N3 g3).1 dX11_passAll_257 ?_
    refine BT.topm (fun N4 f4 => ?_)
    refine BT.aload_n dX11_passAll_258 rfl 0 rfl ?_
    refine BT.getR (r := 181) fl_X11_25 ho_175 rfl dX11_passAll_259 ?_
    refine BT.iload_n dX11_passAll_262 rfl 1 rfl ?_
    refine BT.aload_n dX11_passAll_263 rfl 0 rfl ?_
    refine BT.aload_n dX11_passAll_264 rfl 0 rfl ?_
    refine BT.getR (r := 181) fl_X11_25 ho_175 rfl dX11_passAll_265 ?_
    refine BT.iload_n dX11_passAll_268 rfl 1 rfl ?_
    refine BT.iald ha_181 (((h.2 c2).2.2 r3 N3 g3).2 N4 f4).1 dX11_passAll_269 ?_
    refine BT.mcV [.int (N4.1 181 (Int32.toNatClampNeg v1))] (t_X11_pass (((h.2 c2).2.2 r3 N3 g3).2 N4 f4).2.1 (fun r5 N5 g5 => ?_)) mb_X11_pass mv_X11_pass lk_X11_310 rfl (by decide) rfl (recvRep ho_175 rfl) (Nat.le_of_ble_eq_true rfl) dX11_passAll_270
    show B_X11_passAll G K 273 [(0, .ref 175), (1, .int v1)] [.int r5, .int v1, .ref 181] N5
    refine BT.iast ha_181 ((((h.2 c2).2.2 r3 N3 g3).2 N4 f4).2.2 r5 N5 g5).1 dX11_passAll_273 ?_
    refine BT.topm (fun N6 f6 => ?_)
    refine BT.iinc (j := 1) (v := (v1 + 1)) (L' := [(1, .int (v1 + 1)), (0, .ref 175)]) dX11_passAll_274 rfl rfl (by decide) rfl ?_
    refine BT.goto (tgt := 236) dX11_passAll_277 (by decide) ?_
    refine BT.sub [1, 0] rfl ?_
    exact (((((h.2 c2).2.2 r3 N3 g3).2 N4 f4).2.2 r5 N5 g5).2 N6 f6)
set_option maxRecDepth 4000 in
theorem k_X11_passAll_282 {G : GT} {K : Int32 → Mem → Prop} {M : Mem} {v1 : Int32} (h : (8 ≤ v1 → K 0 M) ∧ (¬ 8 ≤ v1 → (vp_in v1 9) ∧ (∃ a, a < 800 ∧ M.1 175 40 = nI a) ∧ (∀ (r3 : Int32) (N3 : Mem), (PassN M N3 (M.1 189 (Int32.toNatClampNeg v1)) r3) → (vp_in v1 9) ∧ (∀ N4 : Mem, N4 = (m_i N3 189 (Int32.toNatClampNeg v1) r3) → (vp_in v1 9) ∧ (∃ a, a < 800 ∧ N4.1 175 40 = nI a) ∧ (∀ (r5 : Int32) (N5 : Mem), (PassN N4 N5 (N4.1 190 (Int32.toNatClampNeg v1)) r5) → (vp_in v1 9) ∧ (∀ N6 : Mem, N6 = (m_i N5 190 (Int32.toNatClampNeg v1) r5) → (vp_in v1 9) ∧ (∃ a, a < 800 ∧ N6.1 175 40 = nI a) ∧ (∀ (r7 : Int32) (N7 : Mem), (PassN N6 N7 (N6.1 191 (Int32.toNatClampNeg v1)) r7) → (vp_in v1 9) ∧ (∀ N8 : Mem, N8 = (m_i N7 191 (Int32.toNatClampNeg v1) r7) → (vp_in v1 9) ∧ (∃ a, a < 800 ∧ N8.1 175 40 = nI a) ∧ (∀ (r9 : Int32) (N9 : Mem), (PassN N8 N9 (N8.1 192 (Int32.toNatClampNeg v1)) r9) → (vp_in v1 9) ∧ (∀ N10 : Mem, N10 = (m_i N9 192 (Int32.toNatClampNeg v1) r9) → (vp_in v1 9) ∧ (∃ a, a < 800 ∧ N10.1 175 40 = nI a) ∧ (∀ (r11 : Int32) (N11 : Mem), (PassN N10 N11 (N10.1 193 (Int32.toNatClampNeg v1)) r11) → (vp_in v1 9) ∧ (∀ N12 : Mem, N12 = (m_i N11 193 (Int32.toNatClampNeg v1) r11) → B_X11_passAll G K 282 [(0, .ref 175), (1, .int (v1 + 1))] [] N12)))))))))))) : B_X11_passAll G K 282 [(0, .ref 175), (1, .int v1)] [] M := by
  refine BT.iload_n dX11_passAll_282 rfl 1 rfl ?_
  refine BT.bipush (v := 8) dX11_passAll_283 (by decide) ?_
  refine BT.icmp_ge (tgt := 374) dX11_passAll_285 (by decide) (fun c => ?_) (fun c => ?_)
  · have c1 := c
    exact BT.vret dX11_passAll_374 rfl (by decide) (by decide) (h.1 c1)
  · have c2 := c
    refine BT.aload_n dX11_passAll_288 rfl 0 rfl ?_
    refine BT.getR (r := 189) fl_X11_53 ho_175 rfl dX11_passAll_289 ?_
    refine BT.iload_n dX11_passAll_292 rfl 1 rfl ?_
    refine BT.aload_n dX11_passAll_293 rfl 0 rfl ?_
    refine BT.aload_n dX11_passAll_294 rfl 0 rfl ?_
    refine BT.getR (r := 189) fl_X11_53 ho_175 rfl dX11_passAll_295 ?_
    refine BT.iload_n dX11_passAll_298 rfl 1 rfl ?_
    refine BT.iald ha_189 (h.2 c2).1 dX11_passAll_299 ?_
    refine BT.mcV [.int (M.1 189 (Int32.toNatClampNeg v1))] (t_X11_pass (h.2 c2).2.1 (fun r3 N3 g3 => ?_)) mb_X11_pass mv_X11_pass lk_X11_310 rfl (by decide) rfl (recvRep ho_175 rfl) (Nat.le_of_ble_eq_true rfl) dX11_passAll_300
    show B_X11_passAll G K 303 [(0, .ref 175), (1, .int v1)] [.int r3, .int v1, .ref 189] N3
    refine BT.iast ha_189 ((h.2 c2).2.2 r3 N3 g3).1 dX11_passAll_303 ?_
    refine BT.topm (fun N4 f4 => ?_)
    refine BT.aload_n dX11_passAll_304 rfl 0 rfl ?_
    refine BT.getR (r := 190) fl_X11_56 ho_175 rfl dX11_passAll_305 ?_
    refine BT.iload_n dX11_passAll_308 rfl 1 rfl ?_
    refine BT.aload_n dX11_passAll_309 rfl 0 rfl ?_
    refine BT.aload_n dX11_passAll_310 rfl 0 rfl ?_
    refine BT.getR (r := 190) fl_X11_56 ho_175 rfl dX11_passAll_311 ?_
    refine BT.iload_n dX11_passAll_314 rfl 1 rfl ?_
    refine BT.iald ha_190 (((h.2 c2).2.2 r3 N3 g3).2 N4 f4).1 dX11_passAll_315 ?_
    refine BT.mcV [.int (N4.1 190 (Int32.toNatClampNeg v1))] (t_X11_pass (((h.2 c2).2.2 r3 N3 g3).2 N4 f4).2.1 (fun r5 N5 g5 => ?_)) mb_X11_pass mv_X11_pass lk_X11_310 rfl (by decide) rfl (recvRep ho_175 rfl) (Nat.le_of_ble_eq_true rfl) dX11_passAll_316
    show B_X11_passAll G K 319 [(0, .ref 175), (1, .int v1)] [.int r5, .int v1, .ref 190] N5
    refine BT.iast ha_190 ((((h.2 c2).2.2 r3 N3 g3).2 N4 f4).2.2 r5 N5 g5).1 dX11_passAll_319 ?_
    refine BT.topm (fun N6 f6 => ?_)
    refine BT.aload_n dX11_passAll_320 rfl 0 rfl ?_
    refine BT.getR (r := 191) fl_X11_59 ho_175 rfl dX11_passAll_321 ?_
    refine BT.iload_n dX11_passAll_324 rfl 1 rfl ?_
    refine BT.aload_n dX11_passAll_325 rfl 0 rfl ?_
    refine BT.aload_n dX11_passAll_326 rfl 0 rfl ?_
    refine BT.getR (r := 191) fl_X11_59 ho_175 rfl dX11_passAll_327 ?_
    refine BT.iload_n dX11_passAll_330 rfl 1 rfl ?_
    refine BT.iald ha_191 (((((h.2 c2).2.2 r3 N3 g3).2 N4 f4).2.2 r5 N5 g5).2 N6 f6).1 dX11_passAll_331 ?_
    refine BT.mcV [.int (N6.1 191 (Int32.toNatClampNeg v1))] (t_X11_pass (((((h.2 c2).2.2 r3 N3 g3).2 N4 f4).2.2 r5 N5 g5).2 N6 f6).2.1 (fun r7 N7 g7 => ?_)) mb_X11_pass mv_X11_pass lk_X11_310 rfl (by decide) rfl (recvRep ho_175 rfl) (Nat.le_of_ble_eq_true rfl) dX11_passAll_332
    show B_X11_passAll G K 335 [(0, .ref 175), (1, .int v1)] [.int r7, .int v1, .ref 191] N7
    refine BT.iast ha_191 ((((((h.2 c2).2.2 r3 N3 g3).2 N4 f4).2.2 r5 N5 g5).2 N6 f6).2.2 r7 N7 g7).1 dX11_passAll_335 ?_
    refine BT.topm (fun N8 f8 => ?_)
    refine BT.aload_n dX11_passAll_336 rfl 0 rfl ?_
    refine BT.getR (r := 192) fl_X11_62 ho_175 rfl dX11_passAll_337 ?_
    refine BT.iload_n dX11_passAll_340 rfl 1 rfl ?_
    refine BT.aload_n dX11_passAll_341 rfl 0 rfl ?_
    refine BT.aload_n dX11_passAll_342 rfl 0 rfl ?_
    refine BT.getR (r := 192) fl_X11_62 ho_175 rfl dX11_passAll_343 ?_
    refine BT.iload_n dX11_passAll_346 rfl 1 rfl ?_
    refine BT.iald ha_192 (((((((h.2 c2).2.2 r3 N3 g3).2 N4 f4).2.2 r5 N5 g5).2 N6 f6).2.2 r7 N7 g7).2 N8 f8).1 dX11_passAll_347 ?_
    refine BT.mcV [.int (N8.1 192 (Int32.toNatClampNeg v1))] (t_X11_pass (((((((h.2 c2).2.2 r3 N3 g3).2 N4 f4).2.2 r5 N5 g5).2 N6 f6).2.2 r7 N7 g7).2 N8 f8).2.1 (fun r9 N9 g9 => ?_)) mb_X11_pass mv_X11_pass lk_X11_310 rfl (by decide) rfl (recvRep ho_175 rfl) (Nat.le_of_ble_eq_true rfl) dX11_passAll_348
    show B_X11_passAll G K 351 [(0, .ref 175), (1, .int v1)] [.int r9, .int v1, .ref 192] N9
    refine BT.iast ha_192 ((((((((h.2 c2).2.2 r3 N3 g3).2 N4 f4).2.2 r5 N5 g5).2 N6 f6).2.2 r7 N7 g7).2 N8 f8).2.2 r9 N9 g9).1 dX11_passAll_351 ?_
    refine BT.topm (fun N10 f10 => ?_)
    refine BT.aload_n dX11_passAll_352 rfl 0 rfl ?_
    refine BT.getR (r := 193) fl_X11_65 ho_175 rfl dX11_passAll_353 ?_
    refine BT.iload_n dX11_passAll_356 rfl 1 rfl ?_
    refine BT.aload_n dX11_passAll_357 rfl 0 rfl ?_
    refine BT.aload_n dX11_passAll_358 rfl 0 rfl ?_
    refine BT.getR (r := 193) fl_X11_65 ho_175 rfl dX11_passAll_359 ?_
    refine BT.iload_n dX11_passAll_362 rfl 1 rfl ?_
    refine BT.iald ha_193 (((((((((h.2 c2).2.2 r3 N3 g3).2 N4 f4).2.2 r5 N5 g5).2 N6 f6).2.2 r7 N7 g7).2 N8 f8).2.2 r9 N9 g9).2 N10 f10).1 dX11_passAll_363 ?_
    refine BT.mcV [.int (N10.1 193 (Int32.toNatClampNeg v1))] (t_X11_pass (((((((((h.2 c2).2.2 r3 N3 g3).2 N4 f4).2.2 r5 N5 g5).2 N6 f6).2.2 r7 N7 g7).2 N8 f8).2.2 r9 N9 g9).2 N10 f10).2.1 (fun r11 N11 g11 => ?_)) mb_X11_pass mv_X11_pass lk_X11_310 rfl (by decide) rfl (recvRep ho_175 rfl) (Nat.le_of_ble_eq_true rfl) dX11_passAll_364
    show B_X11_passAll G K 367 [(0, .ref 175), (1, .int v1)] [.int r11, .int v1, .ref 193] N11
    refine BT.iast ha_193 ((((((((((h.2 c2).2.2 r3 N3 g3).2 N4 f4).2.2 r5 N5 g5).2 N6 f6).2.2 r7 N7 g7).2 N8 f8).2.2 r9 N9 g9).2 N10 f10).2.2 r11 N11 g11).1 dX11_passAll_367 ?_
    refine BT.topm (fun N12 f12 => ?_)
    refine BT.iinc (j := 1) (v := (v1 + 1)) (L' := [(1, .int (v1 + 1)), (0, .ref 175)]) dX11_passAll_368 rfl rfl (by decide) rfl ?_
    refine BT.goto (tgt := 282) dX11_passAll_371 (by decide) ?_
    refine BT.sub [1, 0] rfl ?_
    exact (((((((((((h.2 c2).2.2 r3 N3 g3).2 N4 f4).2.2 r5 N5 g5).2 N6 f6).2.2 r7 N7 g7).2 N8 f8).2.2 r9 N9 g9).2 N10 f10).2.2 r11 N11 g11).2 N12 f12)

theorem t_X11_passAll {G : GT} {K : Int32 → Mem → Prop} {M : Mem} (hw : ∃ w, w < 2 ∧ M.1 175 40 = nI (400 * w)) (h : ∀ N, PkN M N (Int32.toNatClampNeg (M.1 175 40)) → K 0 N) : T_X11_passAll G [.ref 175] M K := by
  obtain ⟨w, hw, ew⟩ := hw
  rw [ew, ix_nI (by omega)] at h
  have hb : 400 * w + 221 ≤ 800 := by omega
  generalize 400 * w = b at *
  have l3 : ∀ j, j ≤ 8 → ∀ N, IV M b (181 + 5 * j) N → B_X11_passAll G K 282 [(0, .ref 175), (1, .int (nI j))] [] N := by
    refine up_loop (P := fun j => ∀ N, IV M b (181 + 5 * j) N → B_X11_passAll G K 282 [(0, .ref 175), (1, .int (nI j))] [] N) 8 (fun N i0 => ?_) (fun j hj ih N i0 => ?_)
    · refine k_X11_passAll_282 ⟨fun _ => h N ⟨fun c k hk => i0.1 c k hk (by have := pos_lt hk; omega), i0.2.2.2⟩, fun c => absurd (by decide) c⟩
    · refine k_X11_passAll_282 ⟨fun c => absurd ((nI_leI (a := 8) (by omega) (by omega)).mp c) (by omega), fun _ => ?_⟩
      have vl : vp_in (nI j) 9 := vp_nI (by omega) (by decide)
      simp only [ix_nI (show j < 2 ^ 31 by omega), nI_1]
      refine ⟨vl, i0.at (by omega), fun r3 N3 g3 => ?_⟩
      refine ⟨vl, fun N4 g4 => ?_⟩
      have i1 : IV M b (181 + 5 * j + 1) N4 := i0.step hb (c0 := 189) (k0 := j) (by unfold PkR; omega) (by rfl) g3 g4
      refine ⟨vl, i1.at (by omega), fun r5 N5 g5 => ?_⟩
      refine ⟨vl, fun N6 g6 => ?_⟩
      have i2 : IV M b (181 + 5 * j + 2) N6 := i1.step hb (c0 := 190) (k0 := j) (by unfold PkR; omega) (by rfl) g5 g6
      refine ⟨vl, i2.at (by omega), fun r7 N7 g7 => ?_⟩
      refine ⟨vl, fun N8 g8 => ?_⟩
      have i3 : IV M b (181 + 5 * j + 3) N8 := i2.step hb (c0 := 191) (k0 := j) (by unfold PkR; omega) (by rfl) g7 g8
      refine ⟨vl, i3.at (by omega), fun r9 N9 g9 => ?_⟩
      refine ⟨vl, fun N10 g10 => ?_⟩
      have i4 : IV M b (181 + 5 * j + 4) N10 := i3.step hb (c0 := 192) (k0 := j) (by unfold PkR; omega) (by rfl) g9 g10
      refine ⟨vl, i4.at (by omega), fun r11 N11 g11 => ?_⟩
      refine ⟨vl, fun N12 g12 => ?_⟩
      have i5 : IV M b (181 + 5 * j + 5) N12 := i4.step hb (c0 := 193) (k0 := j) (by unfold PkR; omega) (by rfl) g11 g12
      exact ih N12 (by rw [show 181 + 5 * (j + 1) = 181 + 5 * j + 5 by omega]; exact i5)
  have l2 : ∀ j, j ≤ 48 → ∀ N, IV M b (85 + 2 * j) N → B_X11_passAll G K 236 [(0, .ref 175), (1, .int (nI j))] [] N := by
    refine up_loop (P := fun j => ∀ N, IV M b (85 + 2 * j) N → B_X11_passAll G K 236 [(0, .ref 175), (1, .int (nI j))] [] N) 48 (fun N i0 => ?_) (fun j hj ih N i0 => ?_)
    · exact k_X11_passAll_236 ⟨fun _ => l3 0 (by omega) N i0, fun c => absurd (by decide) c⟩
    · refine k_X11_passAll_236 ⟨fun c => absurd ((nI_leI (a := 48) (by omega) (by omega)).mp c) (by omega), fun _ => ?_⟩
      have vl : vp_in (nI j) 48 := vp_nI (by omega) (by decide)
      simp only [ix_nI (show j < 2 ^ 31 by omega), nI_1]
      refine ⟨vl, i0.at (by omega), fun r3 N3 g3 => ?_⟩
      refine ⟨vl, fun N4 g4 => ?_⟩
      have i1 : IV M b (85 + 2 * j + 1) N4 := i0.step hb (c0 := 180) (k0 := j) (by unfold PkR; omega) (by rfl) g3 g4
      refine ⟨vl, i1.at (by omega), fun r5 N5 g5 => ?_⟩
      refine ⟨vl, fun N6 g6 => ?_⟩
      have i2 : IV M b (85 + 2 * j + 2) N6 := i1.step hb (c0 := 181) (k0 := j) (by unfold PkR; omega) (by show 86 + 2 * j = 85 + 2 * j + 1; omega) g5 g6
      exact ih N6 (by rw [show 85 + 2 * (j + 1) = 85 + 2 * j + 2 by omega]; exact i2)
  have l1 : ∀ j, j ≤ 8 → ∀ N, IV M b (5 + 10 * j) N → B_X11_passAll G K 62 [(0, .ref 175), (1, .int (nI j))] [] N := by
    refine up_loop (P := fun j => ∀ N, IV M b (5 + 10 * j) N → B_X11_passAll G K 62 [(0, .ref 175), (1, .int (nI j))] [] N) 8 (fun N i0 => ?_) (fun j hj ih N i0 => ?_)
    · exact k_X11_passAll_62 ⟨fun _ => l2 0 (by omega) N i0, fun c => absurd (by decide) c⟩
    · refine k_X11_passAll_62 ⟨fun c => absurd ((nI_leI (a := 8) (by omega) (by omega)).mp c) (by omega), fun _ => ?_⟩
      have vl : vp_in (nI j) 8 := vp_nI (by omega) (by decide)
      simp only [ix_nI (show j < 2 ^ 31 by omega), nI_1]
      refine ⟨vl, i0.at (by omega), fun r3 N3 g3 => ?_⟩
      refine ⟨vl, fun N4 g4 => ?_⟩
      have i1 : IV M b (5 + 10 * j + 1) N4 := i0.step hb (c0 := 177) (k0 := j) (by unfold PkR; omega) (by rfl) g3 g4
      refine ⟨vl, i1.at (by omega), fun r5 N5 g5 => ?_⟩
      refine ⟨vl, fun N6 g6 => ?_⟩
      have i2 : IV M b (5 + 10 * j + 2) N6 := i1.step hb (c0 := 178) (k0 := j) (by unfold PkR; omega) (by rfl) g5 g6
      refine ⟨vl, i2.at (by omega), fun r7 N7 g7 => ?_⟩
      refine ⟨vl, fun N8 g8 => ?_⟩
      have i3 : IV M b (5 + 10 * j + 3) N8 := i2.step hb (c0 := 179) (k0 := j) (by unfold PkR; omega) (by rfl) g7 g8
      refine ⟨vl, i3.at (by omega), fun r9 N9 g9 => ?_⟩
      refine ⟨vl, fun N10 g10 => ?_⟩
      have i4 : IV M b (5 + 10 * j + 4) N10 := i3.step hb (c0 := 182) (k0 := j) (by unfold PkR; omega) (by rfl) g9 g10
      refine ⟨vl, i4.at (by omega), fun r11 N11 g11 => ?_⟩
      refine ⟨vl, fun N12 g12 => ?_⟩
      have i5 : IV M b (5 + 10 * j + 5) N12 := i4.step hb (c0 := 183) (k0 := j) (by unfold PkR; omega) (by rfl) g11 g12
      refine ⟨vl, i5.at (by omega), fun r13 N13 g13 => ?_⟩
      refine ⟨vl, fun N14 g14 => ?_⟩
      have i6 : IV M b (5 + 10 * j + 6) N14 := i5.step hb (c0 := 184) (k0 := j) (by unfold PkR; omega) (by rfl) g13 g14
      refine ⟨vl, i6.at (by omega), fun r15 N15 g15 => ?_⟩
      refine ⟨vl, fun N16 g16 => ?_⟩
      have i7 : IV M b (5 + 10 * j + 7) N16 := i6.step hb (c0 := 185) (k0 := j) (by unfold PkR; omega) (by rfl) g15 g16
      refine ⟨vl, i7.at (by omega), fun r17 N17 g17 => ?_⟩
      refine ⟨vl, fun N18 g18 => ?_⟩
      have i8 : IV M b (5 + 10 * j + 8) N18 := i7.step hb (c0 := 186) (k0 := j) (by unfold PkR; omega) (by rfl) g17 g18
      refine ⟨vl, i8.at (by omega), fun r19 N19 g19 => ?_⟩
      refine ⟨vl, fun N20 g20 => ?_⟩
      have i9 : IV M b (5 + 10 * j + 9) N20 := i8.step hb (c0 := 187) (k0 := j) (by unfold PkR; omega) (by rfl) g19 g20
      refine ⟨vl, i9.at (by omega), fun r21 N21 g21 => ?_⟩
      refine ⟨vl, fun N22 g22 => ?_⟩
      have i10 : IV M b (5 + 10 * j + 10) N22 := i9.step hb (c0 := 188) (k0 := j) (by unfold PkR; omega) (by rfl) g21 g22
      exact ih N22 (by rw [show 5 + 10 * (j + 1) = 5 + 10 * j + 10 by omega]; exact i10)
  have i0 : IV M b 0 M := IV.rf ew
  refine e_X11_passAll (k_X11_passAll_0 ?_)
  refine ⟨i0.at (by omega), fun r1 N1 g1 => ?_⟩
  intro N2 g2
  have i1 : IV M b (0 + 1) N2 := i0.step hb (c0 := 175) (k0 := 18) (by unfold PkR; omega) (by rfl) g1 g2
  refine ⟨i1.at (by omega), fun r3 N3 g3 => ?_⟩
  intro N4 g4
  have i2 : IV M b (0 + 2) N4 := i1.step hb (c0 := 175) (k0 := 26) (by unfold PkR; omega) (by rfl) g3 g4
  refine ⟨i2.at (by omega), fun r5 N5 g5 => ?_⟩
  intro N6 g6
  have i3 : IV M b (0 + 3) N6 := i2.step hb (c0 := 175) (k0 := 27) (by unfold PkR; omega) (by rfl) g5 g6
  refine ⟨i3.at (by omega), fun r7 N7 g7 => ?_⟩
  intro N8 g8
  have i4 : IV M b (0 + 4) N8 := i3.step hb (c0 := 175) (k0 := 28) (by unfold PkR; omega) (by rfl) g7 g8
  refine ⟨i4.at (by omega), fun r9 N9 g9 => ?_⟩
  intro N10 g10
  have i5 : IV M b (0 + 5) N10 := i4.step hb (c0 := 175) (k0 := 29) (by unfold PkR; omega) (by rfl) g9 g10
  exact l1 0 (by omega) N10 i5

/-! BetweenLawsModel.restore(I)I -/
abbrev rm_X11_restore : Room := { frames := 2, cells := 0, slots := 0, locals := 43 }
abbrev B_X11_restore (G : GT) (K : Int32 → Mem → Prop) := BT G (Rep G) RX11 "restore" cX11_restore 2 (some .int) rm_X11_restore K 0 0
abbrev T_X11_restore (G : GT) (as : List Value) (M : Mem) (K : Int32 → Mem → Prop) : Prop := MT G (Rep G) yX11_restore cX11_restore 2 (some .int) rm_X11_restore as M K
theorem e_X11_restore {G : GT} {K : Int32 → Mem → Prop} {M : Mem} {v1 : Int32} (h : B_X11_restore G K 0 [(0, .ref 175), (1, .int v1)] [] M) : T_X11_restore G [.ref 175, .int v1] M K := MT.of (by decide +kernel) rfl rfl (Nat.le_of_ble_eq_true rfl) rfl h
set_option maxRecDepth 4000 in
theorem k_X11_restore_0 {G : GT} {K : Int32 → Mem → Prop} {M : Mem} {v1 : Int32} (h : (((0 : Int32) ≤ v1 ∧ v1 ≤ (1 : Int32)) → (vp_in v1 2) ∧ (¬ (M.1 198 (Int32.toNatClampNeg v1)) = 0 → (∀ N5 : Mem, N5 = (m_i M 175 40 ((400 : Int32) * v1)) → (∀ N6 : Mem, N6 = (m_i N5 175 41 0) → (∃ w, w < 2 ∧ N6.1 175 40 = nI (400 * w)) ∧ (∀ N7 : Mem, (PkN N6 N7 (Int32.toNatClampNeg (N6.1 175 40))) → K 1 N7)))) ∧ ((M.1 198 (Int32.toNatClampNeg v1)) = 0 → K (-3) M)) ∧ (¬ ((0 : Int32) ≤ v1 ∧ v1 ≤ (1 : Int32)) → K (-2) M)) : B_X11_restore G K 0 [(0, .ref 175), (1, .int v1)] [] M := by
  refine BT.iload_n dX11_restore_0 rfl 1 rfl ?_
  refine BT.i2l dX11_restore_1 ?_
  refine BT.lconst (v := 0) dX11_restore_2 (by decide) ?_
  refine BT.lconst (v := 1) dX11_restore_3 (by decide) ?_
  refine BT.mcS [.long (Int32.toInt64 v1), .long 0, .long 1] (t_X11_in (x := v1) (y := (0 : Int32)) (z := (1 : Int32)) rfl (by decide) (by decide) ?_) mb_X11_in ms_X11_in lk_X11_86 rfl (by decide) rfl (Nat.le_of_ble_eq_true rfl) dX11_restore_4
  show B_X11_restore G K 7 [(0, .ref 175), (1, .int v1)] [.int (bi ((0 : Int32) ≤ v1 ∧ v1 ≤ (1 : Int32)))] M
  refine BT.if_ne (tgt := 13) dX11_restore_7 (by decide) (fun c => ?_) (fun c => ?_)
  · have c1 := bi_ne0.mp c
    refine BT.aload_n dX11_restore_13 rfl 0 rfl ?_
    refine BT.getR (r := 198) fl_X11_81 ho_175 rfl dX11_restore_14 ?_
    refine BT.iload_n dX11_restore_17 rfl 1 rfl ?_
    refine BT.zald ha_198 (h.1 c1).1 dX11_restore_18 ?_
    refine BT.if_ne (tgt := 25) dX11_restore_19 (by decide) (fun c => ?_) (fun c => ?_)
    · have c3 := c
      refine BT.aload_n dX11_restore_25 rfl 0 rfl ?_
      refine BT.sipush (v := 400) dX11_restore_26 (by decide) ?_
      refine BT.iload_n dX11_restore_29 rfl 1 rfl ?_
      refine BT.imul dX11_restore_30 ?_
      refine BT.putI fl_X11_307 ft_11_40 ho_175 rfl dX11_restore_31 ?_
      refine BT.topm (fun N5 f5 => ?_)
      refine BT.aload_n dX11_restore_34 rfl 0 rfl ?_
      refine BT.iconst (v := 0) dX11_restore_35 (by decide) ?_
      refine BT.putZ fl_X11_304 ft_11_41 ho_175 rfl (Or.inl rfl) dX11_restore_36 ?_
      refine BT.topm (fun N6 f6 => ?_)
      refine BT.aload_n dX11_restore_39 rfl 0 rfl ?_
      refine BT.mcVvp [] (t_X11_passAll ((((h.1 c1).2.1 c3) N5 f5) N6 f6).1 (fun N hN => ⟨rfl, hN⟩)) mb_X11_passAll mv_X11_passAll lk_X11_313 rfl (by decide) rfl (recvRep ho_175 rfl) (Nat.le_of_ble_eq_true rfl) dX11_restore_40 (P := fun N7 => PkN N6 N7 (Int32.toNatClampNeg (N6.1 175 40))) (fun N7 g7 => ?_)
      show B_X11_restore G K 43 [(0, .ref 175), (1, .int v1)] [] N7
      refine BT.iconst (v := 1) dX11_restore_43 (by decide) ?_
      exact BT.iret dX11_restore_44 rfl (by decide) (by decide) (((((h.1 c1).2.1 c3) N5 f5) N6 f6).2 N7 g7)
    · have c4 := c
      refine BT.bipush (v := (-3)) dX11_restore_22 (by decide) ?_
      exact BT.iret dX11_restore_24 rfl (by decide) (by decide) ((h.1 c1).2.2 c4)
  · have c2 := bi_eq0.mp c
    refine BT.bipush (v := (-2)) dX11_restore_10 (by decide) ?_
    exact BT.iret dX11_restore_12 rfl (by decide) (by decide) (h.2 c2)

/-! BetweenLawsModel.image(I)I -/
abbrev rm_X11_image : Room := { frames := 2, cells := 0, slots := 0, locals := 43 }
abbrev B_X11_image (G : GT) (K : Int32 → Mem → Prop) := BT G (Rep G) RX11 "image" cX11_image 2 (some .int) rm_X11_image K 0 0
abbrev T_X11_image (G : GT) (as : List Value) (M : Mem) (K : Int32 → Mem → Prop) : Prop := MT G (Rep G) yX11_image cX11_image 2 (some .int) rm_X11_image as M K
theorem e_X11_image {G : GT} {K : Int32 → Mem → Prop} {M : Mem} {v1 : Int32} (h : B_X11_image G K 0 [(0, .ref 175), (1, .int v1)] [] M) : T_X11_image G [.ref 175, .int v1] M K := MT.of (by decide +kernel) rfl rfl (Nat.le_of_ble_eq_true rfl) rfl h
set_option maxRecDepth 4000 in
theorem k_X11_image_0 {G : GT} {K : Int32 → Mem → Prop} {M : Mem} {v1 : Int32} (h : (((0 : Int32) ≤ v1 ∧ v1 ≤ (1 : Int32)) → (∀ N3 : Mem, N3 = (m_i M 175 40 ((400 : Int32) * v1)) → (∀ N4 : Mem, N4 = (m_i N3 175 41 1) → (∃ w, w < 2 ∧ N4.1 175 40 = nI (400 * w)) ∧ (∀ N5 : Mem, (PkN N4 N5 (Int32.toNatClampNeg (N4.1 175 40))) → (vp_in v1 2) ∧ (∀ N6 : Mem, N6 = (m_i N5 198 (Int32.toNatClampNeg v1) 1) → K 1 N6))))) ∧ (¬ ((0 : Int32) ≤ v1 ∧ v1 ≤ (1 : Int32)) → K (-2) M)) : B_X11_image G K 0 [(0, .ref 175), (1, .int v1)] [] M := by
  refine BT.iload_n dX11_image_0 rfl 1 rfl ?_
  refine BT.i2l dX11_image_1 ?_
  refine BT.lconst (v := 0) dX11_image_2 (by decide) ?_
  refine BT.lconst (v := 1) dX11_image_3 (by decide) ?_
  refine BT.mcS [.long (Int32.toInt64 v1), .long 0, .long 1] (t_X11_in (x := v1) (y := (0 : Int32)) (z := (1 : Int32)) rfl (by decide) (by decide) ?_) mb_X11_in ms_X11_in lk_X11_86 rfl (by decide) rfl (Nat.le_of_ble_eq_true rfl) dX11_image_4
  show B_X11_image G K 7 [(0, .ref 175), (1, .int v1)] [.int (bi ((0 : Int32) ≤ v1 ∧ v1 ≤ (1 : Int32)))] M
  refine BT.if_ne (tgt := 13) dX11_image_7 (by decide) (fun c => ?_) (fun c => ?_)
  · have c1 := bi_ne0.mp c
    refine BT.aload_n dX11_image_13 rfl 0 rfl ?_
    refine BT.sipush (v := 400) dX11_image_14 (by decide) ?_
    refine BT.iload_n dX11_image_17 rfl 1 rfl ?_
    refine BT.imul dX11_image_18 ?_
    refine BT.putI fl_X11_307 ft_11_40 ho_175 rfl dX11_image_19 ?_
    refine BT.topm (fun N3 f3 => ?_)
    refine BT.aload_n dX11_image_22 rfl 0 rfl ?_
    refine BT.iconst (v := 1) dX11_image_23 (by decide) ?_
    refine BT.putZ fl_X11_304 ft_11_41 ho_175 rfl (Or.inr rfl) dX11_image_24 ?_
    refine BT.topm (fun N4 f4 => ?_)
    refine BT.aload_n dX11_image_27 rfl 0 rfl ?_
    refine BT.mcVvp [] (t_X11_passAll (((h.1 c1) N3 f3) N4 f4).1 (fun N hN => ⟨rfl, hN⟩)) mb_X11_passAll mv_X11_passAll lk_X11_313 rfl (by decide) rfl (recvRep ho_175 rfl) (Nat.le_of_ble_eq_true rfl) dX11_image_28 (P := fun N5 => PkN N4 N5 (Int32.toNatClampNeg (N4.1 175 40))) (fun N5 g5 => ?_)
    show B_X11_image G K 31 [(0, .ref 175), (1, .int v1)] [] N5
    refine BT.aload_n dX11_image_31 rfl 0 rfl ?_
    refine BT.getR (r := 198) fl_X11_81 ho_175 rfl dX11_image_32 ?_
    refine BT.iload_n dX11_image_35 rfl 1 rfl ?_
    refine BT.iconst (v := 1) dX11_image_36 (by decide) ?_
    refine BT.zast ha_198 ((((h.1 c1) N3 f3) N4 f4).2 N5 g5).1 (Or.inr rfl) dX11_image_37 ?_
    refine BT.topm (fun N6 f6 => ?_)
    refine BT.iconst (v := 1) dX11_image_38 (by decide) ?_
    exact BT.iret dX11_image_39 rfl (by decide) (by decide) (((((h.1 c1) N3 f3) N4 f4).2 N5 g5).2 N6 f6)
  · have c2 := bi_eq0.mp c
    refine BT.bipush (v := (-2)) dX11_image_10 (by decide) ?_
    exact BT.iret dX11_image_12 rfl (by decide) (by decide) (h.2 c2)

/-- what stands is kept in the image w -/
def ImgN (M P : Mem) (w : Nat) : Prop := (∀ c k, PkR c k → P.1 c k = M.1 c k ∧ unpZ (P.1 197) (400 * w) c k = M.1 c k) ∧ (∀ c, ¬ (c = 175 ∨ (177 ≤ c ∧ c ≤ 193) ∨ c = 197 ∨ c = 198) → P.1 c = M.1 c) ∧ (∀ k, ¬ (k = 18 ∨ (26 ≤ k ∧ k ≤ 29) ∨ k = 40 ∨ k = 41) → P.1 175 k = M.1 175 k) ∧ (∀ j, ¬ (400 * w ≤ j ∧ j < 400 * w + 221) → P.1 197 j = M.1 197 j) ∧ P.1 198 w = 1 ∧ (∀ j, ¬ j = w → P.1 198 j = M.1 198 j) ∧ P.2 = M.2
/-- what is kept in the image w stands -/
def RstN (M P : Mem) (w : Nat) : Prop := (∀ c k, PkR c k → P.1 c k = unpZ (M.1 197) (400 * w) c k ∧ unpZ (P.1 197) (400 * w) c k = unpZ (M.1 197) (400 * w) c k) ∧ (∀ c, ¬ (c = 175 ∨ (177 ≤ c ∧ c ≤ 193) ∨ c = 197) → P.1 c = M.1 c) ∧ (∀ k, ¬ (k = 18 ∨ (26 ≤ k ∧ k ≤ 29) ∨ k = 40 ∨ k = 41) → P.1 175 k = M.1 175 k) ∧ (∀ j, ¬ (400 * w ≤ j ∧ j < 400 * w + 221) → P.1 197 j = M.1 197 j) ∧ P.2 = M.2
theorem w_of {v : Int32} (c : (0 : Int32) ≤ v ∧ v ≤ 1) : ∃ w, w < 2 ∧ v = nI w := i_nat (N := 2) (by decide) c.1 (Int32.lt_of_le_of_lt c.2 (by decide))
theorem t_X11_image {G : GT} {K : Int32 → Mem → Prop} {M : Mem} {v1 : Int32} (h1 : ¬ ((0 : Int32) ≤ v1 ∧ v1 ≤ 1) → K (-2) M) (hok : ((0 : Int32) ≤ v1 ∧ v1 ≤ 1) → ∀ P, ImgN M P (Int32.toNatClampNeg v1) → K 1 P) : T_X11_image G [.ref 175, .int v1] M K := by
  refine e_X11_image (k_X11_image_0 ⟨fun c N3 g3 N4 g4 => ?_, fun c => h1 c⟩)
  have hok := hok c
  obtain ⟨w, hw, rfl⟩ := w_of c
  have e40 : N4.1 175 40 = nI (400 * w) := by rw [g4, m_i_ne (by omega), g3, m_i_at, show (400 : Int32) = nI 400 from rfl, nI_mul]
  refine ⟨⟨w, hw, e40⟩, fun N5 g5 => ⟨vp_nI hw (by decide), fun N6 g6 => hok N6 ?_⟩⟩
  rw [e40, ix_nI (by omega)] at g5
  rw [ix_nI (by omega)] at g6 ⊢
  obtain ⟨p0, p1, p2, p3, p4⟩ := g5
  have e41 : ¬ N4.1 175 41 = 0 := by rw [g4, m_i_at]; decide
  have n4 : ∀ c k, ¬ (c = 175 ∧ (k = 40 ∨ k = 41)) → N4.1 c k = M.1 c k := fun c k hc => by
    rw [g4, m_i_ne (by omega), g3, m_i_ne (by omega)]
  refine ⟨fun c k hk => ?_, fun c hc => ?_, fun k hk => ?_, fun j hj => ?_, by rw [g6, m_i_at], fun j hj => ?_, by rw [g6, ← show N4.2 = M.2 by rw [g4, g3]; rfl]; exact p4⟩
  · obtain ⟨a, b⟩ := p0 c k hk
    have hk2 := hk
    unfold PkR at hk2
    have ev : pv N4 (400 * w) c k = M.1 c k := by
      unfold pv
      rw [if_neg e41, n4 c k (by omega)]
    unfold unpZ
    rw [g6, m_i_ne (by omega), m_i_ne (by omega), a, b, ev]
    exact ⟨rfl, rfl⟩
  · rw [g6, mi_off (by omega), p1 c (by omega)]
    funext k; exact n4 c k (by omega)
  · rw [g6, m_i_ne (by omega), p2 k (by omega), n4 175 k (by omega)]
  · rw [g6, m_i_ne (by omega), p3 j hj, n4 197 j (by omega)]
  · rw [g6, m_i_ne (by omega), p1 198 (by omega), n4 198 j (by omega)]
theorem t_X11_restore {G : GT} {K : Int32 → Mem → Prop} {M : Mem} {v1 : Int32} (h1 : ¬ ((0 : Int32) ≤ v1 ∧ v1 ≤ 1) → K (-2) M) (h2 : ((0 : Int32) ≤ v1 ∧ v1 ≤ 1) → M.1 198 (Int32.toNatClampNeg v1) = 0 → K (-3) M) (hok : ((0 : Int32) ≤ v1 ∧ v1 ≤ 1) → ¬ M.1 198 (Int32.toNatClampNeg v1) = 0 → ∀ P, RstN M P (Int32.toNatClampNeg v1) → K 1 P) : T_X11_restore G [.ref 175, .int v1] M K := by
  refine e_X11_restore (k_X11_restore_0 ⟨fun c => ?_, fun c => h1 c⟩)
  have hok := hok c
  have h2 := h2 c
  obtain ⟨w, hw, rfl⟩ := w_of c
  refine ⟨vp_nI hw (by decide), fun c2 N5 g5 N6 g6 => ?_, fun c2 => h2 c2⟩
  have e40 : N6.1 175 40 = nI (400 * w) := by rw [g6, m_i_ne (by omega), g5, m_i_at, show (400 : Int32) = nI 400 from rfl, nI_mul]
  refine ⟨⟨w, hw, e40⟩, fun N7 g7 => hok c2 N7 ?_⟩
  rw [e40, ix_nI (by omega)] at g7
  rw [ix_nI (by omega)]
  obtain ⟨p0, p1, p2, p3, p4⟩ := g7
  have e41 : N6.1 175 41 = 0 := by rw [g6, m_i_at]
  have n4 : ∀ c k, ¬ (c = 175 ∧ (k = 40 ∨ k = 41)) → N6.1 c k = M.1 c k := fun c k hc => by
    rw [g6, m_i_ne (by omega), g5, m_i_ne (by omega)]
  refine ⟨fun c k hk => ?_, fun c hc => ?_, fun k hk => ?_, fun j hj => ?_, by rw [← show N6.2 = M.2 by rw [g6, g5]; rfl]; exact p4⟩
  · obtain ⟨a, b⟩ := p0 c k hk
    have ev : pv N6 (400 * w) c k = M.1 197 (400 * w + pos c k) := by
      unfold pv
      rw [if_pos e41, n4 197 _ (by omega)]
    unfold unpZ
    rw [a, b, ev]
    exact ⟨rfl, rfl⟩
  · rw [p1 c (by omega)]
    funext k; exact n4 c k (by omega)
  · rw [p2 k (by omega), n4 175 k (by omega)]
  · rw [p3 j hj, n4 197 j (by omega)]

