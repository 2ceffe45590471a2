/-! ===== 41.model11 ===== -/
/-! ===== the model's mending ===== -/
/-- what the model's greater questions may change -/
def Zq (M N : Mem) : Prop := (∀ c, ¬ (c = 175 ∨ c = 194 ∨ c = 195 ∨ c = 196) → N.1 c = M.1 c) ∧ (∀ k, ¬ (k = 30 ∨ k = 32 ∨ k = 33 ∨ k = 34 ∨ k = 35) → N.1 175 k = M.1 175 k) ∧ N.2 = M.2
theorem Zcr.q {M N : Mem} (h : Zcr M N) : Zq M N := ⟨fun c hc => h.1 c (by omega), h.2.1, h.2.2⟩
theorem Zq.rf {M : Mem} : Zq M M := Zcr.rf.q
theorem Zq.tr {M N P : Mem} (h : Zq M N) (h2 : Zq N P) : Zq M P := ⟨fun c hc => (h2.1 c hc).trans (h.1 c hc), fun k hk => (h2.2.1 k hk).trans (h.2.1 k hk), h2.2.2.trans h.2.2⟩
theorem Zq.mc {M N : Mem} {c k : Nat} {v : Int32} (h : Zq M N) (hc : c = 194 ∨ c = 195 ∨ c = 196) : Zq M (m_i N c k v) :=
  ⟨fun i hi => (mi_off (fun e => hi (by omega))).trans (h.1 i hi), fun j hj => (m_i_ne (by omega)).trans (h.2.1 j hj), h.2.2⟩
theorem Zq.rgs {M N : Mem} (h : Zq M N) : RGs M N := ⟨fun c h1 h2 => h.1 c (by omega), h.2.1 18 (by decide), h.2.1 19 (by decide), h.2.1 27 (by decide), h.2.1 28 (by decide), h.2.1 29 (by decide)⟩
theorem RG.q {W : WT} {M N : Mem} (h : RG W M) (s : Zq M N) : RG W N := h.same s.rgs
theorem PR.q {W : WT} {M N : Mem} {p : Int32} (h : PR W M p) (s : Zq M N) : PR W N p := h.same (fun c h1 h2 => s.1 c (by omega))
theorem RP.q {W : WT} {M N : Mem} (h : RP W M) (s : Zq M N) : RP W N := by
  refine ⟨h.1, (s.2.1 26 (by decide)).trans h.2.1, fun p hp => ⟨(h.2.2 p hp).1.q s, ?_⟩⟩
  rw [s.1 193 (by decide)]
  exact (h.2.2 p hp).2
theorem RT.q {W : WT} {M N : Mem} (h : RT W M) (s : Zq M N) : RT W N := by
  unfold RT
  rw [s.2.1 19 (by decide), s.2.1 20 (by decide), s.1 182 (by decide), s.1 183 (by decide), s.1 185 (by decide), s.1 186 (by decide), s.1 187 (by decide)]
  exact h
def RP2 (V : WT) (M : Mem) : Prop := (V 8 4 = nI (w_p V) ∧ w_p V ≤ 8) ∧ M.1 175 26 = V 8 4 ∧ ∀ p, p < w_p V → PR V M (nI p) ∧ DayO (M.1 193 p)
def z_asW (V Z : WT) (day : Int32) : Prop := ∀ p, p < w_p V → w_given V (52 + p) day = (if Z 193 p = -6 then Z 196 p else Z 193 p)
/-- like M but for the words of one law that a mending tries -/
def Zm (M N : Mem) (l : Nat) : Prop := (∀ c, ¬ (c = 175 ∨ c = 194 ∨ c = 182 ∨ c = 183 ∨ c = 184 ∨ c = 188) → N.1 c = M.1 c) ∧ (∀ c j, (c = 182 ∨ c = 183 ∨ c = 184 ∨ c = 188) → ¬ j = l → N.1 c j = M.1 c j) ∧ (∀ k, ¬ (k = 30 ∨ k = 32 ∨ k = 33 ∨ k = 34 ∨ k = 35) → N.1 175 k = M.1 175 k) ∧ N.2 = M.2
theorem Zm.rf {M : Mem} {l : Nat} : Zm M M l := ⟨fun _ _ => rfl, fun _ _ _ _ => rfl, fun _ _ => rfl, rfl⟩
theorem Zm.z {M N P : Mem} {l : Nat} (h : Zm M N l) (g : Zcr N P) : Zm M P l := ⟨fun c hc => (g.1 c (by omega)).trans (h.1 c hc), fun c j hc hj => by rw [g.1 c (by omega)]; exact h.2.1 c j hc hj, fun k hk => (g.2.1 k hk).trans (h.2.2.1 k hk), g.2.2.trans h.2.2.2⟩
theorem Zm.mi {M N : Mem} {l c : Nat} {v : Int32} (h : Zm M N l) (hc : c = 182 ∨ c = 183 ∨ c = 184 ∨ c = 188) : Zm M (m_i N c l v) l :=
  ⟨fun i hi => (mi_off (fun e => hi (by omega))).trans (h.1 i hi), fun i j hi hj => (m_i_ne (fun q => hj q.2)).trans (h.2.1 i j hi hj), fun k hk => (m_i_ne (by omega)).trans (h.2.2.1 k hk), h.2.2.2⟩
theorem z_tm0 {Z : WT} (h : Z 175 19 = 0) (l : Nat) : z_tm Z l = Z 182 l := by
  unfold z_tm
  rw [sel_f]
  rintro ⟨-, a, b⟩
  rw [h, bit_is1 (by omega)] at b
  exact bP_0 b
theorem W_m_off {W : WT} {l : Nat} {t w u : Int32} {c k : Nat} (h : ¬ c = 10 + 5 * l ∨ (¬ k = 9 ∧ ¬ k = 10 ∧ ¬ k = 14)) : W_m W l t w u c k = W c k := by
  unfold W_m
  by_cases e : c = 10 + 5 * l
  · rw [if_pos e]
    have h := h.resolve_left (fun q => q e)
    rw [if_neg h.1, if_neg h.2.1, if_neg h.2.2]
  · rw [if_neg e]
theorem W_m_n {W : WT} {l : Nat} {t w u : Int32} : w_n (W_m W l t w u) = w_n W ∧ w_p (W_m W l t w u) = w_p W := by
  unfold w_n w_p
  rw [W_m_off (Or.inl (by omega)), W_m_off (Or.inl (by omega))]
  exact ⟨rfl, rfl⟩
theorem mend_RG {W : WT} {M N : Mem} {l : Nat} {t w u : Int32} (hR : RG W M) (hT : RT W M) (hl : l < w_n W) (hN : Zm M N l) (e1 : N.1 182 l = t) (e2 : N.1 184 l = w) (e3 : N.1 188 l = u) : RG (W_m W l t w u) N := by
  have h8 := hR.1.1.2
  have hrd := hT.rdOk hR
  refine ⟨GW_congr hR.1 (W_m_off (Or.inl (by omega))) (W_m_off (Or.inl (by omega))) (by funext k; exact W_m_off (Or.inl (by omega))) (fun l' hl' => ⟨⟨W_m_off (Or.inr (by decide)), W_m_off (Or.inr (by decide)), W_m_off (Or.inr (by decide))⟩, ?_, ?_, ?_, ?_⟩), ?_, ?_, ?_, ?_, fun l' hl' => ?_⟩
  any_goals (funext k; exact W_m_off (Or.inl (by omega)))
  · rw [hN.2.2.1 18 (by decide), hR.2.1, W_m_off (Or.inl (by omega))]
  · rw [hN.2.2.1 27 (by decide), hR.2.2.1, W_m_off (Or.inl (by omega))]
  · rw [hN.2.2.1 28 (by decide), hR.2.2.2.1, W_m_off (Or.inl (by omega))]
  · rw [hN.2.2.1 29 (by decide), hR.2.2.2.2.1, W_m_off (Or.inl (by omega))]
  · rw [W_m_n.1] at hl'
    obtain ⟨r1, r2, r3, r4, r5, r6, r7⟩ := hR.2.2.2.2.2 l' hl'
    have e19 : N.1 175 19 = 0 := by rw [hN.2.2.1 19 (by decide), hT.1]
    unfold LawR
    rw [z_tm0 e19, hN.1 177 (by decide), hN.1 178 (by decide), hN.1 179 (by decide), hN.1 180 (by decide), hN.1 181 (by decide), W_m_off (k := 0) (Or.inr (by decide)), W_m_off (k := 1) (Or.inr (by decide)), W_m_off (k := 2) (Or.inr (by decide))]
    refine ⟨r1, r2, r3, ?_, ?_, ?_, fun k hk => ?_⟩
    · by_cases e : l' = l
      · subst e; rw [e2]; unfold W_m; rw [if_pos rfl, if_neg (by decide), if_pos rfl]
      · rw [hN.2.1 184 l' (by decide) e, W_m_off (Or.inl (by omega))]; exact r4
    · by_cases e : l' = l
      · subst e; rw [e3]; unfold W_m; rw [if_pos rfl, if_neg (by decide), if_neg (by decide), if_pos rfl]
      · rw [hN.2.1 188 l' (by decide) e, W_m_off (Or.inl (by omega))]; exact r5
    · by_cases e : l' = l
      · subst e; rw [e1]; unfold W_m; rw [if_pos rfl, if_pos rfl]
      · rw [hN.2.1 182 l' (by decide) e, W_m_off (Or.inl (by omega)), hrd l' hl']
        exact (hT.2.2 l' hl').2.1
    · rw [W_m_off (Or.inl (by omega)), W_m_off (Or.inl (by omega))]
      exact r7 k hk
theorem mend_RP2 {W : WT} {M N : Mem} {l : Nat} {t w u : Int32} (h8 : w_n W ≤ 8) (hQ : RP W M) (hl : l < w_n W) (hN : Zm M N l) (hw : ∀ p, p < w_p W → DayO (W (52 + p) 4)) : RP2 (W_m W l t w u) N := by
  refine ⟨?_, ?_, fun p hp => ⟨?_, ?_⟩⟩
  · rw [W_m_n.2, W_m_off (Or.inl (by omega))]; exact hQ.1
  · rw [hN.2.2.1 26 (by decide), W_m_off (Or.inl (by omega))]; exact hQ.2.1
  · rw [W_m_n.2] at hp
    exact PR_congr (hQ.2.2 p hp).1 (fun j k hj _ _ => W_m_off (Or.inl (by unfold zc; split <;> omega))) (fun c h1 h2 => hN.1 c (by omega))
  · rw [W_m_n.2] at hp
    rw [hN.1 193 (by decide), (hQ.2.2 p hp).2]
    exact hw p hp

/-! BetweenLawsModel.timeAt(I)I -/
abbrev rm_X11_timeAt : Room := { frames := 0, cells := 0, slots := 0, locals := 0 }
abbrev B_X11_timeAt (G : GT) (K : Int32 → Mem → Prop) := BT G (Rep G) RX11 "timeAt" cX11_timeAt 1 (some .int) rm_X11_timeAt K 0 0
abbrev T_X11_timeAt (G : GT) (as : List Value) (M : Mem) (K : Int32 → Mem → Prop) : Prop := MT G (Rep G) yX11_timeAt cX11_timeAt 1 (some .int) rm_X11_timeAt as M K
theorem e_X11_timeAt {G : GT} {K : Int32 → Mem → Prop} {M : Mem} {v0 : Int32} (h : B_X11_timeAt G K 0 [(0, .int v0)] [] M) : T_X11_timeAt G [.int v0] M K := MT.of (by decide +kernel) rfl rfl (Nat.le_of_ble_eq_true rfl) rfl h
set_option maxRecDepth 4000 in
theorem k_X11_timeAt_0 {G : GT} {K : Int32 → Mem → Prop} {M : Mem} {v0 : Int32} (h : (¬ v0 = 0 → (¬ v0 = 1 → K 97 M) ∧ (v0 = 1 → K 104 M)) ∧ (v0 = 0 → K 110 M)) : B_X11_timeAt G K 0 [(0, .int v0)] [] M := by
  refine BT.iload_n dX11_timeAt_0 rfl 0 rfl ?_
  refine BT.if_ne (tgt := 9) dX11_timeAt_1 (by decide) (fun c => ?_) (fun c => ?_)
  · have c1 := c
    refine BT.iload_n dX11_timeAt_9 rfl 0 rfl ?_
    refine BT.iconst (v := 1) dX11_timeAt_10 (by decide) ?_
    refine BT.icmp_ne (tgt := 19) dX11_timeAt_11 (by decide) (fun c => ?_) (fun c => ?_)
    · have c3 := c
      refine BT.bipush (v := 97) dX11_timeAt_19 (by decide) ?_
      exact BT.iret dX11_timeAt_21 rfl (by decide) (by decide) ((h.1 c1).1 c3)
    · have c4 := c
      refine BT.bipush (v := 104) dX11_timeAt_14 (by decide) ?_
      refine BT.goto (tgt := 21) dX11_timeAt_16 (by decide) ?_
      exact BT.iret dX11_timeAt_21 rfl (by decide) (by decide) ((h.1 c1).2 c4)
  · have c2 := c
    refine BT.bipush (v := 110) dX11_timeAt_4 (by decide) ?_
    refine BT.goto (tgt := 21) dX11_timeAt_6 (by decide) ?_
    exact BT.iret dX11_timeAt_21 rfl (by decide) (by decide) (h.2 c2)

theorem t_X11_timeAt {G : GT} {K : Int32 → Mem → Prop} {M : Mem} {v0 : Int32} (h : K (if v0 = 0 then (110 : Int32) else if v0 = 1 then 104 else 97) M) : T_X11_timeAt G [.int v0] M K := by
  refine e_X11_timeAt (k_X11_timeAt_0 ⟨fun c => ⟨fun c2 => ?_, fun c2 => ?_⟩, fun c => ?_⟩)
  · rwa [if_neg c, if_neg c2] at h
  · rwa [if_neg c, if_pos c2] at h
  · rwa [if_pos c] at h

/-! BetweenLawsModel.areAsWished(I)Z -/
abbrev rm_X11_areAsWished : Room := { frames := 7, cells := 0, slots := 0, locals := 175 }
abbrev B_X11_areAsWished (G : GT) (K : Int32 → Mem → Prop) := BT G (Rep G) RX11 "areAsWished" cX11_areAsWished 4 (some .boolean) rm_X11_areAsWished K 0 0
abbrev T_X11_areAsWished (G : GT) (as : List Value) (M : Mem) (K : Int32 → Mem → Prop) : Prop := MT G (Rep G) yX11_areAsWished cX11_areAsWished 4 (some .boolean) rm_X11_areAsWished as M K
theorem e_X11_areAsWished {G : GT} {K : Int32 → Mem → Prop} {M : Mem} {v1 : Int32} (h : B_X11_areAsWished G K 0 [(0, .ref 175), (1, .int v1)] [] M) : T_X11_areAsWished G [.ref 175, .int v1] M K := MT.of (by decide +kernel) rfl rfl (Nat.le_of_ble_eq_true rfl) rfl h
set_option maxRecDepth 4000 in
theorem k_X11_areAsWished_0 {G : GT} {K : Int32 → Mem → Prop} {M : Mem} {v1 : Int32} (h : B_X11_areAsWished G K 4 [(0, .ref 175), (1, .int v1), (2, .int 1), (3, .int 0)] [] M) : B_X11_areAsWished G K 0 [(0, .ref 175), (1, .int v1)] [] M := by
  refine BT.iconst (v := 1) dX11_areAsWished_0 (by decide) ?_
  refine BT.istore_n (L' := [(2, .int 1), (0, .ref 175), (1, .int v1)]) dX11_areAsWished_1 rfl (by decide) rfl ?_
  refine BT.iconst (v := 0) dX11_areAsWished_2 (by decide) ?_
  refine BT.istore_n (L' := [(3, .int 0), (2, .int 1), (0, .ref 175), (1, .int v1)]) dX11_areAsWished_3 rfl (by decide) rfl ?_
  refine BT.sub [2, 3, 1, 0] rfl ?_
  exact h
set_option maxRecDepth 4000 in
theorem k_X11_areAsWished_4 {G : GT} {K : Int32 → Mem → Prop} {M : Mem} {W : WT} {v1 : Int32} {v2 : Int32} {v3 : Int32} (h : ((M.1 175 26) ≤ v3 → (v2 = 0 ∨ v2 = 1) ∧ K v2 M) ∧ (¬ (M.1 175 26) ≤ v3 → (v2 = 0 → (v2 = 0 ∨ v2 = 1) ∧ K v2 M) ∧ (¬ v2 = 0 → (RG W M) ∧ (PR W M v3) ∧ (∀ r5 : Int32, r5 = (w_given W (zp v3) v1) → ∀ N5 : Mem, (Zcr M N5) → (vp_in v3 9) ∧ ((N5.1 193 (Int32.toNatClampNeg v3)) < 0 → (vp_in v3 8) ∧ (¬ r5 = (N5.1 196 (Int32.toNatClampNeg v3)) → B_X11_areAsWished G K 4 [(0, .ref 175), (1, .int v1), (2, .int 0), (3, .int (v3 + 1))] [] N5) ∧ (r5 = (N5.1 196 (Int32.toNatClampNeg v3)) → B_X11_areAsWished G K 4 [(0, .ref 175), (1, .int v1), (2, .int 1), (3, .int (v3 + 1))] [] N5)) ∧ (¬ (N5.1 193 (Int32.toNatClampNeg v3)) < 0 → (vp_in v3 9) ∧ (¬ r5 = (N5.1 193 (Int32.toNatClampNeg v3)) → B_X11_areAsWished G K 4 [(0, .ref 175), (1, .int v1), (2, .int 0), (3, .int (v3 + 1))] [] N5) ∧ (r5 = (N5.1 193 (Int32.toNatClampNeg v3)) → B_X11_areAsWished G K 4 [(0, .ref 175), (1, .int v1), (2, .int 1), (3, .int (v3 + 1))] [] N5)))))) : B_X11_areAsWished G K 4 [(0, .ref 175), (1, .int v1), (2, .int v2), (3, .int v3)] [] M := by
  refine BT.iload_n dX11_areAsWished_4 rfl 3 rfl ?_
  refine BT.aload_n dX11_areAsWished_5 rfl 0 rfl ?_
  refine BT.getI fl_X11_190 ho_175 rfl dX11_areAsWished_6 ?_
  refine BT.icmp_ge (tgt := 61) dX11_areAsWished_9 (by decide) (fun c => ?_) (fun c => ?_)
  · have c1 := c
    refine BT.iload_n dX11_areAsWished_61 rfl 2 rfl ?_
    exact BT.zret dX11_areAsWished_62 rfl (by decide) (by decide) (nar01 ((h.1 c1).1)) (h.1 c1).2
  · have c2 := c
    refine BT.iload_n dX11_areAsWished_12 rfl 2 rfl ?_
    refine BT.if_eq (tgt := 61) dX11_areAsWished_13 (by decide) (fun c => ?_) (fun c => ?_)
    · have c3 := c
      refine BT.iload_n dX11_areAsWished_61 rfl 2 rfl ?_
      exact BT.zret dX11_areAsWished_62 rfl (by decide) (by decide) (nar01 (((h.2 c2).1 c3).1)) ((h.2 c2).1 c3).2
    · have c4 := c
      refine BT.aload_n dX11_areAsWished_16 rfl 0 rfl ?_
      refine BT.iload_n dX11_areAsWished_17 rfl 3 rfl ?_
      refine BT.iload_n dX11_areAsWished_18 rfl 1 rfl ?_
      refine BT.mcVp [.int v3, .int v1] (t_X11_giftOf ((h.2 c2).2 c4).1 ((h.2 c2).2 c4).2.1 (fun N hN => ⟨rfl, hN⟩)) mb_X11_giftOf mv_X11_giftOf lk_X11_254 rfl (by decide) rfl (recvRep ho_175 rfl) (Nat.le_of_ble_eq_true rfl) dX11_areAsWished_19 (P := fun N5 => Zcr M N5) (fun r5 e5 N5 g5 => ?_)
      show B_X11_areAsWished G K 22 [(0, .ref 175), (1, .int v1), (2, .int v2), (3, .int v3)] [.int r5] N5
      refine BT.aload_n dX11_areAsWished_22 rfl 0 rfl ?_
      refine BT.getR (r := 193) fl_X11_65 ho_175 rfl dX11_areAsWished_23 ?_
      refine BT.iload_n dX11_areAsWished_26 rfl 3 rfl ?_
      refine BT.iald ha_193 (((h.2 c2).2 c4).2.2 r5 e5 N5 g5).1 dX11_areAsWished_27 ?_
      refine BT.if_lt (tgt := 40) dX11_areAsWished_28 (by decide) (fun c => ?_) (fun c => ?_)
      · have c6 := c
        refine BT.aload_n dX11_areAsWished_40 rfl 0 rfl ?_
        refine BT.getR (r := 196) fl_X11_75 ho_175 rfl dX11_areAsWished_41 ?_
        refine BT.iload_n dX11_areAsWished_44 rfl 3 rfl ?_
        refine BT.iald ha_196 ((((h.2 c2).2 c4).2.2 r5 e5 N5 g5).2.1 c6).1 dX11_areAsWished_45 ?_
        refine BT.icmp_ne (tgt := 53) dX11_areAsWished_46 (by decide) (fun c => ?_) (fun c => ?_)
        · have c8 := c
          refine BT.iconst (v := 0) dX11_areAsWished_53 (by decide) ?_
          refine BT.istore_n (L' := [(2, .int 0), (0, .ref 175), (1, .int v1), (3, .int v3)]) dX11_areAsWished_54 rfl (by decide) rfl ?_
          refine BT.iinc (j := 3) (v := (v3 + 1)) (L' := [(3, .int (v3 + 1)), (2, .int 0), (0, .ref 175), (1, .int v1)]) dX11_areAsWished_55 rfl rfl (by decide) rfl ?_
          refine BT.goto (tgt := 4) dX11_areAsWished_58 (by decide) ?_
          refine BT.sub [2, 3, 1, 0] rfl ?_
          exact (((((h.2 c2).2 c4).2.2 r5 e5 N5 g5).2.1 c6).2.1 c8)
        · have c9 := c
          refine BT.iconst (v := 1) dX11_areAsWished_49 (by decide) ?_
          refine BT.goto (tgt := 54) dX11_areAsWished_50 (by decide) ?_
          refine BT.istore_n (L' := [(2, .int 1), (0, .ref 175), (1, .int v1), (3, .int v3)]) dX11_areAsWished_54 rfl (by decide) rfl ?_
          refine BT.iinc (j := 3) (v := (v3 + 1)) (L' := [(3, .int (v3 + 1)), (2, .int 1), (0, .ref 175), (1, .int v1)]) dX11_areAsWished_55 rfl rfl (by decide) rfl ?_
          refine BT.goto (tgt := 4) dX11_areAsWished_58 (by decide) ?_
          refine BT.sub [2, 3, 1, 0] rfl ?_
          exact (((((h.2 c2).2 c4).2.2 r5 e5 N5 g5).2.1 c6).2.2 c9)
      · have c7 := c
        refine BT.aload_n dX11_areAsWished_31 rfl 0 rfl ?_
        refine BT.getR (r := 193) fl_X11_65 ho_175 rfl dX11_areAsWished_32 ?_
        refine BT.iload_n dX11_areAsWished_35 rfl 3 rfl ?_
        refine BT.iald ha_193 ((((h.2 c2).2 c4).2.2 r5 e5 N5 g5).2.2 c7).1 dX11_areAsWished_36 ?_
        refine BT.goto (tgt := 46) dX11_areAsWished_37 (by decide) ?_
        refine BT.icmp_ne (tgt := 53) dX11_areAsWished_46 (by decide) (fun c => ?_) (fun c => ?_)
        · have c10 := c
          refine BT.iconst (v := 0) dX11_areAsWished_53 (by decide) ?_
          refine BT.istore_n (L' := [(2, .int 0), (0, .ref 175), (1, .int v1), (3, .int v3)]) dX11_areAsWished_54 rfl (by decide) rfl ?_
          refine BT.iinc (j := 3) (v := (v3 + 1)) (L' := [(3, .int (v3 + 1)), (2, .int 0), (0, .ref 175), (1, .int v1)]) dX11_areAsWished_55 rfl rfl (by decide) rfl ?_
          refine BT.goto (tgt := 4) dX11_areAsWished_58 (by decide) ?_
          refine BT.sub [2, 3, 1, 0] rfl ?_
          exact (((((h.2 c2).2 c4).2.2 r5 e5 N5 g5).2.2 c7).2.1 c10)
        · have c11 := c
          refine BT.iconst (v := 1) dX11_areAsWished_49 (by decide) ?_
          refine BT.goto (tgt := 54) dX11_areAsWished_50 (by decide) ?_
          refine BT.istore_n (L' := [(2, .int 1), (0, .ref 175), (1, .int v1), (3, .int v3)]) dX11_areAsWished_54 rfl (by decide) rfl ?_
          refine BT.iinc (j := 3) (v := (v3 + 1)) (L' := [(3, .int (v3 + 1)), (2, .int 1), (0, .ref 175), (1, .int v1)]) dX11_areAsWished_55 rfl rfl (by decide) rfl ?_
          refine BT.goto (tgt := 4) dX11_areAsWished_58 (by decide) ?_
          refine BT.sub [2, 3, 1, 0] rfl ?_
          exact (((((h.2 c2).2 c4).2.2 r5 e5 N5 g5).2.2 c7).2.2 c11)

theorem t_X11_areAsWished {G : GT} {K : Int32 → Mem → Prop} {M : Mem} {W : WT} {v1 : Int32} (hR : RG W M) (hQ : RP2 W M) (h : ∀ N, Zcr M N → K (bi (z_asW W M.1 v1)) N) : T_X11_areAsWished G [.ref 175, .int v1] M K := by
  obtain ⟨⟨h1, h9⟩, h2, h3⟩ := hQ
  have hcnt : ∀ N, Zcr M N → N.1 175 26 = nI (w_p W) := fun N hN => by rw [hN.2.1 26 (by decide), h2, h1]
  have K0 : ∀ N, Zcr M N → ¬ z_asW W M.1 v1 → ∀ x, B_X11_areAsWished G K 4 [(0, .ref 175), (1, .int v1), (2, .int 0), (3, .int x)] [] N := fun N hN q x => by
    have := h N hN
    rw [bi_f q] at this
    exact k_X11_areAsWished_4 (W := W) ⟨fun _ => ⟨Or.inl rfl, this⟩, fun _ => ⟨fun _ => ⟨Or.inl rfl, this⟩, fun c => absurd rfl c⟩⟩
  refine e_X11_areAsWished (k_X11_areAsWished_0 ?_)
  refine up_loop (P := fun j => ∀ N, Zcr M N → (∀ p, p < j → w_given W (52 + p) v1 = (if M.1 193 p = -6 then M.1 196 p else M.1 193 p)) → B_X11_areAsWished G K 4 [(0, .ref 175), (1, .int v1), (2, .int 1), (3, .int (nI j))] [] N) (w_p W) (fun N hN hall => ?_) (fun j hj ih N hN hall => ?_) 0 (Nat.zero_le _) M Zcr.rf (fun p hp => absurd hp (by omega))
  · have := h N hN
    rw [bi_t (show z_asW W M.1 v1 from hall)] at this
    exact k_X11_areAsWished_4 (W := W) ⟨fun _ => ⟨Or.inr rfl, this⟩, fun c => absurd (by rw [hcnt N hN]; exact Int32.le_refl _) c⟩
  · obtain ⟨hP, hwish⟩ := h3 j hj
    have vp : vp_in (nI j) 9 := vp_nI (by omega) (by decide)
    have vp8' : vp_in (nI j) 8 := vp_nI (by omega) (by decide)
    have ez : zp (nI j) = 52 + j := by unfold zp zc; rw [ix_nI (by omega), if_neg (by omega)]
    refine k_X11_areAsWished_4 (W := W) ⟨fun c => ?_, fun _ => ⟨fun c => absurd c (by decide), fun _ => ⟨hR.z hN, hP.z hN, fun r5 e5 N5 g5 => ?_⟩⟩⟩
    · rw [hcnt N hN, nI_leI (by omega) (by omega)] at c; omega
    · have hN5 := hN.tr g5
      rw [ez] at e5
      rw [hN5.1 193 (by decide), hN5.1 196 (by decide), ix_nI (by omega), nI_1]
      have good : w_given W (52 + j) v1 = (if M.1 193 j = -6 then M.1 196 j else M.1 193 j) → B_X11_areAsWished G K 4 [(0, .ref 175), (1, .int v1), (2, .int 1), (3, .int (nI (j + 1)))] [] N5 := fun q => ih N5 hN5 (fun p hp => by
        by_cases e : p = j
        · rw [e]; exact q
        · exact hall p (by omega))
      refine ⟨vp, fun c => ⟨vp8', fun c2 => K0 N5 hN5 (fun q => c2 ?_) _, fun c2 => good ?_⟩, fun c => ⟨vp, fun c2 => K0 N5 hN5 (fun q => c2 ?_) _, fun c2 => good ?_⟩⟩
      · have := q j hj
        rw [if_pos (hwish.neg.mp c)] at this
        rw [e5]; exact this
      · rw [if_pos (hwish.neg.mp c), ← e5]; exact c2
      · have := q j hj
        rw [if_neg (fun z => c (hwish.neg.mpr z))] at this
        rw [e5]; exact this
      · rw [if_neg (fun z => c (hwish.neg.mpr z)), ← e5]; exact c2

