/-! ===== 61.ztext2 ===== -/
/-! ===== the model lays a text ===== -/
def WZ (Z : WT) (l : Nat) (w : WdT) : Prop := Z 182 l = w.1 ∧ Z 183 l = w.2.1 ∧ Z 184 l = w.2.2.1 ∧ Z 185 l = w.2.2.2.1 ∧ Z 186 l = w.2.2.2.2.1 ∧ Z 187 l = w.2.2.2.2.2.1 ∧ Z 188 l = w.2.2.2.2.2.2
def LayW (M N : Mem) (l : Nat) (s c : Int32) : Prop := (∀ d, ¬ (182 ≤ d ∧ d ≤ 188) → N.1 d = M.1 d) ∧ (∀ d j, ¬ j = l → N.1 d j = M.1 d j) ∧ N.2 = M.2 ∧ ∀ w, WZ M.1 l w → WZ N.1 l (t_word w s c)
/-- states within a case: its number, the cases so far -/
def TI (q : QT) (T : TT) : Prop := (q.1 = 0 ∨ q.1 = 1 ∨ q.1 = 2 ∨ q.1 = 3 ∨ q.1 = 4 ∨ q.1 = 5 ∨ q.1 = 6) → q.2.1 = nI (T.1.1 + 1) ∧ T.1.1 ≤ 5
theorem TI_gift {T : TT} {p : Int32 × Int32 × Int32 × Int32} {s c : Int32} (hs : s = 4 ∨ s = 5) (h : p.1 = nI (T.1.1 + 1) ∧ T.1.1 ≤ 5) : TI (q_gift c (s, p)) (t_step T s (q_gift c (s, p)).1 c) := by
  unfold q_gift
  by_cases c1 : c = 124 ∧ (s, p).2.1 < 6
  · rw [if_pos c1]
    obtain ⟨rfl, c2⟩ := c1
    have c2 : p.1 < 6 := c2
    rw [h.1] at c2
    have c3 := (nI_ltI (b := 6) (by omega) (by omega)).mp c2
    intro _
    show p.1 + 1 = nI (T.1.1 + 1 + 1) ∧ T.1.1 + 1 ≤ 5
    rw [h.1, nI_1]
    exact ⟨rfl, by omega⟩
  · rw [if_neg c1]
    by_cases c2 : c = 47
    · rw [if_pos c2]
      intro z; exact absurd z (of_decide_eq_false rfl)
    · rw [if_neg c2]
      intro z; exact absurd z (of_decide_eq_false rfl)
theorem TI_step {q : QT} {T : TT} {c : Int32} (h : TI q T) : TI (q_step q c) (t_step T q.1 (q_step q c).1 c) := by
  obtain ⟨s, p⟩ := q
  by_cases h0 : s = 0
  · subst h0
    have h := h (Or.inl rfl)
    rw [q_s0]
    by_cases c1 : mkB c ∧ p.2.1 < c - 97
    · rw [if_pos c1]; intro _; exact h
    · rw [if_neg c1]
      by_cases c2 : c = 42
      · rw [if_pos c2]; subst c2; intro _; exact h
      · rw [if_neg c2]; intro z; exact absurd z (of_decide_eq_false rfl)
  by_cases h1 : s = 1
  · subst h1
    have h := h (Or.inr (Or.inl rfl))
    rw [q_s1]
    by_cases c1 : mkB c ∧ p.2.1 < c - 97
    · rw [if_pos c1]; intro _; exact h
    · rw [if_neg c1]
      by_cases c2 : c = 58
      · rw [if_pos c2]; subst c2; intro _; exact h
      · rw [if_neg c2]; intro z; exact absurd z (of_decide_eq_false rfl)
  by_cases h2 : s = 2
  · subst h2
    have h := h (Or.inr (Or.inr (Or.inl rfl)))
    rw [q_s2]
    by_cases c2 : c = 58
    · rw [if_pos c2]; subst c2; intro _; exact h
    · rw [if_neg c2]; intro z; exact absurd z (of_decide_eq_false rfl)
  by_cases h3 : s = 3
  · subst h3
    have h := h (Or.inr (Or.inr (Or.inr (Or.inl rfl))))
    rw [q_s3]
    by_cases c2 : dgB c
    · rw [if_pos c2]; intro _; exact h
    · rw [if_neg c2]
      by_cases c3 : c = 64
      · rw [if_pos c3]; intro _; exact h
      · rw [if_neg c3]; intro z; exact absurd z (of_decide_eq_false rfl)
  by_cases h4 : s = 4
  · subst h4
    have h := h (Or.inr (Or.inr (Or.inr (Or.inr (Or.inl rfl)))))
    rw [q_s4]
    by_cases c2 : dgB c
    · rw [if_pos c2]; intro _; exact h
    · rw [if_neg c2]; exact TI_gift (Or.inl rfl) h
  by_cases h5 : s = 5
  · subst h5
    have h := h (Or.inr (Or.inr (Or.inr (Or.inr (Or.inr (Or.inl rfl))))))
    rw [q_s5]; exact TI_gift (Or.inr rfl) h
  by_cases h6 : s = 6
  · subst h6
    have h := h (Or.inr (Or.inr (Or.inr (Or.inr (Or.inr (Or.inr rfl))))))
    rw [q_s6]
    by_cases c2 : lwB c
    · rw [if_pos c2]; intro _; exact h
    · rw [if_neg c2]; intro z; exact absurd z (of_decide_eq_false rfl)
  by_cases h8 : s = 8
  · subst h8
    rw [q_s8]; unfold q_word
    repeat' split
    all_goals (intro z; exact absurd z (of_decide_eq_false rfl))
  by_cases h9 : s = 9
  · subst h9; rw [q_s9]
    repeat' split
    all_goals (intro z; exact absurd z (of_decide_eq_false rfl))
  by_cases h10 : s = 10
  · subst h10; rw [q_s10]
    repeat' split
    all_goals (intro z; exact absurd z (of_decide_eq_false rfl))
  by_cases h13 : s = 13
  · subst h13; rw [q_s13]
    repeat' split
    all_goals (intro z; exact absurd z (of_decide_eq_false rfl))
  by_cases h14 : s = 14
  · subst h14; rw [q_s14]
    repeat' split
    all_goals (intro z; exact absurd z (of_decide_eq_false rfl))
  by_cases h15 : s = 15
  · subst h15; rw [q_s15]
    repeat' split
    all_goals (intro z; exact absurd z (of_decide_eq_false rfl))
  by_cases h16 : s = 16
  · subst h16; rw [q_s16]
    repeat' split
    all_goals (intro z; exact absurd z (of_decide_eq_false rfl))
  by_cases h17 : s = 17
  · subst h17; rw [q_s17]
    repeat' split
    all_goals (intro z; exact absurd z (of_decide_eq_false rfl))
  by_cases h18 : s = 18
  · subst h18; rw [q_s18]
    repeat' split
    all_goals (intro z; exact absurd z (of_decide_eq_false rfl))
  rw [q_def (by simp only [not_or]; exact ⟨h0, h1, h2, h3, h4, h5, h6, h8, h9, h10, h13, h14, h15, h16, h17, h18⟩)]
  repeat' split
  all_goals (intro z; exact absurd z (of_decide_eq_false rfl))
theorem TI_at (sg : Nat → Int32) (l0 : Int32) (cm cg : Nat → Int32) : ∀ i, TI (q_at sg l0 i) (t_at sg l0 cm cg i)
  | 0 => fun _ => ⟨rfl, by show 0 ≤ 5; omega⟩
  | i + 1 => TI_step (TI_at sg l0 cm cg i)
/-- only the law l's words and the notes of a text have changed -/
def LF (M N : Mem) (l : Nat) : Prop := (∀ c, ¬ (c = 175 ∨ (179 ≤ c ∧ c ≤ 188)) → N.1 c = M.1 c) ∧ (∀ c j, ¬ (c = 175 ∨ c = 180 ∨ c = 181) → ¬ j = l → N.1 c j = M.1 c j) ∧ (∀ c j, (c = 180 ∨ c = 181) → ¬ (6 * l ≤ j ∧ j < 6 * l + 6) → N.1 c j = M.1 c j) ∧ (∀ k, ¬ (k = 2 ∨ k = 3 ∨ k = 4 ∨ k = 5) → N.1 175 k = M.1 175 k) ∧ N.2 = M.2
theorem LF.z {M N P : Mem} {l : Nat} (h : LF M N l) (g : ZFr N P) : LF M P l := by
  obtain ⟨h1, h2, h3, h4, h5⟩ := h
  obtain ⟨g1, g2, g3⟩ := g
  exact ⟨fun c hc => (g1 c (by omega)).trans (h1 c hc), fun c j hc hj => by rw [g1 c (by omega)]; exact h2 c j hc hj, fun c j hc hj => by rw [g1 c (by omega)]; exact h3 c j hc hj, fun k hk => (g2 k hk).trans (h4 k hk), g3.trans h5⟩
theorem LF.mi {M N : Mem} {l c j : Nat} {v : Int32} (h : LF M N l) (hc : (j = l ∧ ¬ (c = 180 ∨ c = 181) ∧ 179 ≤ c ∧ c ≤ 188) ∨ ((c = 180 ∨ c = 181) ∧ 6 * l ≤ j ∧ j < 6 * l + 6)) : LF M (m_i N c j v) l := by
  obtain ⟨h1, h2, h3, h4, h5⟩ := h
  exact ⟨fun d hd => (mi_off (by omega)).trans (h1 d hd), fun d i hd hi => (m_i_ne (by omega)).trans (h2 d i hd hi), fun d i hd hi => (m_i_ne (by omega)).trans (h3 d i hd hi), fun k hk => (m_i_ne (by omega)).trans (h4 k hk), h5⟩
def LZ (M : Mem) (l : Nat) (q : QT) (T : TT) (N : Mem) : Prop := z_q4 N = q.2 ∧ N.1 179 l = nI T.1.1 ∧ (∀ j, j < 6 → N.1 180 (6 * l + j) = T.1.2.1 j ∧ N.1 181 (6 * l + j) = T.1.2.2.1 j) ∧ WZ N.1 l T.2 ∧ LF M N l
def qL (M : Mem) (i : Nat) : QT := q_at (M.1 176) (M.1 175 4) i
def tL (M : Mem) (l i : Nat) : TT := t_at (M.1 176) (M.1 175 4) (fun j => M.1 180 (6 * l + j)) (fun j => M.1 181 (6 * l + j)) i
/-- the text is laid as the law l -/
def LaidN (M N : Mem) (l n : Nat) : Prop := ((∀ c, ¬ (c = 175 ∨ (179 ≤ c ∧ c ≤ 188)) → N.1 c = M.1 c) ∧ (∀ c j, ¬ (c = 175 ∨ c = 180 ∨ c = 181) → ¬ j = l → N.1 c j = M.1 c j) ∧ (∀ c j, (c = 180 ∨ c = 181) → ¬ (6 * l ≤ j ∧ j < 6 * l + 6) → N.1 c j = M.1 c j) ∧ (∀ k, ¬ (1 ≤ k ∧ k ≤ 5) → N.1 175 k = M.1 175 k) ∧ N.2 = M.2) ∧ N.1 175 1 = 0 ∧ N.1 179 l = nI ((tL M l n).1.1 + (if (qL M n).2.2.2.2 = 0 then 1 else 0)) ∧ (∀ j, j < 6 → N.1 180 (6 * l + j) = (tL M l n).1.2.1 j ∧ N.1 181 (6 * l + j) = (tL M l n).1.2.2.1 j) ∧ WZ N.1 l (tL M l n).2

/-! BetweenLawsModel.layWord(III)V -/
abbrev rm_X11_layWord : Room := { frames := 0, cells := 0, slots := 0, locals := 0 }
abbrev B_X11_layWord (G : GT) (K : Int32 → Mem → Prop) := BT G (Rep G) RX11 "layWord" cX11_layWord 4 none rm_X11_layWord K 0 0
abbrev T_X11_layWord (G : GT) (as : List Value) (M : Mem) (K : Int32 → Mem → Prop) : Prop := MT G (Rep G) yX11_layWord cX11_layWord 4 none rm_X11_layWord as M K
theorem e_X11_layWord {G : GT} {K : Int32 → Mem → Prop} {M : Mem} {v1 : Int32} {v2 : Int32} {v3 : Int32} (h : B_X11_layWord G K 0 [(0, .ref 175), (1, .int v1), (2, .int v2), (3, .int v3)] [] M) : T_X11_layWord G [.ref 175, .int v1, .int v2, .int v3] M K := MT.of (by decide +kernel) rfl rfl (Nat.le_of_ble_eq_true rfl) rfl h
set_option maxRecDepth 4000 in
theorem k_X11_layWord_0 {G : GT} {K : Int32 → Mem → Prop} {M : Mem} {v1 : Int32} {v2 : Int32} {v3 : Int32} (h : ((v2.toInt < 9 ∨ 20 < v2.toInt) ∨ v2 = 10 ∨ v2 = 13 ∨ v2 = 17 ∨ v2 = 18 → K 0 M) ∧ (v2 = 9 → (vp_in v1 8) ∧ K 0 (m_i M 182 (Int32.toNatClampNeg v1) v3)) ∧ (v2 = 11 → (vp_in v1 8) ∧ K 0 (m_i M 183 (Int32.toNatClampNeg v1) v3)) ∧ (v2 = 12 → (vp_in v1 8) ∧ K 0 (m_i M 184 (Int32.toNatClampNeg v1) 1)) ∧ (v2 = 14 → (vp_in v1 8) ∧ K 0 (m_i M 185 (Int32.toNatClampNeg v1) (v3 - 48))) ∧ (v2 = 15 → (vp_in v1 8) ∧ (vp_in v1 8) ∧ K 0 (m_i M 185 (Int32.toNatClampNeg v1) ((((10 : Int32) * (M.1 185 (Int32.toNatClampNeg v1))) + v3) - 48))) ∧ (v2 = 16 → (vp_in v1 8) ∧ K 0 (m_i M 186 (Int32.toNatClampNeg v1) v3)) ∧ (v2 = 19 → (vp_in v1 8) ∧ K 0 (m_i M 187 (Int32.toNatClampNeg v1) v3)) ∧ (v2 = 20 → (vp_in v1 8) ∧ (vp_in v1 8) ∧ K 0 (m_i M 188 (Int32.toNatClampNeg v1) ((M.1 188 (Int32.toNatClampNeg v1)) ||| ((1 : Int32) <<< ((v3 - 48) &&& 31)))))) : B_X11_layWord G K 0 [(0, .ref 175), (1, .int v1), (2, .int v2), (3, .int v3)] [] M := by
  refine BT.iload_n dX11_layWord_0 rfl 2 rfl ?_
  refine BT.tsw (td := 168) dX11_layWord_1 (by decide) (fun c => ?_) (fun j c cj => ?_)
  · have c1 : (v2.toInt < 9 ∨ 20 < v2.toInt) ∨ v2 = 10 ∨ v2 = 13 ∨ v2 = 17 ∨ v2 = 18 := Or.inl c
    exact BT.vret dX11_layWord_168 rfl (by decide) (by decide) (h.1 c1)
  · match j, c, cj with
    | 0, c, _ =>
      have c : v2 = 9 := Int32.toInt_inj.mp (by rw [c]; rfl)
      refine ⟨64, 63, rfl, by decide, ?_⟩
      have c2 : v2 = 9 := c
      refine BT.aload_n dX11_layWord_64 rfl 0 rfl ?_
      refine BT.getR (r := 182) fl_X11_28 ho_175 rfl dX11_layWord_65 ?_
      refine BT.iload_n dX11_layWord_68 rfl 1 rfl ?_
      refine BT.iload_n dX11_layWord_69 rfl 3 rfl ?_
      refine BT.iast ha_182 (h.2.1 c2).1 dX11_layWord_70 ?_
      refine BT.goto (tgt := 168) dX11_layWord_71 (by decide) ?_
      exact BT.vret dX11_layWord_168 rfl (by decide) (by decide) (h.2.1 c2).2
    | 1, c, _ =>
      have c : v2 = 10 := Int32.toInt_inj.mp (by rw [c]; rfl)
      refine ⟨168, 167, rfl, by decide, ?_⟩
      have c1 : (v2.toInt < 9 ∨ 20 < v2.toInt) ∨ v2 = 10 ∨ v2 = 13 ∨ v2 = 17 ∨ v2 = 18 := Or.inr (Or.inl c)
      exact BT.vret dX11_layWord_168 rfl (by decide) (by decide) (h.1 c1)
    | 2, c, _ =>
      have c : v2 = 11 := Int32.toInt_inj.mp (by rw [c]; rfl)
      refine ⟨74, 73, rfl, by decide, ?_⟩
      have c3 : v2 = 11 := c
      refine BT.aload_n dX11_layWord_74 rfl 0 rfl ?_
      refine BT.getR (r := 183) fl_X11_31 ho_175 rfl dX11_layWord_75 ?_
      refine BT.iload_n dX11_layWord_78 rfl 1 rfl ?_
      refine BT.iload_n dX11_layWord_79 rfl 3 rfl ?_
      refine BT.iast ha_183 (h.2.2.1 c3).1 dX11_layWord_80 ?_
      refine BT.goto (tgt := 168) dX11_layWord_81 (by decide) ?_
      exact BT.vret dX11_layWord_168 rfl (by decide) (by decide) (h.2.2.1 c3).2
    | 3, c, _ =>
      have c : v2 = 12 := Int32.toInt_inj.mp (by rw [c]; rfl)
      refine ⟨84, 83, rfl, by decide, ?_⟩
      have c4 : v2 = 12 := c
      refine BT.aload_n dX11_layWord_84 rfl 0 rfl ?_
      refine BT.getR (r := 184) fl_X11_34 ho_175 rfl dX11_layWord_85 ?_
      refine BT.iload_n dX11_layWord_88 rfl 1 rfl ?_
      refine BT.iconst (v := 1) dX11_layWord_89 (by decide) ?_
      refine BT.iast ha_184 (h.2.2.2.1 c4).1 dX11_layWord_90 ?_
      refine BT.goto (tgt := 168) dX11_layWord_91 (by decide) ?_
      exact BT.vret dX11_layWord_168 rfl (by decide) (by decide) (h.2.2.2.1 c4).2
    | 4, c, _ =>
      have c : v2 = 13 := Int32.toInt_inj.mp (by rw [c]; rfl)
      refine ⟨168, 167, rfl, by decide, ?_⟩
      have c1 : (v2.toInt < 9 ∨ 20 < v2.toInt) ∨ v2 = 10 ∨ v2 = 13 ∨ v2 = 17 ∨ v2 = 18 := Or.inr (Or.inr (Or.inl c))
      exact BT.vret dX11_layWord_168 rfl (by decide) (by decide) (h.1 c1)
    | 5, c, _ =>
      have c : v2 = 14 := Int32.toInt_inj.mp (by rw [c]; rfl)
      refine ⟨94, 93, rfl, by decide, ?_⟩
      have c5 : v2 = 14 := c
      refine BT.aload_n dX11_layWord_94 rfl 0 rfl ?_
      refine BT.getR (r := 185) fl_X11_37 ho_175 rfl dX11_layWord_95 ?_
      refine BT.iload_n dX11_layWord_98 rfl 1 rfl ?_
      refine BT.iload_n dX11_layWord_99 rfl 3 rfl ?_
      refine BT.bipush (v := 48) dX11_layWord_100 (by decide) ?_
      refine BT.isub dX11_layWord_102 ?_
      refine BT.iast ha_185 (h.2.2.2.2.1 c5).1 dX11_layWord_103 ?_
      refine BT.goto (tgt := 168) dX11_layWord_104 (by decide) ?_
      exact BT.vret dX11_layWord_168 rfl (by decide) (by decide) (h.2.2.2.2.1 c5).2
    | 6, c, _ =>
      have c : v2 = 15 := Int32.toInt_inj.mp (by rw [c]; rfl)
      refine ⟨107, 106, rfl, by decide, ?_⟩
      have c6 : v2 = 15 := c
      refine BT.aload_n dX11_layWord_107 rfl 0 rfl ?_
      refine BT.getR (r := 185) fl_X11_37 ho_175 rfl dX11_layWord_108 ?_
      refine BT.iload_n dX11_layWord_111 rfl 1 rfl ?_
      refine BT.bipush (v := 10) dX11_layWord_112 (by decide) ?_
      refine BT.aload_n dX11_layWord_114 rfl 0 rfl ?_
      refine BT.getR (r := 185) fl_X11_37 ho_175 rfl dX11_layWord_115 ?_
      refine BT.iload_n dX11_layWord_118 rfl 1 rfl ?_
      refine BT.iald ha_185 (h.2.2.2.2.2.1 c6).1 dX11_layWord_119 ?_
      refine BT.imul dX11_layWord_120 ?_
      refine BT.iload_n dX11_layWord_121 rfl 3 rfl ?_
      refine BT.iadd dX11_layWord_122 ?_
      refine BT.bipush (v := 48) dX11_layWord_123 (by decide) ?_
      refine BT.isub dX11_layWord_125 ?_
      refine BT.iast ha_185 (h.2.2.2.2.2.1 c6).2.1 dX11_layWord_126 ?_
      refine BT.goto (tgt := 168) dX11_layWord_127 (by decide) ?_
      exact BT.vret dX11_layWord_168 rfl (by decide) (by decide) (h.2.2.2.2.2.1 c6).2.2
    | 7, c, _ =>
      have c : v2 = 16 := Int32.toInt_inj.mp (by rw [c]; rfl)
      refine ⟨130, 129, rfl, by decide, ?_⟩
      have c7 : v2 = 16 := c
      refine BT.aload_n dX11_layWord_130 rfl 0 rfl ?_
      refine BT.getR (r := 186) fl_X11_40 ho_175 rfl dX11_layWord_131 ?_
      refine BT.iload_n dX11_layWord_134 rfl 1 rfl ?_
      refine BT.iload_n dX11_layWord_135 rfl 3 rfl ?_
      refine BT.iast ha_186 (h.2.2.2.2.2.2.1 c7).1 dX11_layWord_136 ?_
      refine BT.goto (tgt := 168) dX11_layWord_137 (by decide) ?_
      exact BT.vret dX11_layWord_168 rfl (by decide) (by decide) (h.2.2.2.2.2.2.1 c7).2
    | 8, c, _ =>
      have c : v2 = 17 := Int32.toInt_inj.mp (by rw [c]; rfl)
      refine ⟨168, 167, rfl, by decide, ?_⟩
      have c1 : (v2.toInt < 9 ∨ 20 < v2.toInt) ∨ v2 = 10 ∨ v2 = 13 ∨ v2 = 17 ∨ v2 = 18 := Or.inr (Or.inr (Or.inr (Or.inl c)))
      exact BT.vret dX11_layWord_168 rfl (by decide) (by decide) (h.1 c1)
    | 9, c, _ =>
      have c : v2 = 18 := Int32.toInt_inj.mp (by rw [c]; rfl)
      refine ⟨168, 167, rfl, by decide, ?_⟩
      have c1 : (v2.toInt < 9 ∨ 20 < v2.toInt) ∨ v2 = 10 ∨ v2 = 13 ∨ v2 = 17 ∨ v2 = 18 := Or.inr (Or.inr (Or.inr (Or.inr (c))))
      exact BT.vret dX11_layWord_168 rfl (by decide) (by decide) (h.1 c1)
    | 10, c, _ =>
      have c : v2 = 19 := Int32.toInt_inj.mp (by rw [c]; rfl)
      refine ⟨140, 139, rfl, by decide, ?_⟩
      have c8 : v2 = 19 := c
      refine BT.aload_n dX11_layWord_140 rfl 0 rfl ?_
      refine BT.getR (r := 187) fl_X11_43 ho_175 rfl dX11_layWord_141 ?_
      refine BT.iload_n dX11_layWord_144 rfl 1 rfl ?_
      refine BT.iload_n dX11_layWord_145 rfl 3 rfl ?_
      refine BT.iast ha_187 (h.2.2.2.2.2.2.2.1 c8).1 dX11_layWord_146 ?_
      refine BT.goto (tgt := 168) dX11_layWord_147 (by decide) ?_
      exact BT.vret dX11_layWord_168 rfl (by decide) (by decide) (h.2.2.2.2.2.2.2.1 c8).2
    | 11, c, _ =>
      have c : v2 = 20 := Int32.toInt_inj.mp (by rw [c]; rfl)
      refine ⟨150, 149, rfl, by decide, ?_⟩
      have c9 : v2 = 20 := c
      refine BT.aload_n dX11_layWord_150 rfl 0 rfl ?_
      refine BT.getR (r := 188) fl_X11_46 ho_175 rfl dX11_layWord_151 ?_
      refine BT.iload_n dX11_layWord_154 rfl 1 rfl ?_
      refine BT.dup2 dX11_layWord_155 rfl rfl ?_
      refine BT.iald ha_188 (h.2.2.2.2.2.2.2.2 c9).1 dX11_layWord_156 ?_
      refine BT.iconst (v := 1) dX11_layWord_157 (by decide) ?_
      refine BT.iload_n dX11_layWord_158 rfl 3 rfl ?_
      refine BT.bipush (v := 48) dX11_layWord_159 (by decide) ?_
      refine BT.isub dX11_layWord_161 ?_
      refine BT.ishl dX11_layWord_162 ?_
      refine BT.ior dX11_layWord_163 ?_
      refine BT.iast ha_188 (h.2.2.2.2.2.2.2.2 c9).2.1 dX11_layWord_164 ?_
      refine BT.goto (tgt := 168) dX11_layWord_165 (by decide) ?_
      exact BT.vret dX11_layWord_168 rfl (by decide) (by decide) (h.2.2.2.2.2.2.2.2 c9).2.2
    | k + 12, _, h => exact absurd h (by omega)

theorem t_X11_layWord {G : GT} {K : Int32 → Mem → Prop} {M : Mem} {v1 v2 v3 : Int32} (hl : ∃ l, l < 8 ∧ v1 = nI l) (h : ∀ N, LayW M N (Int32.toNatClampNeg v1) v2 v3 → K 0 N) : T_X11_layWord G [.ref 175, .int v1, .int v2, .int v3] M K := by
  obtain ⟨l, hl, rfl⟩ := hl
  have vl : vp_in (nI l) 8 := vp_nI hl (by decide)
  rw [ix_nI (by omega)] at h
  refine e_X11_layWord (k_X11_layWord_0 ?_)
  simp only [ix_nI (show l < 2 ^ 31 by omega)]
  have go : ∀ d v, (182 ≤ d ∧ d ≤ 188) → (∀ w, WZ M.1 l w → WZ (m_i M d l v).1 l (t_word w v2 v3)) → K 0 (m_i M d l v) := fun d v hd hw => h _ ⟨fun e he => mi_off (by omega), fun e j hj => m_i_ne (by omega), rfl, hw⟩
  refine ⟨fun c => h M ⟨fun _ _ => rfl, fun _ _ _ => rfl, rfl, fun w hw => ?_⟩, fun c => ⟨vl, go 182 _ (by omega) (fun w hw => ?_)⟩, fun c => ⟨vl, go 183 _ (by omega) (fun w hw => ?_)⟩, fun c => ⟨vl, go 184 _ (by omega) (fun w hw => ?_)⟩, fun c => ⟨vl, go 185 _ (by omega) (fun w hw => ?_)⟩, fun c => ⟨vl, vl, go 185 _ (by omega) (fun w hw => ?_)⟩, fun c => ⟨vl, go 186 _ (by omega) (fun w hw => ?_)⟩, fun c => ⟨vl, go 187 _ (by omega) (fun w hw => ?_)⟩, fun c => ⟨vl, vl, go 188 _ (by omega) (fun w hw => ?_)⟩⟩
  · have e : t_word w v2 v3 = w := by
      have n : ∀ x : Int32, (x = 9 ∨ x = 11 ∨ x = 12 ∨ x = 14 ∨ x = 15 ∨ x = 16 ∨ x = 19 ∨ x = 20) → ¬ v2 = x := by
        rintro x z rfl
        rcases z with rfl | rfl | rfl | rfl | rfl | rfl | rfl | rfl <;> exact absurd c (by decide)
      unfold t_word
      rw [if_neg (n 9 (by decide)), if_neg (n 11 (by decide)), if_neg (n 12 (by decide)), if_neg (n 14 (by decide)), if_neg (n 15 (by decide)), if_neg (n 16 (by decide)), if_neg (n 19 (by decide)), if_neg (n 20 (by decide))]
    rw [e]; exact hw
  · subst c
    obtain ⟨a0, a1, a2, a3, a4, a5, a6⟩ := hw
    exact ⟨m_i_at, (m_i_ne (by omega)).trans a1, (m_i_ne (by omega)).trans a2, (m_i_ne (by omega)).trans a3, (m_i_ne (by omega)).trans a4, (m_i_ne (by omega)).trans a5, (m_i_ne (by omega)).trans a6⟩
  · subst c
    obtain ⟨a0, a1, a2, a3, a4, a5, a6⟩ := hw
    exact ⟨(m_i_ne (by omega)).trans a0, m_i_at, (m_i_ne (by omega)).trans a2, (m_i_ne (by omega)).trans a3, (m_i_ne (by omega)).trans a4, (m_i_ne (by omega)).trans a5, (m_i_ne (by omega)).trans a6⟩
  · subst c
    obtain ⟨a0, a1, a2, a3, a4, a5, a6⟩ := hw
    exact ⟨(m_i_ne (by omega)).trans a0, (m_i_ne (by omega)).trans a1, m_i_at, (m_i_ne (by omega)).trans a3, (m_i_ne (by omega)).trans a4, (m_i_ne (by omega)).trans a5, (m_i_ne (by omega)).trans a6⟩
  · subst c
    obtain ⟨a0, a1, a2, a3, a4, a5, a6⟩ := hw
    exact ⟨(m_i_ne (by omega)).trans a0, (m_i_ne (by omega)).trans a1, (m_i_ne (by omega)).trans a2, m_i_at, (m_i_ne (by omega)).trans a4, (m_i_ne (by omega)).trans a5, (m_i_ne (by omega)).trans a6⟩
  · subst c
    obtain ⟨a0, a1, a2, a3, a4, a5, a6⟩ := hw
    exact ⟨(m_i_ne (by omega)).trans a0, (m_i_ne (by omega)).trans a1, (m_i_ne (by omega)).trans a2, by rw [m_i_at, a3]; rfl, (m_i_ne (by omega)).trans a4, (m_i_ne (by omega)).trans a5, (m_i_ne (by omega)).trans a6⟩
  · subst c
    obtain ⟨a0, a1, a2, a3, a4, a5, a6⟩ := hw
    exact ⟨(m_i_ne (by omega)).trans a0, (m_i_ne (by omega)).trans a1, (m_i_ne (by omega)).trans a2, (m_i_ne (by omega)).trans a3, m_i_at, (m_i_ne (by omega)).trans a5, (m_i_ne (by omega)).trans a6⟩
  · subst c
    obtain ⟨a0, a1, a2, a3, a4, a5, a6⟩ := hw
    exact ⟨(m_i_ne (by omega)).trans a0, (m_i_ne (by omega)).trans a1, (m_i_ne (by omega)).trans a2, (m_i_ne (by omega)).trans a3, (m_i_ne (by omega)).trans a4, m_i_at, (m_i_ne (by omega)).trans a6⟩
  · subst c
    obtain ⟨a0, a1, a2, a3, a4, a5, a6⟩ := hw
    exact ⟨(m_i_ne (by omega)).trans a0, (m_i_ne (by omega)).trans a1, (m_i_ne (by omega)).trans a2, (m_i_ne (by omega)).trans a3, (m_i_ne (by omega)).trans a4, (m_i_ne (by omega)).trans a5, by rw [m_i_at, a6]; rfl⟩

/-! BetweenLawsModel.layText(I)V -/
abbrev rm_X11_layText : Room := { frames := 4, cells := 0, slots := 0, locals := 89 }
abbrev B_X11_layText (G : GT) (K : Int32 → Mem → Prop) := BT G (Rep G) RX11 "layText" cX11_layText 8 none rm_X11_layText K 0 0
abbrev T_X11_layText (G : GT) (as : List Value) (M : Mem) (K : Int32 → Mem → Prop) : Prop := MT G (Rep G) yX11_layText cX11_layText 8 none rm_X11_layText as M K
theorem e_X11_layText {G : GT} {K : Int32 → Mem → Prop} {M : Mem} {v1 : Int32} (h : B_X11_layText G K 0 [(0, .ref 175), (1, .int v1)] [] M) : T_X11_layText G [.ref 175, .int v1] M K := MT.of (by decide +kernel) rfl rfl (Nat.le_of_ble_eq_true rfl) rfl h
set_option maxRecDepth 4000 in
theorem k_X11_layText_0 {G : GT} {K : Int32 → Mem → Prop} {M : Mem} {v1 : Int32} (h : (∀ N1 : Mem, (ZBg M N1) → (vp_in v1 8) ∧ (vp_in v1 8) ∧ (vp_in v1 8) ∧ (vp_in v1 8) ∧ (vp_in v1 8) ∧ (vp_in v1 8) ∧ (vp_in v1 8) ∧ (vp_in v1 8) ∧ B_X11_layText G K 72 [(0, .ref 175), (1, .int v1), (2, .int 0), (3, .int 0), (4, .int 0)] [] (m_i (m_i (m_i (m_i (m_i (m_i (m_i (m_i N1 179 (Int32.toNatClampNeg v1) 0) 182 (Int32.toNatClampNeg v1) 110) 183 (Int32.toNatClampNeg v1) (-6)) 184 (Int32.toNatClampNeg v1) 0) 185 (Int32.toNatClampNeg v1) (-6)) 186 (Int32.toNatClampNeg v1) (-6)) 187 (Int32.toNatClampNeg v1) (-6)) 188 (Int32.toNatClampNeg v1) 0))) : B_X11_layText G K 0 [(0, .ref 175), (1, .int v1)] [] M := by
  refine BT.aload_n dX11_layText_0 rfl 0 rfl ?_
  refine BT.mcVvp [] (t_X11_beginText  (fun N hN => ⟨rfl, hN⟩)) mb_X11_beginText mv_X11_beginText lk_X11_140 rfl (by decide) rfl (recvRep ho_175 rfl) (Nat.le_of_ble_eq_true rfl) dX11_layText_1 (P := fun N1 => ZBg M N1) (fun N1 g1 => ?_)
  show B_X11_layText G K 4 [(0, .ref 175), (1, .int v1)] [] N1
  refine BT.aload_n dX11_layText_4 rfl 0 rfl ?_
  refine BT.getR (r := 179) fl_X11_19 ho_175 rfl dX11_layText_5 ?_
  refine BT.iload_n dX11_layText_8 rfl 1 rfl ?_
  refine BT.iconst (v := 0) dX11_layText_9 (by decide) ?_
  refine BT.iast ha_179 (h N1 g1).1 dX11_layText_10 ?_
  refine BT.aload_n dX11_layText_11 rfl 0 rfl ?_
  refine BT.getR (r := 182) fl_X11_28 ho_175 rfl dX11_layText_12 ?_
  refine BT.iload_n dX11_layText_15 rfl 1 rfl ?_
  refine BT.bipush (v := 110) dX11_layText_16 (by decide) ?_
  refine BT.iast ha_182 (h N1 g1).2.1 dX11_layText_18 ?_
  refine BT.aload_n dX11_layText_19 rfl 0 rfl ?_
  refine BT.getR (r := 183) fl_X11_31 ho_175 rfl dX11_layText_20 ?_
  refine BT.iload_n dX11_layText_23 rfl 1 rfl ?_
  refine BT.bipush (v := (-6)) dX11_layText_24 (by decide) ?_
  refine BT.iast ha_183 (h N1 g1).2.2.1 dX11_layText_26 ?_
  refine BT.aload_n dX11_layText_27 rfl 0 rfl ?_
  refine BT.getR (r := 184) fl_X11_34 ho_175 rfl dX11_layText_28 ?_
  refine BT.iload_n dX11_layText_31 rfl 1 rfl ?_
  refine BT.iconst (v := 0) dX11_layText_32 (by decide) ?_
  refine BT.iast ha_184 (h N1 g1).2.2.2.1 dX11_layText_33 ?_
  refine BT.aload_n dX11_layText_34 rfl 0 rfl ?_
  refine BT.getR (r := 185) fl_X11_37 ho_175 rfl dX11_layText_35 ?_
  refine BT.iload_n dX11_layText_38 rfl 1 rfl ?_
  refine BT.bipush (v := (-6)) dX11_layText_39 (by decide) ?_
  refine BT.iast ha_185 (h N1 g1).2.2.2.2.1 dX11_layText_41 ?_
  refine BT.aload_n dX11_layText_42 rfl 0 rfl ?_
  refine BT.getR (r := 186) fl_X11_40 ho_175 rfl dX11_layText_43 ?_
  refine BT.iload_n dX11_layText_46 rfl 1 rfl ?_
  refine BT.bipush (v := (-6)) dX11_layText_47 (by decide) ?_
  refine BT.iast ha_186 (h N1 g1).2.2.2.2.2.1 dX11_layText_49 ?_
  refine BT.aload_n dX11_layText_50 rfl 0 rfl ?_
  refine BT.getR (r := 187) fl_X11_43 ho_175 rfl dX11_layText_51 ?_
  refine BT.iload_n dX11_layText_54 rfl 1 rfl ?_
  refine BT.bipush (v := (-6)) dX11_layText_55 (by decide) ?_
  refine BT.iast ha_187 (h N1 g1).2.2.2.2.2.2.1 dX11_layText_57 ?_
  refine BT.aload_n dX11_layText_58 rfl 0 rfl ?_
  refine BT.getR (r := 188) fl_X11_46 ho_175 rfl dX11_layText_59 ?_
  refine BT.iload_n dX11_layText_62 rfl 1 rfl ?_
  refine BT.iconst (v := 0) dX11_layText_63 (by decide) ?_
  refine BT.iast ha_188 (h N1 g1).2.2.2.2.2.2.2.1 dX11_layText_64 ?_
  refine BT.iconst (v := 0) dX11_layText_65 (by decide) ?_
  refine BT.istore_n (L' := [(2, .int 0), (0, .ref 175), (1, .int v1)]) dX11_layText_66 rfl (by decide) rfl ?_
  refine BT.iconst (v := 0) dX11_layText_67 (by decide) ?_
  refine BT.istore_n (L' := [(3, .int 0), (2, .int 0), (0, .ref 175), (1, .int v1)]) dX11_layText_68 rfl (by decide) rfl ?_
  refine BT.iconst (v := 0) dX11_layText_69 (by decide) ?_
  refine BT.istore (L' := [(4, .int 0), (3, .int 0), (2, .int 0), (0, .ref 175), (1, .int v1)]) dX11_layText_70 (by decide) rfl ?_
  refine BT.sub [3, 4, 2, 1, 0] rfl ?_
  exact (h N1 g1).2.2.2.2.2.2.2.2
set_option maxRecDepth 4000 in
theorem k_X11_layText_72 {G : GT} {K : Int32 → Mem → Prop} {M : Mem} {v1 : Int32} {v2 : Int32} {v3 : Int32} {v4 : Int32} (h : ((M.1 175 1) ≤ v4 → (vp_in v1 8) ∧ (¬ (M.1 175 5) = 0 → (vp_in v1 8) ∧ K 0 (m_i (m_i M 179 (Int32.toNatClampNeg v1) ((M.1 179 (Int32.toNatClampNeg v1)) + 0)) 175 1 0)) ∧ ((M.1 175 5) = 0 → (vp_in v1 8) ∧ K 0 (m_i (m_i M 179 (Int32.toNatClampNeg v1) ((M.1 179 (Int32.toNatClampNeg v1)) + 1)) 175 1 0))) ∧ (¬ (M.1 175 1) ≤ v4 → (vp_in v4 60) ∧ (∀ (r5 : Int32) (N5 : Mem), (r5 = (q_step (z_q M v2) (M.1 176 (Int32.toNatClampNeg v4))).1 ∧ ZQ M N5 (q_step (z_q M v2) (M.1 176 (Int32.toNatClampNeg v4)))) → (vp_in v1 8) ∧ (¬ r5 = 1 → (¬ r5 = 3 → (¬ r5 = 6 → (r5 = 4 → B_X11_layText G K 186 [(0, .ref 175), (1, .int v1), (2, .int r5), (3, .int v3), (4, .int v4), (5, .int (M.1 176 (Int32.toNatClampNeg v4))), (6, .int v2), (7, .int (((6 : Int32) * v1) + (N5.1 179 (Int32.toNatClampNeg v1))))] [] N5) ∧ (¬ r5 = 4 → (¬ r5 = 5 → ((M.1 176 (Int32.toNatClampNeg v4)) = 124 → B_X11_layText G K 244 [(0, .ref 175), (1, .int v1), (2, .int r5), (3, .int v3), (4, .int v4)] [] N5) ∧ (¬ (M.1 176 (Int32.toNatClampNeg v4)) = 124 → (¬ (M.1 176 (Int32.toNatClampNeg v4)) = 47 → (∃ l, l < 8 ∧ v1 = nI l) ∧ (∀ N20 : Mem, (LayW N5 N20 (Int32.toNatClampNeg v1) r5 (M.1 176 (Int32.toNatClampNeg v4))) → B_X11_layText G K 265 [(0, .ref 175), (1, .int v1), (2, .int r5), (3, .int v3), (4, .int v4)] [] N20)) ∧ ((M.1 176 (Int32.toNatClampNeg v4)) = 47 → B_X11_layText G K 244 [(0, .ref 175), (1, .int v1), (2, .int r5), (3, .int v3), (4, .int v4)] [] N5))) ∧ (r5 = 5 → B_X11_layText G K 186 [(0, .ref 175), (1, .int v1), (2, .int r5), (3, .int v3), (4, .int v4), (5, .int (M.1 176 (Int32.toNatClampNeg v4))), (6, .int v2), (7, .int (((6 : Int32) * v1) + (N5.1 179 (Int32.toNatClampNeg v1))))] [] N5))) ∧ (r5 = 6 → (vp_in (((6 : Int32) * v1) + (N5.1 179 (Int32.toNatClampNeg v1))) 48) ∧ B_X11_layText G K 265 [(0, .ref 175), (1, .int v1), (2, .int r5), (3, .int v3), (4, .int v4)] [] (m_i N5 181 (Int32.toNatClampNeg (((6 : Int32) * v1) + (N5.1 179 (Int32.toNatClampNeg v1)))) 100))) ∧ (r5 = 3 → (vp_in (((6 : Int32) * v1) + (N5.1 179 (Int32.toNatClampNeg v1))) 48) ∧ (vp_in (((6 : Int32) * v1) + (N5.1 179 (Int32.toNatClampNeg v1))) 48) ∧ B_X11_layText G K 265 [(0, .ref 175), (1, .int v1), (2, .int r5), (3, .int 0), (4, .int v4)] [] (m_i (m_i N5 180 (Int32.toNatClampNeg (((6 : Int32) * v1) + (N5.1 179 (Int32.toNatClampNeg v1)))) v3) 181 (Int32.toNatClampNeg (((6 : Int32) * v1) + (N5.1 179 (Int32.toNatClampNeg v1)))) 0))) ∧ (r5 = 1 → B_X11_layText G K 265 [(0, .ref 175), (1, .int v1), (2, .int r5), (3, .int (v3 ||| ((1 : Int32) <<< (((M.1 176 (Int32.toNatClampNeg v4)) - 97) &&& 31)))), (4, .int v4)] [] N5)))) : B_X11_layText G K 72 [(0, .ref 175), (1, .int v1), (2, .int v2), (3, .int v3), (4, .int v4)] [] M := by
  refine BT.iload dX11_layText_72 4 rfl ?_
  refine BT.aload_n dX11_layText_74 rfl 0 rfl ?_
  refine BT.getI fl_X11_94 ho_175 rfl dX11_layText_75 ?_
  refine BT.icmp_ge (tgt := 271) dX11_layText_78 (by decide) (fun c => ?_) (fun c => ?_)
  · have c1 := c
    refine BT.aload_n dX11_layText_271 rfl 0 rfl ?_
    refine BT.getR (r := 179) fl_X11_19 ho_175 rfl dX11_layText_272 ?_
    refine BT.iload_n dX11_layText_275 rfl 1 rfl ?_
    refine BT.dup2 dX11_layText_276 rfl rfl ?_
    refine BT.iald ha_179 (h.1 c1).1 dX11_layText_277 ?_
    refine BT.aload_n dX11_layText_278 rfl 0 rfl ?_
    refine BT.getI fl_X11_107 ho_175 rfl dX11_layText_279 ?_
    refine BT.if_ne (tgt := 289) dX11_layText_282 (by decide) (fun c => ?_) (fun c => ?_)
    · have c3 := c
      refine BT.iconst (v := 0) dX11_layText_289 (by decide) ?_
      refine BT.iadd dX11_layText_290 ?_
      refine BT.iast ha_179 ((h.1 c1).2.1 c3).1 dX11_layText_291 ?_
      refine BT.aload_n dX11_layText_292 rfl 0 rfl ?_
      refine BT.iconst (v := 0) dX11_layText_293 (by decide) ?_
      refine BT.putI fl_X11_94 ft_11_1 ho_175 rfl dX11_layText_294 ?_
      exact BT.vret dX11_layText_297 rfl (by decide) (by decide) ((h.1 c1).2.1 c3).2
    · have c4 := c
      refine BT.iconst (v := 1) dX11_layText_285 (by decide) ?_
      refine BT.goto (tgt := 290) dX11_layText_286 (by decide) ?_
      refine BT.iadd dX11_layText_290 ?_
      refine BT.iast ha_179 ((h.1 c1).2.2 c4).1 dX11_layText_291 ?_
      refine BT.aload_n dX11_layText_292 rfl 0 rfl ?_
      refine BT.iconst (v := 0) dX11_layText_293 (by decide) ?_
      refine BT.putI fl_X11_94 ft_11_1 ho_175 rfl dX11_layText_294 ?_
      exact BT.vret dX11_layText_297 rfl (by decide) (by decide) ((h.1 c1).2.2 c4).2
  · have c2 := c
    refine BT.aload_n dX11_layText_81 rfl 0 rfl ?_
    refine BT.getR (r := 176) fl_X11_7 ho_175 rfl dX11_layText_82 ?_
    refine BT.iload dX11_layText_85 4 rfl ?_
    refine BT.iald ha_176 (h.2 c2).1 dX11_layText_87 ?_
    refine BT.istore (L' := [(5, .int (M.1 176 (Int32.toNatClampNeg v4))), (0, .ref 175), (1, .int v1), (2, .int v2), (3, .int v3), (4, .int v4)]) dX11_layText_88 (by decide) rfl ?_
    refine BT.iload_n dX11_layText_90 rfl 3 rfl ?_
    refine BT.istore (L' := [(6, .int v2), (5, .int (M.1 176 (Int32.toNatClampNeg v4))), (0, .ref 175), (1, .int v1), (2, .int v2), (3, .int v3), (4, .int v4)]) dX11_layText_91 (by decide) rfl ?_
    refine BT.aload_n dX11_layText_93 rfl 2 rfl ?_
    refine BT.iload_n dX11_layText_94 rfl 4 rfl ?_
    refine BT.iload dX11_layText_95 1 rfl ?_
    refine BT.mcV [.int v2, .int (M.1 176 (Int32.toNatClampNeg v4))] (t_X11_stepOf  (fun r5 N5 g5 => ?_)) mb_X11_stepOf mv_X11_stepOf lk_X11_143 rfl (by decide) rfl (recvRep ho_175 rfl) (Nat.le_of_ble_eq_true rfl) dX11_layText_97
    show B_X11_layText G K 100 [(6, .int v2), (5, .int (M.1 176 (Int32.toNatClampNeg v4))), (0, .ref 175), (1, .int v1), (2, .int v2), (3, .int v3), (4, .int v4)] [.int r5] N5
    refine BT.istore_n (L' := [(2, .int r5), (6, .int v2), (5, .int (M.1 176 (Int32.toNatClampNeg v4))), (0, .ref 175), (1, .int v1), (3, .int v3), (4, .int v4)]) dX11_layText_100 rfl (by decide) rfl ?_
    refine BT.bipush (v := 6) dX11_layText_101 (by decide) ?_
    refine BT.iload_n dX11_layText_103 rfl 4 rfl ?_
    refine BT.imul dX11_layText_104 ?_
    refine BT.aload_n dX11_layText_105 rfl 3 rfl ?_
    refine BT.getR (r := 179) fl_X11_19 ho_175 rfl dX11_layText_106 ?_
    refine BT.iload_n dX11_layText_109 rfl 4 rfl ?_
    refine BT.iald ha_179 ((h.2 c2).2 r5 N5 g5).1 dX11_layText_110 ?_
    refine BT.iadd dX11_layText_111 ?_
    refine BT.istore (L' := [(7, .int (((6 : Int32) * v1) + (N5.1 179 (Int32.toNatClampNeg v1)))), (2, .int r5), (6, .int v2), (5, .int (M.1 176 (Int32.toNatClampNeg v4))), (0, .ref 175), (1, .int v1), (3, .int v3), (4, .int v4)]) dX11_layText_112 (by decide) rfl ?_
    refine BT.iload_n dX11_layText_114 rfl 1 rfl ?_
    refine BT.iconst (v := 1) dX11_layText_115 (by decide) ?_
    refine BT.icmp_ne (tgt := 132) dX11_layText_116 (by decide) (fun c => ?_) (fun c => ?_)
    · have c6 := c
      refine BT.iload_n dX11_layText_132 rfl 1 rfl ?_
      refine BT.iconst (v := 3) dX11_layText_133 (by decide) ?_
      refine BT.icmp_ne (tgt := 158) dX11_layText_134 (by decide) (fun c => ?_) (fun c => ?_)
      · have c8 := c
        refine BT.iload_n dX11_layText_158 rfl 1 rfl ?_
        refine BT.bipush (v := 6) dX11_layText_159 (by decide) ?_
        refine BT.icmp_ne (tgt := 176) dX11_layText_161 (by decide) (fun c => ?_) (fun c => ?_)
        · have c10 := c
          refine BT.iload_n dX11_layText_176 rfl 1 rfl ?_
          refine BT.iconst (v := 4) dX11_layText_177 (by decide) ?_
          refine BT.icmp_eq (tgt := 186) dX11_layText_178 (by decide) (fun c => ?_) (fun c => ?_)
          · have c12 := c
            refine BT.sub [4, 5, 1, 6, 7, 3, 2, 0] rfl ?_
            exact ((((((h.2 c2).2 r5 N5 g5).2.1 c6).1 c8).1 c10).1 c12)
          · have c13 := c
            refine BT.iload_n dX11_layText_181 rfl 1 rfl ?_
            refine BT.iconst (v := 5) dX11_layText_182 (by decide) ?_
            refine BT.icmp_ne (tgt := 230) dX11_layText_183 (by decide) (fun c => ?_) (fun c => ?_)
            · have c14 := c
              refine BT.iload dX11_layText_230 3 rfl ?_
              refine BT.bipush (v := 124) dX11_layText_232 (by decide) ?_
              refine BT.icmp_eq (tgt := 244) dX11_layText_234 (by decide) (fun c => ?_) (fun c => ?_)
              · have c16 := c
                refine BT.sub [4, 5, 1, 6, 7] rfl ?_
                exact ((((((((h.2 c2).2 r5 N5 g5).2.1 c6).1 c8).1 c10).2 c13).1 c14).1 c16)
              · have c17 := c
                refine BT.iload dX11_layText_237 3 rfl ?_
                refine BT.bipush (v := 47) dX11_layText_239 (by decide) ?_
                refine BT.icmp_ne (tgt := 257) dX11_layText_241 (by decide) (fun c => ?_) (fun c => ?_)
                · have c18 := c
                  refine BT.aload_n dX11_layText_257 rfl 4 rfl ?_
                  refine BT.iload_n dX11_layText_258 rfl 5 rfl ?_
                  refine BT.iload_n dX11_layText_259 rfl 1 rfl ?_
                  refine BT.iload dX11_layText_260 3 rfl ?_
                  refine BT.mcVvp [.int v1, .int r5, .int (M.1 176 (Int32.toNatClampNeg v4))] (t_X11_layWord (((((((((h.2 c2).2 r5 N5 g5).2.1 c6).1 c8).1 c10).2 c13).1 c14).2 c17).1 c18).1 (fun N hN => ⟨rfl, hN⟩)) mb_X11_layWord mv_X11_layWord lk_X11_152 rfl (by decide) rfl (recvRep ho_175 rfl) (Nat.le_of_ble_eq_true rfl) dX11_layText_262 (P := fun N20 => LayW N5 N20 (Int32.toNatClampNeg v1) r5 (M.1 176 (Int32.toNatClampNeg v4))) (fun N20 g20 => ?_)
                  show B_X11_layText G K 265 [(7, .int (((6 : Int32) * v1) + (N5.1 179 (Int32.toNatClampNeg v1)))), (2, .int r5), (6, .int v2), (5, .int (M.1 176 (Int32.toNatClampNeg v4))), (0, .ref 175), (1, .int v1), (3, .int v3), (4, .int v4)] [] N20
                  refine BT.sub [4, 5, 1, 6, 7] rfl ?_
                  exact ((((((((((h.2 c2).2 r5 N5 g5).2.1 c6).1 c8).1 c10).2 c13).1 c14).2 c17).1 c18).2 N20 g20)
                · have c19 := c
                  refine BT.sub [4, 5, 1, 6, 7] rfl ?_
                  exact (((((((((h.2 c2).2 r5 N5 g5).2.1 c6).1 c8).1 c10).2 c13).1 c14).2 c17).2 c19)
            · have c15 := c
              refine BT.sub [4, 5, 1, 6, 7, 3, 2, 0] rfl ?_
              exact (((((((h.2 c2).2 r5 N5 g5).2.1 c6).1 c8).1 c10).2 c13).2 c15)
        · have c11 := c
          refine BT.aload_n dX11_layText_164 rfl 4 rfl ?_
          refine BT.getR (r := 181) fl_X11_25 ho_175 rfl dX11_layText_165 ?_
          refine BT.iload dX11_layText_168 0 rfl ?_
          refine BT.bipush (v := 100) dX11_layText_170 (by decide) ?_
          refine BT.iast ha_181 (((((h.2 c2).2 r5 N5 g5).2.1 c6).1 c8).2 c11).1 dX11_layText_172 ?_
          refine BT.goto (tgt := 265) dX11_layText_173 (by decide) ?_
          refine BT.sub [4, 5, 1, 6, 7] rfl ?_
          exact (((((h.2 c2).2 r5 N5 g5).2.1 c6).1 c8).2 c11).2
      · have c9 := c
        refine BT.aload_n dX11_layText_137 rfl 4 rfl ?_
        refine BT.getR (r := 180) fl_X11_22 ho_175 rfl dX11_layText_138 ?_
        refine BT.iload dX11_layText_141 0 rfl ?_
        refine BT.iload_n dX11_layText_143 rfl 6 rfl ?_
        refine BT.iast ha_180 ((((h.2 c2).2 r5 N5 g5).2.1 c6).2 c9).1 dX11_layText_144 ?_
        refine BT.aload_n dX11_layText_145 rfl 4 rfl ?_
        refine BT.getR (r := 181) fl_X11_25 ho_175 rfl dX11_layText_146 ?_
        refine BT.iload dX11_layText_149 0 rfl ?_
        refine BT.iconst (v := 0) dX11_layText_151 (by decide) ?_
        refine BT.iast ha_181 ((((h.2 c2).2 r5 N5 g5).2.1 c6).2 c9).2.1 dX11_layText_152 ?_
        refine BT.iconst (v := 0) dX11_layText_153 (by decide) ?_
        refine BT.istore_n (L' := [(3, .int 0), (7, .int (((6 : Int32) * v1) + (N5.1 179 (Int32.toNatClampNeg v1)))), (2, .int r5), (6, .int v2), (5, .int (M.1 176 (Int32.toNatClampNeg v4))), (0, .ref 175), (1, .int v1), (4, .int v4)]) dX11_layText_154 rfl (by decide) rfl ?_
        refine BT.goto (tgt := 265) dX11_layText_155 (by decide) ?_
        refine BT.sub [5, 6, 2, 0, 7] rfl ?_
        exact ((((h.2 c2).2 r5 N5 g5).2.1 c6).2 c9).2.2
    · have c7 := c
      refine BT.iload_n dX11_layText_119 rfl 6 rfl ?_
      refine BT.iconst (v := 1) dX11_layText_120 (by decide) ?_
      refine BT.iload dX11_layText_121 3 rfl ?_
      refine BT.bipush (v := 97) dX11_layText_123 (by decide) ?_
      refine BT.isub dX11_layText_125 ?_
      refine BT.ishl dX11_layText_126 ?_
      refine BT.ior dX11_layText_127 ?_
      refine BT.istore_n (L' := [(3, .int (v3 ||| ((1 : Int32) <<< (((M.1 176 (Int32.toNatClampNeg v4)) - 97) &&& 31)))), (7, .int (((6 : Int32) * v1) + (N5.1 179 (Int32.toNatClampNeg v1)))), (2, .int r5), (6, .int v2), (5, .int (M.1 176 (Int32.toNatClampNeg v4))), (0, .ref 175), (1, .int v1), (4, .int v4)]) dX11_layText_128 rfl (by decide) rfl ?_
      refine BT.goto (tgt := 265) dX11_layText_129 (by decide) ?_
      refine BT.sub [5, 6, 2, 0, 7] rfl ?_
      exact (((h.2 c2).2 r5 N5 g5).2.2 c7)
set_option maxRecDepth 4000 in
theorem k_X11_layText_186 {G : GT} {K : Int32 → Mem → Prop} {M : Mem} {v1 : Int32} {v2 : Int32} {v3 : Int32} {v4 : Int32} {v5 : Int32} {v6 : Int32} {v7 : Int32} (h : (¬ v6 = 6 → (vp_in v7 48) ∧ B_X11_layText G K 226 [(0, .ref 175), (1, .int v1), (2, .int v2), (3, .int v3), (4, .int v4)] [.int ((((10 : Int32) * (M.1 181 (Int32.toNatClampNeg v7))) + v5) - 48), .int v7, .ref 181] M) ∧ (v6 = 6 → B_X11_layText G K 226 [(0, .ref 175), (1, .int v1), (2, .int v2), (3, .int v3), (4, .int v4)] [.int (((100 : Int32) + v5) - 48), .int v7, .ref 181] M)) : B_X11_layText G K 186 [(0, .ref 175), (1, .int v1), (2, .int v2), (3, .int v3), (4, .int v4), (5, .int v5), (6, .int v6), (7, .int v7)] [] M := by
  refine BT.aload_n dX11_layText_186 rfl 0 rfl ?_
  refine BT.getR (r := 181) fl_X11_25 ho_175 rfl dX11_layText_187 ?_
  refine BT.iload dX11_layText_190 7 rfl ?_
  refine BT.iload dX11_layText_192 6 rfl ?_
  refine BT.bipush (v := 6) dX11_layText_194 (by decide) ?_
  refine BT.icmp_ne (tgt := 210) dX11_layText_196 (by decide) (fun c => ?_) (fun c => ?_)
  · have c1 := c
    refine BT.bipush (v := 10) dX11_layText_210 (by decide) ?_
    refine BT.aload_n dX11_layText_212 rfl 0 rfl ?_
    refine BT.getR (r := 181) fl_X11_25 ho_175 rfl dX11_layText_213 ?_
    refine BT.iload dX11_layText_216 7 rfl ?_
    refine BT.iald ha_181 (h.1 c1).1 dX11_layText_218 ?_
    refine BT.imul dX11_layText_219 ?_
    refine BT.iload dX11_layText_220 5 rfl ?_
    refine BT.iadd dX11_layText_222 ?_
    refine BT.bipush (v := 48) dX11_layText_223 (by decide) ?_
    refine BT.isub dX11_layText_225 ?_
    refine BT.sub [0, 1, 2, 3, 4] rfl ?_
    exact (h.1 c1).2
  · have c2 := c
    refine BT.bipush (v := 100) dX11_layText_199 (by decide) ?_
    refine BT.iload dX11_layText_201 5 rfl ?_
    refine BT.iadd dX11_layText_203 ?_
    refine BT.bipush (v := 48) dX11_layText_204 (by decide) ?_
    refine BT.isub dX11_layText_206 ?_
    refine BT.goto (tgt := 226) dX11_layText_207 (by decide) ?_
    refine BT.sub [0, 1, 2, 3, 4] rfl ?_
    exact (h.2 c2)
set_option maxRecDepth 4000 in
theorem k_X11_layText_244 {G : GT} {K : Int32 → Mem → Prop} {M : Mem} {v1 : Int32} {v2 : Int32} {v3 : Int32} {v4 : Int32} (h : (vp_in v1 8) ∧ (vp_in v1 8) ∧ B_X11_layText G K 265 [(0, .ref 175), (1, .int v1), (2, .int v2), (3, .int v3), (4, .int v4)] [] (m_i M 179 (Int32.toNatClampNeg v1) ((M.1 179 (Int32.toNatClampNeg v1)) + 1))) : B_X11_layText G K 244 [(0, .ref 175), (1, .int v1), (2, .int v2), (3, .int v3), (4, .int v4)] [] M := by
  refine BT.aload_n dX11_layText_244 rfl 0 rfl ?_
  refine BT.getR (r := 179) fl_X11_19 ho_175 rfl dX11_layText_245 ?_
  refine BT.iload_n dX11_layText_248 rfl 1 rfl ?_
  refine BT.dup2 dX11_layText_249 rfl rfl ?_
  refine BT.iald ha_179 h.1 dX11_layText_250 ?_
  refine BT.iconst (v := 1) dX11_layText_251 (by decide) ?_
  refine BT.iadd dX11_layText_252 ?_
  refine BT.iast ha_179 h.2.1 dX11_layText_253 ?_
  refine BT.goto (tgt := 265) dX11_layText_254 (by decide) ?_
  exact h.2.2
set_option maxRecDepth 4000 in
theorem k_X11_layText_265 {G : GT} {K : Int32 → Mem → Prop} {M : Mem} {v1 : Int32} {v2 : Int32} {v3 : Int32} {v4 : Int32} (h : B_X11_layText G K 72 [(0, .ref 175), (1, .int v1), (2, .int v2), (3, .int v3), (4, .int (v4 + 1))] [] M) : B_X11_layText G K 265 [(0, .ref 175), (1, .int v1), (2, .int v2), (3, .int v3), (4, .int v4)] [] M := by
  refine BT.iinc (j := 4) (v := (v4 + 1)) (L' := [(4, .int (v4 + 1)), (0, .ref 175), (1, .int v1), (2, .int v2), (3, .int v3)]) dX11_layText_265 rfl rfl (by decide) rfl ?_
  refine BT.goto (tgt := 72) dX11_layText_268 (by decide) ?_
  refine BT.sub [1, 2, 3, 4, 0] rfl ?_
  exact h
set_option maxRecDepth 4000 in
theorem k_X11_layText_226 {G : GT} {K : Int32 → Mem → Prop} {M : Mem} {v1 : Int32} {v2 : Int32} {v3 : Int32} {v4 : Int32} {s2 : Int32} {s1 : Int32} (h : (vp_in s1 48) ∧ B_X11_layText G K 265 [(0, .ref 175), (1, .int v1), (2, .int v2), (3, .int v3), (4, .int v4)] [] (m_i M 181 (Int32.toNatClampNeg s1) s2)) : B_X11_layText G K 226 [(0, .ref 175), (1, .int v1), (2, .int v2), (3, .int v3), (4, .int v4)] [.int s2, .int s1, .ref 181] M := by
  refine BT.iast ha_181 h.1 dX11_layText_226 ?_
  refine BT.goto (tgt := 265) dX11_layText_227 (by decide) ?_
  exact h.2

theorem t_X11_layText {G : GT} {K : Int32 → Mem → Prop} {M : Mem} {v1 : Int32} (hl : ∃ l, l < 8 ∧ v1 = nI l) (hn : ∃ n, n ≤ 60 ∧ M.1 175 1 = nI n ∧ ∀ j, j ≤ n → 0 ≤ (qL M j).1) (h : ∀ N, LaidN M N (Int32.toNatClampNeg v1) (Int32.toNatClampNeg (M.1 175 1)) → K 0 N) : T_X11_layText G [.ref 175, .int v1] M K := by
  obtain ⟨l, hl, rfl⟩ := hl
  obtain ⟨n, hn60, en, hok⟩ := hn
  have vl : vp_in (nI l) 8 := vp_nI hl (by decide)
  rw [en, ix_nI (by omega), ix_nI (by omega)] at h
  refine e_X11_layText (k_X11_layText_0 (fun N1 g1 => ⟨vl, vl, vl, vl, vl, vl, vl, vl, ?_⟩))
  simp only [ix_nI (show l < 2 ^ 31 by omega)]
  refine up_loop (P := fun i => ∀ N, LZ M l (qL M i) (tL M l i) N → B_X11_layText G K 72 [(0, .ref 175), (1, .int (nI l)), (2, .int (qL M i).1), (3, .int (tL M l i).1.2.2.2), (4, .int (nI i))] [] N) n (fun N hZ => ?_) (fun i hi ih N hZ => ?_) 0 (Nat.zero_le _) _ ?_
  · -- the end
    obtain ⟨z1, z2, z3, z4, z5⟩ := hZ
    have e1 : N.1 175 1 = nI n := by rw [z5.2.2.2.1 1 (by decide), en]
    have e5 : N.1 175 5 = (qL M n).2.2.2.2 := by rw [← z1]; rfl
    refine k_X11_layText_72 ⟨fun _ => ⟨vl, ?_⟩, fun c => absurd (by rw [e1]; exact Int32.le_refl _) c⟩
    simp only [ix_nI (show l < 2 ^ 31 by omega)]
    have fin : ∀ v : Int32, v = nI ((tL M l n).1.1 + (if (qL M n).2.2.2.2 = 0 then 1 else 0)) → K 0 (m_i (m_i N 179 l v) 175 1 0) := by
      intro v ev
      have zz := z5.mi (c := 179) (j := l) (v := v) (Or.inl (by omega))
      obtain ⟨y1, y2, y3, y4, y5⟩ := zz
      refine h _ ⟨⟨fun c hc => (mi_off (by omega)).trans (y1 c hc), fun c j hc hj => (m_i_ne (by omega)).trans (y2 c j hc hj), fun c j hc hj => (m_i_ne (by omega)).trans (y3 c j hc hj), fun k hk => (m_i_ne (by omega)).trans (y4 k (by omega)), y5⟩, m_i_at, ?_, fun j hj => ?_, ?_⟩
      · rw [m_i_ne (by omega), m_i_at, ev]
      · rw [m_i_ne (by omega), m_i_ne (by omega), m_i_ne (by omega), m_i_ne (by omega)]
        exact z3 j hj
      · obtain ⟨a0, a1, a2, a3, a4, a5, a6⟩ := z4
        unfold WZ
        simp only [mi_off (show ¬ 182 = 175 by decide), mi_off (show ¬ 183 = 175 by decide), mi_off (show ¬ 184 = 175 by decide), mi_off (show ¬ 185 = 175 by decide), mi_off (show ¬ 186 = 175 by decide), mi_off (show ¬ 187 = 175 by decide), mi_off (show ¬ 188 = 175 by decide), mi_off (show ¬ 182 = 179 by decide), mi_off (show ¬ 183 = 179 by decide), mi_off (show ¬ 184 = 179 by decide), mi_off (show ¬ 185 = 179 by decide), mi_off (show ¬ 186 = 179 by decide), mi_off (show ¬ 187 = 179 by decide), mi_off (show ¬ 188 = 179 by decide)]
        exact ⟨a0, a1, a2, a3, a4, a5, a6⟩
    rw [e5, z2]
    refine ⟨fun c => ⟨vl, fin _ ?_⟩, fun c => ⟨vl, fin _ ?_⟩⟩
    · rw [if_neg c, Int32.add_zero, Nat.add_zero]
    · rw [if_pos c, nI_1]
  · -- a sign
    obtain ⟨z1, z2, z3, z4, z5⟩ := hZ
    have e1 : N.1 175 1 = nI n := by rw [z5.2.2.2.1 1 (by decide), en]
    have ez : z_q N (qL M i).1 = qL M i := by unfold z_q; rw [z1]
    refine k_X11_layText_72 ⟨fun c => ?_, fun _ => ⟨vp_nI (by omega) (by decide), fun r5 N5 g5 => ?_⟩⟩
    · rw [e1, nI_leI (by omega) (by omega)] at c; omega
    rw [z5.1 176 (by decide), ix_nI (by omega)] at *
    rw [ez] at g5
    obtain ⟨er0, hF5, hq0⟩ := g5
    have er : r5 = (qL M (i + 1)).1 := er0
    have hq5 : z_q4 N5 = (qL M (i + 1)).2 := hq0
    clear er0 hq0
    have eT : tL M l (i + 1) = t_step (tL M l i) (qL M i).1 r5 (M.1 176 i) := by rw [er]; rfl
    have hTI : TI (qL M (i + 1)) (tL M l (i + 1)) := TI_at _ _ _ _ _
    simp only [ix_nI (show l < 2 ^ 31 by omega)]
    generalize M.1 176 i = c at *
    generalize hT : tL M l i = T at *
    have w1 : ∀ d, ¬ d = 175 → N5.1 d = N.1 d := hF5.1
    have y2 : N5.1 179 l = nI T.1.1 := by rw [w1 179 (by decide), z2]
    have y3 : ∀ j, j < 6 → N5.1 180 (6 * l + j) = T.1.2.1 j ∧ N5.1 181 (6 * l + j) = T.1.2.2.1 j := fun j hj => by
      rw [w1 180 (by decide), w1 181 (by decide)]; exact z3 j hj
    have y4 : WZ N5.1 l T.2 := by
      unfold WZ
      rw [w1 182 (by decide), w1 183 (by decide), w1 184 (by decide), w1 185 (by decide), w1 186 (by decide), w1 187 (by decide), w1 188 (by decide)]
      exact z4
    have y5 : LF M N5 l := z5.z hF5
    have next : ∀ v P, LZ M l (qL M (i + 1)) (tL M l (i + 1)) P → v = (tL M l (i + 1)).1.2.2.2 → B_X11_layText G K 265 [(0, .ref 175), (1, .int (nI l)), (2, .int r5), (3, .int v), (4, .int (nI i))] [] P := by
      intro v P hP ev
      refine k_X11_layText_265 ?_
      rw [nI_1, ev, er]
      exact ih P hP
    have ea : (6 : Int32) * nI l + N5.1 179 l = nI (6 * l + T.1.1) := by
      rw [y2, show (6 : Int32) = nI 6 from rfl, nI_mul, nI_add]
    -- within a case
    have low : (r5 = 3 ∨ r5 = 4 ∨ r5 = 5 ∨ r5 = 6) → T.1.1 ≤ 5 := by
      intro z
      have hk : (tL M l (i + 1)).1.1 = T.1.1 := by
        rw [eT]
        rcases z with rfl | rfl | rfl | rfl <;> rfl
      have := (hTI (by rw [← er]; rcases z with rfl | rfl | rfl | rfl <;> decide)).2
      omega
    have vi : T.1.1 ≤ 5 → vp_in (nI (6 * l + T.1.1)) 48 := fun z => vp_nI (by omega) (by decide)
    have g181 : ∀ v, T.1.1 ≤ 5 → tL M l (i + 1) = ((T.1.1, T.1.2.1, t_put T.1.2.2.1 T.1.1 v, T.1.2.2.2), T.2) → LZ M l (qL M (i + 1)) (tL M l (i + 1)) (m_i N5 181 (6 * l + T.1.1) v) := by
      intro v h5 e
      rw [e]
      refine ⟨?_, ?_, fun j hj => ⟨?_, ?_⟩, ?_, y5.mi (Or.inr (by omega))⟩
      · rw [← hq5]; unfold z_q4; rw [mi_off (by omega)]
      · rw [mi_off (by omega)]; exact y2
      · rw [mi_off (by omega)]; exact (y3 j hj).1
      · show _ = t_put T.1.2.2.1 T.1.1 v j
        by_cases z : j = T.1.1
        · rw [z, m_i_at, t_put_at]
        · rw [m_i_ne (by omega), t_put_ne z]; exact (y3 j hj).2
      · unfold WZ
        rw [mi_off (by omega), mi_off (by omega), mi_off (by omega), mi_off (by omega), mi_off (by omega), mi_off (by omega), mi_off (by omega)]
        exact y4
    have b186 : (r5 = 4 ∨ r5 = 5) → B_X11_layText G K 186 [(0, .ref 175), (1, .int (nI l)), (2, .int r5), (3, .int T.1.2.2.2), (4, .int (nI i)), (5, .int c), (6, .int (qL M i).1), (7, .int (((6 : Int32) * nI l) + (N5.1 179 l)))] [] N5 := by
      intro z
      have h5 : T.1.1 ≤ 5 := low (z.elim (fun z => Or.inr (Or.inl z)) (fun z => Or.inr (Or.inr (Or.inl z))))
      have e : ∀ v, v = (if (qL M i).1 = 6 then 100 + c - 48 else 10 * T.1.2.2.1 T.1.1 + c - 48) → tL M l (i + 1) = ((T.1.1, T.1.2.1, t_put T.1.2.2.1 T.1.1 v, T.1.2.2.2), T.2) := by
        rintro v rfl
        rw [eT]
        rcases z with z | z <;> (subst z; rfl)
      have e3 : T.1.2.2.2 = (tL M l (i + 1)).1.2.2.2 := by rw [e _ rfl]
      rw [ea]
      refine k_X11_layText_186 ⟨fun w => ⟨vi h5, ?_⟩, fun w => ?_⟩
      · refine k_X11_layText_226 ⟨vi h5, ?_⟩
        rw [ix_nI (by omega)]
        refine next _ _ (g181 _ h5 (e _ ?_)) e3
        rw [if_neg w, (y3 T.1.1 (by omega)).2]
      · refine k_X11_layText_226 ⟨vi h5, ?_⟩
        rw [ix_nI (by omega)]
        refine next _ _ (g181 _ h5 (e _ ?_)) e3
        rw [if_pos w]
    have b244 : ¬ (r5 = 1 ∨ r5 = 3 ∨ r5 = 6 ∨ r5 = 4 ∨ r5 = 5) → (c = 124 ∨ c = 47) → B_X11_layText G K 244 [(0, .ref 175), (1, .int (nI l)), (2, .int r5), (3, .int T.1.2.2.2), (4, .int (nI i))] [] N5 := by
      intro z zc
      simp only [not_or] at z
      have e : tL M l (i + 1) = ((T.1.1 + 1, T.1.2), T.2) := by
        rw [eT]; unfold t_step
        rw [if_neg z.1, if_neg z.2.1, if_neg z.2.2.1, if_neg (fun y => y.elim z.2.2.2.1 z.2.2.2.2), if_pos zc]
      refine k_X11_layText_244 ⟨vl, vl, ?_⟩
      rw [ix_nI (by omega), y2, nI_1]
      refine next _ _ ?_ (by rw [e])
      rw [e]
      refine ⟨?_, m_i_at, fun j hj => ?_, ?_, y5.mi (Or.inl (by omega))⟩
      · rw [← hq5]; unfold z_q4; rw [mi_off (by omega)]
      · rw [mi_off (by omega), mi_off (by omega)]; exact y3 j hj
      · unfold WZ
        rw [mi_off (by omega), mi_off (by omega), mi_off (by omega), mi_off (by omega), mi_off (by omega), mi_off (by omega), mi_off (by omega)]
        exact y4
    refine ⟨vl, fun c1 => ⟨fun c3 => ⟨fun c6 => ⟨fun c4 => b186 (Or.inl c4), fun c4 => ⟨fun c5 => ⟨fun cb => b244 (by simp only [not_or]; exact ⟨c1, c3, c6, c4, c5⟩) (Or.inl cb), fun cb => ⟨fun cs => ⟨⟨l, hl, rfl⟩, fun N20 g20 => ?_⟩, fun cs => b244 (by simp only [not_or]; exact ⟨c1, c3, c6, c4, c5⟩) (Or.inr cs)⟩⟩, fun c5 => b186 (Or.inr c5)⟩⟩, fun c6 => ?_⟩, fun c3 => ?_⟩, fun c1 => ?_⟩
    · obtain ⟨x1, x2, x3, x4⟩ := g20
      have e : tL M l (i + 1) = (T.1, t_word T.2 r5 c) := by
        rw [eT]; exact t_w ⟨c1, c3, c6, fun y => y.elim c4 c5⟩ (fun y => y.elim cb cs)
      refine next _ _ ?_ (by rw [e])
      rw [e]
      obtain ⟨u1, u2, u3, u4, u5⟩ := y5
      refine ⟨?_, ?_, fun j hj => ?_, x4 _ y4, ⟨fun d hd => (x1 d (by omega)).trans (u1 d hd), fun d j hd hj => (x2 d j hj).trans (u2 d j hd hj), fun d j hd hj => by rw [x1 d (by omega)]; exact u3 d j hd hj, fun k hk => by rw [x1 175 (by omega)]; exact u4 k hk, x3.trans u5⟩⟩
      · rw [← hq5]; unfold z_q4; rw [x1 175 (by omega)]
      · rw [x1 179 (by omega)]; exact y2
      · rw [x1 180 (by omega), x1 181 (by omega)]; exact y3 j hj
    · have h5 := low (Or.inr (Or.inr (Or.inr c6)))
      rw [ea]
      refine ⟨vi h5, ?_⟩
      rw [ix_nI (by omega)]
      have e : tL M l (i + 1) = ((T.1.1, T.1.2.1, t_put T.1.2.2.1 T.1.1 100, T.1.2.2.2), T.2) := by rw [eT, c6]; rfl
      exact next _ _ (g181 _ h5 e) (by rw [e])
    · have h5 := low (Or.inl c3)
      rw [ea]
      refine ⟨vi h5, vi h5, ?_⟩
      rw [ix_nI (by omega)]
      have e : tL M l (i + 1) = ((T.1.1, t_put T.1.2.1 T.1.1 T.1.2.2.2, t_put T.1.2.2.1 T.1.1 0, 0), T.2) := by rw [eT, c3]; rfl
      refine next _ _ ?_ (by rw [e])
      rw [e]
      refine ⟨?_, ?_, fun j hj => ⟨?_, ?_⟩, ?_, (y5.mi (Or.inr (by omega))).mi (Or.inr (by omega))⟩
      · rw [← hq5]; unfold z_q4; rw [mi_off (by omega), mi_off (by omega)]
      · rw [mi_off (by omega), mi_off (by omega)]; exact y2
      · show _ = t_put T.1.2.1 T.1.1 T.1.2.2.2 j
        rw [mi_off (by omega)]
        by_cases z : j = T.1.1
        · rw [z, m_i_at, t_put_at]
        · rw [m_i_ne (by omega), t_put_ne z]; exact (y3 j hj).1
      · show _ = t_put T.1.2.2.1 T.1.1 0 j
        by_cases z : j = T.1.1
        · rw [z, m_i_at, t_put_at]
        · rw [m_i_ne (by omega), m_i_ne (by omega), t_put_ne z]; exact (y3 j hj).2
      · unfold WZ
        rw [mi_off (by omega), mi_off (by omega), mi_off (by omega), mi_off (by omega), mi_off (by omega), mi_off (by omega), mi_off (by omega), mi_off (by omega), mi_off (by omega), mi_off (by omega), mi_off (by omega), mi_off (by omega), mi_off (by omega), mi_off (by omega)]
        exact y4
    · have e : tL M l (i + 1) = ((T.1.1, T.1.2.1, T.1.2.2.1, T.1.2.2.2 ||| ((1 : Int32) <<< ((c - 97) &&& 31))), T.2) := by rw [eT, c1]; rfl
      refine next _ _ ?_ (by rw [e])
      rw [e]
      exact ⟨hq5, y2, y3, y4, y5⟩
  · -- the start
    have e0 : qL M 0 = (0, 1, -1, M.1 175 4, 0) := rfl
    have eT : tL M l 0 = ((0, fun j => M.1 180 (6 * l + j), fun j => M.1 181 (6 * l + j), 0), w_0) := rfl
    rw [e0, eT]
    obtain ⟨⟨f1, f2, f3⟩, f4⟩ := g1
    have hF : LF M N1 l := ⟨fun c hc => f1 c (by omega), fun c j hc hj => by rw [f1 c (by omega)], fun c j hc hj => by rw [f1 c (by omega)], f2, f3⟩
    refine ⟨?_, ?_, fun j hj => ?_, ⟨?_, ?_, ?_, ?_, ?_, ?_, ?_⟩, (((((((hF.mi (Or.inl (by omega))).mi (Or.inl (by omega))).mi (Or.inl (by omega))).mi (Or.inl (by omega))).mi (Or.inl (by omega))).mi (Or.inl (by omega))).mi (Or.inl (by omega))).mi (Or.inl (by omega))⟩
    · rw [← f4]; unfold z_q4
      simp [m_i]
    · simp [m_i]; rfl
    · rw [mi_off (by omega), mi_off (by omega), mi_off (by omega), mi_off (by omega), mi_off (by omega), mi_off (by omega), mi_off (by omega), mi_off (by omega), f1 180 (by decide)]
      rw [mi_off (by omega), mi_off (by omega), mi_off (by omega), mi_off (by omega), mi_off (by omega), mi_off (by omega), mi_off (by omega), mi_off (by omega), f1 181 (by decide)]
      exact ⟨rfl, rfl⟩
    all_goals (simp [m_i]; rfl)

