/-! ===== 47.model15 ===== -/
/-! ===== a piece that could be, begun a day later on which nothing turns ===== -/
def Same1 (V1 V0 : WT) : Prop := ∀ c k, ¬ (c = 174 ∧ k = 0) → V1 c k = V0 c k
theorem gov2_move {V1 V0 : WT} {e1 e0 : Int32} (hs : Same1 V1 V0) (hG : GW V0) (hd : ∀ l, l < w_n V0 → (inF V0 l e1 ↔ inF V0 l e0)) (hb : ∀ l, l < w_n V0 → (inF V0 l (V1 174 0) ↔ inF V0 l (V0 174 0))) (hr : ∀ l, l < w_n V0 → (V0 (10 + 5 * l) 0 ≤ V1 174 0 ↔ V0 (10 + 5 * l) 0 ≤ V0 174 0)) (h1 : ¬ e1 < V1 174 0) (h0 : ¬ e0 < V0 174 0) : w_gov2 V1 174 e1 = w_gov2 V0 174 e0 ∧ w_undone V1 e1 = w_undone V0 e0 := by
  have h8 := hG.1.2
  have en : w_n V1 = w_n V0 := by unfold w_n; rw [hs 8 1 (by decide)]
  have er : ∀ l, l < 8 → ∀ k, V1 (10 + 5 * l) k = V0 (10 + 5 * l) k := fun l hl k => hs _ _ (by omega)
  have ep : ∀ k, ¬ k = 0 → V1 174 k = V0 174 k := fun k hk => hs _ _ (fun q => hk q.2)
  have eg : ∀ l, l < 8 → ∀ m, c_gift V1 (10 + 5 * l) m = c_gift V0 (10 + 5 * l) m ∧ c_weight V1 (10 + 5 * l) m = c_weight V0 (10 + 5 * l) m := by
    intro l hl m
    unfold c_gift c_weight
    rw [hs _ _ (by omega), hs _ _ (by omega)]
    exact ⟨rfl, rfl⟩
  have hu0 : w_undone V1 e1 = w_undone V0 e1 := by
    have key : ∀ i, i ≤ w_n V0 → w_gone V1 e1 i = w_gone V0 e1 i := by
      intro i
      induction i with
      | zero => intro _; rfl
      | succ i ih =>
        intro hi
        obtain ⟨l, hl, el⟩ := hG.2.1.1 i (by omega)
        unfold w_gone inF
        rw [ih (by omega), hs 50 i (by omega), el, ix_nI (by omega), er l (by omega), er l (by omega), er l (by omega)]
    unfold w_undone
    rw [en, key _ (Nat.le_refl _), hs 8 1 (by decide)]
  have hu : w_undone V1 e1 = w_undone V0 e0 := hu0.trans (undone_congr hG hd)
  have hob : ∀ (f1 f0 g : Int32), (∀ l, l < w_n V0 → (inF V0 l f1 ↔ inF V0 l f0)) → ¬ f1 < V1 174 0 → ¬ f0 < V0 174 0 → ∀ l, l < w_n V0 → w_obst V1 l 174 f1 g = w_obst V0 l 174 f0 g := by
    intro f1 f0 g hf z1 z0 l hl
    have hin : inF V1 l f1 ↔ inF V0 l f0 := by
      have : inF V1 l f1 ↔ inF V0 l f1 := by unfold inF; rw [er l (by omega), er l (by omega)]
      exact this.trans (hf l hl)
    have hreach : c_reach V1 (10 + 5 * l) 174 ↔ c_reach V0 (10 + 5 * l) 174 := by
      unfold c_reach
      rw [er l (by omega), er l (by omega), er l (by omega), ep 1 (by decide), propext (hr l hl)]
    unfold w_obst
    rw [propext hin, propext hreach, ep 3 (by decide), (eg l (by omega) _).1, sel_f (p := f1 < V1 174 0) z1, sel_f (p := f0 < V0 174 0) z0]
  have hch : ∀ (f1 f0 g a t : Int32), (∀ l, l < w_n V0 → w_obst V1 l 174 f1 g = w_obst V0 l 174 f0 g) → ∀ n, n ≤ w_n V0 → w_choose V1 174 f1 g a t n = w_choose V0 174 f0 g a t n := by
    intro f1 f0 g a t ho n
    induction n with
    | zero => intro _; rfl
    | succ n ih =>
      intro hn
      have ih := ih (by omega)
      have hc : ∀ b, (b = -6 ∨ ∃ j, j < n ∧ b = nI j) → (if b = -6 then (1 : Int32) else c_cmp V1 (10 + 5 * n) (10 + 5 * Int32.toNatClampNeg b) (V1 174 3)) = (if b = -6 then 1 else c_cmp V0 (10 + 5 * n) (10 + 5 * Int32.toNatClampNeg b) (V0 174 3)) := by
        rintro b (q | ⟨j, hj, q⟩)
        · rw [if_pos q, if_pos q]
        · rw [q, ix_nI (by omega)]
          have : c_cmp V1 (10 + 5 * n) (10 + 5 * j) (V1 174 3) = c_cmp V0 (10 + 5 * n) (10 + 5 * j) (V0 174 3) := by
            unfold c_cmp
            rw [ep 3 (by decide), (eg n (by omega) _).2, (eg j (by omega) _).2, er n (by omega), er j (by omega), hs 8 5 (by decide)]
          rw [this]
      unfold w_choose
      rw [ih, ho n (by omega), hc _ (w_choose_in V0 174 f0 g a t n)]
  refine ⟨?_, hu⟩
  have ha : ∀ g t, w_choose V1 174 e1 g 0 t (w_n V0) = w_choose V0 174 e0 g 0 t (w_n V0) := fun g t => hch _ _ _ _ _ (hob _ _ g hd h1 h0) _ (Nat.le_refl _)
  have hb' : ∀ g t, w_choose V1 174 (V1 174 0) g 5 t (w_n V0) = w_choose V0 174 (V0 174 0) g 5 t (w_n V0) := fun g t => hch _ _ _ _ _ (hob _ _ g hb Int32.lt_irrefl Int32.lt_irrefl) _ (Nat.le_refl _)
  unfold w_gov2
  rw [sel_f h1, sel_f h0, en, hu, ha, hb', hs 8 6 (by decide)]
theorem path_move {V1 V0 : WT} {m U : Int32} (hs : Same1 V1 V0) (h8 : w_n V0 ≤ 8) (hn : V0 8 1 = nI (w_n V0)) : ∀ k been l, w_fol V1 m U k been l = w_fol V0 m U k been l
  | 0, _, _ => rfl
  | k + 1, been, l => by
    have ih := path_move (V1 := V1) (V0 := V0) (m := m) (U := U) hs h8 hn k
    unfold w_fol
    rw [hs 8 1 (by decide)]
    by_cases c1 : ¬ ((0 : Int32) ≤ l ∧ l < V0 8 1) ∨ ¬ bitO U l
    · rw [sel_t c1, sel_t c1]
    · rw [sel_f c1, sel_f c1]
      have hl : (0 : Int32) ≤ l ∧ l < V0 8 1 := Classical.not_not.mp fun q => c1 (Or.inl q)
      obtain ⟨j, hj, rfl⟩ := i_nat (show w_n V0 < 2 ^ 31 by omega) hl.1 (by rw [← hn]; exact hl.2)
      have e : c_gift V1 (10 + 5 * Int32.toNatClampNeg (nI j)) m = c_gift V0 (10 + 5 * Int32.toNatClampNeg (nI j)) m := by
        unfold c_gift
        rw [ix_nI (by omega), hs _ _ (by omega)]
      rw [e, ih]
theorem given_move {V1 V0 : WT} {day : Int32} (hs : Same1 V1 V0) (hG : GW V0) (hj : V0 174 2 = -6) (hb : ∀ l, l < w_n V0 → (inF V0 l (V1 174 0) ↔ inF V0 l (V0 174 0))) (hr : ∀ l, l < w_n V0 → (V0 (10 + 5 * l) 0 ≤ V1 174 0 ↔ V0 (10 + 5 * l) 0 ≤ V0 174 0)) (h1 : ¬ day < V1 174 0) (h0 : ¬ day < V0 174 0) : w_given V1 174 day = w_given V0 174 day := by
  have h8 := hG.1.2
  obtain ⟨g1, u1⟩ := gov2_move (e1 := day) (e0 := day) hs hG (fun l _ => Iff.rfl) hb hr h1 h0
  obtain ⟨g2, u2⟩ := gov2_move (e1 := V1 174 0) (e0 := V0 174 0) hs hG hb hb hr Int32.lt_irrefl Int32.lt_irrefl
  have hj1 : V1 174 2 = -6 := (hs 174 2 (by decide)).trans hj
  have d1 : c_dayOn V1 174 day = day := by unfold c_dayOn; rw [if_pos hj1]
  have d0 : c_dayOn V0 174 day = day := by unfold c_dayOn; rw [if_pos hj]
  have w1 : w_gov V1 174 day = w_gov V0 174 day := by unfold w_gov; rw [g1]
  have w2 : w_gov V1 174 (V1 174 0) = w_gov V0 174 (V0 174 0) := by unfold w_gov; rw [g2]
  have f1 : ∀ l, w_fol9 V1 174 l day = w_fol9 V0 174 l day := fun l => by
    unfold w_fol9; rw [u1, hs 174 3 (by decide)]; exact path_move hs h8 hG.1.1 _ _ _
  have f2 : ∀ l, w_fol9 V1 174 l (V1 174 0) = w_fol9 V0 174 l (V0 174 0) := fun l => by
    unfold w_fol9; rw [u2, hs 174 3 (by decide)]; exact path_move hs h8 hG.1.1 _ _ _
  unfold w_given
  rw [d1, d0, w1, w2, f1, f2, hs 8 7 (by decide), hs 8 1 (by decide)]
  rcases w_gov_in V0 174 day with q | ⟨j, hj', q⟩
  · have n1 : ¬ ((0 : Int32) ≤ w_gov V0 174 day ∧ w_gov V0 174 day < V0 8 1) := by rw [q]; intro z; exact absurd z.1 (by decide)
    rw [sel_t (Or.inr (Or.inr n1)), sel_t (Or.inr (Or.inr n1))]
  · rw [q, ix_nI (by omega), hs (10 + 5 * j) 0 (by omega), propext (hr j hj')]
theorem cb_move {W : WT} (hG : GW W) {d : Nat} (hd : d + 1 < 100) (ht : ¬ w_turns W (nI (d + 1))) {m day : Int32} (hday : nI (d + 1) ≤ day) : w_gov (w_cb W (nI (d + 1)) m) 174 day = w_gov (w_cb W (nI d) m) 174 day ∧ w_given (w_cb W (nI (d + 1)) m) 174 day = w_given (w_cb W (nI d) m) 174 day := by
  have h8 := hG.1.2
  have cb : ∀ (e : Int32) c k, ¬ c = 174 → w_cb W e m c k = W c k := fun e c k hc => if_neg hc
  have at0 : ∀ e : Int32, w_cb W e m 174 0 = e := fun e => by unfold w_cb; rw [if_pos rfl, if_pos rfl]
  have at2 : ∀ e : Int32, w_cb W e m 174 2 = -6 := fun e => by unfold w_cb; rw [if_pos rfl, if_neg (by decide), if_neg (by decide), if_pos rfl]
  have hs : Same1 (w_cb W (nI (d + 1)) m) (w_cb W (nI d) m) := by
    intro c k hc
    by_cases e : c = 174
    · unfold w_cb
      rw [if_pos e, if_pos e, if_neg (fun q => hc ⟨e, q⟩), if_neg (fun q => hc ⟨e, q⟩)]
    · rw [cb _ c k e, cb _ c k e]
  have en : w_n (w_cb W (nI d) m) = w_n W := by unfold w_n; rw [cb _ 8 1 (by decide)]
  have hG0 : GW (w_cb W (nI d) m) := GW_congr hG (cb _ 8 1 (by decide)) (cb _ 8 7 (by decide)) (by funext k; exact cb _ 50 k (by decide)) (fun l hl => ⟨⟨cb _ _ _ (by omega), cb _ _ _ (by omega), cb _ _ _ (by omega)⟩, by funext k; exact cb _ _ _ (by omega), by funext k; exact cb _ _ _ (by omega), by funext k; exact cb _ _ _ (by omega), by funext k; exact cb _ _ _ (by omega)⟩)
  have hb : ∀ l, l < w_n (w_cb W (nI d) m) → (inF (w_cb W (nI d) m) l (w_cb W (nI (d + 1)) m 174 0) ↔ inF (w_cb W (nI d) m) l (w_cb W (nI d) m 174 0)) := by
    intro l hl
    rw [en] at hl
    rw [at0, at0]
    unfold inF
    rw [cb _ (10 + 5 * l) 0 (by omega), cb _ (10 + 5 * l) 1 (by omega)]
    exact inF_turn (hG.2.2.2 l hl) (by omega) (fun q => ht ⟨l, hl, q⟩)
  have hr : ∀ l, l < w_n (w_cb W (nI d) m) → (w_cb W (nI d) m (10 + 5 * l) 0 ≤ w_cb W (nI (d + 1)) m 174 0 ↔ w_cb W (nI d) m (10 + 5 * l) 0 ≤ w_cb W (nI d) m 174 0) := by
    intro l hl
    rw [en] at hl
    rw [at0, at0, cb _ (10 + 5 * l) 0 (by omega)]
    obtain ⟨⟨a, ha, ea⟩, -⟩ := hG.2.2.2 l hl
    rw [ea, nI_leI (by omega) (by omega), nI_leI (by omega) (by omega)]
    have : ¬ a = d + 1 := fun q => ht ⟨l, hl, Or.inl (by rw [ea, q])⟩
    omega
  have h1 : ¬ day < w_cb W (nI (d + 1)) m 174 0 := by rw [at0]; exact Int32.not_lt.mpr hday
  have h0 : ¬ day < w_cb W (nI d) m 174 0 := by rw [at0]; exact Int32.not_lt.mpr (Int32.le_trans (nI_le (by omega) (by omega)) hday)
  refine ⟨?_, given_move hs hG0 (at2 _) hb hr h1 h0⟩
  have := (gov2_move (e1 := day) (e0 := day) hs hG0 (fun l _ => Iff.rfl) hb hr h1 h0).1
  unfold w_gov
  rw [this]

