/-! ===== 37.model7 ===== -/
/-! ===== days on which nothing turns ===== -/
theorem inF_turn {W : WT} {l d : Nat} (hL : LawG W (10 + 5 * l)) (hd : d + 1 < 2 ^ 31) (ht : ¬ (W (10 + 5 * l) 0 = nI (d + 1) ∨ W (10 + 5 * l) 1 = nI (d + 1))) : inF W l (nI (d + 1)) ↔ inF W l (nI d) := by
  obtain ⟨⟨a, ha, ea⟩, ⟨b, hb, eb⟩, -⟩ := hL
  unfold inF
  rw [ea, eb] at ht ⊢
  have na : ¬ a = d + 1 := fun q => ht (Or.inl (congrArg nI q))
  have nb : ¬ b = d + 1 := fun q => ht (Or.inr (congrArg nI q))
  rw [nI_leI (by omega) (by omega), nI_leI (by omega) (by omega), nI_ltI (by omega) (by omega), nI_ltI (by omega) (by omega)]
  omega
theorem undone_congr {W : WT} {d e : Int32} (hG : GW W) (h : ∀ l, l < w_n W → (inF W l d ↔ inF W l e)) : w_undone W d = w_undone W e := by
  have key : ∀ i, i ≤ w_n W → w_gone W d i = w_gone W e i := by
    intro i
    induction i with
    | zero => intro _; rfl
    | succ i ih =>
      intro hi
      obtain ⟨l, hl, el⟩ := hG.2.1.1 i (by omega)
      have h8 := hG.1.2
      unfold w_gone
      rw [ih (by omega), el, ix_nI (by omega), propext (h l hl)]
  unfold w_undone
  rw [key _ (Nat.le_refl _)]
theorem obst_congr {W : WT} {l p : Nat} {d e g : Int32} (h : inF W l d ↔ inF W l e) (hb : d < W p 0 ↔ e < W p 0) : w_obst W l p d g = w_obst W l p e g := by
  unfold w_obst
  rw [propext h, propext hb]
theorem choose_congr {W : WT} {p : Nat} {d e g a t : Int32} : ∀ n, (∀ l, l < n → w_obst W l p d g = w_obst W l p e g) → w_choose W p d g a t n = w_choose W p e g a t n
  | 0, _ => rfl
  | n + 1, h => by
    unfold w_choose
    rw [choose_congr n (fun l hl => h l (by omega)), h n (by omega)]
theorem gov2_congr {W : WT} {p : Nat} {d e : Int32} (hG : GW W) (h : ∀ l, l < w_n W → (inF W l d ↔ inF W l e)) (hb : d < W p 0 ↔ e < W p 0) : w_gov2 W p d = w_gov2 W p e := by
  have hu := undone_congr hG h
  have hc : ∀ a t, w_choose W p d (w_undone W e) a t (w_n W) = w_choose W p e (w_undone W e) a t (w_n W) := fun a t => choose_congr _ (fun l hl => obst_congr (h l hl) hb)
  unfold w_gov2
  rw [hu, hc, propext hb]
theorem gov_turn {W : WT} {p d : Nat} (hG : GW W) (hd : d + 1 < 2 ^ 31) (hb : W p 0 ≤ nI d) (ht : ¬ w_turns W (nI (d + 1))) : w_gov2 W p (nI (d + 1)) = w_gov2 W p (nI d) := by
  refine gov2_congr hG (fun l hl => inF_turn (hG.2.2.2 l hl) hd (fun q => ht ⟨l, hl, q⟩)) ?_
  have h1 : ¬ nI d < W p 0 := Int32.not_lt.mpr hb
  have h2 : ¬ nI (d + 1) < W p 0 := Int32.not_lt.mpr (Int32.le_trans hb (nI_le (by omega) hd))
  exact ⟨fun q => absurd q h2, fun q => absurd q h1⟩
theorem r_carry_3 {s : CrT} {len way day : Int32} : (r_carry s len way day).1 = s.1 ∧ (r_carry s len way day).2.1 = s.2.1 ∧ (r_carry s len way day).2.2.1 = s.2.2.1 := by
  unfold r_carry sel
  split
  · exact ⟨rfl, rfl, rfl⟩
  · split <;> exact ⟨rfl, rfl, rfl⟩
theorem r_pass_3 {W : WT} {way : Int32} {s : CrT} {day g : Int32} : (r_pass W way s day g).1 = s.1 + 1 ∧ (r_pass W way s day g).2.1 = day ∧ (r_pass W way s day g).2.2.1 = g := by
  unfold r_pass sel
  split
  · exact ⟨rfl, rfl, rfl⟩
  · obtain ⟨a, b, c⟩ := r_carry_3 (s := (s.1 + 1, day, g, s.2.2.2.1, s.2.2.2.2)) (len := W (10 + 5 * Int32.toNatClampNeg g) 11) (way := if way = -6 then W (10 + 5 * Int32.toNatClampNeg g) 12 else way) (day := day)
    exact ⟨a, b, c⟩
/-- the class passes on the days on which the governing changes -/
theorem r_go_pass {W : WT} {p b d : Nat} {way : Int32} {s : CrT} (hG : GW W) (hb : W p 0 = nI b) (hbd : b ≤ d) (hd : d < 100) (hs : b < d → s.2.2.1 = w_gov W p (nI (d - 1))) :
    (((d = b ∨ ¬ w_gov W p (nI d) = s.2.2.1) → r_go W p way s (nI d) = r_pass W way s (nI d) (w_gov W p (nI d))) ∧ (¬ (d = b ∨ ¬ w_gov W p (nI d) = s.2.2.1) → r_go W p way s (nI d) = s)) := by
  unfold r_go
  rw [hb]
  have hdb : nI d = nI b ↔ d = b := nI_eq (by omega) (by omega)
  constructor
  · intro q
    rw [sel_f]
    rintro ⟨q1, q2⟩
    have q1 : ¬ d = b := fun z => q1 (hdb.mpr z)
    have q3 := q.resolve_left q1
    rcases q2 with q2 | q2
    · refine q3 ?_
      rw [hs (by omega)]
      have := gov_turn (W := W) (p := p) (d := d - 1) hG (by omega) (by rw [hb]; exact nI_le (by omega) (by omega)) (by rw [show d - 1 + 1 = d by omega]; exact q2)
      rw [show d - 1 + 1 = d by omega] at this
      unfold w_gov
      rw [this]
    · exact q3 q2
  · intro q
    rw [sel_t]
    refine ⟨fun z => q (Or.inl (hdb.mp z)), Or.inr (Classical.not_not.mp fun z => q (Or.inr z))⟩

/-! BetweenLawsModel.passage(III)I -/
abbrev rm_X11_passage : Room := { frames := 5, cells := 0, slots := 0, locals := 122 }
abbrev B_X11_passage (G : GT) (K : Int32 → Mem → Prop) := BT G (Rep G) RX11 "passage" cX11_passage 8 (some .int) rm_X11_passage K 0 0
abbrev T_X11_passage (G : GT) (as : List Value) (M : Mem) (K : Int32 → Mem → Prop) : Prop := MT G (Rep G) yX11_passage cX11_passage 8 (some .int) rm_X11_passage as M K
theorem e_X11_passage {G : GT} {K : Int32 → Mem → Prop} {M : Mem} {v1 : Int32} {v2 : Int32} {v3 : Int32} (h : B_X11_passage G K 0 [(0, .ref 175), (1, .int v1), (2, .int v2), (3, .int v3)] [] M) : T_X11_passage G [.ref 175, .int v1, .int v2, .int v3] M K := MT.of (by decide +kernel) rfl rfl (Nat.le_of_ble_eq_true rfl) rfl h
set_option maxRecDepth 4000 in
theorem k_X11_passage_0 {G : GT} {K : Int32 → Mem → Prop} {M : Mem} {W : WT} {v1 : Int32} {v2 : Int32} {v3 : Int32} (h : (RP W M) ∧ (((0 : Int32) ≤ v1 ∧ v1 < W 8 4) → (((0 : Int32) ≤ v3 ∧ v3 ≤ (1 : Int32)) → (vp_in v1 9) ∧ B_X11_passage G K 38 [(0, .ref 175), (1, .int v1), (2, .int v2), (3, .int v3), (4, .int 0), (5, .int (-6)), (6, .int (M.1 189 (Int32.toNatClampNeg v1)))] [] M) ∧ (¬ ((0 : Int32) ≤ v3 ∧ v3 ≤ (1 : Int32)) → K (-2) M)) ∧ (¬ ((0 : Int32) ≤ v1 ∧ v1 < W 8 4) → K (-1) M)) : B_X11_passage G K 0 [(0, .ref 175), (1, .int v1), (2, .int v2), (3, .int v3)] [] M := by
  refine BT.aload_n dX11_passage_0 rfl 0 rfl ?_
  refine BT.iload_n dX11_passage_1 rfl 1 rfl ?_
  refine BT.mcV [.int v1] (t_X11_isPiece h.1 ?_) mb_X11_isPiece mv_X11_isPiece lk_X11_198 rfl (by decide) rfl (recvRep ho_175 rfl) (Nat.le_of_ble_eq_true rfl) dX11_passage_2
  show B_X11_passage G K 5 [(0, .ref 175), (1, .int v1), (2, .int v2), (3, .int v3)] [.int (bi ((0 : Int32) ≤ v1 ∧ v1 < W 8 4))] M
  refine BT.if_ne (tgt := 10) dX11_passage_5 (by decide) (fun c => ?_) (fun c => ?_)
  · have c2 := bi_ne0.mp c
    refine BT.iload_n dX11_passage_10 rfl 3 rfl ?_
    refine BT.i2l dX11_passage_11 ?_
    refine BT.lconst (v := 0) dX11_passage_12 (by decide) ?_
    refine BT.lconst (v := 1) dX11_passage_13 (by decide) ?_
    refine BT.mcS [.long (Int32.toInt64 v3), .long 0, .long 1] (t_X11_in (x := v3) (y := (0 : Int32)) (z := (1 : Int32)) rfl (by decide) (by decide) ?_) mb_X11_in ms_X11_in lk_X11_86 rfl (by decide) rfl (Nat.le_of_ble_eq_true rfl) dX11_passage_14
    show B_X11_passage G K 17 [(0, .ref 175), (1, .int v1), (2, .int v2), (3, .int v3)] [.int (bi ((0 : Int32) ≤ v3 ∧ v3 ≤ (1 : Int32)))] M
    refine BT.if_ne (tgt := 23) dX11_passage_17 (by decide) (fun c => ?_) (fun c => ?_)
    · have c4 := bi_ne0.mp c
      refine BT.iconst (v := 0) dX11_passage_23 (by decide) ?_
      refine BT.istore (L' := [(4, .int 0), (0, .ref 175), (1, .int v1), (2, .int v2), (3, .int v3)]) dX11_passage_24 (by decide) rfl ?_
      refine BT.bipush (v := (-6)) dX11_passage_26 (by decide) ?_
      refine BT.istore (L' := [(5, .int (-6)), (4, .int 0), (0, .ref 175), (1, .int v1), (2, .int v2), (3, .int v3)]) dX11_passage_28 (by decide) rfl ?_
      refine BT.aload_n dX11_passage_30 rfl 2 rfl ?_
      refine BT.getR (r := 189) fl_X11_53 ho_175 rfl dX11_passage_31 ?_
      refine BT.iload_n dX11_passage_34 rfl 3 rfl ?_
      refine BT.iald ha_189 ((h.2.1 c2).1 c4).1 dX11_passage_35 ?_
      refine BT.istore (L' := [(6, .int (M.1 189 (Int32.toNatClampNeg v1))), (5, .int (-6)), (4, .int 0), (0, .ref 175), (1, .int v1), (2, .int v2), (3, .int v3)]) dX11_passage_36 (by decide) rfl ?_
      refine BT.sub [3, 4, 5, 6, 2, 1, 0] rfl ?_
      exact ((h.2.1 c2).1 c4).2
    · have c5 := bi_eq0.mp c
      refine BT.bipush (v := (-2)) dX11_passage_20 (by decide) ?_
      exact BT.iret dX11_passage_22 rfl (by decide) (by decide) ((h.2.1 c2).2 c5)
  · have c3 := bi_eq0.mp c
    refine BT.iconst (v := (-1)) dX11_passage_8 (by decide) ?_
    exact BT.iret dX11_passage_9 rfl (by decide) (by decide) (h.2.2 c3)
set_option maxRecDepth 4000 in
theorem k_X11_passage_38 {G : GT} {K : Int32 → Mem → Prop} {M : Mem} {W : WT} {v1 : Int32} {v2 : Int32} {v3 : Int32} {v4 : Int32} {v5 : Int32} {v6 : Int32} (h : (99 < v6 → (¬ v2 = (-1) → K (-6) M) ∧ (v2 = (-1) → K v4 M)) ∧ (¬ 99 < v6 → (RG W M) ∧ (PR W M v1) ∧ (∀ r5 : Int32, r5 = (w_gov W (zp v1) v6) → ∀ N5 : Mem, N5 = (m_i M 175 30 (w_gov2 W (zp v1) v6).2) → (¬ r5 = v5 → (¬ v4 = v2 → B_X11_passage G K 38 [(0, .ref 175), (1, .int v1), (2, .int v2), (3, .int v3), (4, .int (v4 + 1)), (5, .int r5), (6, .int (v6 + 1))] [] N5) ∧ (v4 = v2 → (¬ v3 = 0 → K r5 N5) ∧ (v3 = 0 → K v6 N5))) ∧ (r5 = v5 → (vp_in v1 9) ∧ (¬ v6 = (N5.1 189 (Int32.toNatClampNeg v1)) → B_X11_passage G K 38 [(0, .ref 175), (1, .int v1), (2, .int v2), (3, .int v3), (4, .int v4), (5, .int r5), (6, .int (v6 + 1))] [] N5) ∧ (v6 = (N5.1 189 (Int32.toNatClampNeg v1)) → (¬ v4 = v2 → B_X11_passage G K 38 [(0, .ref 175), (1, .int v1), (2, .int v2), (3, .int v3), (4, .int (v4 + 1)), (5, .int r5), (6, .int (v6 + 1))] [] N5) ∧ (v4 = v2 → (¬ v3 = 0 → K r5 N5) ∧ (v3 = 0 → K v6 N5))))))) : B_X11_passage G K 38 [(0, .ref 175), (1, .int v1), (2, .int v2), (3, .int v3), (4, .int v4), (5, .int v5), (6, .int v6)] [] M := by
  refine BT.iload dX11_passage_38 6 rfl ?_
  refine BT.bipush (v := 99) dX11_passage_40 (by decide) ?_
  refine BT.icmp_gt (tgt := 103) dX11_passage_42 (by decide) (fun c => ?_) (fun c => ?_)
  · have c1 := c
    refine BT.iload_n dX11_passage_103 rfl 2 rfl ?_
    refine BT.iconst (v := (-1)) dX11_passage_104 (by decide) ?_
    refine BT.icmp_ne (tgt := 113) dX11_passage_105 (by decide) (fun c => ?_) (fun c => ?_)
    · have c3 := c
      refine BT.bipush (v := (-6)) dX11_passage_113 (by decide) ?_
      exact BT.iret dX11_passage_115 rfl (by decide) (by decide) ((h.1 c1).1 c3)
    · have c4 := c
      refine BT.iload dX11_passage_108 4 rfl ?_
      refine BT.goto (tgt := 115) dX11_passage_110 (by decide) ?_
      exact BT.iret dX11_passage_115 rfl (by decide) (by decide) ((h.1 c1).2 c4)
  · have c2 := c
    refine BT.aload_n dX11_passage_45 rfl 0 rfl ?_
    refine BT.iload_n dX11_passage_46 rfl 1 rfl ?_
    refine BT.iload dX11_passage_47 6 rfl ?_
    refine BT.mcVn [.int v1, .int v6] (t_X11_governing (h.2 c2).1 (h.2 c2).2.1 ⟨rfl, rfl⟩) mb_X11_governing mv_X11_governing lk_X11_240 rfl (by decide) rfl (recvRep ho_175 rfl) (Nat.le_of_ble_eq_true rfl) dX11_passage_49 (fun r5 e5 N5 g5 => ?_)
    show B_X11_passage G K 52 [(0, .ref 175), (1, .int v1), (2, .int v2), (3, .int v3), (4, .int v4), (5, .int v5), (6, .int v6)] [.int r5] N5
    refine BT.istore (L' := [(7, .int r5), (0, .ref 175), (1, .int v1), (2, .int v2), (3, .int v3), (4, .int v4), (5, .int v5), (6, .int v6)]) dX11_passage_52 (by decide) rfl ?_
    refine BT.iload dX11_passage_54 0 rfl ?_
    refine BT.iload dX11_passage_56 6 rfl ?_
    refine BT.icmp_ne (tgt := 72) dX11_passage_58 (by decide) (fun c => ?_) (fun c => ?_)
    · have c6 := c
      refine BT.iload dX11_passage_72 5 rfl ?_
      refine BT.iload_n dX11_passage_74 rfl 3 rfl ?_
      refine BT.icmp_ne (tgt := 90) dX11_passage_75 (by decide) (fun c => ?_) (fun c => ?_)
      · have c8 := c
        refine BT.iinc (j := 5) (v := (v4 + 1)) (L' := [(4, .int (v4 + 1)), (7, .int r5), (0, .ref 175), (1, .int v1), (2, .int v2), (3, .int v3), (5, .int v5), (6, .int v6)]) dX11_passage_90 rfl rfl (by decide) rfl ?_
        refine BT.iload dX11_passage_93 1 rfl ?_
        refine BT.istore (L' := [(5, .int r5), (4, .int (v4 + 1)), (7, .int r5), (0, .ref 175), (1, .int v1), (2, .int v2), (3, .int v3), (6, .int v6)]) dX11_passage_95 (by decide) rfl ?_
        refine BT.iinc (j := 7) (v := (v6 + 1)) (L' := [(6, .int (v6 + 1)), (5, .int r5), (4, .int (v4 + 1)), (7, .int r5), (0, .ref 175), (1, .int v1), (2, .int v2), (3, .int v3)]) dX11_passage_97 rfl rfl (by decide) rfl ?_
        refine BT.goto (tgt := 38) dX11_passage_100 (by decide) ?_
        refine BT.sub [4, 5, 6, 7, 2, 1, 0] rfl ?_
        exact ((((h.2 c2).2.2 r5 e5 N5 g5).1 c6).1 c8)
      · have c9 := c
        refine BT.iload_n dX11_passage_78 rfl 4 rfl ?_
        refine BT.if_ne (tgt := 87) dX11_passage_79 (by decide) (fun c => ?_) (fun c => ?_)
        · have c10 := c
          refine BT.iload dX11_passage_87 0 rfl ?_
          exact BT.iret dX11_passage_89 rfl (by decide) (by decide) (((((h.2 c2).2.2 r5 e5 N5 g5).1 c6).2 c9).1 c10)
        · have c11 := c
          refine BT.iload dX11_passage_82 7 rfl ?_
          refine BT.goto (tgt := 89) dX11_passage_84 (by decide) ?_
          exact BT.iret dX11_passage_89 rfl (by decide) (by decide) (((((h.2 c2).2.2 r5 e5 N5 g5).1 c6).2 c9).2 c11)
    · have c7 := c
      refine BT.iload dX11_passage_61 7 rfl ?_
      refine BT.aload_n dX11_passage_63 rfl 1 rfl ?_
      refine BT.getR (r := 189) fl_X11_53 ho_175 rfl dX11_passage_64 ?_
      refine BT.iload_n dX11_passage_67 rfl 2 rfl ?_
      refine BT.iald ha_189 (((h.2 c2).2.2 r5 e5 N5 g5).2 c7).1 dX11_passage_68 ?_
      refine BT.icmp_ne (tgt := 93) dX11_passage_69 (by decide) (fun c => ?_) (fun c => ?_)
      · have c12 := c
        refine BT.iload dX11_passage_93 0 rfl ?_
        refine BT.istore (L' := [(5, .int r5), (7, .int r5), (0, .ref 175), (1, .int v1), (2, .int v2), (3, .int v3), (4, .int v4), (6, .int v6)]) dX11_passage_95 (by decide) rfl ?_
        refine BT.iinc (j := 7) (v := (v6 + 1)) (L' := [(6, .int (v6 + 1)), (5, .int r5), (7, .int r5), (0, .ref 175), (1, .int v1), (2, .int v2), (3, .int v3), (4, .int v4)]) dX11_passage_97 rfl rfl (by decide) rfl ?_
        refine BT.goto (tgt := 38) dX11_passage_100 (by decide) ?_
        refine BT.sub [3, 4, 5, 6, 7, 1, 0] rfl ?_
        exact ((((h.2 c2).2.2 r5 e5 N5 g5).2 c7).2.1 c12)
      · have c13 := c
        refine BT.iload dX11_passage_72 5 rfl ?_
        refine BT.iload_n dX11_passage_74 rfl 3 rfl ?_
        refine BT.icmp_ne (tgt := 90) dX11_passage_75 (by decide) (fun c => ?_) (fun c => ?_)
        · have c14 := c
          refine BT.iinc (j := 5) (v := (v4 + 1)) (L' := [(4, .int (v4 + 1)), (7, .int r5), (0, .ref 175), (1, .int v1), (2, .int v2), (3, .int v3), (5, .int v5), (6, .int v6)]) dX11_passage_90 rfl rfl (by decide) rfl ?_
          refine BT.iload dX11_passage_93 1 rfl ?_
          refine BT.istore (L' := [(5, .int r5), (4, .int (v4 + 1)), (7, .int r5), (0, .ref 175), (1, .int v1), (2, .int v2), (3, .int v3), (6, .int v6)]) dX11_passage_95 (by decide) rfl ?_
          refine BT.iinc (j := 7) (v := (v6 + 1)) (L' := [(6, .int (v6 + 1)), (5, .int r5), (4, .int (v4 + 1)), (7, .int r5), (0, .ref 175), (1, .int v1), (2, .int v2), (3, .int v3)]) dX11_passage_97 rfl rfl (by decide) rfl ?_
          refine BT.goto (tgt := 38) dX11_passage_100 (by decide) ?_
          refine BT.sub [4, 5, 6, 7, 2, 1, 0] rfl ?_
          exact (((((h.2 c2).2.2 r5 e5 N5 g5).2 c7).2.2 c13).1 c14)
        · have c15 := c
          refine BT.iload_n dX11_passage_78 rfl 4 rfl ?_
          refine BT.if_ne (tgt := 87) dX11_passage_79 (by decide) (fun c => ?_) (fun c => ?_)
          · have c16 := c
            refine BT.iload dX11_passage_87 0 rfl ?_
            exact BT.iret dX11_passage_89 rfl (by decide) (by decide) ((((((h.2 c2).2.2 r5 e5 N5 g5).2 c7).2.2 c13).2 c15).1 c16)
          · have c17 := c
            refine BT.iload dX11_passage_82 7 rfl ?_
            refine BT.goto (tgt := 89) dX11_passage_84 (by decide) ?_
            exact BT.iret dX11_passage_89 rfl (by decide) (by decide) ((((((h.2 c2).2.2 r5 e5 N5 g5).2 c7).2.2 c13).2 c15).2 c17)

theorem t_X11_passage {G : GT} {K : Int32 → Mem → Prop} {M : Mem} {W : WT} {v1 v2 v3 : Int32} (hR : RG W M) (hQ : RP W M) (h : ∀ N, Zcr M N → K (a_passage W v1 v2 v3) N) : T_X11_passage G [.ref 175, .int v1, .int v2, .int v3] M K := by
  unfold a_passage at h
  refine e_X11_passage (k_X11_passage_0 (W := W) ⟨hQ, fun c => ⟨fun c2 => ?_, fun c2 => ?_⟩, fun c => ?_⟩)
  · rw [sel_t c, sel_t c2] at h
    obtain ⟨i1, i2, i3, hP, ez⟩ := hQ.ix c
    obtain ⟨p0, p1, ⟨q1, -⟩, e0, -⟩ := hP.at
    obtain ⟨hb1, hb2⟩ := q1.b
    have vp : vp_in v1 9 := by rw [p1]; exact vp_nI p0 (by decide)
    rw [← ez] at h
    -- the answer of a state
    have key : ∀ (k : Nat) (s : CrT) (many : Nat) (N : Mem), k ≤ 100 - w_b W (zp v1) → many ≤ 100 - k → Zcr M N → s.1 = nI many → (w_b W (zp v1) < 100 - k → s.2.2.1 = w_gov W (zp v1) (nI (100 - k - 1))) → (100 - k = w_b W (zp v1) ∨ (¬ s.1 - 1 = v2 ∧ 0 < many)) → (100 - k = w_b W (zp v1) → many = 0) →
        (∀ N', Zcr M N' → K (sel (-1 ≤ v2) (sel (v2 = -1) (r_thr W (zp v1) v2 k s).2.1 (sel ((r_thr W (zp v1) v2 k s).1 = 1) (sel (v3 = 0) (r_thr W (zp v1) v2 k s).2.2.1 (r_thr W (zp v1) v2 k s).2.2.2.1) (-6))) (-6)) N') →
        B_X11_passage G K 38 [(0, .ref 175), (1, .int v1), (2, .int v2), (3, .int v3), (4, .int (nI many)), (5, .int s.2.2.1), (6, .int (nI (100 - k)))] [] N := by
      intro k
      induction k with
      | zero =>
        intro s many N hk hm hN hs hgov hst hst0 hK
        refine k_X11_passage_38 (W := W) ⟨fun _ => ⟨fun c3 => ?_, fun c3 => ?_⟩, fun c3 => absurd (by decide) c3⟩
        · have := hK N hN
          rw [sel_f c3] at this
          by_cases c4 : -1 ≤ v2
          · rw [sel_t c4, sel_f (show ¬ (r_thr W (zp v1) v2 0 s).1 = 1 from by show ¬ (0 : Int32) = 1; decide)] at this; exact this
          · rw [sel_f c4] at this; exact this
        · have := hK N hN
          rw [sel_t (by rw [c3]; exact Int32.le_refl _), sel_t c3] at this
          rw [← hs]; exact this
      | succ k ih =>
        intro s many N hk hm hN hs hgov hst hst0 hK
        obtain ⟨d, ed⟩ : ∃ d, d = 100 - (k + 1) := ⟨_, rfl⟩
        have ed2 : 100 - k = d + 1 := by omega
        have ed3 : 99 - k = d := by omega
        rw [← ed] at hgov hst hst0 hm ⊢
        unfold r_thr at hK
        rw [ed3] at hK
        have hgo := r_go_pass (W := W) (p := zp v1) (b := w_b W (zp v1)) (d := d) (way := -6) (s := s) hR.1 hb2 (by omega) (by omega) hgov
        have hRN := hR.z hN
        have hPN := hP.z hN
        have eN : ∀ N5, Zcr M N5 → N5.1 189 (Int32.toNatClampNeg v1) = nI (w_b W (zp v1)) := fun N5 hN5 => by rw [hN5.1 189 (by decide), e0, hb2]
        -- a day on which it passes
        have passes : ∀ N5, Zcr M N5 → (d = w_b W (zp v1) ∨ ¬ w_gov W (zp v1) (nI d) = s.2.2.1) → (¬ nI many = v2 → B_X11_passage G K 38 [(0, .ref 175), (1, .int v1), (2, .int v2), (3, .int v3), (4, .int (nI many + 1)), (5, .int (w_gov W (zp v1) (nI d))), (6, .int (nI d + 1))] [] N5) ∧ (nI many = v2 → (¬ v3 = 0 → K (w_gov W (zp v1) (nI d)) N5) ∧ (v3 = 0 → K (nI d) N5)) := by
          intro N5 hN5 q
          have eg := hgo.1 q
          obtain ⟨z1, z2, z3⟩ := r_pass_3 (W := W) (way := -6) (s := s) (day := nI d) (g := w_gov W (zp v1) (nI d))
          rw [eg] at hK
          have en : (r_pass W (-6) s (nI d) (w_gov W (zp v1) (nI d))).1 - 1 = nI many := by rw [z1, hs, nI_1, nI_pred]
          rw [en] at hK
          refine ⟨fun c5 => ?_, fun c5 => ?_⟩
          · rw [sel_f c5] at hK
            rw [nI_1, nI_1, ← z3]
            have := ih (r_pass W (-6) s (nI d) (w_gov W (zp v1) (nI d))) (many + 1) N5 (by omega) (by omega) hN5 (by rw [z1, hs, nI_1]) (fun _ => by rw [ed2, z3]; rfl) (Or.inr ⟨by rw [en]; exact c5, by omega⟩) (fun q => by omega) hK
            rw [ed2] at this
            exact this
          · rw [sel_t c5] at hK
            have n1 : ¬ v2 = -1 := by rw [← c5]; intro z; exact absurd (nI_pos' (n := many) (by omega)) (by rw [z]; decide)
            have n2 : -1 ≤ v2 := by rw [← c5]; exact Int32.le_trans (by decide) (nI_pos' (by omega))
            rw [sel_t n2, sel_f n1, sel_t rfl, z2, z3] at hK
            refine ⟨fun c6 => ?_, fun c6 => ?_⟩
            · rw [sel_f c6] at hK; exact hK N5 hN5
            · rw [sel_t c6] at hK; exact hK N5 hN5
        have stays : ∀ N5, Zcr M N5 → ¬ (d = w_b W (zp v1) ∨ ¬ w_gov W (zp v1) (nI d) = s.2.2.1) → B_X11_passage G K 38 [(0, .ref 175), (1, .int v1), (2, .int v2), (3, .int v3), (4, .int (nI many)), (5, .int (w_gov W (zp v1) (nI d))), (6, .int (nI d + 1))] [] N5 := by
          intro N5 hN5 q
          have eg := hgo.2 q
          have q1 : ¬ d = w_b W (zp v1) := fun z => q (Or.inl z)
          have q2 : w_gov W (zp v1) (nI d) = s.2.2.1 := Classical.not_not.mp fun z => q (Or.inr z)
          obtain ⟨hst1, hst2⟩ := hst.resolve_left q1
          rw [eg, sel_f hst1] at hK
          rw [nI_1, q2]
          have := ih s many N5 (by omega) (by omega) hN5 hs (fun _ => by rw [ed2, Nat.add_sub_cancel]; exact q2.symm) (Or.inr ⟨hst1, hst2⟩) (fun z => by omega) hK
          rw [ed2] at this
          exact this
        refine k_X11_passage_38 (W := W) ⟨fun c3 => ?_, fun _ => ⟨hRN, hPN, fun r5 e5 N5 g5 => ?_⟩⟩
        · exact absurd c3 (Int32.not_lt.mpr (nI_le (b := 99) (by omega) (by decide)))
        · have hN5 : Zcr M N5 := by rw [g5]; exact hN.mi (by decide)
          subst e5
          refine ⟨fun c4 => passes N5 hN5 (Or.inr c4), fun c4 => ⟨vp, fun c5 => ?_, fun c5 => ?_⟩⟩
          · rw [eN N5 hN5] at c5
            exact stays N5 hN5 (fun z => z.elim (fun z => c5 (congrArg nI z)) (fun z => z c4))
          · rw [eN N5 hN5] at c5
            exact passes N5 hN5 (Or.inl ((nI_eq (by omega) (by omega)).mp c5))
    refine ⟨vp, ?_⟩
    have := key (100 - w_b W (zp v1)) (r_begin W (zp v1)) 0 M (Nat.le_refl _) (Nat.zero_le _) Zcr.rf rfl (fun z => by omega) (Or.inl (by omega)) (fun _ => rfl) h
    rw [show 100 - (100 - w_b W (zp v1)) = w_b W (zp v1) by omega, ← hb2] at this
    rw [e0]
    exact this
  · rw [sel_t c, sel_f c2] at h; exact h M Zcr.rf
  · rw [sel_f c] at h; exact h M Zcr.rf

