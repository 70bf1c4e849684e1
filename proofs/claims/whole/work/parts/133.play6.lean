section PLAY6
variable {d : Nat} {M M' M'' : pz_M} {Q : Option Value × pz_M → Prop}
variable {r B g cr wk sv er D E to : Nat} {al : Nat → Nat → Nat} {R : Nat → T3} {y w : Int32} {c : Nat → Int32}
theorem rcx.gen {h : Nat → Int32} {dp mp : Nat → Bool} {K : List Nat} (x : rcx M r B cr wk sv er al h dp mp) (s : sm K M M') (hK : ∀ k, k ∈ [123, 129, 130, 131, 132, 136, 149, 153, 154] → k ∉ K) (e38 : gi M' 120 38 = gi M 120 38) : rcx M' r B cr wk sv er al h dp mp := by
  obtain ⟨x1, x2, x3, x4, x5, x6, x7, ⟨y1, y2, y3, y4⟩, x8, x9⟩ := x
  have ebk : bk M' = bk M := by
    unfold bk bank
    rw [e38]
  have erl : rlk M' = rlk M := by
    funext q
    unfold rlk
    rw [ebk, s.l (hK 136 (by decide))]
  refine ⟨x1.sm s, ?_, e38.trans x3, ebk.trans x4, ?_, ?_, ?_, ⟨?_, ?_, ?_, ?_⟩, ?_, ?_⟩
  · unfold okB bank
    rw [e38]
    exact x2
  · unfold nb
    rw [ebk, s.i (hK 123 (by decide))]
    exact x5
  · rw [erl]
    exact x6
  · rw [s.i (hK 149 (by decide))]; exact x7
  · rw [s.i (hK 129 (by decide))]; exact y1
  · rw [s.i (hK 130 (by decide))]; exact y2
  · rw [s.i (hK 131 (by decide))]; exact y3
  · rw [s.i (hK 132 (by decide))]; exact y4
  · rw [s.i (hK 153 (by decide))]; exact x8
  · rw [s.i (hK 154 (by decide))]; exact x9
theorem l_rnext12b (hd : 5 ≤ d) {b : Nat} {v : Int32} (h49 : gi M 120 49 = stp wk (R b).1) (hS : SH M) (h1 : ¬ v < stp wk (R b).1) (k : pw d 123 (27, [some (.ref 120), some (.int (nI b)), some (.int (nI to)), some (.int v), none, none], [], M) Q) : pw d 123 (12, [some (.ref 120), some (.int (nI b)), some (.int (nI to)), none, none, none], [.int v], M) Q := by
  have h1' := Int32.not_lt.mp h1
  refine pw_blk (mi := mz_123) (b := bz_123_12) rfl rfl ?_
  simp only [bz_123_12, pz_cut_t, pz_cut_f, pz_cut_n, pv_gt, pv_ts, pv_tn, ev_ist3n, ev_ist3i, ev_ist3r, ev_ist3e, ev_ist3l, ev_ild3, ev_ald0, ev_eld0, ev_gf11_0, ev_ic_ge, pz_wi_gc, pz_wi_ga, pz_wi_gn, pz_wi_gl, pz_wi_gr, pz_wi_same, pz_wi_X, pz_wl_gc, pz_wl_ga, pz_wl_gn, pz_wl_gi, pz_wl_gr, pz_wl_same, pz_wl_X, pz_wr_gc, pz_wr_ga, pz_wr_gn, pz_wr_gi, pz_wr_gl, pz_wr_same, pz_wr_X, so_120 hS, h49]
  (try simp (disch := omega) only [nI_clamp, pz_in_nI2, pz_in_nI2L, pv_gt, nI_add, nI_addL, nI_Ladd, pk_mul, nI_mulL, nI_Lmul, pk_sub, nI_subL, nI_Lsub, nI_inc, nI_clampL, Nat.add_sub_cancel, pz_wi_else, pz_wl_else, vu_eq, vu_ne, pz_wi_gc, pz_wi_ga, pz_wi_gn, pz_wi_gl, pz_wi_gr, pz_wi_same, pz_wi_X, pz_wl_gc, pz_wl_ga, pz_wl_gn, pz_wl_gi, pz_wl_gr, pz_wl_same, pz_wl_X, pz_wr_gc, pz_wr_ga, pz_wr_gn, pz_wr_gi, pz_wr_gl, pz_wr_same, pz_wr_X, h49])
  refine po_brP (fun q12 => ?_) (fun q12 => ?_)
  · skip
    (try simp (disch := omega) only [nI_ltI, nI_leI, nI_eq, nI_ltL, nI_leL, nI_eqL, nI_Llt, nI_Lle, nI_Leq, nI_eqm, nI_meq, nI_ltm, nI_lem, nI_mlt, nI_mle, lg0, lgl, lgg, lgle, lgge, Int32.not_lt, Int32.not_le, Int64.not_lt, Int64.not_le, not_false_eq_true, not_true_eq_false, Decidable.not_not, ge_iff_le, gt_iff_lt] at q12)
    exact k
  · first
    | exact absurd q12 (by decide)
    | exact absurd trivial q12
    | exact q12.elim
    | (exfalso; (try simp (disch := omega) only [nI_ltI, nI_leI, nI_eq, nI_ltL, nI_leL, nI_eqL, nI_Llt, nI_Lle, nI_Leq, nI_eqm, nI_meq, nI_ltm, nI_lem, nI_mlt, nI_mle, lg0, lgl, lgg, lgle, lgge, Int32.not_lt, Int32.not_le, Int64.not_lt, Int64.not_le, not_false_eq_true, not_true_eq_false, Decidable.not_not, ge_iff_le, gt_iff_lt] at q12) <;> omega)
    | exact absurd q12 (by with_reducible assumption)
    | exact absurd (by with_reducible assumption) q12
    | exact absurd (Decidable.not_not.mp q12) (by with_reducible assumption)
    | exact absurd (by with_reducible assumption) (Int32.not_le.mpr q12)
    | exact absurd (by with_reducible assumption) (Int32.not_lt.mpr q12)
theorem l_rnext12 (hd : 5 ≤ d) {b : Nat} {v : Int32} (hv0 : plV (plD w) = v) (h1 : v < stp wk (R b).1) (x : rcx M r B cr wk sv er al (fun i => (R i).1) D.testBit E.testBit) (bd : rbd r B cr wk sv er al (fun i => (R i).1)) (hb : b < B) (hT : isTR M R) (hc : ag4 M c) (h49 : gi M 120 49 = stp wk (R b).1) (h51 : gi M 120 51 = -1) (k : ∀ M' v', sm [120] M M' → (∀ j, j ≠ 51 → (j < 53 ∨ 56 ≤ j) → gi M' 120 j = gi M 120 j) → isTR M' (pst al g cr wk sv er B D E to y R w c b).1 → ag4 M' (pst al g cr wk sv er B D E to y R w c b).2.2.1 → gi M' 120 51 = (match (pst al g cr wk sv er B D E to y R w c b).2.2.2 with | .inl _ => -1 | .inr how => how) → (∀ b', (pst al g cr wk sv er B D E to y R w c b).2.2.2 = .inl b' → v' = nI b') → Q (some (.int v'), M')) : pw d 123 (12, [some (.ref 120), some (.int (nI b)), some (.int (nI to)), none, none, none], [.int v], M) Q := by
  unfold pst at k
  rw [hv0] at k
  clear hv0
  generalize plD w = w' at k
  simp only [if_pos h1] at k
  have x1 := x.1
  have hst := fun k' => r_stop (d := d - 1) (M := M) (Q := fun v => pw d 123 (23 + 3, [some (.ref 120), some (.int (nI b)), none, none, none, none], v.1.toList ++ [], v.2) Q) (by omega) x bd hb hc k'
  generalize drF D.testBit sv B b = dr at k hst
  cases dr with
  | none =>
    simp only at k hst
    refine pw_blk (mi := mz_123) (b := bz_123_12) rfl rfl ?_
    simp only [bz_123_12, pz_cut_t, pz_cut_f, pz_cut_n, pv_gt, pv_ts, pv_tn, ev_ist3n, ev_ist3i, ev_ist3r, ev_ist3e, ev_ist3l, ev_ild3, ev_ald0, ev_eld0, ev_gf11_0, ev_ic_ge, pz_wi_gc, pz_wi_ga, pz_wi_gn, pz_wi_gl, pz_wi_gr, pz_wi_same, pz_wi_X, pz_wl_gc, pz_wl_ga, pz_wl_gn, pz_wl_gi, pz_wl_gr, pz_wl_same, pz_wl_X, pz_wr_gc, pz_wr_ga, pz_wr_gn, pz_wr_gi, pz_wr_gl, pz_wr_same, pz_wr_X, so_120 x1, h49]
    (try simp (disch := omega) only [nI_clamp, pz_in_nI2, pz_in_nI2L, pv_gt, nI_add, nI_addL, nI_Ladd, pk_mul, nI_mulL, nI_Lmul, pk_sub, nI_subL, nI_Lsub, nI_inc, nI_clampL, Nat.add_sub_cancel, pz_wi_else, pz_wl_else, vu_eq, vu_ne, pz_wi_gc, pz_wi_ga, pz_wi_gn, pz_wi_gl, pz_wi_gr, pz_wi_same, pz_wi_X, pz_wl_gc, pz_wl_ga, pz_wl_gn, pz_wl_gi, pz_wl_gr, pz_wl_same, pz_wl_X, pz_wr_gc, pz_wr_ga, pz_wr_gn, pz_wr_gi, pz_wr_gl, pz_wr_same, pz_wr_X, h49])
    refine po_brP (fun q12 => ?_) (fun q12 => ?_)
    · first
      | exact absurd q12 (by decide)
      | exact absurd trivial q12
      | exact q12.elim
      | (exfalso; (try simp (disch := omega) only [nI_ltI, nI_leI, nI_eq, nI_ltL, nI_leL, nI_eqL, nI_Llt, nI_Lle, nI_Leq, nI_eqm, nI_meq, nI_ltm, nI_lem, nI_mlt, nI_mle, lg0, lgl, lgg, lgle, lgge, Int32.not_lt, Int32.not_le, Int64.not_lt, Int64.not_le, not_false_eq_true, not_true_eq_false, Decidable.not_not, ge_iff_le, gt_iff_lt] at q12) <;> omega)
      | exact absurd q12 (by with_reducible assumption)
      | exact absurd (by with_reducible assumption) q12
      | exact absurd (Decidable.not_not.mp q12) (by with_reducible assumption)
      | exact absurd (by with_reducible assumption) (Int32.not_le.mpr q12)
      | exact absurd (by with_reducible assumption) (Int32.not_lt.mpr q12)
    · skip
      (try simp (disch := omega) only [nI_ltI, nI_leI, nI_eq, nI_ltL, nI_leL, nI_eqL, nI_Llt, nI_Lle, nI_Leq, nI_eqm, nI_meq, nI_ltm, nI_lem, nI_mlt, nI_mle, lg0, lgl, lgg, lgle, lgge, Int32.not_lt, Int32.not_le, Int64.not_lt, Int64.not_le, not_false_eq_true, not_true_eq_false, Decidable.not_not, ge_iff_le, gt_iff_lt] at q12)
      refine pw_blk (mi := mz_123) (b := bz_123_21) rfl rfl ?_
      simp only [bz_123_21, pz_cut_t, pz_cut_f, pz_cut_n, pv_gt, pv_ts, pv_tn, ev_ald0, ev_eld0, ev_ild1, ev_cv1_11, pz_wi_gc, pz_wi_ga, pz_wi_gn, pz_wi_gl, pz_wi_gr, pz_wi_same, pz_wi_X, pz_wl_gc, pz_wl_ga, pz_wl_gn, pz_wl_gi, pz_wl_gr, pz_wl_same, pz_wl_X, pz_wr_gc, pz_wr_ga, pz_wr_gn, pz_wr_gi, pz_wr_gl, pz_wr_same, pz_wr_X, so_120 x1, h49]
      (try simp (disch := omega) only [nI_clamp, pz_in_nI2, pz_in_nI2L, pv_gt, nI_add, nI_addL, nI_Ladd, pk_mul, nI_mulL, nI_Lmul, pk_sub, nI_subL, nI_Lsub, nI_inc, nI_clampL, Nat.add_sub_cancel, pz_wi_else, pz_wl_else, vu_eq, vu_ne, pz_wi_gc, pz_wi_ga, pz_wi_gn, pz_wi_gl, pz_wi_gr, pz_wi_same, pz_wi_X, pz_wl_gc, pz_wl_ga, pz_wl_gn, pz_wl_gi, pz_wl_gr, pz_wl_same, pz_wl_X, pz_wr_gc, pz_wr_ga, pz_wr_gn, pz_wr_gi, pz_wr_gl, pz_wr_same, pz_wr_X, h49])
      (try refine po_gP (Nat.le_of_ble_eq_true rfl) ?_)
      refine po_call (by omega) (hst (fun M2 s2 a1 a2 a3 => ?_))
      refine pw_blk (mi := mz_123) (b := bz_123_26) rfl rfl ?_
      simp only [bz_123_26, pz_cut_t, pz_cut_f, pz_cut_n, pv_gt, pv_ts, pv_tn, ev_iret0, pz_wi_gc, pz_wi_ga, pz_wi_gn, pz_wi_gl, pz_wi_gr, pz_wi_same, pz_wi_X, pz_wl_gc, pz_wl_ga, pz_wl_gn, pz_wl_gi, pz_wl_gr, pz_wl_same, pz_wl_X, pz_wr_gc, pz_wr_ga, pz_wr_gn, pz_wr_gi, pz_wr_gl, pz_wr_same, pz_wr_X, h49]
      (try simp (disch := omega) only [nI_clamp, pz_in_nI2, pz_in_nI2L, pv_gt, nI_add, nI_addL, nI_Ladd, pk_mul, nI_mulL, nI_Lmul, pk_sub, nI_subL, nI_Lsub, nI_inc, nI_clampL, Nat.add_sub_cancel, pz_wi_else, pz_wl_else, vu_eq, vu_ne, pz_wi_gc, pz_wi_ga, pz_wi_gn, pz_wi_gl, pz_wi_gr, pz_wi_same, pz_wi_X, pz_wl_gc, pz_wl_ga, pz_wl_gn, pz_wl_gi, pz_wl_gr, pz_wl_same, pz_wl_X, pz_wr_gc, pz_wr_ga, pz_wr_gn, pz_wr_gi, pz_wr_gl, pz_wr_same, pz_wr_X, h49])
      exact po_ret (k M2 _ s2 a1 (hT.sm s2 (by decide) (by decide) (by decide)) a2 a3 (fun b' hb' => by cases hb'))
  | some dd =>
    simp only at k hst
    refine pw_blk (mi := mz_123) (b := bz_123_12) rfl rfl ?_
    simp only [bz_123_12, pz_cut_t, pz_cut_f, pz_cut_n, pv_gt, pv_ts, pv_tn, ev_ist3n, ev_ist3i, ev_ist3r, ev_ist3e, ev_ist3l, ev_ild3, ev_ald0, ev_eld0, ev_gf11_0, ev_ic_ge, pz_wi_gc, pz_wi_ga, pz_wi_gn, pz_wi_gl, pz_wi_gr, pz_wi_same, pz_wi_X, pz_wl_gc, pz_wl_ga, pz_wl_gn, pz_wl_gi, pz_wl_gr, pz_wl_same, pz_wl_X, pz_wr_gc, pz_wr_ga, pz_wr_gn, pz_wr_gi, pz_wr_gl, pz_wr_same, pz_wr_X, so_120 x1, h49]
    (try simp (disch := omega) only [nI_clamp, pz_in_nI2, pz_in_nI2L, pv_gt, nI_add, nI_addL, nI_Ladd, pk_mul, nI_mulL, nI_Lmul, pk_sub, nI_subL, nI_Lsub, nI_inc, nI_clampL, Nat.add_sub_cancel, pz_wi_else, pz_wl_else, vu_eq, vu_ne, pz_wi_gc, pz_wi_ga, pz_wi_gn, pz_wi_gl, pz_wi_gr, pz_wi_same, pz_wi_X, pz_wl_gc, pz_wl_ga, pz_wl_gn, pz_wl_gi, pz_wl_gr, pz_wl_same, pz_wl_X, pz_wr_gc, pz_wr_ga, pz_wr_gn, pz_wr_gi, pz_wr_gl, pz_wr_same, pz_wr_X, h49])
    refine po_brP (fun q12 => ?_) (fun q12 => ?_)
    · first
      | exact absurd q12 (by decide)
      | exact absurd trivial q12
      | exact q12.elim
      | (exfalso; (try simp (disch := omega) only [nI_ltI, nI_leI, nI_eq, nI_ltL, nI_leL, nI_eqL, nI_Llt, nI_Lle, nI_Leq, nI_eqm, nI_meq, nI_ltm, nI_lem, nI_mlt, nI_mle, lg0, lgl, lgg, lgle, lgge, Int32.not_lt, Int32.not_le, Int64.not_lt, Int64.not_le, not_false_eq_true, not_true_eq_false, Decidable.not_not, ge_iff_le, gt_iff_lt] at q12) <;> omega)
      | exact absurd q12 (by with_reducible assumption)
      | exact absurd (by with_reducible assumption) q12
      | exact absurd (Decidable.not_not.mp q12) (by with_reducible assumption)
      | exact absurd (by with_reducible assumption) (Int32.not_le.mpr q12)
      | exact absurd (by with_reducible assumption) (Int32.not_lt.mpr q12)
    · skip
      (try simp (disch := omega) only [nI_ltI, nI_leI, nI_eq, nI_ltL, nI_leL, nI_eqL, nI_Llt, nI_Lle, nI_Leq, nI_eqm, nI_meq, nI_ltm, nI_lem, nI_mlt, nI_mle, lg0, lgl, lgg, lgle, lgge, Int32.not_lt, Int32.not_le, Int64.not_lt, Int64.not_le, not_false_eq_true, not_true_eq_false, Decidable.not_not, ge_iff_le, gt_iff_lt] at q12)
      refine pw_blk (mi := mz_123) (b := bz_123_21) rfl rfl ?_
      simp only [bz_123_21, pz_cut_t, pz_cut_f, pz_cut_n, pv_gt, pv_ts, pv_tn, ev_ald0, ev_eld0, ev_ild1, ev_cv1_11, pz_wi_gc, pz_wi_ga, pz_wi_gn, pz_wi_gl, pz_wi_gr, pz_wi_same, pz_wi_X, pz_wl_gc, pz_wl_ga, pz_wl_gn, pz_wl_gi, pz_wl_gr, pz_wl_same, pz_wl_X, pz_wr_gc, pz_wr_ga, pz_wr_gn, pz_wr_gi, pz_wr_gl, pz_wr_same, pz_wr_X, so_120 x1, h49]
      (try simp (disch := omega) only [nI_clamp, pz_in_nI2, pz_in_nI2L, pv_gt, nI_add, nI_addL, nI_Ladd, pk_mul, nI_mulL, nI_Lmul, pk_sub, nI_subL, nI_Lsub, nI_inc, nI_clampL, Nat.add_sub_cancel, pz_wi_else, pz_wl_else, vu_eq, vu_ne, pz_wi_gc, pz_wi_ga, pz_wi_gn, pz_wi_gl, pz_wi_gr, pz_wi_same, pz_wi_X, pz_wl_gc, pz_wl_ga, pz_wl_gn, pz_wl_gi, pz_wl_gr, pz_wl_same, pz_wl_X, pz_wr_gc, pz_wr_ga, pz_wr_gn, pz_wr_gi, pz_wr_gl, pz_wr_same, pz_wr_X, h49])
      (try refine po_gP (Nat.le_of_ble_eq_true rfl) ?_)
      refine po_call (by omega) (hst (fun M2 s2 a1 a2 a3 => ?_))
      refine pw_blk (mi := mz_123) (b := bz_123_26) rfl rfl ?_
      simp only [bz_123_26, pz_cut_t, pz_cut_f, pz_cut_n, pv_gt, pv_ts, pv_tn, ev_iret0, pz_wi_gc, pz_wi_ga, pz_wi_gn, pz_wi_gl, pz_wi_gr, pz_wi_same, pz_wi_X, pz_wl_gc, pz_wl_ga, pz_wl_gn, pz_wl_gi, pz_wl_gr, pz_wl_same, pz_wl_X, pz_wr_gc, pz_wr_ga, pz_wr_gn, pz_wr_gi, pz_wr_gl, pz_wr_same, pz_wr_X, h49]
      (try simp (disch := omega) only [nI_clamp, pz_in_nI2, pz_in_nI2L, pv_gt, nI_add, nI_addL, nI_Ladd, pk_mul, nI_mulL, nI_Lmul, pk_sub, nI_subL, nI_Lsub, nI_inc, nI_clampL, Nat.add_sub_cancel, pz_wi_else, pz_wl_else, vu_eq, vu_ne, pz_wi_gc, pz_wi_ga, pz_wi_gn, pz_wi_gl, pz_wi_gr, pz_wi_same, pz_wi_X, pz_wl_gc, pz_wl_ga, pz_wl_gn, pz_wl_gi, pz_wl_gr, pz_wl_same, pz_wl_X, pz_wr_gc, pz_wr_ga, pz_wr_gn, pz_wr_gi, pz_wr_gl, pz_wr_same, pz_wr_X, h49])
      exact po_ret (k M2 _ s2 a1 (hT.sm s2 (by decide) (by decide) (by decide)) a2 (a3.trans h51) (fun b' hb' => by cases hb'; rfl))
theorem r_next (hd : 8 ≤ d) {b : Nat} (x : rcx M r B cr wk sv er al (fun i => (R i).1) D.testBit E.testBit) (bd : rbd r B cr wk sv er al (fun i => (R i).1)) (hb : b < B) (hto : to < B) (hT : isTR M R) (hu : okT R) (hg : gi M 127 r = nI g) (hy : gi M 120 46 = y) (hw : gi M 120 47 = w) (hc : ag4 M c) (h51 : gi M 120 51 = -1) (k : ∀ M' v', sm [120, 149, 152, 155] M M' → (∀ j, j ≠ 47 → j ≠ 49 → j ≠ 50 → j ≠ 51 → (j < 53 ∨ 57 ≤ j) → gi M' 120 j = gi M 120 j) → gi M' 120 47 = plD w → isTR M' (pst al g cr wk sv er B D E to y R w c b).1 → ag4 M' (pst al g cr wk sv er B D E to y R w c b).2.2.1 → gi M' 120 51 = (match (pst al g cr wk sv er B D E to y R w c b).2.2.2 with | .inl _ => -1 | .inr how => how) → (∀ b', (pst al g cr wk sv er B D E to y R w c b).2.2.2 = .inl b' → v' = nI b') → Q (some (.int v'), M')) : pm d 123 [.ref 120, .int (nI b), .int (nI to)] M Q := by
  obtain ⟨x1, x2, x3, x4, x5, x6, x7, ⟨y1, y2, y3, y4⟩, x8, x9⟩ := id x
  obtain ⟨z1, z2, z3, z4, z5, z6, z7, z8⟩ := id bd
  refine pm_ent (L := [some (.ref 120), some (.int (nI b)), some (.int (nI to)), none, none, none]) rfl (Nat.le_of_ble_eq_true rfl) ?_
  refine pw_blk (mi := mz_123) (b := bz_123_0) rfl rfl ?_
  simp only [bz_123_0, pz_cut_t, pz_cut_f, pz_cut_n, pv_gt, pv_ts, pv_tn, ev_ald0, ev_eld0, ev_ild1, ev_cv1_11, pz_wi_gc, pz_wi_ga, pz_wi_gn, pz_wi_gl, pz_wi_gr, pz_wi_same, pz_wi_X, pz_wl_gc, pz_wl_ga, pz_wl_gn, pz_wl_gi, pz_wl_gr, pz_wl_same, pz_wl_X, pz_wr_gc, pz_wr_ga, pz_wr_gn, pz_wr_gi, pz_wr_gl, pz_wr_same, pz_wr_X, so_120 x1]
  (try simp (disch := omega) only [nI_clamp, pz_in_nI2, pz_in_nI2L, pv_gt, nI_add, nI_addL, nI_Ladd, pk_mul, nI_mulL, nI_Lmul, pk_sub, nI_subL, nI_Lsub, nI_inc, nI_clampL, Nat.add_sub_cancel, pz_wi_else, pz_wl_else, vu_eq, vu_ne, pz_wi_gc, pz_wi_ga, pz_wi_gn, pz_wi_gl, pz_wi_gr, pz_wi_same, pz_wi_X, pz_wl_gc, pz_wl_ga, pz_wl_gn, pz_wl_gi, pz_wl_gr, pz_wl_same, pz_wl_X, pz_wr_gc, pz_wr_ga, pz_wr_gn, pz_wr_gi, pz_wr_gl, pz_wr_same, pz_wr_X])
  (try refine po_gP (Nat.le_of_ble_eq_true rfl) ?_)
  refine po_call (by omega) (r_layBehind (by omega) x1 x2 x3 z1 x5 z2 hb x6 z7 x7 z8 y1 y2 z3 z4 (x9 b (by omega)) (fun M1 s1 f120 f155 => ?_))
  have hS1 := x1.sm s1
  have e47 : gi M1 120 47 = w := by rw [f120, vu_ne (by decide), vu_ne (by decide)]; exact hw
  refine pw_blk (mi := mz_123) (b := bz_123_5) rfl rfl ?_
  simp only [bz_123_5, pz_cut_t, pz_cut_f, pz_cut_n, pv_gt, pv_ts, pv_tn, ev_ald0, ev_eld0, ev_sp1000, ev_cv1_11, pz_wi_gc, pz_wi_ga, pz_wi_gn, pz_wi_gl, pz_wi_gr, pz_wi_same, pz_wi_X, pz_wl_gc, pz_wl_ga, pz_wl_gn, pz_wl_gi, pz_wl_gr, pz_wl_same, pz_wl_X, pz_wr_gc, pz_wr_ga, pz_wr_gn, pz_wr_gi, pz_wr_gl, pz_wr_same, pz_wr_X, so_120 x1, so_120 hS1]
  (try simp (disch := omega) only [nI_clamp, pz_in_nI2, pz_in_nI2L, pv_gt, nI_add, nI_addL, nI_Ladd, pk_mul, nI_mulL, nI_Lmul, pk_sub, nI_subL, nI_Lsub, nI_inc, nI_clampL, Nat.add_sub_cancel, pz_wi_else, pz_wl_else, vu_eq, vu_ne, pz_wi_gc, pz_wi_ga, pz_wi_gn, pz_wi_gl, pz_wi_gr, pz_wi_same, pz_wi_X, pz_wl_gc, pz_wl_ga, pz_wl_gn, pz_wl_gi, pz_wl_gr, pz_wl_same, pz_wl_X, pz_wr_gc, pz_wr_ga, pz_wr_gn, pz_wr_gi, pz_wr_gl, pz_wr_same, pz_wr_X, so_120 hS1])
  (try refine po_gP (Nat.le_of_ble_eq_true rfl) ?_)
  refine po_call (by omega) (r_draw hS1 (fun M2 s2 g120 => ?_))
  rw [e47] at g120 ⊢
  have s12 : sm [120, 155] M M2 := s1.tr s2 (by decide)
  have q120 : ∀ j, j ≠ 47 → j ≠ 49 → j ≠ 50 → gi M2 120 j = gi M 120 j := fun j a1 a2 a3 => by rw [g120, vu_ne a1, f120, vu_ne a3, vu_ne a2]
  have xx := x.gen s12 (by decide) (q120 38 (by decide) (by decide) (by decide))
  have hS2 := xx.1
  have h49 : gi M2 120 49 = stp wk (R b).1 := by rw [g120, vu_ne (by decide), f120, vu_ne (by decide), vu_eq]
  have h47 : gi M2 120 47 = plD w := by rw [g120, vu_eq]
  have hT2 : isTR M2 R := hT.sm s12 (by decide) (by decide) (by decide)
  have hc2 : ag4 M2 c := ⟨(q120 53 (by decide) (by decide) (by decide)).trans hc.1, (q120 54 (by decide) (by decide) (by decide)).trans hc.2.1, (q120 55 (by decide) (by decide) (by decide)).trans hc.2.2.1, (q120 56 (by decide) (by decide) (by decide)).trans hc.2.2.2⟩
  have h512 : gi M2 120 51 = -1 := (q120 51 (by decide) (by decide) (by decide)).trans h51
  have h155 : ∀ j, j < B → gi M2 155 j = crs al cr wk B b (fun i => (R i).1) (E.testBit b) j := fun j hj => by rw [s2.i (by decide)]; exact f155 j hj
  generalize hv0 : plV (plD w) = v
  have h12 : pw d 123 (12, [some (.ref 120), some (.int (nI b)), some (.int (nI to)), none, none, none], [.int v], M2) Q := by
    by_cases h1 : v < stp wk (R b).1
    · exact l_rnext12 (by omega) hv0 h1 xx bd hb hT2 hc2 h49 h512 (fun M3 v3 s3 a1 a2 a3 a4 a5 => k M3 v3 ((s12.mono (by decide)).tr s3 (by decide)) (fun j b1 b2 b3 b4 b5 => (a1 j b4 (by omega)).trans (q120 j b1 b2 b3)) ((a1 47 (by decide) (by decide)).trans h47) a2 a3 a4 a5)
    · exact l_rnext12b (by omega) h49 hS2 h1 (l_rnext27 (by omega) hv0 h1 xx bd hb hto hT2 hu (by rw [s12.i (k := 127) (by decide)]; exact hg) ((q120 46 (by decide) (by decide) (by decide)).trans hy) hc2 h49 h512 h155 (fun M3 v3 s3 a1 a2 a3 a4 a5 => k M3 v3 ((s12.mono (by decide)).tr s3 (by decide)) (fun j b1 b2 b3 b4 b5 => (a1 j b4 (by omega)).trans (q120 j b1 b2 b3)) ((a1 47 (by decide) (by decide)).trans h47) a2 a3 a4 a5))
  exact pw_cut (mi := mz_123) (b := bz_123_12) rfl rfl h12 rfl
end PLAY6
