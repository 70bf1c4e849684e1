/-! ===== the law ===== -/
section LAW
variable {X : pz_X} {i : Nat} {M : pz_M} {Q : Option Value × pz_M → Prop}
/-- what holds at each call -/
def INV (X : pz_X) (M : pz_M) : Prop := M.1 = X ∧ RL M ∧ ∀ i, 24 ≤ i → gi M 37 i = gi M 152 i
theorem RL.S (h : RL M) : SH M := by
  obtain ⟨r, B, H, P, N, D, E, y, t, L, nd, np, nr, hA⟩ := h
  exact hA.S
theorem cs_0 (hX6 : i + 6 ≤ X.1) (hX7 : X.1 ≤ 3072) (h : INV X M) (nx : ∀ M', INV X M' → pw 1000 0 (1484, [some (.retAddr 0), some (.ref 0), some (.ref 120), some (.int (nI i))], [], M') Q) : pw 1000 0 (212, [some (.retAddr 0), some (.ref 0), some (.ref 120), some (.int (nI i))], [], M) Q := by
  obtain ⟨hX, hL, hz⟩ := h
  have hS := hL.S
  have he : pz_ex M.1 0 = some (0, X.1, X.2) := by rw [hX]; rfl
  have OP := opp_I (a := 3) (b := 4) (by decide +kernel) (by decide +kernel) hz hL (show opp 999 3 4 [.int (X.2 (i + 1)), .int (X.2 (i + 2)), .int (X.2 (i + 3)), .int (X.2 (i + 4)), .int (X.2 (i + 5))] M from op_feed (by decide) hL)
  refine pw_blk (mi := mz_0) (b := bz_0_212) rfl rfl ?_
  simp only [bz_0_212, pz_cut_t, pz_cut_f, pz_cut_n, pv_gt, pv_ts, pv_tn, ev_ald1, ev_eld1, ev_ald0, ev_eld0, ev_ild3, ev_ic1, ev_iadd, ea_iald, ev_ic2, ev_ic3, ev_ic4, ev_ic5, ev_cv5_0, pz_wi_gc, pz_wi_ga, pz_wi_gn, pz_wi_gl, pz_wi_gr, pz_wi_same, pz_wi_X, pz_wl_gc, pz_wl_ga, pz_wl_gn, pz_wl_gi, pz_wl_gr, pz_wl_same, pz_wl_X, pz_wr_gc, pz_wr_ga, pz_wr_gn, pz_wr_gi, pz_wr_gl, pz_wr_same, pz_wr_X, so_0 hS, ea_ialde he]
  (try simp (disch := omega) only [nI_clamp, pz_in_nI2, pz_in_nI2L, pv_gt, nI_add, nI_addL, nI_Ladd, pk_mul, nI_mulL, nI_Lmul, pk_sub, nI_subL, nI_Lsub, nI_inc, nI_clampL, Nat.add_sub_cancel, pz_wi_else, pz_wl_else, vu_eq, vu_ne, pz_wi_gc, pz_wi_ga, pz_wi_gn, pz_wi_gl, pz_wi_gr, pz_wi_same, pz_wi_X, pz_wl_gc, pz_wl_ga, pz_wl_gn, pz_wl_gi, pz_wl_gr, pz_wl_same, pz_wl_X, pz_wr_gc, pz_wr_ga, pz_wr_gn, pz_wr_gi, pz_wr_gl, pz_wr_same, pz_wr_X, so_0 hS, ea_ialde he])
  (try refine po_gI (by first | exact pz_in_nI (by omega) (by decide) | decide | assumption) ?_)
  (try refine po_gI (by first | exact pz_in_nI (by omega) (by decide) | decide | assumption) ?_)
  (try refine po_gI (by first | exact pz_in_nI (by omega) (by decide) | decide | assumption) ?_)
  (try refine po_gI (by first | exact pz_in_nI (by omega) (by decide) | decide | assumption) ?_)
  (try refine po_gI (by first | exact pz_in_nI (by omega) (by decide) | decide | assumption) ?_)
  (try refine po_gP (Nat.le_of_ble_eq_true rfl) ?_)
  refine po_call (by omega) (pm_mono OP (fun r1 h1 => ?_))
  obtain ⟨v1, M1⟩ := r1
  obtain ⟨x, ex, hX1, g120, h2⟩ := h1
  simp only at ex hX1 g120 h2
  subst ex
  have he1 : pz_ex M1.1 0 = some (0, X.1, X.2) := by rw [hX1, hX]; rfl
  refine pw_blk (mi := mz_0) (b := bz_0_241) rfl rfl ?_
  simp only [bz_0_241, pz_cut_t, pz_cut_f, pz_cut_n, pv_gt, pv_ts, pv_tn, ev_ald2, ev_eld2, ev_ald0, ev_eld0, ev_ild3, ev_ic1, ev_iadd, ea_iald, ev_ic2, ev_ic3, ev_ic4, ev_ic5, ev_cv5_11, pz_wi_gc, pz_wi_ga, pz_wi_gn, pz_wi_gl, pz_wi_gr, pz_wi_same, pz_wi_X, pz_wl_gc, pz_wl_ga, pz_wl_gn, pz_wl_gi, pz_wl_gr, pz_wl_same, pz_wl_X, pz_wr_gc, pz_wr_ga, pz_wr_gn, pz_wr_gi, pz_wr_gl, pz_wr_same, pz_wr_X, so_0 hS, ea_ialde he, g120, ea_ialde he1]
  (try simp (disch := omega) only [nI_clamp, pz_in_nI2, pz_in_nI2L, pv_gt, nI_add, nI_addL, nI_Ladd, pk_mul, nI_mulL, nI_Lmul, pk_sub, nI_subL, nI_Lsub, nI_inc, nI_clampL, Nat.add_sub_cancel, pz_wi_else, pz_wl_else, vu_eq, vu_ne, pz_wi_gc, pz_wi_ga, pz_wi_gn, pz_wi_gl, pz_wi_gr, pz_wi_same, pz_wi_X, pz_wl_gc, pz_wl_ga, pz_wl_gn, pz_wl_gi, pz_wl_gr, pz_wl_same, pz_wl_X, pz_wr_gc, pz_wr_ga, pz_wr_gn, pz_wr_gi, pz_wr_gl, pz_wr_same, pz_wr_X, so_0 hS, ea_ialde he, g120, ea_ialde he1])
  (try refine po_gI (by first | exact pz_in_nI (by omega) (by decide) | decide | assumption) ?_)
  (try refine po_gI (by first | exact pz_in_nI (by omega) (by decide) | decide | assumption) ?_)
  (try refine po_gI (by first | exact pz_in_nI (by omega) (by decide) | decide | assumption) ?_)
  (try refine po_gI (by first | exact pz_in_nI (by omega) (by decide) | decide | assumption) ?_)
  (try refine po_gI (by first | exact pz_in_nI (by omega) (by decide) | decide | assumption) ?_)
  (try refine po_gP (Nat.le_of_ble_eq_true rfl) ?_)
  refine po_call (by omega) (pm_mono h2 (fun r2 h3 => ?_))
  obtain ⟨v2, M2⟩ := r2
  obtain ⟨ey, hX2, hL2, hz2⟩ := h3
  simp only at ey hX2 hL2 hz2
  subst ey
  refine pw_blk (mi := mz_0) (b := bz_0_270) rfl rfl ?_
  simp only [bz_0_270, pz_cut_t, pz_cut_f, pz_cut_n, pv_gt, pv_ts, pv_tn, ev_ic_eq, pz_wi_gc, pz_wi_ga, pz_wi_gn, pz_wi_gl, pz_wi_gr, pz_wi_same, pz_wi_X, pz_wl_gc, pz_wl_ga, pz_wl_gn, pz_wl_gi, pz_wl_gr, pz_wl_same, pz_wl_X, pz_wr_gc, pz_wr_ga, pz_wr_gn, pz_wr_gi, pz_wr_gl, pz_wr_same, pz_wr_X, so_0 hS, ea_ialde he]
  (try simp (disch := omega) only [nI_clamp, pz_in_nI2, pz_in_nI2L, pv_gt, nI_add, nI_addL, nI_Ladd, pk_mul, nI_mulL, nI_Lmul, pk_sub, nI_subL, nI_Lsub, nI_inc, nI_clampL, Nat.add_sub_cancel, pz_wi_else, pz_wl_else, vu_eq, vu_ne, pz_wi_gc, pz_wi_ga, pz_wi_gn, pz_wi_gl, pz_wi_gr, pz_wi_same, pz_wi_X, pz_wl_gc, pz_wl_ga, pz_wl_gn, pz_wl_gi, pz_wl_gr, pz_wl_same, pz_wl_X, pz_wr_gc, pz_wr_ga, pz_wr_gn, pz_wr_gi, pz_wr_gl, pz_wr_same, pz_wr_X, so_0 hS, ea_ialde he])
  refine po_brP (fun q270 => ?_) (fun q270 => ?_)
  · first
    | exact absurd q270 (by decide)
    | exact absurd trivial q270
    | exact q270.elim
    | (exfalso; (try simp (disch := omega) only [nI_ltI, nI_leI, nI_eq, nI_ltL, nI_leL, nI_eqL, nI_Llt, nI_Lle, nI_Leq, nI_eqm, nI_meq, nI_ltm, nI_lem, nI_mlt, nI_mle, lg0, lgl, lgg, lgle, lgge, Int32.not_lt, Int32.not_le, Int64.not_lt, Int64.not_le, not_false_eq_true, not_true_eq_false, Decidable.not_not, ge_iff_le, gt_iff_lt] at q270) <;> omega)
    | exact absurd q270 (by with_reducible assumption)
    | exact absurd (by with_reducible assumption) q270
    | exact absurd (Decidable.not_not.mp q270) (by with_reducible assumption)
    | exact absurd (by with_reducible assumption) (Int32.not_le.mpr q270)
    | exact absurd (by with_reducible assumption) (Int32.not_lt.mpr q270)
    | skip
      (try simp (disch := omega) only [nI_ltI, nI_leI, nI_eq, nI_ltL, nI_leL, nI_eqL, nI_Llt, nI_Lle, nI_Leq, nI_eqm, nI_meq, nI_ltm, nI_lem, nI_mlt, nI_mle, lg0, lgl, lgg, lgle, lgge, Int32.not_lt, Int32.not_le, Int64.not_lt, Int64.not_le, not_false_eq_true, not_true_eq_false, Decidable.not_not, ge_iff_le, gt_iff_lt] at q270)
      exact nx M2 ⟨hX2.trans hX, hL2, hz2⟩
  · exact absurd trivial q270
theorem cs_1 (hX6 : i + 6 ≤ X.1) (hX7 : X.1 ≤ 3072) (h : INV X M) (nx : ∀ M', INV X M' → pw 1000 0 (1484, [some (.retAddr 0), some (.ref 0), some (.ref 120), some (.int (nI i))], [], M') Q) : pw 1000 0 (275, [some (.retAddr 0), some (.ref 0), some (.ref 120), some (.int (nI i))], [], M) Q := by
  obtain ⟨hX, hL, hz⟩ := h
  have hS := hL.S
  have he : pz_ex M.1 0 = some (0, X.1, X.2) := by rw [hX]; rfl
  have OP := opp_I (a := 5) (b := 6) (by decide +kernel) (by decide +kernel) hz hL (show opp 999 5 6 [.int (X.2 (i + 1))] M from oz_end hL)
  refine pw_blk (mi := mz_0) (b := bz_0_275) rfl rfl ?_
  simp only [bz_0_275, pz_cut_t, pz_cut_f, pz_cut_n, pv_gt, pv_ts, pv_tn, ev_ald1, ev_eld1, ev_ald0, ev_eld0, ev_ild3, ev_ic1, ev_iadd, ea_iald, ev_cv1_0, pz_wi_gc, pz_wi_ga, pz_wi_gn, pz_wi_gl, pz_wi_gr, pz_wi_same, pz_wi_X, pz_wl_gc, pz_wl_ga, pz_wl_gn, pz_wl_gi, pz_wl_gr, pz_wl_same, pz_wl_X, pz_wr_gc, pz_wr_ga, pz_wr_gn, pz_wr_gi, pz_wr_gl, pz_wr_same, pz_wr_X, so_0 hS, ea_ialde he]
  (try simp (disch := omega) only [nI_clamp, pz_in_nI2, pz_in_nI2L, pv_gt, nI_add, nI_addL, nI_Ladd, pk_mul, nI_mulL, nI_Lmul, pk_sub, nI_subL, nI_Lsub, nI_inc, nI_clampL, Nat.add_sub_cancel, pz_wi_else, pz_wl_else, vu_eq, vu_ne, pz_wi_gc, pz_wi_ga, pz_wi_gn, pz_wi_gl, pz_wi_gr, pz_wi_same, pz_wi_X, pz_wl_gc, pz_wl_ga, pz_wl_gn, pz_wl_gi, pz_wl_gr, pz_wl_same, pz_wl_X, pz_wr_gc, pz_wr_ga, pz_wr_gn, pz_wr_gi, pz_wr_gl, pz_wr_same, pz_wr_X, so_0 hS, ea_ialde he])
  (try refine po_gI (by first | exact pz_in_nI (by omega) (by decide) | decide | assumption) ?_)
  (try refine po_gP (Nat.le_of_ble_eq_true rfl) ?_)
  refine po_call (by omega) (pm_mono OP (fun r1 h1 => ?_))
  obtain ⟨v1, M1⟩ := r1
  obtain ⟨x, ex, hX1, g120, h2⟩ := h1
  simp only at ex hX1 g120 h2
  subst ex
  have he1 : pz_ex M1.1 0 = some (0, X.1, X.2) := by rw [hX1, hX]; rfl
  refine pw_blk (mi := mz_0) (b := bz_0_284) rfl rfl ?_
  simp only [bz_0_284, pz_cut_t, pz_cut_f, pz_cut_n, pv_gt, pv_ts, pv_tn, ev_ald2, ev_eld2, ev_ald0, ev_eld0, ev_ild3, ev_ic1, ev_iadd, ea_iald, ev_cv1_11, pz_wi_gc, pz_wi_ga, pz_wi_gn, pz_wi_gl, pz_wi_gr, pz_wi_same, pz_wi_X, pz_wl_gc, pz_wl_ga, pz_wl_gn, pz_wl_gi, pz_wl_gr, pz_wl_same, pz_wl_X, pz_wr_gc, pz_wr_ga, pz_wr_gn, pz_wr_gi, pz_wr_gl, pz_wr_same, pz_wr_X, so_0 hS, ea_ialde he, g120, ea_ialde he1]
  (try simp (disch := omega) only [nI_clamp, pz_in_nI2, pz_in_nI2L, pv_gt, nI_add, nI_addL, nI_Ladd, pk_mul, nI_mulL, nI_Lmul, pk_sub, nI_subL, nI_Lsub, nI_inc, nI_clampL, Nat.add_sub_cancel, pz_wi_else, pz_wl_else, vu_eq, vu_ne, pz_wi_gc, pz_wi_ga, pz_wi_gn, pz_wi_gl, pz_wi_gr, pz_wi_same, pz_wi_X, pz_wl_gc, pz_wl_ga, pz_wl_gn, pz_wl_gi, pz_wl_gr, pz_wl_same, pz_wl_X, pz_wr_gc, pz_wr_ga, pz_wr_gn, pz_wr_gi, pz_wr_gl, pz_wr_same, pz_wr_X, so_0 hS, ea_ialde he, g120, ea_ialde he1])
  (try refine po_gI (by first | exact pz_in_nI (by omega) (by decide) | decide | assumption) ?_)
  (try refine po_gP (Nat.le_of_ble_eq_true rfl) ?_)
  refine po_call (by omega) (pm_mono h2 (fun r2 h3 => ?_))
  obtain ⟨v2, M2⟩ := r2
  obtain ⟨ey, hX2, hL2, hz2⟩ := h3
  simp only at ey hX2 hL2 hz2
  subst ey
  refine pw_blk (mi := mz_0) (b := bz_0_293) rfl rfl ?_
  simp only [bz_0_293, pz_cut_t, pz_cut_f, pz_cut_n, pv_gt, pv_ts, pv_tn, ev_ic_eq, pz_wi_gc, pz_wi_ga, pz_wi_gn, pz_wi_gl, pz_wi_gr, pz_wi_same, pz_wi_X, pz_wl_gc, pz_wl_ga, pz_wl_gn, pz_wl_gi, pz_wl_gr, pz_wl_same, pz_wl_X, pz_wr_gc, pz_wr_ga, pz_wr_gn, pz_wr_gi, pz_wr_gl, pz_wr_same, pz_wr_X, so_0 hS, ea_ialde he]
  (try simp (disch := omega) only [nI_clamp, pz_in_nI2, pz_in_nI2L, pv_gt, nI_add, nI_addL, nI_Ladd, pk_mul, nI_mulL, nI_Lmul, pk_sub, nI_subL, nI_Lsub, nI_inc, nI_clampL, Nat.add_sub_cancel, pz_wi_else, pz_wl_else, vu_eq, vu_ne, pz_wi_gc, pz_wi_ga, pz_wi_gn, pz_wi_gl, pz_wi_gr, pz_wi_same, pz_wi_X, pz_wl_gc, pz_wl_ga, pz_wl_gn, pz_wl_gi, pz_wl_gr, pz_wl_same, pz_wl_X, pz_wr_gc, pz_wr_ga, pz_wr_gn, pz_wr_gi, pz_wr_gl, pz_wr_same, pz_wr_X, so_0 hS, ea_ialde he])
  refine po_brP (fun q293 => ?_) (fun q293 => ?_)
  · first
    | exact absurd q293 (by decide)
    | exact absurd trivial q293
    | exact q293.elim
    | (exfalso; (try simp (disch := omega) only [nI_ltI, nI_leI, nI_eq, nI_ltL, nI_leL, nI_eqL, nI_Llt, nI_Lle, nI_Leq, nI_eqm, nI_meq, nI_ltm, nI_lem, nI_mlt, nI_mle, lg0, lgl, lgg, lgle, lgge, Int32.not_lt, Int32.not_le, Int64.not_lt, Int64.not_le, not_false_eq_true, not_true_eq_false, Decidable.not_not, ge_iff_le, gt_iff_lt] at q293) <;> omega)
    | exact absurd q293 (by with_reducible assumption)
    | exact absurd (by with_reducible assumption) q293
    | exact absurd (Decidable.not_not.mp q293) (by with_reducible assumption)
    | exact absurd (by with_reducible assumption) (Int32.not_le.mpr q293)
    | exact absurd (by with_reducible assumption) (Int32.not_lt.mpr q293)
    | skip
      (try simp (disch := omega) only [nI_ltI, nI_leI, nI_eq, nI_ltL, nI_leL, nI_eqL, nI_Llt, nI_Lle, nI_Leq, nI_eqm, nI_meq, nI_ltm, nI_lem, nI_mlt, nI_mle, lg0, lgl, lgg, lgle, lgge, Int32.not_lt, Int32.not_le, Int64.not_lt, Int64.not_le, not_false_eq_true, not_true_eq_false, Decidable.not_not, ge_iff_le, gt_iff_lt] at q293)
      exact nx M2 ⟨hX2.trans hX, hL2, hz2⟩
  · exact absurd trivial q293
theorem cs_2 (hX6 : i + 6 ≤ X.1) (hX7 : X.1 ≤ 3072) (h : INV X M) (nx : ∀ M', INV X M' → pw 1000 0 (1484, [some (.retAddr 0), some (.ref 0), some (.ref 120), some (.int (nI i))], [], M') Q) : pw 1000 0 (298, [some (.retAddr 0), some (.ref 0), some (.ref 120), some (.int (nI i))], [], M) Q := by
  obtain ⟨hX, hL, hz⟩ := h
  have hS := hL.S
  have he : pz_ex M.1 0 = some (0, X.1, X.2) := by rw [hX]; rfl
  have OP := opp_I (a := 7) (b := 8) (by decide +kernel) (by decide +kernel) hz hL (show opp 999 7 8 [] M from op_piece (by decide) hL hz)
  refine pw_blk (mi := mz_0) (b := bz_0_298) rfl rfl ?_
  simp only [bz_0_298, pz_cut_t, pz_cut_f, pz_cut_n, pv_gt, pv_ts, pv_tn, ev_ald1, ev_eld1, ev_cv0_0, pz_wi_gc, pz_wi_ga, pz_wi_gn, pz_wi_gl, pz_wi_gr, pz_wi_same, pz_wi_X, pz_wl_gc, pz_wl_ga, pz_wl_gn, pz_wl_gi, pz_wl_gr, pz_wl_same, pz_wl_X, pz_wr_gc, pz_wr_ga, pz_wr_gn, pz_wr_gi, pz_wr_gl, pz_wr_same, pz_wr_X, so_0 hS, ea_ialde he]
  (try simp (disch := omega) only [nI_clamp, pz_in_nI2, pz_in_nI2L, pv_gt, nI_add, nI_addL, nI_Ladd, pk_mul, nI_mulL, nI_Lmul, pk_sub, nI_subL, nI_Lsub, nI_inc, nI_clampL, Nat.add_sub_cancel, pz_wi_else, pz_wl_else, vu_eq, vu_ne, pz_wi_gc, pz_wi_ga, pz_wi_gn, pz_wi_gl, pz_wi_gr, pz_wi_same, pz_wi_X, pz_wl_gc, pz_wl_ga, pz_wl_gn, pz_wl_gi, pz_wl_gr, pz_wl_same, pz_wl_X, pz_wr_gc, pz_wr_ga, pz_wr_gn, pz_wr_gi, pz_wr_gl, pz_wr_same, pz_wr_X, so_0 hS, ea_ialde he])
  (try refine po_gP (Nat.le_of_ble_eq_true rfl) ?_)
  refine po_call (by omega) (pm_mono OP (fun r1 h1 => ?_))
  obtain ⟨v1, M1⟩ := r1
  obtain ⟨x, ex, hX1, g120, h2⟩ := h1
  simp only at ex hX1 g120 h2
  subst ex
  have he1 : pz_ex M1.1 0 = some (0, X.1, X.2) := by rw [hX1, hX]; rfl
  refine pw_blk (mi := mz_0) (b := bz_0_302) rfl rfl ?_
  simp only [bz_0_302, pz_cut_t, pz_cut_f, pz_cut_n, pv_gt, pv_ts, pv_tn, ev_ald2, ev_eld2, ev_cv0_11, pz_wi_gc, pz_wi_ga, pz_wi_gn, pz_wi_gl, pz_wi_gr, pz_wi_same, pz_wi_X, pz_wl_gc, pz_wl_ga, pz_wl_gn, pz_wl_gi, pz_wl_gr, pz_wl_same, pz_wl_X, pz_wr_gc, pz_wr_ga, pz_wr_gn, pz_wr_gi, pz_wr_gl, pz_wr_same, pz_wr_X, so_0 hS, ea_ialde he, g120, ea_ialde he1]
  (try simp (disch := omega) only [nI_clamp, pz_in_nI2, pz_in_nI2L, pv_gt, nI_add, nI_addL, nI_Ladd, pk_mul, nI_mulL, nI_Lmul, pk_sub, nI_subL, nI_Lsub, nI_inc, nI_clampL, Nat.add_sub_cancel, pz_wi_else, pz_wl_else, vu_eq, vu_ne, pz_wi_gc, pz_wi_ga, pz_wi_gn, pz_wi_gl, pz_wi_gr, pz_wi_same, pz_wi_X, pz_wl_gc, pz_wl_ga, pz_wl_gn, pz_wl_gi, pz_wl_gr, pz_wl_same, pz_wl_X, pz_wr_gc, pz_wr_ga, pz_wr_gn, pz_wr_gi, pz_wr_gl, pz_wr_same, pz_wr_X, so_0 hS, ea_ialde he, g120, ea_ialde he1])
  (try refine po_gP (Nat.le_of_ble_eq_true rfl) ?_)
  refine po_call (by omega) (pm_mono h2 (fun r2 h3 => ?_))
  obtain ⟨v2, M2⟩ := r2
  obtain ⟨ey, hX2, hL2, hz2⟩ := h3
  simp only at ey hX2 hL2 hz2
  subst ey
  refine pw_blk (mi := mz_0) (b := bz_0_306) rfl rfl ?_
  simp only [bz_0_306, pz_cut_t, pz_cut_f, pz_cut_n, pv_gt, pv_ts, pv_tn, ev_ic_eq, pz_wi_gc, pz_wi_ga, pz_wi_gn, pz_wi_gl, pz_wi_gr, pz_wi_same, pz_wi_X, pz_wl_gc, pz_wl_ga, pz_wl_gn, pz_wl_gi, pz_wl_gr, pz_wl_same, pz_wl_X, pz_wr_gc, pz_wr_ga, pz_wr_gn, pz_wr_gi, pz_wr_gl, pz_wr_same, pz_wr_X, so_0 hS, ea_ialde he]
  (try simp (disch := omega) only [nI_clamp, pz_in_nI2, pz_in_nI2L, pv_gt, nI_add, nI_addL, nI_Ladd, pk_mul, nI_mulL, nI_Lmul, pk_sub, nI_subL, nI_Lsub, nI_inc, nI_clampL, Nat.add_sub_cancel, pz_wi_else, pz_wl_else, vu_eq, vu_ne, pz_wi_gc, pz_wi_ga, pz_wi_gn, pz_wi_gl, pz_wi_gr, pz_wi_same, pz_wi_X, pz_wl_gc, pz_wl_ga, pz_wl_gn, pz_wl_gi, pz_wl_gr, pz_wl_same, pz_wl_X, pz_wr_gc, pz_wr_ga, pz_wr_gn, pz_wr_gi, pz_wr_gl, pz_wr_same, pz_wr_X, so_0 hS, ea_ialde he])
  refine po_brP (fun q306 => ?_) (fun q306 => ?_)
  · first
    | exact absurd q306 (by decide)
    | exact absurd trivial q306
    | exact q306.elim
    | (exfalso; (try simp (disch := omega) only [nI_ltI, nI_leI, nI_eq, nI_ltL, nI_leL, nI_eqL, nI_Llt, nI_Lle, nI_Leq, nI_eqm, nI_meq, nI_ltm, nI_lem, nI_mlt, nI_mle, lg0, lgl, lgg, lgle, lgge, Int32.not_lt, Int32.not_le, Int64.not_lt, Int64.not_le, not_false_eq_true, not_true_eq_false, Decidable.not_not, ge_iff_le, gt_iff_lt] at q306) <;> omega)
    | exact absurd q306 (by with_reducible assumption)
    | exact absurd (by with_reducible assumption) q306
    | exact absurd (Decidable.not_not.mp q306) (by with_reducible assumption)
    | exact absurd (by with_reducible assumption) (Int32.not_le.mpr q306)
    | exact absurd (by with_reducible assumption) (Int32.not_lt.mpr q306)
    | skip
      (try simp (disch := omega) only [nI_ltI, nI_leI, nI_eq, nI_ltL, nI_leL, nI_eqL, nI_Llt, nI_Lle, nI_Leq, nI_eqm, nI_meq, nI_ltm, nI_lem, nI_mlt, nI_mle, lg0, lgl, lgg, lgle, lgge, Int32.not_lt, Int32.not_le, Int64.not_lt, Int64.not_le, not_false_eq_true, not_true_eq_false, Decidable.not_not, ge_iff_le, gt_iff_lt] at q306)
      exact nx M2 ⟨hX2.trans hX, hL2, hz2⟩
  · exact absurd trivial q306
theorem cs_3 (hX6 : i + 6 ≤ X.1) (hX7 : X.1 ≤ 3072) (h : INV X M) (nx : ∀ M', INV X M' → pw 1000 0 (1484, [some (.retAddr 0), some (.ref 0), some (.ref 120), some (.int (nI i))], [], M') Q) : pw 1000 0 (311, [some (.retAddr 0), some (.ref 0), some (.ref 120), some (.int (nI i))], [], M) Q := by
  obtain ⟨hX, hL, hz⟩ := h
  have hS := hL.S
  have he : pz_ex M.1 0 = some (0, X.1, X.2) := by rw [hX]; rfl
  have OP := opp_I (a := 9) (b := 10) (by decide +kernel) (by decide +kernel) hz hL (show opp 999 9 10 [.int (X.2 (i + 1))] M from oz_fault hL)
  refine pw_blk (mi := mz_0) (b := bz_0_311) rfl rfl ?_
  simp only [bz_0_311, pz_cut_t, pz_cut_f, pz_cut_n, pv_gt, pv_ts, pv_tn, ev_ald1, ev_eld1, ev_ald0, ev_eld0, ev_ild3, ev_ic1, ev_iadd, ea_iald, ev_cv1_0, pz_wi_gc, pz_wi_ga, pz_wi_gn, pz_wi_gl, pz_wi_gr, pz_wi_same, pz_wi_X, pz_wl_gc, pz_wl_ga, pz_wl_gn, pz_wl_gi, pz_wl_gr, pz_wl_same, pz_wl_X, pz_wr_gc, pz_wr_ga, pz_wr_gn, pz_wr_gi, pz_wr_gl, pz_wr_same, pz_wr_X, so_0 hS, ea_ialde he]
  (try simp (disch := omega) only [nI_clamp, pz_in_nI2, pz_in_nI2L, pv_gt, nI_add, nI_addL, nI_Ladd, pk_mul, nI_mulL, nI_Lmul, pk_sub, nI_subL, nI_Lsub, nI_inc, nI_clampL, Nat.add_sub_cancel, pz_wi_else, pz_wl_else, vu_eq, vu_ne, pz_wi_gc, pz_wi_ga, pz_wi_gn, pz_wi_gl, pz_wi_gr, pz_wi_same, pz_wi_X, pz_wl_gc, pz_wl_ga, pz_wl_gn, pz_wl_gi, pz_wl_gr, pz_wl_same, pz_wl_X, pz_wr_gc, pz_wr_ga, pz_wr_gn, pz_wr_gi, pz_wr_gl, pz_wr_same, pz_wr_X, so_0 hS, ea_ialde he])
  (try refine po_gI (by first | exact pz_in_nI (by omega) (by decide) | decide | assumption) ?_)
  (try refine po_gP (Nat.le_of_ble_eq_true rfl) ?_)
  refine po_call (by omega) (pm_mono OP (fun r1 h1 => ?_))
  obtain ⟨v1, M1⟩ := r1
  obtain ⟨x, ex, hX1, g120, h2⟩ := h1
  simp only at ex hX1 g120 h2
  subst ex
  have he1 : pz_ex M1.1 0 = some (0, X.1, X.2) := by rw [hX1, hX]; rfl
  refine pw_blk (mi := mz_0) (b := bz_0_320) rfl rfl ?_
  simp only [bz_0_320, pz_cut_t, pz_cut_f, pz_cut_n, pv_gt, pv_ts, pv_tn, ev_ald2, ev_eld2, ev_ald0, ev_eld0, ev_ild3, ev_ic1, ev_iadd, ea_iald, ev_cv1_11, pz_wi_gc, pz_wi_ga, pz_wi_gn, pz_wi_gl, pz_wi_gr, pz_wi_same, pz_wi_X, pz_wl_gc, pz_wl_ga, pz_wl_gn, pz_wl_gi, pz_wl_gr, pz_wl_same, pz_wl_X, pz_wr_gc, pz_wr_ga, pz_wr_gn, pz_wr_gi, pz_wr_gl, pz_wr_same, pz_wr_X, so_0 hS, ea_ialde he, g120, ea_ialde he1]
  (try simp (disch := omega) only [nI_clamp, pz_in_nI2, pz_in_nI2L, pv_gt, nI_add, nI_addL, nI_Ladd, pk_mul, nI_mulL, nI_Lmul, pk_sub, nI_subL, nI_Lsub, nI_inc, nI_clampL, Nat.add_sub_cancel, pz_wi_else, pz_wl_else, vu_eq, vu_ne, pz_wi_gc, pz_wi_ga, pz_wi_gn, pz_wi_gl, pz_wi_gr, pz_wi_same, pz_wi_X, pz_wl_gc, pz_wl_ga, pz_wl_gn, pz_wl_gi, pz_wl_gr, pz_wl_same, pz_wl_X, pz_wr_gc, pz_wr_ga, pz_wr_gn, pz_wr_gi, pz_wr_gl, pz_wr_same, pz_wr_X, so_0 hS, ea_ialde he, g120, ea_ialde he1])
  (try refine po_gI (by first | exact pz_in_nI (by omega) (by decide) | decide | assumption) ?_)
  (try refine po_gP (Nat.le_of_ble_eq_true rfl) ?_)
  refine po_call (by omega) (pm_mono h2 (fun r2 h3 => ?_))
  obtain ⟨v2, M2⟩ := r2
  obtain ⟨ey, hX2, hL2, hz2⟩ := h3
  simp only at ey hX2 hL2 hz2
  subst ey
  refine pw_blk (mi := mz_0) (b := bz_0_329) rfl rfl ?_
  simp only [bz_0_329, pz_cut_t, pz_cut_f, pz_cut_n, pv_gt, pv_ts, pv_tn, ev_ic_eq, pz_wi_gc, pz_wi_ga, pz_wi_gn, pz_wi_gl, pz_wi_gr, pz_wi_same, pz_wi_X, pz_wl_gc, pz_wl_ga, pz_wl_gn, pz_wl_gi, pz_wl_gr, pz_wl_same, pz_wl_X, pz_wr_gc, pz_wr_ga, pz_wr_gn, pz_wr_gi, pz_wr_gl, pz_wr_same, pz_wr_X, so_0 hS, ea_ialde he]
  (try simp (disch := omega) only [nI_clamp, pz_in_nI2, pz_in_nI2L, pv_gt, nI_add, nI_addL, nI_Ladd, pk_mul, nI_mulL, nI_Lmul, pk_sub, nI_subL, nI_Lsub, nI_inc, nI_clampL, Nat.add_sub_cancel, pz_wi_else, pz_wl_else, vu_eq, vu_ne, pz_wi_gc, pz_wi_ga, pz_wi_gn, pz_wi_gl, pz_wi_gr, pz_wi_same, pz_wi_X, pz_wl_gc, pz_wl_ga, pz_wl_gn, pz_wl_gi, pz_wl_gr, pz_wl_same, pz_wl_X, pz_wr_gc, pz_wr_ga, pz_wr_gn, pz_wr_gi, pz_wr_gl, pz_wr_same, pz_wr_X, so_0 hS, ea_ialde he])
  refine po_brP (fun q329 => ?_) (fun q329 => ?_)
  · first
    | exact absurd q329 (by decide)
    | exact absurd trivial q329
    | exact q329.elim
    | (exfalso; (try simp (disch := omega) only [nI_ltI, nI_leI, nI_eq, nI_ltL, nI_leL, nI_eqL, nI_Llt, nI_Lle, nI_Leq, nI_eqm, nI_meq, nI_ltm, nI_lem, nI_mlt, nI_mle, lg0, lgl, lgg, lgle, lgge, Int32.not_lt, Int32.not_le, Int64.not_lt, Int64.not_le, not_false_eq_true, not_true_eq_false, Decidable.not_not, ge_iff_le, gt_iff_lt] at q329) <;> omega)
    | exact absurd q329 (by with_reducible assumption)
    | exact absurd (by with_reducible assumption) q329
    | exact absurd (Decidable.not_not.mp q329) (by with_reducible assumption)
    | exact absurd (by with_reducible assumption) (Int32.not_le.mpr q329)
    | exact absurd (by with_reducible assumption) (Int32.not_lt.mpr q329)
    | skip
      (try simp (disch := omega) only [nI_ltI, nI_leI, nI_eq, nI_ltL, nI_leL, nI_eqL, nI_Llt, nI_Lle, nI_Leq, nI_eqm, nI_meq, nI_ltm, nI_lem, nI_mlt, nI_mle, lg0, lgl, lgg, lgle, lgge, Int32.not_lt, Int32.not_le, Int64.not_lt, Int64.not_le, not_false_eq_true, not_true_eq_false, Decidable.not_not, ge_iff_le, gt_iff_lt] at q329)
      exact nx M2 ⟨hX2.trans hX, hL2, hz2⟩
  · exact absurd trivial q329
theorem cs_4 (hX6 : i + 6 ≤ X.1) (hX7 : X.1 ≤ 3072) (h : INV X M) (nx : ∀ M', INV X M' → pw 1000 0 (1484, [some (.retAddr 0), some (.ref 0), some (.ref 120), some (.int (nI i))], [], M') Q) : pw 1000 0 (334, [some (.retAddr 0), some (.ref 0), some (.ref 120), some (.int (nI i))], [], M) Q := by
  obtain ⟨hX, hL, hz⟩ := h
  have hS := hL.S
  have he : pz_ex M.1 0 = some (0, X.1, X.2) := by rw [hX]; rfl
  have OP := opp_I (a := 11) (b := 12) (by decide +kernel) (by decide +kernel) hz hL (show opp 999 11 12 [.int (X.2 (i + 1)), .int (X.2 (i + 2))] M from op_bar (by decide) hL)
  refine pw_blk (mi := mz_0) (b := bz_0_334) rfl rfl ?_
  simp only [bz_0_334, pz_cut_t, pz_cut_f, pz_cut_n, pv_gt, pv_ts, pv_tn, ev_ald1, ev_eld1, ev_ald0, ev_eld0, ev_ild3, ev_ic1, ev_iadd, ea_iald, ev_ic2, ev_cv2_0, pz_wi_gc, pz_wi_ga, pz_wi_gn, pz_wi_gl, pz_wi_gr, pz_wi_same, pz_wi_X, pz_wl_gc, pz_wl_ga, pz_wl_gn, pz_wl_gi, pz_wl_gr, pz_wl_same, pz_wl_X, pz_wr_gc, pz_wr_ga, pz_wr_gn, pz_wr_gi, pz_wr_gl, pz_wr_same, pz_wr_X, so_0 hS, ea_ialde he]
  (try simp (disch := omega) only [nI_clamp, pz_in_nI2, pz_in_nI2L, pv_gt, nI_add, nI_addL, nI_Ladd, pk_mul, nI_mulL, nI_Lmul, pk_sub, nI_subL, nI_Lsub, nI_inc, nI_clampL, Nat.add_sub_cancel, pz_wi_else, pz_wl_else, vu_eq, vu_ne, pz_wi_gc, pz_wi_ga, pz_wi_gn, pz_wi_gl, pz_wi_gr, pz_wi_same, pz_wi_X, pz_wl_gc, pz_wl_ga, pz_wl_gn, pz_wl_gi, pz_wl_gr, pz_wl_same, pz_wl_X, pz_wr_gc, pz_wr_ga, pz_wr_gn, pz_wr_gi, pz_wr_gl, pz_wr_same, pz_wr_X, so_0 hS, ea_ialde he])
  (try refine po_gI (by first | exact pz_in_nI (by omega) (by decide) | decide | assumption) ?_)
  (try refine po_gI (by first | exact pz_in_nI (by omega) (by decide) | decide | assumption) ?_)
  (try refine po_gP (Nat.le_of_ble_eq_true rfl) ?_)
  refine po_call (by omega) (pm_mono OP (fun r1 h1 => ?_))
  obtain ⟨v1, M1⟩ := r1
  obtain ⟨x, ex, hX1, g120, h2⟩ := h1
  simp only at ex hX1 g120 h2
  subst ex
  have he1 : pz_ex M1.1 0 = some (0, X.1, X.2) := by rw [hX1, hX]; rfl
  refine pw_blk (mi := mz_0) (b := bz_0_348) rfl rfl ?_
  simp only [bz_0_348, pz_cut_t, pz_cut_f, pz_cut_n, pv_gt, pv_ts, pv_tn, ev_ald2, ev_eld2, ev_ald0, ev_eld0, ev_ild3, ev_ic1, ev_iadd, ea_iald, ev_ic2, ev_cv2_11, pz_wi_gc, pz_wi_ga, pz_wi_gn, pz_wi_gl, pz_wi_gr, pz_wi_same, pz_wi_X, pz_wl_gc, pz_wl_ga, pz_wl_gn, pz_wl_gi, pz_wl_gr, pz_wl_same, pz_wl_X, pz_wr_gc, pz_wr_ga, pz_wr_gn, pz_wr_gi, pz_wr_gl, pz_wr_same, pz_wr_X, so_0 hS, ea_ialde he, g120, ea_ialde he1]
  (try simp (disch := omega) only [nI_clamp, pz_in_nI2, pz_in_nI2L, pv_gt, nI_add, nI_addL, nI_Ladd, pk_mul, nI_mulL, nI_Lmul, pk_sub, nI_subL, nI_Lsub, nI_inc, nI_clampL, Nat.add_sub_cancel, pz_wi_else, pz_wl_else, vu_eq, vu_ne, pz_wi_gc, pz_wi_ga, pz_wi_gn, pz_wi_gl, pz_wi_gr, pz_wi_same, pz_wi_X, pz_wl_gc, pz_wl_ga, pz_wl_gn, pz_wl_gi, pz_wl_gr, pz_wl_same, pz_wl_X, pz_wr_gc, pz_wr_ga, pz_wr_gn, pz_wr_gi, pz_wr_gl, pz_wr_same, pz_wr_X, so_0 hS, ea_ialde he, g120, ea_ialde he1])
  (try refine po_gI (by first | exact pz_in_nI (by omega) (by decide) | decide | assumption) ?_)
  (try refine po_gI (by first | exact pz_in_nI (by omega) (by decide) | decide | assumption) ?_)
  (try refine po_gP (Nat.le_of_ble_eq_true rfl) ?_)
  refine po_call (by omega) (pm_mono h2 (fun r2 h3 => ?_))
  obtain ⟨v2, M2⟩ := r2
  obtain ⟨ey, hX2, hL2, hz2⟩ := h3
  simp only at ey hX2 hL2 hz2
  subst ey
  refine pw_blk (mi := mz_0) (b := bz_0_362) rfl rfl ?_
  simp only [bz_0_362, pz_cut_t, pz_cut_f, pz_cut_n, pv_gt, pv_ts, pv_tn, ev_ic_eq, pz_wi_gc, pz_wi_ga, pz_wi_gn, pz_wi_gl, pz_wi_gr, pz_wi_same, pz_wi_X, pz_wl_gc, pz_wl_ga, pz_wl_gn, pz_wl_gi, pz_wl_gr, pz_wl_same, pz_wl_X, pz_wr_gc, pz_wr_ga, pz_wr_gn, pz_wr_gi, pz_wr_gl, pz_wr_same, pz_wr_X, so_0 hS, ea_ialde he]
  (try simp (disch := omega) only [nI_clamp, pz_in_nI2, pz_in_nI2L, pv_gt, nI_add, nI_addL, nI_Ladd, pk_mul, nI_mulL, nI_Lmul, pk_sub, nI_subL, nI_Lsub, nI_inc, nI_clampL, Nat.add_sub_cancel, pz_wi_else, pz_wl_else, vu_eq, vu_ne, pz_wi_gc, pz_wi_ga, pz_wi_gn, pz_wi_gl, pz_wi_gr, pz_wi_same, pz_wi_X, pz_wl_gc, pz_wl_ga, pz_wl_gn, pz_wl_gi, pz_wl_gr, pz_wl_same, pz_wl_X, pz_wr_gc, pz_wr_ga, pz_wr_gn, pz_wr_gi, pz_wr_gl, pz_wr_same, pz_wr_X, so_0 hS, ea_ialde he])
  refine po_brP (fun q362 => ?_) (fun q362 => ?_)
  · first
    | exact absurd q362 (by decide)
    | exact absurd trivial q362
    | exact q362.elim
    | (exfalso; (try simp (disch := omega) only [nI_ltI, nI_leI, nI_eq, nI_ltL, nI_leL, nI_eqL, nI_Llt, nI_Lle, nI_Leq, nI_eqm, nI_meq, nI_ltm, nI_lem, nI_mlt, nI_mle, lg0, lgl, lgg, lgle, lgge, Int32.not_lt, Int32.not_le, Int64.not_lt, Int64.not_le, not_false_eq_true, not_true_eq_false, Decidable.not_not, ge_iff_le, gt_iff_lt] at q362) <;> omega)
    | exact absurd q362 (by with_reducible assumption)
    | exact absurd (by with_reducible assumption) q362
    | exact absurd (Decidable.not_not.mp q362) (by with_reducible assumption)
    | exact absurd (by with_reducible assumption) (Int32.not_le.mpr q362)
    | exact absurd (by with_reducible assumption) (Int32.not_lt.mpr q362)
    | skip
      (try simp (disch := omega) only [nI_ltI, nI_leI, nI_eq, nI_ltL, nI_leL, nI_eqL, nI_Llt, nI_Lle, nI_Leq, nI_eqm, nI_meq, nI_ltm, nI_lem, nI_mlt, nI_mle, lg0, lgl, lgg, lgle, lgge, Int32.not_lt, Int32.not_le, Int64.not_lt, Int64.not_le, not_false_eq_true, not_true_eq_false, Decidable.not_not, ge_iff_le, gt_iff_lt] at q362)
      exact nx M2 ⟨hX2.trans hX, hL2, hz2⟩
  · exact absurd trivial q362
theorem cs_5 (hX6 : i + 6 ≤ X.1) (hX7 : X.1 ≤ 3072) (h : INV X M) (nx : ∀ M', INV X M' → pw 1000 0 (1484, [some (.retAddr 0), some (.ref 0), some (.ref 120), some (.int (nI i))], [], M') Q) : pw 1000 0 (367, [some (.retAddr 0), some (.ref 0), some (.ref 120), some (.int (nI i))], [], M) Q := by
  obtain ⟨hX, hL, hz⟩ := h
  have hS := hL.S
  have he : pz_ex M.1 0 = some (0, X.1, X.2) := by rw [hX]; rfl
  have OP := opp_I (a := 13) (b := 14) (by decide +kernel) (by decide +kernel) hz hL (show opp 999 13 14 [.int (X.2 (i + 1)), .int (X.2 (i + 2))] M from op_part (by decide) hL)
  refine pw_blk (mi := mz_0) (b := bz_0_367) rfl rfl ?_
  simp only [bz_0_367, pz_cut_t, pz_cut_f, pz_cut_n, pv_gt, pv_ts, pv_tn, ev_ald1, ev_eld1, ev_ald0, ev_eld0, ev_ild3, ev_ic1, ev_iadd, ea_iald, ev_ic2, ev_cv2_0, pz_wi_gc, pz_wi_ga, pz_wi_gn, pz_wi_gl, pz_wi_gr, pz_wi_same, pz_wi_X, pz_wl_gc, pz_wl_ga, pz_wl_gn, pz_wl_gi, pz_wl_gr, pz_wl_same, pz_wl_X, pz_wr_gc, pz_wr_ga, pz_wr_gn, pz_wr_gi, pz_wr_gl, pz_wr_same, pz_wr_X, so_0 hS, ea_ialde he]
  (try simp (disch := omega) only [nI_clamp, pz_in_nI2, pz_in_nI2L, pv_gt, nI_add, nI_addL, nI_Ladd, pk_mul, nI_mulL, nI_Lmul, pk_sub, nI_subL, nI_Lsub, nI_inc, nI_clampL, Nat.add_sub_cancel, pz_wi_else, pz_wl_else, vu_eq, vu_ne, pz_wi_gc, pz_wi_ga, pz_wi_gn, pz_wi_gl, pz_wi_gr, pz_wi_same, pz_wi_X, pz_wl_gc, pz_wl_ga, pz_wl_gn, pz_wl_gi, pz_wl_gr, pz_wl_same, pz_wl_X, pz_wr_gc, pz_wr_ga, pz_wr_gn, pz_wr_gi, pz_wr_gl, pz_wr_same, pz_wr_X, so_0 hS, ea_ialde he])
  (try refine po_gI (by first | exact pz_in_nI (by omega) (by decide) | decide | assumption) ?_)
  (try refine po_gI (by first | exact pz_in_nI (by omega) (by decide) | decide | assumption) ?_)
  (try refine po_gP (Nat.le_of_ble_eq_true rfl) ?_)
  refine po_call (by omega) (pm_mono OP (fun r1 h1 => ?_))
  obtain ⟨v1, M1⟩ := r1
  obtain ⟨x, ex, hX1, g120, h2⟩ := h1
  simp only at ex hX1 g120 h2
  subst ex
  have he1 : pz_ex M1.1 0 = some (0, X.1, X.2) := by rw [hX1, hX]; rfl
  refine pw_blk (mi := mz_0) (b := bz_0_381) rfl rfl ?_
  simp only [bz_0_381, pz_cut_t, pz_cut_f, pz_cut_n, pv_gt, pv_ts, pv_tn, ev_ald2, ev_eld2, ev_ald0, ev_eld0, ev_ild3, ev_ic1, ev_iadd, ea_iald, ev_ic2, ev_cv2_11, pz_wi_gc, pz_wi_ga, pz_wi_gn, pz_wi_gl, pz_wi_gr, pz_wi_same, pz_wi_X, pz_wl_gc, pz_wl_ga, pz_wl_gn, pz_wl_gi, pz_wl_gr, pz_wl_same, pz_wl_X, pz_wr_gc, pz_wr_ga, pz_wr_gn, pz_wr_gi, pz_wr_gl, pz_wr_same, pz_wr_X, so_0 hS, ea_ialde he, g120, ea_ialde he1]
  (try simp (disch := omega) only [nI_clamp, pz_in_nI2, pz_in_nI2L, pv_gt, nI_add, nI_addL, nI_Ladd, pk_mul, nI_mulL, nI_Lmul, pk_sub, nI_subL, nI_Lsub, nI_inc, nI_clampL, Nat.add_sub_cancel, pz_wi_else, pz_wl_else, vu_eq, vu_ne, pz_wi_gc, pz_wi_ga, pz_wi_gn, pz_wi_gl, pz_wi_gr, pz_wi_same, pz_wi_X, pz_wl_gc, pz_wl_ga, pz_wl_gn, pz_wl_gi, pz_wl_gr, pz_wl_same, pz_wl_X, pz_wr_gc, pz_wr_ga, pz_wr_gn, pz_wr_gi, pz_wr_gl, pz_wr_same, pz_wr_X, so_0 hS, ea_ialde he, g120, ea_ialde he1])
  (try refine po_gI (by first | exact pz_in_nI (by omega) (by decide) | decide | assumption) ?_)
  (try refine po_gI (by first | exact pz_in_nI (by omega) (by decide) | decide | assumption) ?_)
  (try refine po_gP (Nat.le_of_ble_eq_true rfl) ?_)
  refine po_call (by omega) (pm_mono h2 (fun r2 h3 => ?_))
  obtain ⟨v2, M2⟩ := r2
  obtain ⟨ey, hX2, hL2, hz2⟩ := h3
  simp only at ey hX2 hL2 hz2
  subst ey
  refine pw_blk (mi := mz_0) (b := bz_0_395) rfl rfl ?_
  simp only [bz_0_395, pz_cut_t, pz_cut_f, pz_cut_n, pv_gt, pv_ts, pv_tn, ev_ic_eq, pz_wi_gc, pz_wi_ga, pz_wi_gn, pz_wi_gl, pz_wi_gr, pz_wi_same, pz_wi_X, pz_wl_gc, pz_wl_ga, pz_wl_gn, pz_wl_gi, pz_wl_gr, pz_wl_same, pz_wl_X, pz_wr_gc, pz_wr_ga, pz_wr_gn, pz_wr_gi, pz_wr_gl, pz_wr_same, pz_wr_X, so_0 hS, ea_ialde he]
  (try simp (disch := omega) only [nI_clamp, pz_in_nI2, pz_in_nI2L, pv_gt, nI_add, nI_addL, nI_Ladd, pk_mul, nI_mulL, nI_Lmul, pk_sub, nI_subL, nI_Lsub, nI_inc, nI_clampL, Nat.add_sub_cancel, pz_wi_else, pz_wl_else, vu_eq, vu_ne, pz_wi_gc, pz_wi_ga, pz_wi_gn, pz_wi_gl, pz_wi_gr, pz_wi_same, pz_wi_X, pz_wl_gc, pz_wl_ga, pz_wl_gn, pz_wl_gi, pz_wl_gr, pz_wl_same, pz_wl_X, pz_wr_gc, pz_wr_ga, pz_wr_gn, pz_wr_gi, pz_wr_gl, pz_wr_same, pz_wr_X, so_0 hS, ea_ialde he])
  refine po_brP (fun q395 => ?_) (fun q395 => ?_)
  · first
    | exact absurd q395 (by decide)
    | exact absurd trivial q395
    | exact q395.elim
    | (exfalso; (try simp (disch := omega) only [nI_ltI, nI_leI, nI_eq, nI_ltL, nI_leL, nI_eqL, nI_Llt, nI_Lle, nI_Leq, nI_eqm, nI_meq, nI_ltm, nI_lem, nI_mlt, nI_mle, lg0, lgl, lgg, lgle, lgge, Int32.not_lt, Int32.not_le, Int64.not_lt, Int64.not_le, not_false_eq_true, not_true_eq_false, Decidable.not_not, ge_iff_le, gt_iff_lt] at q395) <;> omega)
    | exact absurd q395 (by with_reducible assumption)
    | exact absurd (by with_reducible assumption) q395
    | exact absurd (Decidable.not_not.mp q395) (by with_reducible assumption)
    | exact absurd (by with_reducible assumption) (Int32.not_le.mpr q395)
    | exact absurd (by with_reducible assumption) (Int32.not_lt.mpr q395)
    | skip
      (try simp (disch := omega) only [nI_ltI, nI_leI, nI_eq, nI_ltL, nI_leL, nI_eqL, nI_Llt, nI_Lle, nI_Leq, nI_eqm, nI_meq, nI_ltm, nI_lem, nI_mlt, nI_mle, lg0, lgl, lgg, lgle, lgge, Int32.not_lt, Int32.not_le, Int64.not_lt, Int64.not_le, not_false_eq_true, not_true_eq_false, Decidable.not_not, ge_iff_le, gt_iff_lt] at q395)
      exact nx M2 ⟨hX2.trans hX, hL2, hz2⟩
  · exact absurd trivial q395
theorem cs_6 (hX6 : i + 6 ≤ X.1) (hX7 : X.1 ≤ 3072) (h : INV X M) (nx : ∀ M', INV X M' → pw 1000 0 (1484, [some (.retAddr 0), some (.ref 0), some (.ref 120), some (.int (nI i))], [], M') Q) : pw 1000 0 (400, [some (.retAddr 0), some (.ref 0), some (.ref 120), some (.int (nI i))], [], M) Q := by
  obtain ⟨hX, hL, hz⟩ := h
  have hS := hL.S
  have he : pz_ex M.1 0 = some (0, X.1, X.2) := by rw [hX]; rfl
  by_cases hb0 : X.2 (i + 3) = 0
  · skip
    have HB : (0 : Int32) = 0 ∨ (0 : Int32) = 1 := by decide
    have OP := opp_I (a := 15) (b := 16) (by decide +kernel) (by decide +kernel) hz hL (show opp 999 15 16 [.int (X.2 (i + 1)), .int (X.2 (i + 2)), .int (0)] M from op_set (by decide) hL HB)
    refine pw_blk (mi := mz_0) (b := bz_0_400) rfl rfl ?_
    simp only [bz_0_400, pz_cut_t, pz_cut_f, pz_cut_n, pv_gt, pv_ts, pv_tn, ev_ald1, ev_eld1, ev_ald0, ev_eld0, ev_ild3, ev_ic1, ev_iadd, ea_iald, ev_ic2, ev_ic3, ev_ifeq, pz_wi_gc, pz_wi_ga, pz_wi_gn, pz_wi_gl, pz_wi_gr, pz_wi_same, pz_wi_X, pz_wl_gc, pz_wl_ga, pz_wl_gn, pz_wl_gi, pz_wl_gr, pz_wl_same, pz_wl_X, pz_wr_gc, pz_wr_ga, pz_wr_gn, pz_wr_gi, pz_wr_gl, pz_wr_same, pz_wr_X, so_0 hS, ea_ialde he]
    (try simp (disch := omega) only [nI_clamp, pz_in_nI2, pz_in_nI2L, pv_gt, nI_add, nI_addL, nI_Ladd, pk_mul, nI_mulL, nI_Lmul, pk_sub, nI_subL, nI_Lsub, nI_inc, nI_clampL, Nat.add_sub_cancel, pz_wi_else, pz_wl_else, vu_eq, vu_ne, pz_wi_gc, pz_wi_ga, pz_wi_gn, pz_wi_gl, pz_wi_gr, pz_wi_same, pz_wi_X, pz_wl_gc, pz_wl_ga, pz_wl_gn, pz_wl_gi, pz_wl_gr, pz_wl_same, pz_wl_X, pz_wr_gc, pz_wr_ga, pz_wr_gn, pz_wr_gi, pz_wr_gl, pz_wr_same, pz_wr_X, so_0 hS, ea_ialde he])
    (try refine po_gI (by first | exact pz_in_nI (by omega) (by decide) | decide | assumption) ?_)
    (try refine po_gI (by first | exact pz_in_nI (by omega) (by decide) | decide | assumption) ?_)
    (try refine po_gI (by first | exact pz_in_nI (by omega) (by decide) | decide | assumption) ?_)
    refine po_brP (fun q400 => ?_) (fun q400 => ?_)
    · skip
      (try simp (disch := omega) only [nI_ltI, nI_leI, nI_eq, nI_ltL, nI_leL, nI_eqL, nI_Llt, nI_Lle, nI_Leq, nI_eqm, nI_meq, nI_ltm, nI_lem, nI_mlt, nI_mle, lg0, lgl, lgg, lgle, lgge, Int32.not_lt, Int32.not_le, Int64.not_lt, Int64.not_le, not_false_eq_true, not_true_eq_false, Decidable.not_not, ge_iff_le, gt_iff_lt] at q400)
      refine pw_blk (mi := mz_0) (b := bz_0_423) rfl rfl ?_
      simp only [bz_0_423, pz_cut_t, pz_cut_f, pz_cut_n, pv_gt, pv_ts, pv_tn, ev_ic0, ev_nil, pz_wi_gc, pz_wi_ga, pz_wi_gn, pz_wi_gl, pz_wi_gr, pz_wi_same, pz_wi_X, pz_wl_gc, pz_wl_ga, pz_wl_gn, pz_wl_gi, pz_wl_gr, pz_wl_same, pz_wl_X, pz_wr_gc, pz_wr_ga, pz_wr_gn, pz_wr_gi, pz_wr_gl, pz_wr_same, pz_wr_X, so_0 hS, ea_ialde he]
      (try simp (disch := omega) only [nI_clamp, pz_in_nI2, pz_in_nI2L, pv_gt, nI_add, nI_addL, nI_Ladd, pk_mul, nI_mulL, nI_Lmul, pk_sub, nI_subL, nI_Lsub, nI_inc, nI_clampL, Nat.add_sub_cancel, pz_wi_else, pz_wl_else, vu_eq, vu_ne, pz_wi_gc, pz_wi_ga, pz_wi_gn, pz_wi_gl, pz_wi_gr, pz_wi_same, pz_wi_X, pz_wl_gc, pz_wl_ga, pz_wl_gn, pz_wl_gi, pz_wl_gr, pz_wl_same, pz_wl_X, pz_wr_gc, pz_wr_ga, pz_wr_gn, pz_wr_gi, pz_wr_gl, pz_wr_same, pz_wr_X, so_0 hS, ea_ialde he])
      refine po_go ?_
      refine pw_blk (mi := mz_0) (b := bz_0_424) rfl rfl ?_
      simp only [bz_0_424, pz_cut_t, pz_cut_f, pz_cut_n, pv_gt, pv_ts, pv_tn, ev_cv3_0, pz_wi_gc, pz_wi_ga, pz_wi_gn, pz_wi_gl, pz_wi_gr, pz_wi_same, pz_wi_X, pz_wl_gc, pz_wl_ga, pz_wl_gn, pz_wl_gi, pz_wl_gr, pz_wl_same, pz_wl_X, pz_wr_gc, pz_wr_ga, pz_wr_gn, pz_wr_gi, pz_wr_gl, pz_wr_same, pz_wr_X, so_0 hS, ea_ialde he]
      (try simp (disch := omega) only [nI_clamp, pz_in_nI2, pz_in_nI2L, pv_gt, nI_add, nI_addL, nI_Ladd, pk_mul, nI_mulL, nI_Lmul, pk_sub, nI_subL, nI_Lsub, nI_inc, nI_clampL, Nat.add_sub_cancel, pz_wi_else, pz_wl_else, vu_eq, vu_ne, pz_wi_gc, pz_wi_ga, pz_wi_gn, pz_wi_gl, pz_wi_gr, pz_wi_same, pz_wi_X, pz_wl_gc, pz_wl_ga, pz_wl_gn, pz_wl_gi, pz_wl_gr, pz_wl_same, pz_wl_X, pz_wr_gc, pz_wr_ga, pz_wr_gn, pz_wr_gi, pz_wr_gl, pz_wr_same, pz_wr_X, so_0 hS, ea_ialde he])
      (try refine po_gP (Nat.le_of_ble_eq_true rfl) ?_)
      refine po_call (by omega) (pm_mono OP (fun r1 h1 => ?_))
      obtain ⟨v1, M1⟩ := r1
      obtain ⟨x, ex, hX1, g120, h2⟩ := h1
      simp only at ex hX1 g120 h2
      subst ex
      have he1 : pz_ex M1.1 0 = some (0, X.1, X.2) := by rw [hX1, hX]; rfl
      refine pw_blk (mi := mz_0) (b := bz_0_427) rfl rfl ?_
      simp only [bz_0_427, pz_cut_t, pz_cut_f, pz_cut_n, pv_gt, pv_ts, pv_tn, ev_ald2, ev_eld2, ev_ald0, ev_eld0, ev_ild3, ev_ic1, ev_iadd, ea_iald, ev_ic2, ev_ic3, ev_ifeq, pz_wi_gc, pz_wi_ga, pz_wi_gn, pz_wi_gl, pz_wi_gr, pz_wi_same, pz_wi_X, pz_wl_gc, pz_wl_ga, pz_wl_gn, pz_wl_gi, pz_wl_gr, pz_wl_same, pz_wl_X, pz_wr_gc, pz_wr_ga, pz_wr_gn, pz_wr_gi, pz_wr_gl, pz_wr_same, pz_wr_X, so_0 hS, ea_ialde he, g120, ea_ialde he1]
      (try simp (disch := omega) only [nI_clamp, pz_in_nI2, pz_in_nI2L, pv_gt, nI_add, nI_addL, nI_Ladd, pk_mul, nI_mulL, nI_Lmul, pk_sub, nI_subL, nI_Lsub, nI_inc, nI_clampL, Nat.add_sub_cancel, pz_wi_else, pz_wl_else, vu_eq, vu_ne, pz_wi_gc, pz_wi_ga, pz_wi_gn, pz_wi_gl, pz_wi_gr, pz_wi_same, pz_wi_X, pz_wl_gc, pz_wl_ga, pz_wl_gn, pz_wl_gi, pz_wl_gr, pz_wl_same, pz_wl_X, pz_wr_gc, pz_wr_ga, pz_wr_gn, pz_wr_gi, pz_wr_gl, pz_wr_same, pz_wr_X, so_0 hS, ea_ialde he, g120, ea_ialde he1])
      (try refine po_gI (by first | exact pz_in_nI (by omega) (by decide) | decide | assumption) ?_)
      (try refine po_gI (by first | exact pz_in_nI (by omega) (by decide) | decide | assumption) ?_)
      (try refine po_gI (by first | exact pz_in_nI (by omega) (by decide) | decide | assumption) ?_)
      refine po_brP (fun q427 => ?_) (fun q427 => ?_)
      · skip
        (try simp (disch := omega) only [nI_ltI, nI_leI, nI_eq, nI_ltL, nI_leL, nI_eqL, nI_Llt, nI_Lle, nI_Leq, nI_eqm, nI_meq, nI_ltm, nI_lem, nI_mlt, nI_mle, lg0, lgl, lgg, lgle, lgge, Int32.not_lt, Int32.not_le, Int64.not_lt, Int64.not_le, not_false_eq_true, not_true_eq_false, Decidable.not_not, ge_iff_le, gt_iff_lt] at q427)
        refine pw_blk (mi := mz_0) (b := bz_0_450) rfl rfl ?_
        simp only [bz_0_450, pz_cut_t, pz_cut_f, pz_cut_n, pv_gt, pv_ts, pv_tn, ev_ic0, ev_nil, pz_wi_gc, pz_wi_ga, pz_wi_gn, pz_wi_gl, pz_wi_gr, pz_wi_same, pz_wi_X, pz_wl_gc, pz_wl_ga, pz_wl_gn, pz_wl_gi, pz_wl_gr, pz_wl_same, pz_wl_X, pz_wr_gc, pz_wr_ga, pz_wr_gn, pz_wr_gi, pz_wr_gl, pz_wr_same, pz_wr_X, so_0 hS, ea_ialde he, g120, ea_ialde he1]
        (try simp (disch := omega) only [nI_clamp, pz_in_nI2, pz_in_nI2L, pv_gt, nI_add, nI_addL, nI_Ladd, pk_mul, nI_mulL, nI_Lmul, pk_sub, nI_subL, nI_Lsub, nI_inc, nI_clampL, Nat.add_sub_cancel, pz_wi_else, pz_wl_else, vu_eq, vu_ne, pz_wi_gc, pz_wi_ga, pz_wi_gn, pz_wi_gl, pz_wi_gr, pz_wi_same, pz_wi_X, pz_wl_gc, pz_wl_ga, pz_wl_gn, pz_wl_gi, pz_wl_gr, pz_wl_same, pz_wl_X, pz_wr_gc, pz_wr_ga, pz_wr_gn, pz_wr_gi, pz_wr_gl, pz_wr_same, pz_wr_X, so_0 hS, ea_ialde he, g120, ea_ialde he1])
        refine po_go ?_
        refine pw_blk (mi := mz_0) (b := bz_0_451) rfl rfl ?_
        simp only [bz_0_451, pz_cut_t, pz_cut_f, pz_cut_n, pv_gt, pv_ts, pv_tn, ev_cv3_11, pz_wi_gc, pz_wi_ga, pz_wi_gn, pz_wi_gl, pz_wi_gr, pz_wi_same, pz_wi_X, pz_wl_gc, pz_wl_ga, pz_wl_gn, pz_wl_gi, pz_wl_gr, pz_wl_same, pz_wl_X, pz_wr_gc, pz_wr_ga, pz_wr_gn, pz_wr_gi, pz_wr_gl, pz_wr_same, pz_wr_X, so_0 hS, ea_ialde he, g120, ea_ialde he1]
        (try simp (disch := omega) only [nI_clamp, pz_in_nI2, pz_in_nI2L, pv_gt, nI_add, nI_addL, nI_Ladd, pk_mul, nI_mulL, nI_Lmul, pk_sub, nI_subL, nI_Lsub, nI_inc, nI_clampL, Nat.add_sub_cancel, pz_wi_else, pz_wl_else, vu_eq, vu_ne, pz_wi_gc, pz_wi_ga, pz_wi_gn, pz_wi_gl, pz_wi_gr, pz_wi_same, pz_wi_X, pz_wl_gc, pz_wl_ga, pz_wl_gn, pz_wl_gi, pz_wl_gr, pz_wl_same, pz_wl_X, pz_wr_gc, pz_wr_ga, pz_wr_gn, pz_wr_gi, pz_wr_gl, pz_wr_same, pz_wr_X, so_0 hS, ea_ialde he, g120, ea_ialde he1])
        (try refine po_gP (Nat.le_of_ble_eq_true rfl) ?_)
        refine po_call (by omega) (pm_mono h2 (fun r2 h3 => ?_))
        obtain ⟨v2, M2⟩ := r2
        obtain ⟨ey, hX2, hL2, hz2⟩ := h3
        simp only at ey hX2 hL2 hz2
        subst ey
        refine pw_blk (mi := mz_0) (b := bz_0_454) rfl rfl ?_
        simp only [bz_0_454, pz_cut_t, pz_cut_f, pz_cut_n, pv_gt, pv_ts, pv_tn, ev_ic_eq, pz_wi_gc, pz_wi_ga, pz_wi_gn, pz_wi_gl, pz_wi_gr, pz_wi_same, pz_wi_X, pz_wl_gc, pz_wl_ga, pz_wl_gn, pz_wl_gi, pz_wl_gr, pz_wl_same, pz_wl_X, pz_wr_gc, pz_wr_ga, pz_wr_gn, pz_wr_gi, pz_wr_gl, pz_wr_same, pz_wr_X, so_0 hS, ea_ialde he]
        (try simp (disch := omega) only [nI_clamp, pz_in_nI2, pz_in_nI2L, pv_gt, nI_add, nI_addL, nI_Ladd, pk_mul, nI_mulL, nI_Lmul, pk_sub, nI_subL, nI_Lsub, nI_inc, nI_clampL, Nat.add_sub_cancel, pz_wi_else, pz_wl_else, vu_eq, vu_ne, pz_wi_gc, pz_wi_ga, pz_wi_gn, pz_wi_gl, pz_wi_gr, pz_wi_same, pz_wi_X, pz_wl_gc, pz_wl_ga, pz_wl_gn, pz_wl_gi, pz_wl_gr, pz_wl_same, pz_wl_X, pz_wr_gc, pz_wr_ga, pz_wr_gn, pz_wr_gi, pz_wr_gl, pz_wr_same, pz_wr_X, so_0 hS, ea_ialde he])
        refine po_brP (fun q454 => ?_) (fun q454 => ?_)
        · first
          | exact absurd q454 (by decide)
          | exact absurd trivial q454
          | exact q454.elim
          | (exfalso; (try simp (disch := omega) only [nI_ltI, nI_leI, nI_eq, nI_ltL, nI_leL, nI_eqL, nI_Llt, nI_Lle, nI_Leq, nI_eqm, nI_meq, nI_ltm, nI_lem, nI_mlt, nI_mle, lg0, lgl, lgg, lgle, lgge, Int32.not_lt, Int32.not_le, Int64.not_lt, Int64.not_le, not_false_eq_true, not_true_eq_false, Decidable.not_not, ge_iff_le, gt_iff_lt] at q454) <;> omega)
          | exact absurd q454 (by with_reducible assumption)
          | exact absurd (by with_reducible assumption) q454
          | exact absurd (Decidable.not_not.mp q454) (by with_reducible assumption)
          | exact absurd (by with_reducible assumption) (Int32.not_le.mpr q454)
          | exact absurd (by with_reducible assumption) (Int32.not_lt.mpr q454)
          | skip
            (try simp (disch := omega) only [nI_ltI, nI_leI, nI_eq, nI_ltL, nI_leL, nI_eqL, nI_Llt, nI_Lle, nI_Leq, nI_eqm, nI_meq, nI_ltm, nI_lem, nI_mlt, nI_mle, lg0, lgl, lgg, lgle, lgge, Int32.not_lt, Int32.not_le, Int64.not_lt, Int64.not_le, not_false_eq_true, not_true_eq_false, Decidable.not_not, ge_iff_le, gt_iff_lt] at q454)
            exact nx M2 ⟨hX2.trans hX, hL2, hz2⟩
        · exact absurd trivial q454
      · first
        | exact absurd q427 (by decide)
        | exact absurd trivial q427
        | exact q427.elim
        | (exfalso; (try simp (disch := omega) only [nI_ltI, nI_leI, nI_eq, nI_ltL, nI_leL, nI_eqL, nI_Llt, nI_Lle, nI_Leq, nI_eqm, nI_meq, nI_ltm, nI_lem, nI_mlt, nI_mle, lg0, lgl, lgg, lgle, lgge, Int32.not_lt, Int32.not_le, Int64.not_lt, Int64.not_le, not_false_eq_true, not_true_eq_false, Decidable.not_not, ge_iff_le, gt_iff_lt] at q427) <;> omega)
        | exact absurd q427 (by with_reducible assumption)
        | exact absurd (by with_reducible assumption) q427
        | exact absurd (Decidable.not_not.mp q427) (by with_reducible assumption)
        | exact absurd (by with_reducible assumption) (Int32.not_le.mpr q427)
        | exact absurd (by with_reducible assumption) (Int32.not_lt.mpr q427)
    · first
      | exact absurd q400 (by decide)
      | exact absurd trivial q400
      | exact q400.elim
      | (exfalso; (try simp (disch := omega) only [nI_ltI, nI_leI, nI_eq, nI_ltL, nI_leL, nI_eqL, nI_Llt, nI_Lle, nI_Leq, nI_eqm, nI_meq, nI_ltm, nI_lem, nI_mlt, nI_mle, lg0, lgl, lgg, lgle, lgge, Int32.not_lt, Int32.not_le, Int64.not_lt, Int64.not_le, not_false_eq_true, not_true_eq_false, Decidable.not_not, ge_iff_le, gt_iff_lt] at q400) <;> omega)
      | exact absurd q400 (by with_reducible assumption)
      | exact absurd (by with_reducible assumption) q400
      | exact absurd (Decidable.not_not.mp q400) (by with_reducible assumption)
      | exact absurd (by with_reducible assumption) (Int32.not_le.mpr q400)
      | exact absurd (by with_reducible assumption) (Int32.not_lt.mpr q400)
  · skip
    have HB : (1 : Int32) = 0 ∨ (1 : Int32) = 1 := by decide
    have OP := opp_I (a := 15) (b := 16) (by decide +kernel) (by decide +kernel) hz hL (show opp 999 15 16 [.int (X.2 (i + 1)), .int (X.2 (i + 2)), .int (1)] M from op_set (by decide) hL HB)
    refine pw_blk (mi := mz_0) (b := bz_0_400) rfl rfl ?_
    simp only [bz_0_400, pz_cut_t, pz_cut_f, pz_cut_n, pv_gt, pv_ts, pv_tn, ev_ald1, ev_eld1, ev_ald0, ev_eld0, ev_ild3, ev_ic1, ev_iadd, ea_iald, ev_ic2, ev_ic3, ev_ifeq, pz_wi_gc, pz_wi_ga, pz_wi_gn, pz_wi_gl, pz_wi_gr, pz_wi_same, pz_wi_X, pz_wl_gc, pz_wl_ga, pz_wl_gn, pz_wl_gi, pz_wl_gr, pz_wl_same, pz_wl_X, pz_wr_gc, pz_wr_ga, pz_wr_gn, pz_wr_gi, pz_wr_gl, pz_wr_same, pz_wr_X, so_0 hS, ea_ialde he]
    (try simp (disch := omega) only [nI_clamp, pz_in_nI2, pz_in_nI2L, pv_gt, nI_add, nI_addL, nI_Ladd, pk_mul, nI_mulL, nI_Lmul, pk_sub, nI_subL, nI_Lsub, nI_inc, nI_clampL, Nat.add_sub_cancel, pz_wi_else, pz_wl_else, vu_eq, vu_ne, pz_wi_gc, pz_wi_ga, pz_wi_gn, pz_wi_gl, pz_wi_gr, pz_wi_same, pz_wi_X, pz_wl_gc, pz_wl_ga, pz_wl_gn, pz_wl_gi, pz_wl_gr, pz_wl_same, pz_wl_X, pz_wr_gc, pz_wr_ga, pz_wr_gn, pz_wr_gi, pz_wr_gl, pz_wr_same, pz_wr_X, so_0 hS, ea_ialde he])
    (try refine po_gI (by first | exact pz_in_nI (by omega) (by decide) | decide | assumption) ?_)
    (try refine po_gI (by first | exact pz_in_nI (by omega) (by decide) | decide | assumption) ?_)
    (try refine po_gI (by first | exact pz_in_nI (by omega) (by decide) | decide | assumption) ?_)
    refine po_brP (fun q400 => ?_) (fun q400 => ?_)
    · first
      | exact absurd q400 (by decide)
      | exact absurd trivial q400
      | exact q400.elim
      | (exfalso; (try simp (disch := omega) only [nI_ltI, nI_leI, nI_eq, nI_ltL, nI_leL, nI_eqL, nI_Llt, nI_Lle, nI_Leq, nI_eqm, nI_meq, nI_ltm, nI_lem, nI_mlt, nI_mle, lg0, lgl, lgg, lgle, lgge, Int32.not_lt, Int32.not_le, Int64.not_lt, Int64.not_le, not_false_eq_true, not_true_eq_false, Decidable.not_not, ge_iff_le, gt_iff_lt] at q400) <;> omega)
      | exact absurd q400 (by with_reducible assumption)
      | exact absurd (by with_reducible assumption) q400
      | exact absurd (Decidable.not_not.mp q400) (by with_reducible assumption)
      | exact absurd (by with_reducible assumption) (Int32.not_le.mpr q400)
      | exact absurd (by with_reducible assumption) (Int32.not_lt.mpr q400)
    · skip
      (try simp (disch := omega) only [nI_ltI, nI_leI, nI_eq, nI_ltL, nI_leL, nI_eqL, nI_Llt, nI_Lle, nI_Leq, nI_eqm, nI_meq, nI_ltm, nI_lem, nI_mlt, nI_mle, lg0, lgl, lgg, lgle, lgge, Int32.not_lt, Int32.not_le, Int64.not_lt, Int64.not_le, not_false_eq_true, not_true_eq_false, Decidable.not_not, ge_iff_le, gt_iff_lt] at q400)
      refine pw_blk (mi := mz_0) (b := bz_0_419) rfl rfl ?_
      simp only [bz_0_419, pz_cut_t, pz_cut_f, pz_cut_n, pv_gt, pv_ts, pv_tn, ev_ic1, ev_goto, pz_wi_gc, pz_wi_ga, pz_wi_gn, pz_wi_gl, pz_wi_gr, pz_wi_same, pz_wi_X, pz_wl_gc, pz_wl_ga, pz_wl_gn, pz_wl_gi, pz_wl_gr, pz_wl_same, pz_wl_X, pz_wr_gc, pz_wr_ga, pz_wr_gn, pz_wr_gi, pz_wr_gl, pz_wr_same, pz_wr_X, so_0 hS, ea_ialde he]
      (try simp (disch := omega) only [nI_clamp, pz_in_nI2, pz_in_nI2L, pv_gt, nI_add, nI_addL, nI_Ladd, pk_mul, nI_mulL, nI_Lmul, pk_sub, nI_subL, nI_Lsub, nI_inc, nI_clampL, Nat.add_sub_cancel, pz_wi_else, pz_wl_else, vu_eq, vu_ne, pz_wi_gc, pz_wi_ga, pz_wi_gn, pz_wi_gl, pz_wi_gr, pz_wi_same, pz_wi_X, pz_wl_gc, pz_wl_ga, pz_wl_gn, pz_wl_gi, pz_wl_gr, pz_wl_same, pz_wl_X, pz_wr_gc, pz_wr_ga, pz_wr_gn, pz_wr_gi, pz_wr_gl, pz_wr_same, pz_wr_X, so_0 hS, ea_ialde he])
      refine po_go ?_
      refine pw_blk (mi := mz_0) (b := bz_0_424) rfl rfl ?_
      simp only [bz_0_424, pz_cut_t, pz_cut_f, pz_cut_n, pv_gt, pv_ts, pv_tn, ev_cv3_0, pz_wi_gc, pz_wi_ga, pz_wi_gn, pz_wi_gl, pz_wi_gr, pz_wi_same, pz_wi_X, pz_wl_gc, pz_wl_ga, pz_wl_gn, pz_wl_gi, pz_wl_gr, pz_wl_same, pz_wl_X, pz_wr_gc, pz_wr_ga, pz_wr_gn, pz_wr_gi, pz_wr_gl, pz_wr_same, pz_wr_X, so_0 hS, ea_ialde he]
      (try simp (disch := omega) only [nI_clamp, pz_in_nI2, pz_in_nI2L, pv_gt, nI_add, nI_addL, nI_Ladd, pk_mul, nI_mulL, nI_Lmul, pk_sub, nI_subL, nI_Lsub, nI_inc, nI_clampL, Nat.add_sub_cancel, pz_wi_else, pz_wl_else, vu_eq, vu_ne, pz_wi_gc, pz_wi_ga, pz_wi_gn, pz_wi_gl, pz_wi_gr, pz_wi_same, pz_wi_X, pz_wl_gc, pz_wl_ga, pz_wl_gn, pz_wl_gi, pz_wl_gr, pz_wl_same, pz_wl_X, pz_wr_gc, pz_wr_ga, pz_wr_gn, pz_wr_gi, pz_wr_gl, pz_wr_same, pz_wr_X, so_0 hS, ea_ialde he])
      (try refine po_gP (Nat.le_of_ble_eq_true rfl) ?_)
      refine po_call (by omega) (pm_mono OP (fun r1 h1 => ?_))
      obtain ⟨v1, M1⟩ := r1
      obtain ⟨x, ex, hX1, g120, h2⟩ := h1
      simp only at ex hX1 g120 h2
      subst ex
      have he1 : pz_ex M1.1 0 = some (0, X.1, X.2) := by rw [hX1, hX]; rfl
      refine pw_blk (mi := mz_0) (b := bz_0_427) rfl rfl ?_
      simp only [bz_0_427, pz_cut_t, pz_cut_f, pz_cut_n, pv_gt, pv_ts, pv_tn, ev_ald2, ev_eld2, ev_ald0, ev_eld0, ev_ild3, ev_ic1, ev_iadd, ea_iald, ev_ic2, ev_ic3, ev_ifeq, pz_wi_gc, pz_wi_ga, pz_wi_gn, pz_wi_gl, pz_wi_gr, pz_wi_same, pz_wi_X, pz_wl_gc, pz_wl_ga, pz_wl_gn, pz_wl_gi, pz_wl_gr, pz_wl_same, pz_wl_X, pz_wr_gc, pz_wr_ga, pz_wr_gn, pz_wr_gi, pz_wr_gl, pz_wr_same, pz_wr_X, so_0 hS, ea_ialde he, g120, ea_ialde he1]
      (try simp (disch := omega) only [nI_clamp, pz_in_nI2, pz_in_nI2L, pv_gt, nI_add, nI_addL, nI_Ladd, pk_mul, nI_mulL, nI_Lmul, pk_sub, nI_subL, nI_Lsub, nI_inc, nI_clampL, Nat.add_sub_cancel, pz_wi_else, pz_wl_else, vu_eq, vu_ne, pz_wi_gc, pz_wi_ga, pz_wi_gn, pz_wi_gl, pz_wi_gr, pz_wi_same, pz_wi_X, pz_wl_gc, pz_wl_ga, pz_wl_gn, pz_wl_gi, pz_wl_gr, pz_wl_same, pz_wl_X, pz_wr_gc, pz_wr_ga, pz_wr_gn, pz_wr_gi, pz_wr_gl, pz_wr_same, pz_wr_X, so_0 hS, ea_ialde he, g120, ea_ialde he1])
      (try refine po_gI (by first | exact pz_in_nI (by omega) (by decide) | decide | assumption) ?_)
      (try refine po_gI (by first | exact pz_in_nI (by omega) (by decide) | decide | assumption) ?_)
      (try refine po_gI (by first | exact pz_in_nI (by omega) (by decide) | decide | assumption) ?_)
      refine po_brP (fun q427 => ?_) (fun q427 => ?_)
      · first
        | exact absurd q427 (by decide)
        | exact absurd trivial q427
        | exact q427.elim
        | (exfalso; (try simp (disch := omega) only [nI_ltI, nI_leI, nI_eq, nI_ltL, nI_leL, nI_eqL, nI_Llt, nI_Lle, nI_Leq, nI_eqm, nI_meq, nI_ltm, nI_lem, nI_mlt, nI_mle, lg0, lgl, lgg, lgle, lgge, Int32.not_lt, Int32.not_le, Int64.not_lt, Int64.not_le, not_false_eq_true, not_true_eq_false, Decidable.not_not, ge_iff_le, gt_iff_lt] at q427) <;> omega)
        | exact absurd q427 (by with_reducible assumption)
        | exact absurd (by with_reducible assumption) q427
        | exact absurd (Decidable.not_not.mp q427) (by with_reducible assumption)
        | exact absurd (by with_reducible assumption) (Int32.not_le.mpr q427)
        | exact absurd (by with_reducible assumption) (Int32.not_lt.mpr q427)
      · skip
        (try simp (disch := omega) only [nI_ltI, nI_leI, nI_eq, nI_ltL, nI_leL, nI_eqL, nI_Llt, nI_Lle, nI_Leq, nI_eqm, nI_meq, nI_ltm, nI_lem, nI_mlt, nI_mle, lg0, lgl, lgg, lgle, lgge, Int32.not_lt, Int32.not_le, Int64.not_lt, Int64.not_le, not_false_eq_true, not_true_eq_false, Decidable.not_not, ge_iff_le, gt_iff_lt] at q427)
        refine pw_blk (mi := mz_0) (b := bz_0_446) rfl rfl ?_
        simp only [bz_0_446, pz_cut_t, pz_cut_f, pz_cut_n, pv_gt, pv_ts, pv_tn, ev_ic1, ev_goto, pz_wi_gc, pz_wi_ga, pz_wi_gn, pz_wi_gl, pz_wi_gr, pz_wi_same, pz_wi_X, pz_wl_gc, pz_wl_ga, pz_wl_gn, pz_wl_gi, pz_wl_gr, pz_wl_same, pz_wl_X, pz_wr_gc, pz_wr_ga, pz_wr_gn, pz_wr_gi, pz_wr_gl, pz_wr_same, pz_wr_X, so_0 hS, ea_ialde he]
        (try simp (disch := omega) only [nI_clamp, pz_in_nI2, pz_in_nI2L, pv_gt, nI_add, nI_addL, nI_Ladd, pk_mul, nI_mulL, nI_Lmul, pk_sub, nI_subL, nI_Lsub, nI_inc, nI_clampL, Nat.add_sub_cancel, pz_wi_else, pz_wl_else, vu_eq, vu_ne, pz_wi_gc, pz_wi_ga, pz_wi_gn, pz_wi_gl, pz_wi_gr, pz_wi_same, pz_wi_X, pz_wl_gc, pz_wl_ga, pz_wl_gn, pz_wl_gi, pz_wl_gr, pz_wl_same, pz_wl_X, pz_wr_gc, pz_wr_ga, pz_wr_gn, pz_wr_gi, pz_wr_gl, pz_wr_same, pz_wr_X, so_0 hS, ea_ialde he])
        refine po_go ?_
        refine pw_blk (mi := mz_0) (b := bz_0_451) rfl rfl ?_
        simp only [bz_0_451, pz_cut_t, pz_cut_f, pz_cut_n, pv_gt, pv_ts, pv_tn, ev_cv3_11, pz_wi_gc, pz_wi_ga, pz_wi_gn, pz_wi_gl, pz_wi_gr, pz_wi_same, pz_wi_X, pz_wl_gc, pz_wl_ga, pz_wl_gn, pz_wl_gi, pz_wl_gr, pz_wl_same, pz_wl_X, pz_wr_gc, pz_wr_ga, pz_wr_gn, pz_wr_gi, pz_wr_gl, pz_wr_same, pz_wr_X, so_0 hS, ea_ialde he, g120, ea_ialde he1]
        (try simp (disch := omega) only [nI_clamp, pz_in_nI2, pz_in_nI2L, pv_gt, nI_add, nI_addL, nI_Ladd, pk_mul, nI_mulL, nI_Lmul, pk_sub, nI_subL, nI_Lsub, nI_inc, nI_clampL, Nat.add_sub_cancel, pz_wi_else, pz_wl_else, vu_eq, vu_ne, pz_wi_gc, pz_wi_ga, pz_wi_gn, pz_wi_gl, pz_wi_gr, pz_wi_same, pz_wi_X, pz_wl_gc, pz_wl_ga, pz_wl_gn, pz_wl_gi, pz_wl_gr, pz_wl_same, pz_wl_X, pz_wr_gc, pz_wr_ga, pz_wr_gn, pz_wr_gi, pz_wr_gl, pz_wr_same, pz_wr_X, so_0 hS, ea_ialde he, g120, ea_ialde he1])
        (try refine po_gP (Nat.le_of_ble_eq_true rfl) ?_)
        refine po_call (by omega) (pm_mono h2 (fun r2 h3 => ?_))
        obtain ⟨v2, M2⟩ := r2
        obtain ⟨ey, hX2, hL2, hz2⟩ := h3
        simp only at ey hX2 hL2 hz2
        subst ey
        refine pw_blk (mi := mz_0) (b := bz_0_454) rfl rfl ?_
        simp only [bz_0_454, pz_cut_t, pz_cut_f, pz_cut_n, pv_gt, pv_ts, pv_tn, ev_ic_eq, pz_wi_gc, pz_wi_ga, pz_wi_gn, pz_wi_gl, pz_wi_gr, pz_wi_same, pz_wi_X, pz_wl_gc, pz_wl_ga, pz_wl_gn, pz_wl_gi, pz_wl_gr, pz_wl_same, pz_wl_X, pz_wr_gc, pz_wr_ga, pz_wr_gn, pz_wr_gi, pz_wr_gl, pz_wr_same, pz_wr_X, so_0 hS, ea_ialde he]
        (try simp (disch := omega) only [nI_clamp, pz_in_nI2, pz_in_nI2L, pv_gt, nI_add, nI_addL, nI_Ladd, pk_mul, nI_mulL, nI_Lmul, pk_sub, nI_subL, nI_Lsub, nI_inc, nI_clampL, Nat.add_sub_cancel, pz_wi_else, pz_wl_else, vu_eq, vu_ne, pz_wi_gc, pz_wi_ga, pz_wi_gn, pz_wi_gl, pz_wi_gr, pz_wi_same, pz_wi_X, pz_wl_gc, pz_wl_ga, pz_wl_gn, pz_wl_gi, pz_wl_gr, pz_wl_same, pz_wl_X, pz_wr_gc, pz_wr_ga, pz_wr_gn, pz_wr_gi, pz_wr_gl, pz_wr_same, pz_wr_X, so_0 hS, ea_ialde he])
        refine po_brP (fun q454 => ?_) (fun q454 => ?_)
        · first
          | exact absurd q454 (by decide)
          | exact absurd trivial q454
          | exact q454.elim
          | (exfalso; (try simp (disch := omega) only [nI_ltI, nI_leI, nI_eq, nI_ltL, nI_leL, nI_eqL, nI_Llt, nI_Lle, nI_Leq, nI_eqm, nI_meq, nI_ltm, nI_lem, nI_mlt, nI_mle, lg0, lgl, lgg, lgle, lgge, Int32.not_lt, Int32.not_le, Int64.not_lt, Int64.not_le, not_false_eq_true, not_true_eq_false, Decidable.not_not, ge_iff_le, gt_iff_lt] at q454) <;> omega)
          | exact absurd q454 (by with_reducible assumption)
          | exact absurd (by with_reducible assumption) q454
          | exact absurd (Decidable.not_not.mp q454) (by with_reducible assumption)
          | exact absurd (by with_reducible assumption) (Int32.not_le.mpr q454)
          | exact absurd (by with_reducible assumption) (Int32.not_lt.mpr q454)
          | skip
            (try simp (disch := omega) only [nI_ltI, nI_leI, nI_eq, nI_ltL, nI_leL, nI_eqL, nI_Llt, nI_Lle, nI_Leq, nI_eqm, nI_meq, nI_ltm, nI_lem, nI_mlt, nI_mle, lg0, lgl, lgg, lgle, lgge, Int32.not_lt, Int32.not_le, Int64.not_lt, Int64.not_le, not_false_eq_true, not_true_eq_false, Decidable.not_not, ge_iff_le, gt_iff_lt] at q454)
            exact nx M2 ⟨hX2.trans hX, hL2, hz2⟩
        · exact absurd trivial q454
theorem cs_7 (hX6 : i + 6 ≤ X.1) (hX7 : X.1 ≤ 3072) (h : INV X M) (nx : ∀ M', INV X M' → pw 1000 0 (1484, [some (.retAddr 0), some (.ref 0), some (.ref 120), some (.int (nI i))], [], M') Q) : pw 1000 0 (459, [some (.retAddr 0), some (.ref 0), some (.ref 120), some (.int (nI i))], [], M) Q := by
  obtain ⟨hX, hL, hz⟩ := h
  have hS := hL.S
  have he : pz_ex M.1 0 = some (0, X.1, X.2) := by rw [hX]; rfl
  have OP := opp_I (a := 17) (b := 18) (by decide +kernel) (by decide +kernel) hz hL (show opp 999 17 18 [.int (X.2 (i + 1)), .int (X.2 (i + 2))] M from oz_alike (by decide) hL)
  refine pw_blk (mi := mz_0) (b := bz_0_459) rfl rfl ?_
  simp only [bz_0_459, pz_cut_t, pz_cut_f, pz_cut_n, pv_gt, pv_ts, pv_tn, ev_ald1, ev_eld1, ev_ald0, ev_eld0, ev_ild3, ev_ic1, ev_iadd, ea_iald, ev_ic2, ev_cv2_0, pz_wi_gc, pz_wi_ga, pz_wi_gn, pz_wi_gl, pz_wi_gr, pz_wi_same, pz_wi_X, pz_wl_gc, pz_wl_ga, pz_wl_gn, pz_wl_gi, pz_wl_gr, pz_wl_same, pz_wl_X, pz_wr_gc, pz_wr_ga, pz_wr_gn, pz_wr_gi, pz_wr_gl, pz_wr_same, pz_wr_X, so_0 hS, ea_ialde he]
  (try simp (disch := omega) only [nI_clamp, pz_in_nI2, pz_in_nI2L, pv_gt, nI_add, nI_addL, nI_Ladd, pk_mul, nI_mulL, nI_Lmul, pk_sub, nI_subL, nI_Lsub, nI_inc, nI_clampL, Nat.add_sub_cancel, pz_wi_else, pz_wl_else, vu_eq, vu_ne, pz_wi_gc, pz_wi_ga, pz_wi_gn, pz_wi_gl, pz_wi_gr, pz_wi_same, pz_wi_X, pz_wl_gc, pz_wl_ga, pz_wl_gn, pz_wl_gi, pz_wl_gr, pz_wl_same, pz_wl_X, pz_wr_gc, pz_wr_ga, pz_wr_gn, pz_wr_gi, pz_wr_gl, pz_wr_same, pz_wr_X, so_0 hS, ea_ialde he])
  (try refine po_gI (by first | exact pz_in_nI (by omega) (by decide) | decide | assumption) ?_)
  (try refine po_gI (by first | exact pz_in_nI (by omega) (by decide) | decide | assumption) ?_)
  (try refine po_gP (Nat.le_of_ble_eq_true rfl) ?_)
  refine po_call (by omega) (pm_mono OP (fun r1 h1 => ?_))
  obtain ⟨v1, M1⟩ := r1
  obtain ⟨x, ex, hX1, g120, h2⟩ := h1
  simp only at ex hX1 g120 h2
  subst ex
  have he1 : pz_ex M1.1 0 = some (0, X.1, X.2) := by rw [hX1, hX]; rfl
  refine pw_blk (mi := mz_0) (b := bz_0_473) rfl rfl ?_
  simp only [bz_0_473, pz_cut_t, pz_cut_f, pz_cut_n, pv_gt, pv_ts, pv_tn, ev_ald2, ev_eld2, ev_ald0, ev_eld0, ev_ild3, ev_ic1, ev_iadd, ea_iald, ev_ic2, ev_cv2_11, pz_wi_gc, pz_wi_ga, pz_wi_gn, pz_wi_gl, pz_wi_gr, pz_wi_same, pz_wi_X, pz_wl_gc, pz_wl_ga, pz_wl_gn, pz_wl_gi, pz_wl_gr, pz_wl_same, pz_wl_X, pz_wr_gc, pz_wr_ga, pz_wr_gn, pz_wr_gi, pz_wr_gl, pz_wr_same, pz_wr_X, so_0 hS, ea_ialde he, g120, ea_ialde he1]
  (try simp (disch := omega) only [nI_clamp, pz_in_nI2, pz_in_nI2L, pv_gt, nI_add, nI_addL, nI_Ladd, pk_mul, nI_mulL, nI_Lmul, pk_sub, nI_subL, nI_Lsub, nI_inc, nI_clampL, Nat.add_sub_cancel, pz_wi_else, pz_wl_else, vu_eq, vu_ne, pz_wi_gc, pz_wi_ga, pz_wi_gn, pz_wi_gl, pz_wi_gr, pz_wi_same, pz_wi_X, pz_wl_gc, pz_wl_ga, pz_wl_gn, pz_wl_gi, pz_wl_gr, pz_wl_same, pz_wl_X, pz_wr_gc, pz_wr_ga, pz_wr_gn, pz_wr_gi, pz_wr_gl, pz_wr_same, pz_wr_X, so_0 hS, ea_ialde he, g120, ea_ialde he1])
  (try refine po_gI (by first | exact pz_in_nI (by omega) (by decide) | decide | assumption) ?_)
  (try refine po_gI (by first | exact pz_in_nI (by omega) (by decide) | decide | assumption) ?_)
  (try refine po_gP (Nat.le_of_ble_eq_true rfl) ?_)
  refine po_call (by omega) (pm_mono h2 (fun r2 h3 => ?_))
  obtain ⟨v2, M2⟩ := r2
  obtain ⟨ey, hX2, hL2, hz2⟩ := h3
  simp only at ey hX2 hL2 hz2
  subst ey
  refine pw_blk (mi := mz_0) (b := bz_0_487) rfl rfl ?_
  simp only [bz_0_487, pz_cut_t, pz_cut_f, pz_cut_n, pv_gt, pv_ts, pv_tn, ev_ic_eq, pz_wi_gc, pz_wi_ga, pz_wi_gn, pz_wi_gl, pz_wi_gr, pz_wi_same, pz_wi_X, pz_wl_gc, pz_wl_ga, pz_wl_gn, pz_wl_gi, pz_wl_gr, pz_wl_same, pz_wl_X, pz_wr_gc, pz_wr_ga, pz_wr_gn, pz_wr_gi, pz_wr_gl, pz_wr_same, pz_wr_X, so_0 hS, ea_ialde he]
  (try simp (disch := omega) only [nI_clamp, pz_in_nI2, pz_in_nI2L, pv_gt, nI_add, nI_addL, nI_Ladd, pk_mul, nI_mulL, nI_Lmul, pk_sub, nI_subL, nI_Lsub, nI_inc, nI_clampL, Nat.add_sub_cancel, pz_wi_else, pz_wl_else, vu_eq, vu_ne, pz_wi_gc, pz_wi_ga, pz_wi_gn, pz_wi_gl, pz_wi_gr, pz_wi_same, pz_wi_X, pz_wl_gc, pz_wl_ga, pz_wl_gn, pz_wl_gi, pz_wl_gr, pz_wl_same, pz_wl_X, pz_wr_gc, pz_wr_ga, pz_wr_gn, pz_wr_gi, pz_wr_gl, pz_wr_same, pz_wr_X, so_0 hS, ea_ialde he])
  refine po_brP (fun q487 => ?_) (fun q487 => ?_)
  · first
    | exact absurd q487 (by decide)
    | exact absurd trivial q487
    | exact q487.elim
    | (exfalso; (try simp (disch := omega) only [nI_ltI, nI_leI, nI_eq, nI_ltL, nI_leL, nI_eqL, nI_Llt, nI_Lle, nI_Leq, nI_eqm, nI_meq, nI_ltm, nI_lem, nI_mlt, nI_mle, lg0, lgl, lgg, lgle, lgge, Int32.not_lt, Int32.not_le, Int64.not_lt, Int64.not_le, not_false_eq_true, not_true_eq_false, Decidable.not_not, ge_iff_le, gt_iff_lt] at q487) <;> omega)
    | exact absurd q487 (by with_reducible assumption)
    | exact absurd (by with_reducible assumption) q487
    | exact absurd (Decidable.not_not.mp q487) (by with_reducible assumption)
    | exact absurd (by with_reducible assumption) (Int32.not_le.mpr q487)
    | exact absurd (by with_reducible assumption) (Int32.not_lt.mpr q487)
    | skip
      (try simp (disch := omega) only [nI_ltI, nI_leI, nI_eq, nI_ltL, nI_leL, nI_eqL, nI_Llt, nI_Lle, nI_Leq, nI_eqm, nI_meq, nI_ltm, nI_lem, nI_mlt, nI_mle, lg0, lgl, lgg, lgle, lgge, Int32.not_lt, Int32.not_le, Int64.not_lt, Int64.not_le, not_false_eq_true, not_true_eq_false, Decidable.not_not, ge_iff_le, gt_iff_lt] at q487)
      exact nx M2 ⟨hX2.trans hX, hL2, hz2⟩
  · exact absurd trivial q487
theorem cs_8 (hX6 : i + 6 ≤ X.1) (hX7 : X.1 ≤ 3072) (h : INV X M) (nx : ∀ M', INV X M' → pw 1000 0 (1484, [some (.retAddr 0), some (.ref 0), some (.ref 120), some (.int (nI i))], [], M') Q) : pw 1000 0 (492, [some (.retAddr 0), some (.ref 0), some (.ref 120), some (.int (nI i))], [], M) Q := by
  obtain ⟨hX, hL, hz⟩ := h
  have hS := hL.S
  have he : pz_ex M.1 0 = some (0, X.1, X.2) := by rw [hX]; rfl
  have OP := opp_I (a := 19) (b := 20) (by decide +kernel) (by decide +kernel) hz hL (show opp 999 19 20 [.int (X.2 (i + 1))] M from oz_fork (by decide) hL)
  refine pw_blk (mi := mz_0) (b := bz_0_492) rfl rfl ?_
  simp only [bz_0_492, pz_cut_t, pz_cut_f, pz_cut_n, pv_gt, pv_ts, pv_tn, ev_ald1, ev_eld1, ev_ald0, ev_eld0, ev_ild3, ev_ic1, ev_iadd, ea_iald, ev_cv1_0, pz_wi_gc, pz_wi_ga, pz_wi_gn, pz_wi_gl, pz_wi_gr, pz_wi_same, pz_wi_X, pz_wl_gc, pz_wl_ga, pz_wl_gn, pz_wl_gi, pz_wl_gr, pz_wl_same, pz_wl_X, pz_wr_gc, pz_wr_ga, pz_wr_gn, pz_wr_gi, pz_wr_gl, pz_wr_same, pz_wr_X, so_0 hS, ea_ialde he]
  (try simp (disch := omega) only [nI_clamp, pz_in_nI2, pz_in_nI2L, pv_gt, nI_add, nI_addL, nI_Ladd, pk_mul, nI_mulL, nI_Lmul, pk_sub, nI_subL, nI_Lsub, nI_inc, nI_clampL, Nat.add_sub_cancel, pz_wi_else, pz_wl_else, vu_eq, vu_ne, pz_wi_gc, pz_wi_ga, pz_wi_gn, pz_wi_gl, pz_wi_gr, pz_wi_same, pz_wi_X, pz_wl_gc, pz_wl_ga, pz_wl_gn, pz_wl_gi, pz_wl_gr, pz_wl_same, pz_wl_X, pz_wr_gc, pz_wr_ga, pz_wr_gn, pz_wr_gi, pz_wr_gl, pz_wr_same, pz_wr_X, so_0 hS, ea_ialde he])
  (try refine po_gI (by first | exact pz_in_nI (by omega) (by decide) | decide | assumption) ?_)
  (try refine po_gP (Nat.le_of_ble_eq_true rfl) ?_)
  refine po_call (by omega) (pm_mono OP (fun r1 h1 => ?_))
  obtain ⟨v1, M1⟩ := r1
  obtain ⟨x, ex, hX1, g120, h2⟩ := h1
  simp only at ex hX1 g120 h2
  subst ex
  have he1 : pz_ex M1.1 0 = some (0, X.1, X.2) := by rw [hX1, hX]; rfl
  refine pw_blk (mi := mz_0) (b := bz_0_501) rfl rfl ?_
  simp only [bz_0_501, pz_cut_t, pz_cut_f, pz_cut_n, pv_gt, pv_ts, pv_tn, ev_ald2, ev_eld2, ev_ald0, ev_eld0, ev_ild3, ev_ic1, ev_iadd, ea_iald, ev_cv1_11, pz_wi_gc, pz_wi_ga, pz_wi_gn, pz_wi_gl, pz_wi_gr, pz_wi_same, pz_wi_X, pz_wl_gc, pz_wl_ga, pz_wl_gn, pz_wl_gi, pz_wl_gr, pz_wl_same, pz_wl_X, pz_wr_gc, pz_wr_ga, pz_wr_gn, pz_wr_gi, pz_wr_gl, pz_wr_same, pz_wr_X, so_0 hS, ea_ialde he, g120, ea_ialde he1]
  (try simp (disch := omega) only [nI_clamp, pz_in_nI2, pz_in_nI2L, pv_gt, nI_add, nI_addL, nI_Ladd, pk_mul, nI_mulL, nI_Lmul, pk_sub, nI_subL, nI_Lsub, nI_inc, nI_clampL, Nat.add_sub_cancel, pz_wi_else, pz_wl_else, vu_eq, vu_ne, pz_wi_gc, pz_wi_ga, pz_wi_gn, pz_wi_gl, pz_wi_gr, pz_wi_same, pz_wi_X, pz_wl_gc, pz_wl_ga, pz_wl_gn, pz_wl_gi, pz_wl_gr, pz_wl_same, pz_wl_X, pz_wr_gc, pz_wr_ga, pz_wr_gn, pz_wr_gi, pz_wr_gl, pz_wr_same, pz_wr_X, so_0 hS, ea_ialde he, g120, ea_ialde he1])
  (try refine po_gI (by first | exact pz_in_nI (by omega) (by decide) | decide | assumption) ?_)
  (try refine po_gP (Nat.le_of_ble_eq_true rfl) ?_)
  refine po_call (by omega) (pm_mono h2 (fun r2 h3 => ?_))
  obtain ⟨v2, M2⟩ := r2
  obtain ⟨ey, hX2, hL2, hz2⟩ := h3
  simp only at ey hX2 hL2 hz2
  subst ey
  refine pw_blk (mi := mz_0) (b := bz_0_510) rfl rfl ?_
  simp only [bz_0_510, pz_cut_t, pz_cut_f, pz_cut_n, pv_gt, pv_ts, pv_tn, ev_ic_eq, pz_wi_gc, pz_wi_ga, pz_wi_gn, pz_wi_gl, pz_wi_gr, pz_wi_same, pz_wi_X, pz_wl_gc, pz_wl_ga, pz_wl_gn, pz_wl_gi, pz_wl_gr, pz_wl_same, pz_wl_X, pz_wr_gc, pz_wr_ga, pz_wr_gn, pz_wr_gi, pz_wr_gl, pz_wr_same, pz_wr_X, so_0 hS, ea_ialde he]
  (try simp (disch := omega) only [nI_clamp, pz_in_nI2, pz_in_nI2L, pv_gt, nI_add, nI_addL, nI_Ladd, pk_mul, nI_mulL, nI_Lmul, pk_sub, nI_subL, nI_Lsub, nI_inc, nI_clampL, Nat.add_sub_cancel, pz_wi_else, pz_wl_else, vu_eq, vu_ne, pz_wi_gc, pz_wi_ga, pz_wi_gn, pz_wi_gl, pz_wi_gr, pz_wi_same, pz_wi_X, pz_wl_gc, pz_wl_ga, pz_wl_gn, pz_wl_gi, pz_wl_gr, pz_wl_same, pz_wl_X, pz_wr_gc, pz_wr_ga, pz_wr_gn, pz_wr_gi, pz_wr_gl, pz_wr_same, pz_wr_X, so_0 hS, ea_ialde he])
  refine po_brP (fun q510 => ?_) (fun q510 => ?_)
  · first
    | exact absurd q510 (by decide)
    | exact absurd trivial q510
    | exact q510.elim
    | (exfalso; (try simp (disch := omega) only [nI_ltI, nI_leI, nI_eq, nI_ltL, nI_leL, nI_eqL, nI_Llt, nI_Lle, nI_Leq, nI_eqm, nI_meq, nI_ltm, nI_lem, nI_mlt, nI_mle, lg0, lgl, lgg, lgle, lgge, Int32.not_lt, Int32.not_le, Int64.not_lt, Int64.not_le, not_false_eq_true, not_true_eq_false, Decidable.not_not, ge_iff_le, gt_iff_lt] at q510) <;> omega)
    | exact absurd q510 (by with_reducible assumption)
    | exact absurd (by with_reducible assumption) q510
    | exact absurd (Decidable.not_not.mp q510) (by with_reducible assumption)
    | exact absurd (by with_reducible assumption) (Int32.not_le.mpr q510)
    | exact absurd (by with_reducible assumption) (Int32.not_lt.mpr q510)
    | skip
      (try simp (disch := omega) only [nI_ltI, nI_leI, nI_eq, nI_ltL, nI_leL, nI_eqL, nI_Llt, nI_Lle, nI_Leq, nI_eqm, nI_meq, nI_ltm, nI_lem, nI_mlt, nI_mle, lg0, lgl, lgg, lgle, lgge, Int32.not_lt, Int32.not_le, Int64.not_lt, Int64.not_le, not_false_eq_true, not_true_eq_false, Decidable.not_not, ge_iff_le, gt_iff_lt] at q510)
      exact nx M2 ⟨hX2.trans hX, hL2, hz2⟩
  · exact absurd trivial q510
theorem cs_9 (hX6 : i + 6 ≤ X.1) (hX7 : X.1 ≤ 3072) (h : INV X M) (nx : ∀ M', INV X M' → pw 1000 0 (1484, [some (.retAddr 0), some (.ref 0), some (.ref 120), some (.int (nI i))], [], M') Q) : pw 1000 0 (515, [some (.retAddr 0), some (.ref 0), some (.ref 120), some (.int (nI i))], [], M) Q := by
  obtain ⟨hX, hL, hz⟩ := h
  have hS := hL.S
  have he : pz_ex M.1 0 = some (0, X.1, X.2) := by rw [hX]; rfl
  have OP := opp_I (a := 21) (b := 22) (by decide +kernel) (by decide +kernel) hz hL (show opp 999 21 22 [] M from oz_forks (by decide) hL)
  refine pw_blk (mi := mz_0) (b := bz_0_515) rfl rfl ?_
  simp only [bz_0_515, pz_cut_t, pz_cut_f, pz_cut_n, pv_gt, pv_ts, pv_tn, ev_ald1, ev_eld1, ev_cv0_0, pz_wi_gc, pz_wi_ga, pz_wi_gn, pz_wi_gl, pz_wi_gr, pz_wi_same, pz_wi_X, pz_wl_gc, pz_wl_ga, pz_wl_gn, pz_wl_gi, pz_wl_gr, pz_wl_same, pz_wl_X, pz_wr_gc, pz_wr_ga, pz_wr_gn, pz_wr_gi, pz_wr_gl, pz_wr_same, pz_wr_X, so_0 hS, ea_ialde he]
  (try simp (disch := omega) only [nI_clamp, pz_in_nI2, pz_in_nI2L, pv_gt, nI_add, nI_addL, nI_Ladd, pk_mul, nI_mulL, nI_Lmul, pk_sub, nI_subL, nI_Lsub, nI_inc, nI_clampL, Nat.add_sub_cancel, pz_wi_else, pz_wl_else, vu_eq, vu_ne, pz_wi_gc, pz_wi_ga, pz_wi_gn, pz_wi_gl, pz_wi_gr, pz_wi_same, pz_wi_X, pz_wl_gc, pz_wl_ga, pz_wl_gn, pz_wl_gi, pz_wl_gr, pz_wl_same, pz_wl_X, pz_wr_gc, pz_wr_ga, pz_wr_gn, pz_wr_gi, pz_wr_gl, pz_wr_same, pz_wr_X, so_0 hS, ea_ialde he])
  (try refine po_gP (Nat.le_of_ble_eq_true rfl) ?_)
  refine po_call (by omega) (pm_mono OP (fun r1 h1 => ?_))
  obtain ⟨v1, M1⟩ := r1
  obtain ⟨x, ex, hX1, g120, h2⟩ := h1
  simp only at ex hX1 g120 h2
  subst ex
  have he1 : pz_ex M1.1 0 = some (0, X.1, X.2) := by rw [hX1, hX]; rfl
  refine pw_blk (mi := mz_0) (b := bz_0_519) rfl rfl ?_
  simp only [bz_0_519, pz_cut_t, pz_cut_f, pz_cut_n, pv_gt, pv_ts, pv_tn, ev_ald2, ev_eld2, ev_cv0_11, pz_wi_gc, pz_wi_ga, pz_wi_gn, pz_wi_gl, pz_wi_gr, pz_wi_same, pz_wi_X, pz_wl_gc, pz_wl_ga, pz_wl_gn, pz_wl_gi, pz_wl_gr, pz_wl_same, pz_wl_X, pz_wr_gc, pz_wr_ga, pz_wr_gn, pz_wr_gi, pz_wr_gl, pz_wr_same, pz_wr_X, so_0 hS, ea_ialde he, g120, ea_ialde he1]
  (try simp (disch := omega) only [nI_clamp, pz_in_nI2, pz_in_nI2L, pv_gt, nI_add, nI_addL, nI_Ladd, pk_mul, nI_mulL, nI_Lmul, pk_sub, nI_subL, nI_Lsub, nI_inc, nI_clampL, Nat.add_sub_cancel, pz_wi_else, pz_wl_else, vu_eq, vu_ne, pz_wi_gc, pz_wi_ga, pz_wi_gn, pz_wi_gl, pz_wi_gr, pz_wi_same, pz_wi_X, pz_wl_gc, pz_wl_ga, pz_wl_gn, pz_wl_gi, pz_wl_gr, pz_wl_same, pz_wl_X, pz_wr_gc, pz_wr_ga, pz_wr_gn, pz_wr_gi, pz_wr_gl, pz_wr_same, pz_wr_X, so_0 hS, ea_ialde he, g120, ea_ialde he1])
  (try refine po_gP (Nat.le_of_ble_eq_true rfl) ?_)
  refine po_call (by omega) (pm_mono h2 (fun r2 h3 => ?_))
  obtain ⟨v2, M2⟩ := r2
  obtain ⟨ey, hX2, hL2, hz2⟩ := h3
  simp only at ey hX2 hL2 hz2
  subst ey
  refine pw_blk (mi := mz_0) (b := bz_0_523) rfl rfl ?_
  simp only [bz_0_523, pz_cut_t, pz_cut_f, pz_cut_n, pv_gt, pv_ts, pv_tn, ev_ic_eq, pz_wi_gc, pz_wi_ga, pz_wi_gn, pz_wi_gl, pz_wi_gr, pz_wi_same, pz_wi_X, pz_wl_gc, pz_wl_ga, pz_wl_gn, pz_wl_gi, pz_wl_gr, pz_wl_same, pz_wl_X, pz_wr_gc, pz_wr_ga, pz_wr_gn, pz_wr_gi, pz_wr_gl, pz_wr_same, pz_wr_X, so_0 hS, ea_ialde he]
  (try simp (disch := omega) only [nI_clamp, pz_in_nI2, pz_in_nI2L, pv_gt, nI_add, nI_addL, nI_Ladd, pk_mul, nI_mulL, nI_Lmul, pk_sub, nI_subL, nI_Lsub, nI_inc, nI_clampL, Nat.add_sub_cancel, pz_wi_else, pz_wl_else, vu_eq, vu_ne, pz_wi_gc, pz_wi_ga, pz_wi_gn, pz_wi_gl, pz_wi_gr, pz_wi_same, pz_wi_X, pz_wl_gc, pz_wl_ga, pz_wl_gn, pz_wl_gi, pz_wl_gr, pz_wl_same, pz_wl_X, pz_wr_gc, pz_wr_ga, pz_wr_gn, pz_wr_gi, pz_wr_gl, pz_wr_same, pz_wr_X, so_0 hS, ea_ialde he])
  refine po_brP (fun q523 => ?_) (fun q523 => ?_)
  · first
    | exact absurd q523 (by decide)
    | exact absurd trivial q523
    | exact q523.elim
    | (exfalso; (try simp (disch := omega) only [nI_ltI, nI_leI, nI_eq, nI_ltL, nI_leL, nI_eqL, nI_Llt, nI_Lle, nI_Leq, nI_eqm, nI_meq, nI_ltm, nI_lem, nI_mlt, nI_mle, lg0, lgl, lgg, lgle, lgge, Int32.not_lt, Int32.not_le, Int64.not_lt, Int64.not_le, not_false_eq_true, not_true_eq_false, Decidable.not_not, ge_iff_le, gt_iff_lt] at q523) <;> omega)
    | exact absurd q523 (by with_reducible assumption)
    | exact absurd (by with_reducible assumption) q523
    | exact absurd (Decidable.not_not.mp q523) (by with_reducible assumption)
    | exact absurd (by with_reducible assumption) (Int32.not_le.mpr q523)
    | exact absurd (by with_reducible assumption) (Int32.not_lt.mpr q523)
    | skip
      (try simp (disch := omega) only [nI_ltI, nI_leI, nI_eq, nI_ltL, nI_leL, nI_eqL, nI_Llt, nI_Lle, nI_Leq, nI_eqm, nI_meq, nI_ltm, nI_lem, nI_mlt, nI_mle, lg0, lgl, lgg, lgle, lgge, Int32.not_lt, Int32.not_le, Int64.not_lt, Int64.not_le, not_false_eq_true, not_true_eq_false, Decidable.not_not, ge_iff_le, gt_iff_lt] at q523)
      exact nx M2 ⟨hX2.trans hX, hL2, hz2⟩
  · exact absurd trivial q523
theorem cs_10 (hX6 : i + 6 ≤ X.1) (hX7 : X.1 ≤ 3072) (h : INV X M) (nx : ∀ M', INV X M' → pw 1000 0 (1484, [some (.retAddr 0), some (.ref 0), some (.ref 120), some (.int (nI i))], [], M') Q) : pw 1000 0 (528, [some (.retAddr 0), some (.ref 0), some (.ref 120), some (.int (nI i))], [], M) Q := by
  obtain ⟨hX, hL, hz⟩ := h
  have hS := hL.S
  have he : pz_ex M.1 0 = some (0, X.1, X.2) := by rw [hX]; rfl
  have OP := opp_I (a := 23) (b := 24) (by decide +kernel) (by decide +kernel) hz hL (show opp 999 23 24 [.int (X.2 (i + 1)), .int (X.2 (i + 2))] M from op_behind (by decide) hL)
  refine pw_blk (mi := mz_0) (b := bz_0_528) rfl rfl ?_
  simp only [bz_0_528, pz_cut_t, pz_cut_f, pz_cut_n, pv_gt, pv_ts, pv_tn, ev_ald1, ev_eld1, ev_ald0, ev_eld0, ev_ild3, ev_ic1, ev_iadd, ea_iald, ev_ic2, ev_cv2_0, pz_wi_gc, pz_wi_ga, pz_wi_gn, pz_wi_gl, pz_wi_gr, pz_wi_same, pz_wi_X, pz_wl_gc, pz_wl_ga, pz_wl_gn, pz_wl_gi, pz_wl_gr, pz_wl_same, pz_wl_X, pz_wr_gc, pz_wr_ga, pz_wr_gn, pz_wr_gi, pz_wr_gl, pz_wr_same, pz_wr_X, so_0 hS, ea_ialde he]
  (try simp (disch := omega) only [nI_clamp, pz_in_nI2, pz_in_nI2L, pv_gt, nI_add, nI_addL, nI_Ladd, pk_mul, nI_mulL, nI_Lmul, pk_sub, nI_subL, nI_Lsub, nI_inc, nI_clampL, Nat.add_sub_cancel, pz_wi_else, pz_wl_else, vu_eq, vu_ne, pz_wi_gc, pz_wi_ga, pz_wi_gn, pz_wi_gl, pz_wi_gr, pz_wi_same, pz_wi_X, pz_wl_gc, pz_wl_ga, pz_wl_gn, pz_wl_gi, pz_wl_gr, pz_wl_same, pz_wl_X, pz_wr_gc, pz_wr_ga, pz_wr_gn, pz_wr_gi, pz_wr_gl, pz_wr_same, pz_wr_X, so_0 hS, ea_ialde he])
  (try refine po_gI (by first | exact pz_in_nI (by omega) (by decide) | decide | assumption) ?_)
  (try refine po_gI (by first | exact pz_in_nI (by omega) (by decide) | decide | assumption) ?_)
  (try refine po_gP (Nat.le_of_ble_eq_true rfl) ?_)
  refine po_call (by omega) (pm_mono OP (fun r1 h1 => ?_))
  obtain ⟨v1, M1⟩ := r1
  obtain ⟨x, ex, hX1, g120, h2⟩ := h1
  simp only at ex hX1 g120 h2
  subst ex
  have he1 : pz_ex M1.1 0 = some (0, X.1, X.2) := by rw [hX1, hX]; rfl
  refine pw_blk (mi := mz_0) (b := bz_0_542) rfl rfl ?_
  simp only [bz_0_542, pz_cut_t, pz_cut_f, pz_cut_n, pv_gt, pv_ts, pv_tn, ev_ald2, ev_eld2, ev_ald0, ev_eld0, ev_ild3, ev_ic1, ev_iadd, ea_iald, ev_ic2, ev_cv2_11, pz_wi_gc, pz_wi_ga, pz_wi_gn, pz_wi_gl, pz_wi_gr, pz_wi_same, pz_wi_X, pz_wl_gc, pz_wl_ga, pz_wl_gn, pz_wl_gi, pz_wl_gr, pz_wl_same, pz_wl_X, pz_wr_gc, pz_wr_ga, pz_wr_gn, pz_wr_gi, pz_wr_gl, pz_wr_same, pz_wr_X, so_0 hS, ea_ialde he, g120, ea_ialde he1]
  (try simp (disch := omega) only [nI_clamp, pz_in_nI2, pz_in_nI2L, pv_gt, nI_add, nI_addL, nI_Ladd, pk_mul, nI_mulL, nI_Lmul, pk_sub, nI_subL, nI_Lsub, nI_inc, nI_clampL, Nat.add_sub_cancel, pz_wi_else, pz_wl_else, vu_eq, vu_ne, pz_wi_gc, pz_wi_ga, pz_wi_gn, pz_wi_gl, pz_wi_gr, pz_wi_same, pz_wi_X, pz_wl_gc, pz_wl_ga, pz_wl_gn, pz_wl_gi, pz_wl_gr, pz_wl_same, pz_wl_X, pz_wr_gc, pz_wr_ga, pz_wr_gn, pz_wr_gi, pz_wr_gl, pz_wr_same, pz_wr_X, so_0 hS, ea_ialde he, g120, ea_ialde he1])
  (try refine po_gI (by first | exact pz_in_nI (by omega) (by decide) | decide | assumption) ?_)
  (try refine po_gI (by first | exact pz_in_nI (by omega) (by decide) | decide | assumption) ?_)
  (try refine po_gP (Nat.le_of_ble_eq_true rfl) ?_)
  refine po_call (by omega) (pm_mono h2 (fun r2 h3 => ?_))
  obtain ⟨v2, M2⟩ := r2
  obtain ⟨ey, hX2, hL2, hz2⟩ := h3
  simp only at ey hX2 hL2 hz2
  subst ey
  refine pw_blk (mi := mz_0) (b := bz_0_556) rfl rfl ?_
  simp only [bz_0_556, pz_cut_t, pz_cut_f, pz_cut_n, pv_gt, pv_ts, pv_tn, ev_ic_eq, pz_wi_gc, pz_wi_ga, pz_wi_gn, pz_wi_gl, pz_wi_gr, pz_wi_same, pz_wi_X, pz_wl_gc, pz_wl_ga, pz_wl_gn, pz_wl_gi, pz_wl_gr, pz_wl_same, pz_wl_X, pz_wr_gc, pz_wr_ga, pz_wr_gn, pz_wr_gi, pz_wr_gl, pz_wr_same, pz_wr_X, so_0 hS, ea_ialde he]
  (try simp (disch := omega) only [nI_clamp, pz_in_nI2, pz_in_nI2L, pv_gt, nI_add, nI_addL, nI_Ladd, pk_mul, nI_mulL, nI_Lmul, pk_sub, nI_subL, nI_Lsub, nI_inc, nI_clampL, Nat.add_sub_cancel, pz_wi_else, pz_wl_else, vu_eq, vu_ne, pz_wi_gc, pz_wi_ga, pz_wi_gn, pz_wi_gl, pz_wi_gr, pz_wi_same, pz_wi_X, pz_wl_gc, pz_wl_ga, pz_wl_gn, pz_wl_gi, pz_wl_gr, pz_wl_same, pz_wl_X, pz_wr_gc, pz_wr_ga, pz_wr_gn, pz_wr_gi, pz_wr_gl, pz_wr_same, pz_wr_X, so_0 hS, ea_ialde he])
  refine po_brP (fun q556 => ?_) (fun q556 => ?_)
  · first
    | exact absurd q556 (by decide)
    | exact absurd trivial q556
    | exact q556.elim
    | (exfalso; (try simp (disch := omega) only [nI_ltI, nI_leI, nI_eq, nI_ltL, nI_leL, nI_eqL, nI_Llt, nI_Lle, nI_Leq, nI_eqm, nI_meq, nI_ltm, nI_lem, nI_mlt, nI_mle, lg0, lgl, lgg, lgle, lgge, Int32.not_lt, Int32.not_le, Int64.not_lt, Int64.not_le, not_false_eq_true, not_true_eq_false, Decidable.not_not, ge_iff_le, gt_iff_lt] at q556) <;> omega)
    | exact absurd q556 (by with_reducible assumption)
    | exact absurd (by with_reducible assumption) q556
    | exact absurd (Decidable.not_not.mp q556) (by with_reducible assumption)
    | exact absurd (by with_reducible assumption) (Int32.not_le.mpr q556)
    | exact absurd (by with_reducible assumption) (Int32.not_lt.mpr q556)
    | skip
      (try simp (disch := omega) only [nI_ltI, nI_leI, nI_eq, nI_ltL, nI_leL, nI_eqL, nI_Llt, nI_Lle, nI_Leq, nI_eqm, nI_meq, nI_ltm, nI_lem, nI_mlt, nI_mle, lg0, lgl, lgg, lgle, lgge, Int32.not_lt, Int32.not_le, Int64.not_lt, Int64.not_le, not_false_eq_true, not_true_eq_false, Decidable.not_not, ge_iff_le, gt_iff_lt] at q556)
      exact nx M2 ⟨hX2.trans hX, hL2, hz2⟩
  · exact absurd trivial q556
theorem cs_11 (hX6 : i + 6 ≤ X.1) (hX7 : X.1 ≤ 3072) (h : INV X M) (nx : ∀ M', INV X M' → pw 1000 0 (1484, [some (.retAddr 0), some (.ref 0), some (.ref 120), some (.int (nI i))], [], M') Q) : pw 1000 0 (561, [some (.retAddr 0), some (.ref 0), some (.ref 120), some (.int (nI i))], [], M) Q := by
  obtain ⟨hX, hL, hz⟩ := h
  have hS := hL.S
  have he : pz_ex M.1 0 = some (0, X.1, X.2) := by rw [hX]; rfl
  have OP := opp_I (a := 25) (b := 26) (by decide +kernel) (by decide +kernel) hz hL (show opp 999 25 26 [.int (X.2 (i + 1))] M from op_saved (by decide) hL)
  refine pw_blk (mi := mz_0) (b := bz_0_561) rfl rfl ?_
  simp only [bz_0_561, pz_cut_t, pz_cut_f, pz_cut_n, pv_gt, pv_ts, pv_tn, ev_ald1, ev_eld1, ev_ald0, ev_eld0, ev_ild3, ev_ic1, ev_iadd, ea_iald, ev_cv1_0, pz_wi_gc, pz_wi_ga, pz_wi_gn, pz_wi_gl, pz_wi_gr, pz_wi_same, pz_wi_X, pz_wl_gc, pz_wl_ga, pz_wl_gn, pz_wl_gi, pz_wl_gr, pz_wl_same, pz_wl_X, pz_wr_gc, pz_wr_ga, pz_wr_gn, pz_wr_gi, pz_wr_gl, pz_wr_same, pz_wr_X, so_0 hS, ea_ialde he]
  (try simp (disch := omega) only [nI_clamp, pz_in_nI2, pz_in_nI2L, pv_gt, nI_add, nI_addL, nI_Ladd, pk_mul, nI_mulL, nI_Lmul, pk_sub, nI_subL, nI_Lsub, nI_inc, nI_clampL, Nat.add_sub_cancel, pz_wi_else, pz_wl_else, vu_eq, vu_ne, pz_wi_gc, pz_wi_ga, pz_wi_gn, pz_wi_gl, pz_wi_gr, pz_wi_same, pz_wi_X, pz_wl_gc, pz_wl_ga, pz_wl_gn, pz_wl_gi, pz_wl_gr, pz_wl_same, pz_wl_X, pz_wr_gc, pz_wr_ga, pz_wr_gn, pz_wr_gi, pz_wr_gl, pz_wr_same, pz_wr_X, so_0 hS, ea_ialde he])
  (try refine po_gI (by first | exact pz_in_nI (by omega) (by decide) | decide | assumption) ?_)
  (try refine po_gP (Nat.le_of_ble_eq_true rfl) ?_)
  refine po_call (by omega) (pm_mono OP (fun r1 h1 => ?_))
  obtain ⟨v1, M1⟩ := r1
  obtain ⟨x, ex, hX1, g120, h2⟩ := h1
  simp only at ex hX1 g120 h2
  subst ex
  have he1 : pz_ex M1.1 0 = some (0, X.1, X.2) := by rw [hX1, hX]; rfl
  refine pw_blk (mi := mz_0) (b := bz_0_570) rfl rfl ?_
  simp only [bz_0_570, pz_cut_t, pz_cut_f, pz_cut_n, pv_gt, pv_ts, pv_tn, ev_ald2, ev_eld2, ev_ald0, ev_eld0, ev_ild3, ev_ic1, ev_iadd, ea_iald, ev_cv1_11, pz_wi_gc, pz_wi_ga, pz_wi_gn, pz_wi_gl, pz_wi_gr, pz_wi_same, pz_wi_X, pz_wl_gc, pz_wl_ga, pz_wl_gn, pz_wl_gi, pz_wl_gr, pz_wl_same, pz_wl_X, pz_wr_gc, pz_wr_ga, pz_wr_gn, pz_wr_gi, pz_wr_gl, pz_wr_same, pz_wr_X, so_0 hS, ea_ialde he, g120, ea_ialde he1]
  (try simp (disch := omega) only [nI_clamp, pz_in_nI2, pz_in_nI2L, pv_gt, nI_add, nI_addL, nI_Ladd, pk_mul, nI_mulL, nI_Lmul, pk_sub, nI_subL, nI_Lsub, nI_inc, nI_clampL, Nat.add_sub_cancel, pz_wi_else, pz_wl_else, vu_eq, vu_ne, pz_wi_gc, pz_wi_ga, pz_wi_gn, pz_wi_gl, pz_wi_gr, pz_wi_same, pz_wi_X, pz_wl_gc, pz_wl_ga, pz_wl_gn, pz_wl_gi, pz_wl_gr, pz_wl_same, pz_wl_X, pz_wr_gc, pz_wr_ga, pz_wr_gn, pz_wr_gi, pz_wr_gl, pz_wr_same, pz_wr_X, so_0 hS, ea_ialde he, g120, ea_ialde he1])
  (try refine po_gI (by first | exact pz_in_nI (by omega) (by decide) | decide | assumption) ?_)
  (try refine po_gP (Nat.le_of_ble_eq_true rfl) ?_)
  refine po_call (by omega) (pm_mono h2 (fun r2 h3 => ?_))
  obtain ⟨v2, M2⟩ := r2
  obtain ⟨ey, hX2, hL2, hz2⟩ := h3
  simp only at ey hX2 hL2 hz2
  subst ey
  refine pw_blk (mi := mz_0) (b := bz_0_579) rfl rfl ?_
  simp only [bz_0_579, pz_cut_t, pz_cut_f, pz_cut_n, pv_gt, pv_ts, pv_tn, ev_ic_eq, pz_wi_gc, pz_wi_ga, pz_wi_gn, pz_wi_gl, pz_wi_gr, pz_wi_same, pz_wi_X, pz_wl_gc, pz_wl_ga, pz_wl_gn, pz_wl_gi, pz_wl_gr, pz_wl_same, pz_wl_X, pz_wr_gc, pz_wr_ga, pz_wr_gn, pz_wr_gi, pz_wr_gl, pz_wr_same, pz_wr_X, so_0 hS, ea_ialde he]
  (try simp (disch := omega) only [nI_clamp, pz_in_nI2, pz_in_nI2L, pv_gt, nI_add, nI_addL, nI_Ladd, pk_mul, nI_mulL, nI_Lmul, pk_sub, nI_subL, nI_Lsub, nI_inc, nI_clampL, Nat.add_sub_cancel, pz_wi_else, pz_wl_else, vu_eq, vu_ne, pz_wi_gc, pz_wi_ga, pz_wi_gn, pz_wi_gl, pz_wi_gr, pz_wi_same, pz_wi_X, pz_wl_gc, pz_wl_ga, pz_wl_gn, pz_wl_gi, pz_wl_gr, pz_wl_same, pz_wl_X, pz_wr_gc, pz_wr_ga, pz_wr_gn, pz_wr_gi, pz_wr_gl, pz_wr_same, pz_wr_X, so_0 hS, ea_ialde he])
  refine po_brP (fun q579 => ?_) (fun q579 => ?_)
  · first
    | exact absurd q579 (by decide)
    | exact absurd trivial q579
    | exact q579.elim
    | (exfalso; (try simp (disch := omega) only [nI_ltI, nI_leI, nI_eq, nI_ltL, nI_leL, nI_eqL, nI_Llt, nI_Lle, nI_Leq, nI_eqm, nI_meq, nI_ltm, nI_lem, nI_mlt, nI_mle, lg0, lgl, lgg, lgle, lgge, Int32.not_lt, Int32.not_le, Int64.not_lt, Int64.not_le, not_false_eq_true, not_true_eq_false, Decidable.not_not, ge_iff_le, gt_iff_lt] at q579) <;> omega)
    | exact absurd q579 (by with_reducible assumption)
    | exact absurd (by with_reducible assumption) q579
    | exact absurd (Decidable.not_not.mp q579) (by with_reducible assumption)
    | exact absurd (by with_reducible assumption) (Int32.not_le.mpr q579)
    | exact absurd (by with_reducible assumption) (Int32.not_lt.mpr q579)
    | skip
      (try simp (disch := omega) only [nI_ltI, nI_leI, nI_eq, nI_ltL, nI_leL, nI_eqL, nI_Llt, nI_Lle, nI_Leq, nI_eqm, nI_meq, nI_ltm, nI_lem, nI_mlt, nI_mle, lg0, lgl, lgg, lgle, lgge, Int32.not_lt, Int32.not_le, Int64.not_lt, Int64.not_le, not_false_eq_true, not_true_eq_false, Decidable.not_not, ge_iff_le, gt_iff_lt] at q579)
      exact nx M2 ⟨hX2.trans hX, hL2, hz2⟩
  · exact absurd trivial q579
theorem cs_12 (hX6 : i + 6 ≤ X.1) (hX7 : X.1 ≤ 3072) (h : INV X M) (nx : ∀ M', INV X M' → pw 1000 0 (1484, [some (.retAddr 0), some (.ref 0), some (.ref 120), some (.int (nI i))], [], M') Q) : pw 1000 0 (584, [some (.retAddr 0), some (.ref 0), some (.ref 120), some (.int (nI i))], [], M) Q := by
  obtain ⟨hX, hL, hz⟩ := h
  have hS := hL.S
  have he : pz_ex M.1 0 = some (0, X.1, X.2) := by rw [hX]; rfl
  have OP := opp_I (a := 27) (b := 28) (by decide +kernel) (by decide +kernel) hz hL (show opp 999 27 28 [.int (X.2 (i + 1)), .int (X.2 (i + 2))] M from op_play (by decide) hL)
  refine pw_blk (mi := mz_0) (b := bz_0_584) rfl rfl ?_
  simp only [bz_0_584, pz_cut_t, pz_cut_f, pz_cut_n, pv_gt, pv_ts, pv_tn, ev_ald1, ev_eld1, ev_ald0, ev_eld0, ev_ild3, ev_ic1, ev_iadd, ea_iald, ev_ic2, ev_cv2_0, pz_wi_gc, pz_wi_ga, pz_wi_gn, pz_wi_gl, pz_wi_gr, pz_wi_same, pz_wi_X, pz_wl_gc, pz_wl_ga, pz_wl_gn, pz_wl_gi, pz_wl_gr, pz_wl_same, pz_wl_X, pz_wr_gc, pz_wr_ga, pz_wr_gn, pz_wr_gi, pz_wr_gl, pz_wr_same, pz_wr_X, so_0 hS, ea_ialde he]
  (try simp (disch := omega) only [nI_clamp, pz_in_nI2, pz_in_nI2L, pv_gt, nI_add, nI_addL, nI_Ladd, pk_mul, nI_mulL, nI_Lmul, pk_sub, nI_subL, nI_Lsub, nI_inc, nI_clampL, Nat.add_sub_cancel, pz_wi_else, pz_wl_else, vu_eq, vu_ne, pz_wi_gc, pz_wi_ga, pz_wi_gn, pz_wi_gl, pz_wi_gr, pz_wi_same, pz_wi_X, pz_wl_gc, pz_wl_ga, pz_wl_gn, pz_wl_gi, pz_wl_gr, pz_wl_same, pz_wl_X, pz_wr_gc, pz_wr_ga, pz_wr_gn, pz_wr_gi, pz_wr_gl, pz_wr_same, pz_wr_X, so_0 hS, ea_ialde he])
  (try refine po_gI (by first | exact pz_in_nI (by omega) (by decide) | decide | assumption) ?_)
  (try refine po_gI (by first | exact pz_in_nI (by omega) (by decide) | decide | assumption) ?_)
  (try refine po_gP (Nat.le_of_ble_eq_true rfl) ?_)
  refine po_call (by omega) (pm_mono OP (fun r1 h1 => ?_))
  obtain ⟨v1, M1⟩ := r1
  obtain ⟨x, ex, hX1, g120, h2⟩ := h1
  simp only at ex hX1 g120 h2
  subst ex
  have he1 : pz_ex M1.1 0 = some (0, X.1, X.2) := by rw [hX1, hX]; rfl
  refine pw_blk (mi := mz_0) (b := bz_0_598) rfl rfl ?_
  simp only [bz_0_598, pz_cut_t, pz_cut_f, pz_cut_n, pv_gt, pv_ts, pv_tn, ev_ald2, ev_eld2, ev_ald0, ev_eld0, ev_ild3, ev_ic1, ev_iadd, ea_iald, ev_ic2, ev_cv2_11, pz_wi_gc, pz_wi_ga, pz_wi_gn, pz_wi_gl, pz_wi_gr, pz_wi_same, pz_wi_X, pz_wl_gc, pz_wl_ga, pz_wl_gn, pz_wl_gi, pz_wl_gr, pz_wl_same, pz_wl_X, pz_wr_gc, pz_wr_ga, pz_wr_gn, pz_wr_gi, pz_wr_gl, pz_wr_same, pz_wr_X, so_0 hS, ea_ialde he, g120, ea_ialde he1]
  (try simp (disch := omega) only [nI_clamp, pz_in_nI2, pz_in_nI2L, pv_gt, nI_add, nI_addL, nI_Ladd, pk_mul, nI_mulL, nI_Lmul, pk_sub, nI_subL, nI_Lsub, nI_inc, nI_clampL, Nat.add_sub_cancel, pz_wi_else, pz_wl_else, vu_eq, vu_ne, pz_wi_gc, pz_wi_ga, pz_wi_gn, pz_wi_gl, pz_wi_gr, pz_wi_same, pz_wi_X, pz_wl_gc, pz_wl_ga, pz_wl_gn, pz_wl_gi, pz_wl_gr, pz_wl_same, pz_wl_X, pz_wr_gc, pz_wr_ga, pz_wr_gn, pz_wr_gi, pz_wr_gl, pz_wr_same, pz_wr_X, so_0 hS, ea_ialde he, g120, ea_ialde he1])
  (try refine po_gI (by first | exact pz_in_nI (by omega) (by decide) | decide | assumption) ?_)
  (try refine po_gI (by first | exact pz_in_nI (by omega) (by decide) | decide | assumption) ?_)
  (try refine po_gP (Nat.le_of_ble_eq_true rfl) ?_)
  refine po_call (by omega) (pm_mono h2 (fun r2 h3 => ?_))
  obtain ⟨v2, M2⟩ := r2
  obtain ⟨ey, hX2, hL2, hz2⟩ := h3
  simp only at ey hX2 hL2 hz2
  subst ey
  refine pw_blk (mi := mz_0) (b := bz_0_612) rfl rfl ?_
  simp only [bz_0_612, pz_cut_t, pz_cut_f, pz_cut_n, pv_gt, pv_ts, pv_tn, ev_ic_eq, pz_wi_gc, pz_wi_ga, pz_wi_gn, pz_wi_gl, pz_wi_gr, pz_wi_same, pz_wi_X, pz_wl_gc, pz_wl_ga, pz_wl_gn, pz_wl_gi, pz_wl_gr, pz_wl_same, pz_wl_X, pz_wr_gc, pz_wr_ga, pz_wr_gn, pz_wr_gi, pz_wr_gl, pz_wr_same, pz_wr_X, so_0 hS, ea_ialde he]
  (try simp (disch := omega) only [nI_clamp, pz_in_nI2, pz_in_nI2L, pv_gt, nI_add, nI_addL, nI_Ladd, pk_mul, nI_mulL, nI_Lmul, pk_sub, nI_subL, nI_Lsub, nI_inc, nI_clampL, Nat.add_sub_cancel, pz_wi_else, pz_wl_else, vu_eq, vu_ne, pz_wi_gc, pz_wi_ga, pz_wi_gn, pz_wi_gl, pz_wi_gr, pz_wi_same, pz_wi_X, pz_wl_gc, pz_wl_ga, pz_wl_gn, pz_wl_gi, pz_wl_gr, pz_wl_same, pz_wl_X, pz_wr_gc, pz_wr_ga, pz_wr_gn, pz_wr_gi, pz_wr_gl, pz_wr_same, pz_wr_X, so_0 hS, ea_ialde he])
  refine po_brP (fun q612 => ?_) (fun q612 => ?_)
  · first
    | exact absurd q612 (by decide)
    | exact absurd trivial q612
    | exact q612.elim
    | (exfalso; (try simp (disch := omega) only [nI_ltI, nI_leI, nI_eq, nI_ltL, nI_leL, nI_eqL, nI_Llt, nI_Lle, nI_Leq, nI_eqm, nI_meq, nI_ltm, nI_lem, nI_mlt, nI_mle, lg0, lgl, lgg, lgle, lgge, Int32.not_lt, Int32.not_le, Int64.not_lt, Int64.not_le, not_false_eq_true, not_true_eq_false, Decidable.not_not, ge_iff_le, gt_iff_lt] at q612) <;> omega)
    | exact absurd q612 (by with_reducible assumption)
    | exact absurd (by with_reducible assumption) q612
    | exact absurd (Decidable.not_not.mp q612) (by with_reducible assumption)
    | exact absurd (by with_reducible assumption) (Int32.not_le.mpr q612)
    | exact absurd (by with_reducible assumption) (Int32.not_lt.mpr q612)
    | skip
      (try simp (disch := omega) only [nI_ltI, nI_leI, nI_eq, nI_ltL, nI_leL, nI_eqL, nI_Llt, nI_Lle, nI_Leq, nI_eqm, nI_meq, nI_ltm, nI_lem, nI_mlt, nI_mle, lg0, lgl, lgg, lgle, lgge, Int32.not_lt, Int32.not_le, Int64.not_lt, Int64.not_le, not_false_eq_true, not_true_eq_false, Decidable.not_not, ge_iff_le, gt_iff_lt] at q612)
      exact nx M2 ⟨hX2.trans hX, hL2, hz2⟩
  · exact absurd trivial q612
theorem cs_13 (hX6 : i + 6 ≤ X.1) (hX7 : X.1 ≤ 3072) (h : INV X M) (nx : ∀ M', INV X M' → pw 1000 0 (1484, [some (.retAddr 0), some (.ref 0), some (.ref 120), some (.int (nI i))], [], M') Q) : pw 1000 0 (617, [some (.retAddr 0), some (.ref 0), some (.ref 120), some (.int (nI i))], [], M) Q := by
  obtain ⟨hX, hL, hz⟩ := h
  have hS := hL.S
  have he : pz_ex M.1 0 = some (0, X.1, X.2) := by rw [hX]; rfl
  have OP := opp_I (a := 29) (b := 30) (by decide +kernel) (by decide +kernel) hz hL (show opp 999 29 30 [.int (X.2 (i + 1)), .int (X.2 (i + 2))] M from op_slow (by decide) hL)
  refine pw_blk (mi := mz_0) (b := bz_0_617) rfl rfl ?_
  simp only [bz_0_617, pz_cut_t, pz_cut_f, pz_cut_n, pv_gt, pv_ts, pv_tn, ev_ald1, ev_eld1, ev_ald0, ev_eld0, ev_ild3, ev_ic1, ev_iadd, ea_iald, ev_ic2, ev_cv2_0, pz_wi_gc, pz_wi_ga, pz_wi_gn, pz_wi_gl, pz_wi_gr, pz_wi_same, pz_wi_X, pz_wl_gc, pz_wl_ga, pz_wl_gn, pz_wl_gi, pz_wl_gr, pz_wl_same, pz_wl_X, pz_wr_gc, pz_wr_ga, pz_wr_gn, pz_wr_gi, pz_wr_gl, pz_wr_same, pz_wr_X, so_0 hS, ea_ialde he]
  (try simp (disch := omega) only [nI_clamp, pz_in_nI2, pz_in_nI2L, pv_gt, nI_add, nI_addL, nI_Ladd, pk_mul, nI_mulL, nI_Lmul, pk_sub, nI_subL, nI_Lsub, nI_inc, nI_clampL, Nat.add_sub_cancel, pz_wi_else, pz_wl_else, vu_eq, vu_ne, pz_wi_gc, pz_wi_ga, pz_wi_gn, pz_wi_gl, pz_wi_gr, pz_wi_same, pz_wi_X, pz_wl_gc, pz_wl_ga, pz_wl_gn, pz_wl_gi, pz_wl_gr, pz_wl_same, pz_wl_X, pz_wr_gc, pz_wr_ga, pz_wr_gn, pz_wr_gi, pz_wr_gl, pz_wr_same, pz_wr_X, so_0 hS, ea_ialde he])
  (try refine po_gI (by first | exact pz_in_nI (by omega) (by decide) | decide | assumption) ?_)
  (try refine po_gI (by first | exact pz_in_nI (by omega) (by decide) | decide | assumption) ?_)
  (try refine po_gP (Nat.le_of_ble_eq_true rfl) ?_)
  refine po_call (by omega) (pm_mono OP (fun r1 h1 => ?_))
  obtain ⟨v1, M1⟩ := r1
  obtain ⟨x, ex, hX1, g120, h2⟩ := h1
  simp only at ex hX1 g120 h2
  subst ex
  have he1 : pz_ex M1.1 0 = some (0, X.1, X.2) := by rw [hX1, hX]; rfl
  refine pw_blk (mi := mz_0) (b := bz_0_631) rfl rfl ?_
  simp only [bz_0_631, pz_cut_t, pz_cut_f, pz_cut_n, pv_gt, pv_ts, pv_tn, ev_ald2, ev_eld2, ev_ald0, ev_eld0, ev_ild3, ev_ic1, ev_iadd, ea_iald, ev_ic2, ev_cv2_11, pz_wi_gc, pz_wi_ga, pz_wi_gn, pz_wi_gl, pz_wi_gr, pz_wi_same, pz_wi_X, pz_wl_gc, pz_wl_ga, pz_wl_gn, pz_wl_gi, pz_wl_gr, pz_wl_same, pz_wl_X, pz_wr_gc, pz_wr_ga, pz_wr_gn, pz_wr_gi, pz_wr_gl, pz_wr_same, pz_wr_X, so_0 hS, ea_ialde he, g120, ea_ialde he1]
  (try simp (disch := omega) only [nI_clamp, pz_in_nI2, pz_in_nI2L, pv_gt, nI_add, nI_addL, nI_Ladd, pk_mul, nI_mulL, nI_Lmul, pk_sub, nI_subL, nI_Lsub, nI_inc, nI_clampL, Nat.add_sub_cancel, pz_wi_else, pz_wl_else, vu_eq, vu_ne, pz_wi_gc, pz_wi_ga, pz_wi_gn, pz_wi_gl, pz_wi_gr, pz_wi_same, pz_wi_X, pz_wl_gc, pz_wl_ga, pz_wl_gn, pz_wl_gi, pz_wl_gr, pz_wl_same, pz_wl_X, pz_wr_gc, pz_wr_ga, pz_wr_gn, pz_wr_gi, pz_wr_gl, pz_wr_same, pz_wr_X, so_0 hS, ea_ialde he, g120, ea_ialde he1])
  (try refine po_gI (by first | exact pz_in_nI (by omega) (by decide) | decide | assumption) ?_)
  (try refine po_gI (by first | exact pz_in_nI (by omega) (by decide) | decide | assumption) ?_)
  (try refine po_gP (Nat.le_of_ble_eq_true rfl) ?_)
  refine po_call (by omega) (pm_mono h2 (fun r2 h3 => ?_))
  obtain ⟨v2, M2⟩ := r2
  obtain ⟨ey, hX2, hL2, hz2⟩ := h3
  simp only at ey hX2 hL2 hz2
  subst ey
  refine pw_blk (mi := mz_0) (b := bz_0_645) rfl rfl ?_
  simp only [bz_0_645, pz_cut_t, pz_cut_f, pz_cut_n, pv_gt, pv_ts, pv_tn, ev_ic_eq, pz_wi_gc, pz_wi_ga, pz_wi_gn, pz_wi_gl, pz_wi_gr, pz_wi_same, pz_wi_X, pz_wl_gc, pz_wl_ga, pz_wl_gn, pz_wl_gi, pz_wl_gr, pz_wl_same, pz_wl_X, pz_wr_gc, pz_wr_ga, pz_wr_gn, pz_wr_gi, pz_wr_gl, pz_wr_same, pz_wr_X, so_0 hS, ea_ialde he]
  (try simp (disch := omega) only [nI_clamp, pz_in_nI2, pz_in_nI2L, pv_gt, nI_add, nI_addL, nI_Ladd, pk_mul, nI_mulL, nI_Lmul, pk_sub, nI_subL, nI_Lsub, nI_inc, nI_clampL, Nat.add_sub_cancel, pz_wi_else, pz_wl_else, vu_eq, vu_ne, pz_wi_gc, pz_wi_ga, pz_wi_gn, pz_wi_gl, pz_wi_gr, pz_wi_same, pz_wi_X, pz_wl_gc, pz_wl_ga, pz_wl_gn, pz_wl_gi, pz_wl_gr, pz_wl_same, pz_wl_X, pz_wr_gc, pz_wr_ga, pz_wr_gn, pz_wr_gi, pz_wr_gl, pz_wr_same, pz_wr_X, so_0 hS, ea_ialde he])
  refine po_brP (fun q645 => ?_) (fun q645 => ?_)
  · first
    | exact absurd q645 (by decide)
    | exact absurd trivial q645
    | exact q645.elim
    | (exfalso; (try simp (disch := omega) only [nI_ltI, nI_leI, nI_eq, nI_ltL, nI_leL, nI_eqL, nI_Llt, nI_Lle, nI_Leq, nI_eqm, nI_meq, nI_ltm, nI_lem, nI_mlt, nI_mle, lg0, lgl, lgg, lgle, lgge, Int32.not_lt, Int32.not_le, Int64.not_lt, Int64.not_le, not_false_eq_true, not_true_eq_false, Decidable.not_not, ge_iff_le, gt_iff_lt] at q645) <;> omega)
    | exact absurd q645 (by with_reducible assumption)
    | exact absurd (by with_reducible assumption) q645
    | exact absurd (Decidable.not_not.mp q645) (by with_reducible assumption)
    | exact absurd (by with_reducible assumption) (Int32.not_le.mpr q645)
    | exact absurd (by with_reducible assumption) (Int32.not_lt.mpr q645)
    | skip
      (try simp (disch := omega) only [nI_ltI, nI_leI, nI_eq, nI_ltL, nI_leL, nI_eqL, nI_Llt, nI_Lle, nI_Leq, nI_eqm, nI_meq, nI_ltm, nI_lem, nI_mlt, nI_mle, lg0, lgl, lgg, lgle, lgge, Int32.not_lt, Int32.not_le, Int64.not_lt, Int64.not_le, not_false_eq_true, not_true_eq_false, Decidable.not_not, ge_iff_le, gt_iff_lt] at q645)
      exact nx M2 ⟨hX2.trans hX, hL2, hz2⟩
  · exact absurd trivial q645
theorem cs_14 (hX6 : i + 6 ≤ X.1) (hX7 : X.1 ≤ 3072) (h : INV X M) (nx : ∀ M', INV X M' → pw 1000 0 (1484, [some (.retAddr 0), some (.ref 0), some (.ref 120), some (.int (nI i))], [], M') Q) : pw 1000 0 (650, [some (.retAddr 0), some (.ref 0), some (.ref 120), some (.int (nI i))], [], M) Q := by
  obtain ⟨hX, hL, hz⟩ := h
  have hS := hL.S
  have he : pz_ex M.1 0 = some (0, X.1, X.2) := by rw [hX]; rfl
  have OP := opp_I (a := 31) (b := 32) (by decide +kernel) (by decide +kernel) hz hL (show opp 999 31 32 [.int (X.2 (i + 1))] M from op_latest (by decide) hL)
  refine pw_blk (mi := mz_0) (b := bz_0_650) rfl rfl ?_
  simp only [bz_0_650, pz_cut_t, pz_cut_f, pz_cut_n, pv_gt, pv_ts, pv_tn, ev_ald1, ev_eld1, ev_ald0, ev_eld0, ev_ild3, ev_ic1, ev_iadd, ea_iald, ev_cv1_0, pz_wi_gc, pz_wi_ga, pz_wi_gn, pz_wi_gl, pz_wi_gr, pz_wi_same, pz_wi_X, pz_wl_gc, pz_wl_ga, pz_wl_gn, pz_wl_gi, pz_wl_gr, pz_wl_same, pz_wl_X, pz_wr_gc, pz_wr_ga, pz_wr_gn, pz_wr_gi, pz_wr_gl, pz_wr_same, pz_wr_X, so_0 hS, ea_ialde he]
  (try simp (disch := omega) only [nI_clamp, pz_in_nI2, pz_in_nI2L, pv_gt, nI_add, nI_addL, nI_Ladd, pk_mul, nI_mulL, nI_Lmul, pk_sub, nI_subL, nI_Lsub, nI_inc, nI_clampL, Nat.add_sub_cancel, pz_wi_else, pz_wl_else, vu_eq, vu_ne, pz_wi_gc, pz_wi_ga, pz_wi_gn, pz_wi_gl, pz_wi_gr, pz_wi_same, pz_wi_X, pz_wl_gc, pz_wl_ga, pz_wl_gn, pz_wl_gi, pz_wl_gr, pz_wl_same, pz_wl_X, pz_wr_gc, pz_wr_ga, pz_wr_gn, pz_wr_gi, pz_wr_gl, pz_wr_same, pz_wr_X, so_0 hS, ea_ialde he])
  (try refine po_gI (by first | exact pz_in_nI (by omega) (by decide) | decide | assumption) ?_)
  (try refine po_gP (Nat.le_of_ble_eq_true rfl) ?_)
  refine po_call (by omega) (pm_mono OP (fun r1 h1 => ?_))
  obtain ⟨v1, M1⟩ := r1
  obtain ⟨x, ex, hX1, g120, h2⟩ := h1
  simp only at ex hX1 g120 h2
  subst ex
  have he1 : pz_ex M1.1 0 = some (0, X.1, X.2) := by rw [hX1, hX]; rfl
  refine pw_blk (mi := mz_0) (b := bz_0_659) rfl rfl ?_
  simp only [bz_0_659, pz_cut_t, pz_cut_f, pz_cut_n, pv_gt, pv_ts, pv_tn, ev_ald2, ev_eld2, ev_ald0, ev_eld0, ev_ild3, ev_ic1, ev_iadd, ea_iald, ev_cv1_11, pz_wi_gc, pz_wi_ga, pz_wi_gn, pz_wi_gl, pz_wi_gr, pz_wi_same, pz_wi_X, pz_wl_gc, pz_wl_ga, pz_wl_gn, pz_wl_gi, pz_wl_gr, pz_wl_same, pz_wl_X, pz_wr_gc, pz_wr_ga, pz_wr_gn, pz_wr_gi, pz_wr_gl, pz_wr_same, pz_wr_X, so_0 hS, ea_ialde he, g120, ea_ialde he1]
  (try simp (disch := omega) only [nI_clamp, pz_in_nI2, pz_in_nI2L, pv_gt, nI_add, nI_addL, nI_Ladd, pk_mul, nI_mulL, nI_Lmul, pk_sub, nI_subL, nI_Lsub, nI_inc, nI_clampL, Nat.add_sub_cancel, pz_wi_else, pz_wl_else, vu_eq, vu_ne, pz_wi_gc, pz_wi_ga, pz_wi_gn, pz_wi_gl, pz_wi_gr, pz_wi_same, pz_wi_X, pz_wl_gc, pz_wl_ga, pz_wl_gn, pz_wl_gi, pz_wl_gr, pz_wl_same, pz_wl_X, pz_wr_gc, pz_wr_ga, pz_wr_gn, pz_wr_gi, pz_wr_gl, pz_wr_same, pz_wr_X, so_0 hS, ea_ialde he, g120, ea_ialde he1])
  (try refine po_gI (by first | exact pz_in_nI (by omega) (by decide) | decide | assumption) ?_)
  (try refine po_gP (Nat.le_of_ble_eq_true rfl) ?_)
  refine po_call (by omega) (pm_mono h2 (fun r2 h3 => ?_))
  obtain ⟨v2, M2⟩ := r2
  obtain ⟨ey, hX2, hL2, hz2⟩ := h3
  simp only at ey hX2 hL2 hz2
  subst ey
  refine pw_blk (mi := mz_0) (b := bz_0_668) rfl rfl ?_
  simp only [bz_0_668, pz_cut_t, pz_cut_f, pz_cut_n, pv_gt, pv_ts, pv_tn, ev_ic_eq, pz_wi_gc, pz_wi_ga, pz_wi_gn, pz_wi_gl, pz_wi_gr, pz_wi_same, pz_wi_X, pz_wl_gc, pz_wl_ga, pz_wl_gn, pz_wl_gi, pz_wl_gr, pz_wl_same, pz_wl_X, pz_wr_gc, pz_wr_ga, pz_wr_gn, pz_wr_gi, pz_wr_gl, pz_wr_same, pz_wr_X, so_0 hS, ea_ialde he]
  (try simp (disch := omega) only [nI_clamp, pz_in_nI2, pz_in_nI2L, pv_gt, nI_add, nI_addL, nI_Ladd, pk_mul, nI_mulL, nI_Lmul, pk_sub, nI_subL, nI_Lsub, nI_inc, nI_clampL, Nat.add_sub_cancel, pz_wi_else, pz_wl_else, vu_eq, vu_ne, pz_wi_gc, pz_wi_ga, pz_wi_gn, pz_wi_gl, pz_wi_gr, pz_wi_same, pz_wi_X, pz_wl_gc, pz_wl_ga, pz_wl_gn, pz_wl_gi, pz_wl_gr, pz_wl_same, pz_wl_X, pz_wr_gc, pz_wr_ga, pz_wr_gn, pz_wr_gi, pz_wr_gl, pz_wr_same, pz_wr_X, so_0 hS, ea_ialde he])
  refine po_brP (fun q668 => ?_) (fun q668 => ?_)
  · first
    | exact absurd q668 (by decide)
    | exact absurd trivial q668
    | exact q668.elim
    | (exfalso; (try simp (disch := omega) only [nI_ltI, nI_leI, nI_eq, nI_ltL, nI_leL, nI_eqL, nI_Llt, nI_Lle, nI_Leq, nI_eqm, nI_meq, nI_ltm, nI_lem, nI_mlt, nI_mle, lg0, lgl, lgg, lgle, lgge, Int32.not_lt, Int32.not_le, Int64.not_lt, Int64.not_le, not_false_eq_true, not_true_eq_false, Decidable.not_not, ge_iff_le, gt_iff_lt] at q668) <;> omega)
    | exact absurd q668 (by with_reducible assumption)
    | exact absurd (by with_reducible assumption) q668
    | exact absurd (Decidable.not_not.mp q668) (by with_reducible assumption)
    | exact absurd (by with_reducible assumption) (Int32.not_le.mpr q668)
    | exact absurd (by with_reducible assumption) (Int32.not_lt.mpr q668)
    | skip
      (try simp (disch := omega) only [nI_ltI, nI_leI, nI_eq, nI_ltL, nI_leL, nI_eqL, nI_Llt, nI_Lle, nI_Leq, nI_eqm, nI_meq, nI_ltm, nI_lem, nI_mlt, nI_mle, lg0, lgl, lgg, lgle, lgge, Int32.not_lt, Int32.not_le, Int64.not_lt, Int64.not_le, not_false_eq_true, not_true_eq_false, Decidable.not_not, ge_iff_le, gt_iff_lt] at q668)
      exact nx M2 ⟨hX2.trans hX, hL2, hz2⟩
  · exact absurd trivial q668
theorem cs_15 (hX6 : i + 6 ≤ X.1) (hX7 : X.1 ≤ 3072) (h : INV X M) (nx : ∀ M', INV X M' → pw 1000 0 (1484, [some (.retAddr 0), some (.ref 0), some (.ref 120), some (.int (nI i))], [], M') Q) : pw 1000 0 (673, [some (.retAddr 0), some (.ref 0), some (.ref 120), some (.int (nI i))], [], M) Q := by
  obtain ⟨hX, hL, hz⟩ := h
  have hS := hL.S
  have he : pz_ex M.1 0 = some (0, X.1, X.2) := by rw [hX]; rfl
  have OP := opp_I (a := 33) (b := 34) (by decide +kernel) (by decide +kernel) hz hL (show opp 999 33 34 [.int (X.2 (i + 1))] M from op_days (by decide) hL)
  refine pw_blk (mi := mz_0) (b := bz_0_673) rfl rfl ?_
  simp only [bz_0_673, pz_cut_t, pz_cut_f, pz_cut_n, pv_gt, pv_ts, pv_tn, ev_ald1, ev_eld1, ev_ald0, ev_eld0, ev_ild3, ev_ic1, ev_iadd, ea_iald, ev_cv1_0, pz_wi_gc, pz_wi_ga, pz_wi_gn, pz_wi_gl, pz_wi_gr, pz_wi_same, pz_wi_X, pz_wl_gc, pz_wl_ga, pz_wl_gn, pz_wl_gi, pz_wl_gr, pz_wl_same, pz_wl_X, pz_wr_gc, pz_wr_ga, pz_wr_gn, pz_wr_gi, pz_wr_gl, pz_wr_same, pz_wr_X, so_0 hS, ea_ialde he]
  (try simp (disch := omega) only [nI_clamp, pz_in_nI2, pz_in_nI2L, pv_gt, nI_add, nI_addL, nI_Ladd, pk_mul, nI_mulL, nI_Lmul, pk_sub, nI_subL, nI_Lsub, nI_inc, nI_clampL, Nat.add_sub_cancel, pz_wi_else, pz_wl_else, vu_eq, vu_ne, pz_wi_gc, pz_wi_ga, pz_wi_gn, pz_wi_gl, pz_wi_gr, pz_wi_same, pz_wi_X, pz_wl_gc, pz_wl_ga, pz_wl_gn, pz_wl_gi, pz_wl_gr, pz_wl_same, pz_wl_X, pz_wr_gc, pz_wr_ga, pz_wr_gn, pz_wr_gi, pz_wr_gl, pz_wr_same, pz_wr_X, so_0 hS, ea_ialde he])
  (try refine po_gI (by first | exact pz_in_nI (by omega) (by decide) | decide | assumption) ?_)
  (try refine po_gP (Nat.le_of_ble_eq_true rfl) ?_)
  refine po_call (by omega) (pm_mono OP (fun r1 h1 => ?_))
  obtain ⟨v1, M1⟩ := r1
  obtain ⟨x, ex, hX1, g120, h2⟩ := h1
  simp only at ex hX1 g120 h2
  subst ex
  have he1 : pz_ex M1.1 0 = some (0, X.1, X.2) := by rw [hX1, hX]; rfl
  refine pw_blk (mi := mz_0) (b := bz_0_682) rfl rfl ?_
  simp only [bz_0_682, pz_cut_t, pz_cut_f, pz_cut_n, pv_gt, pv_ts, pv_tn, ev_ald2, ev_eld2, ev_ald0, ev_eld0, ev_ild3, ev_ic1, ev_iadd, ea_iald, ev_cv1_11, pz_wi_gc, pz_wi_ga, pz_wi_gn, pz_wi_gl, pz_wi_gr, pz_wi_same, pz_wi_X, pz_wl_gc, pz_wl_ga, pz_wl_gn, pz_wl_gi, pz_wl_gr, pz_wl_same, pz_wl_X, pz_wr_gc, pz_wr_ga, pz_wr_gn, pz_wr_gi, pz_wr_gl, pz_wr_same, pz_wr_X, so_0 hS, ea_ialde he, g120, ea_ialde he1]
  (try simp (disch := omega) only [nI_clamp, pz_in_nI2, pz_in_nI2L, pv_gt, nI_add, nI_addL, nI_Ladd, pk_mul, nI_mulL, nI_Lmul, pk_sub, nI_subL, nI_Lsub, nI_inc, nI_clampL, Nat.add_sub_cancel, pz_wi_else, pz_wl_else, vu_eq, vu_ne, pz_wi_gc, pz_wi_ga, pz_wi_gn, pz_wi_gl, pz_wi_gr, pz_wi_same, pz_wi_X, pz_wl_gc, pz_wl_ga, pz_wl_gn, pz_wl_gi, pz_wl_gr, pz_wl_same, pz_wl_X, pz_wr_gc, pz_wr_ga, pz_wr_gn, pz_wr_gi, pz_wr_gl, pz_wr_same, pz_wr_X, so_0 hS, ea_ialde he, g120, ea_ialde he1])
  (try refine po_gI (by first | exact pz_in_nI (by omega) (by decide) | decide | assumption) ?_)
  (try refine po_gP (Nat.le_of_ble_eq_true rfl) ?_)
  refine po_call (by omega) (pm_mono h2 (fun r2 h3 => ?_))
  obtain ⟨v2, M2⟩ := r2
  obtain ⟨ey, hX2, hL2, hz2⟩ := h3
  simp only at ey hX2 hL2 hz2
  subst ey
  refine pw_blk (mi := mz_0) (b := bz_0_691) rfl rfl ?_
  simp only [bz_0_691, pz_cut_t, pz_cut_f, pz_cut_n, pv_gt, pv_ts, pv_tn, ev_ic_eq, pz_wi_gc, pz_wi_ga, pz_wi_gn, pz_wi_gl, pz_wi_gr, pz_wi_same, pz_wi_X, pz_wl_gc, pz_wl_ga, pz_wl_gn, pz_wl_gi, pz_wl_gr, pz_wl_same, pz_wl_X, pz_wr_gc, pz_wr_ga, pz_wr_gn, pz_wr_gi, pz_wr_gl, pz_wr_same, pz_wr_X, so_0 hS, ea_ialde he]
  (try simp (disch := omega) only [nI_clamp, pz_in_nI2, pz_in_nI2L, pv_gt, nI_add, nI_addL, nI_Ladd, pk_mul, nI_mulL, nI_Lmul, pk_sub, nI_subL, nI_Lsub, nI_inc, nI_clampL, Nat.add_sub_cancel, pz_wi_else, pz_wl_else, vu_eq, vu_ne, pz_wi_gc, pz_wi_ga, pz_wi_gn, pz_wi_gl, pz_wi_gr, pz_wi_same, pz_wi_X, pz_wl_gc, pz_wl_ga, pz_wl_gn, pz_wl_gi, pz_wl_gr, pz_wl_same, pz_wl_X, pz_wr_gc, pz_wr_ga, pz_wr_gn, pz_wr_gi, pz_wr_gl, pz_wr_same, pz_wr_X, so_0 hS, ea_ialde he])
  refine po_brP (fun q691 => ?_) (fun q691 => ?_)
  · first
    | exact absurd q691 (by decide)
    | exact absurd trivial q691
    | exact q691.elim
    | (exfalso; (try simp (disch := omega) only [nI_ltI, nI_leI, nI_eq, nI_ltL, nI_leL, nI_eqL, nI_Llt, nI_Lle, nI_Leq, nI_eqm, nI_meq, nI_ltm, nI_lem, nI_mlt, nI_mle, lg0, lgl, lgg, lgle, lgge, Int32.not_lt, Int32.not_le, Int64.not_lt, Int64.not_le, not_false_eq_true, not_true_eq_false, Decidable.not_not, ge_iff_le, gt_iff_lt] at q691) <;> omega)
    | exact absurd q691 (by with_reducible assumption)
    | exact absurd (by with_reducible assumption) q691
    | exact absurd (Decidable.not_not.mp q691) (by with_reducible assumption)
    | exact absurd (by with_reducible assumption) (Int32.not_le.mpr q691)
    | exact absurd (by with_reducible assumption) (Int32.not_lt.mpr q691)
    | skip
      (try simp (disch := omega) only [nI_ltI, nI_leI, nI_eq, nI_ltL, nI_leL, nI_eqL, nI_Llt, nI_Lle, nI_Leq, nI_eqm, nI_meq, nI_ltm, nI_lem, nI_mlt, nI_mle, lg0, lgl, lgg, lgle, lgge, Int32.not_lt, Int32.not_le, Int64.not_lt, Int64.not_le, not_false_eq_true, not_true_eq_false, Decidable.not_not, ge_iff_le, gt_iff_lt] at q691)
      exact nx M2 ⟨hX2.trans hX, hL2, hz2⟩
  · exact absurd trivial q691
theorem cs_16 (hX6 : i + 6 ≤ X.1) (hX7 : X.1 ≤ 3072) (h : INV X M) (nx : ∀ M', INV X M' → pw 1000 0 (1484, [some (.retAddr 0), some (.ref 0), some (.ref 120), some (.int (nI i))], [], M') Q) : pw 1000 0 (696, [some (.retAddr 0), some (.ref 0), some (.ref 120), some (.int (nI i))], [], M) Q := by
  obtain ⟨hX, hL, hz⟩ := h
  have hS := hL.S
  have he : pz_ex M.1 0 = some (0, X.1, X.2) := by rw [hX]; rfl
  have OP := opp_I (a := 35) (b := 36) (by decide +kernel) (by decide +kernel) hz hL (show opp 999 35 36 [.int (X.2 (i + 1)), .int (X.2 (i + 2)), .int (X.2 (i + 3)), .int (X.2 (i + 4))] M from op_through (by decide) hL)
  refine pw_blk (mi := mz_0) (b := bz_0_696) rfl rfl ?_
  simp only [bz_0_696, pz_cut_t, pz_cut_f, pz_cut_n, pv_gt, pv_ts, pv_tn, ev_ald1, ev_eld1, ev_ald0, ev_eld0, ev_ild3, ev_ic1, ev_iadd, ea_iald, ev_ic2, ev_ic3, ev_ic4, ev_cv4_0, pz_wi_gc, pz_wi_ga, pz_wi_gn, pz_wi_gl, pz_wi_gr, pz_wi_same, pz_wi_X, pz_wl_gc, pz_wl_ga, pz_wl_gn, pz_wl_gi, pz_wl_gr, pz_wl_same, pz_wl_X, pz_wr_gc, pz_wr_ga, pz_wr_gn, pz_wr_gi, pz_wr_gl, pz_wr_same, pz_wr_X, so_0 hS, ea_ialde he]
  (try simp (disch := omega) only [nI_clamp, pz_in_nI2, pz_in_nI2L, pv_gt, nI_add, nI_addL, nI_Ladd, pk_mul, nI_mulL, nI_Lmul, pk_sub, nI_subL, nI_Lsub, nI_inc, nI_clampL, Nat.add_sub_cancel, pz_wi_else, pz_wl_else, vu_eq, vu_ne, pz_wi_gc, pz_wi_ga, pz_wi_gn, pz_wi_gl, pz_wi_gr, pz_wi_same, pz_wi_X, pz_wl_gc, pz_wl_ga, pz_wl_gn, pz_wl_gi, pz_wl_gr, pz_wl_same, pz_wl_X, pz_wr_gc, pz_wr_ga, pz_wr_gn, pz_wr_gi, pz_wr_gl, pz_wr_same, pz_wr_X, so_0 hS, ea_ialde he])
  (try refine po_gI (by first | exact pz_in_nI (by omega) (by decide) | decide | assumption) ?_)
  (try refine po_gI (by first | exact pz_in_nI (by omega) (by decide) | decide | assumption) ?_)
  (try refine po_gI (by first | exact pz_in_nI (by omega) (by decide) | decide | assumption) ?_)
  (try refine po_gI (by first | exact pz_in_nI (by omega) (by decide) | decide | assumption) ?_)
  (try refine po_gP (Nat.le_of_ble_eq_true rfl) ?_)
  refine po_call (by omega) (pm_mono OP (fun r1 h1 => ?_))
  obtain ⟨v1, M1⟩ := r1
  obtain ⟨x, ex, hX1, g120, h2⟩ := h1
  simp only at ex hX1 g120 h2
  subst ex
  have he1 : pz_ex M1.1 0 = some (0, X.1, X.2) := by rw [hX1, hX]; rfl
  refine pw_blk (mi := mz_0) (b := bz_0_720) rfl rfl ?_
  simp only [bz_0_720, pz_cut_t, pz_cut_f, pz_cut_n, pv_gt, pv_ts, pv_tn, ev_ald2, ev_eld2, ev_ald0, ev_eld0, ev_ild3, ev_ic1, ev_iadd, ea_iald, ev_ic2, ev_ic3, ev_ic4, ev_cv4_11, pz_wi_gc, pz_wi_ga, pz_wi_gn, pz_wi_gl, pz_wi_gr, pz_wi_same, pz_wi_X, pz_wl_gc, pz_wl_ga, pz_wl_gn, pz_wl_gi, pz_wl_gr, pz_wl_same, pz_wl_X, pz_wr_gc, pz_wr_ga, pz_wr_gn, pz_wr_gi, pz_wr_gl, pz_wr_same, pz_wr_X, so_0 hS, ea_ialde he, g120, ea_ialde he1]
  (try simp (disch := omega) only [nI_clamp, pz_in_nI2, pz_in_nI2L, pv_gt, nI_add, nI_addL, nI_Ladd, pk_mul, nI_mulL, nI_Lmul, pk_sub, nI_subL, nI_Lsub, nI_inc, nI_clampL, Nat.add_sub_cancel, pz_wi_else, pz_wl_else, vu_eq, vu_ne, pz_wi_gc, pz_wi_ga, pz_wi_gn, pz_wi_gl, pz_wi_gr, pz_wi_same, pz_wi_X, pz_wl_gc, pz_wl_ga, pz_wl_gn, pz_wl_gi, pz_wl_gr, pz_wl_same, pz_wl_X, pz_wr_gc, pz_wr_ga, pz_wr_gn, pz_wr_gi, pz_wr_gl, pz_wr_same, pz_wr_X, so_0 hS, ea_ialde he, g120, ea_ialde he1])
  (try refine po_gI (by first | exact pz_in_nI (by omega) (by decide) | decide | assumption) ?_)
  (try refine po_gI (by first | exact pz_in_nI (by omega) (by decide) | decide | assumption) ?_)
  (try refine po_gI (by first | exact pz_in_nI (by omega) (by decide) | decide | assumption) ?_)
  (try refine po_gI (by first | exact pz_in_nI (by omega) (by decide) | decide | assumption) ?_)
  (try refine po_gP (Nat.le_of_ble_eq_true rfl) ?_)
  refine po_call (by omega) (pm_mono h2 (fun r2 h3 => ?_))
  obtain ⟨v2, M2⟩ := r2
  obtain ⟨ey, hX2, hL2, hz2⟩ := h3
  simp only at ey hX2 hL2 hz2
  subst ey
  refine pw_blk (mi := mz_0) (b := bz_0_744) rfl rfl ?_
  simp only [bz_0_744, pz_cut_t, pz_cut_f, pz_cut_n, pv_gt, pv_ts, pv_tn, ev_ic_eq, pz_wi_gc, pz_wi_ga, pz_wi_gn, pz_wi_gl, pz_wi_gr, pz_wi_same, pz_wi_X, pz_wl_gc, pz_wl_ga, pz_wl_gn, pz_wl_gi, pz_wl_gr, pz_wl_same, pz_wl_X, pz_wr_gc, pz_wr_ga, pz_wr_gn, pz_wr_gi, pz_wr_gl, pz_wr_same, pz_wr_X, so_0 hS, ea_ialde he]
  (try simp (disch := omega) only [nI_clamp, pz_in_nI2, pz_in_nI2L, pv_gt, nI_add, nI_addL, nI_Ladd, pk_mul, nI_mulL, nI_Lmul, pk_sub, nI_subL, nI_Lsub, nI_inc, nI_clampL, Nat.add_sub_cancel, pz_wi_else, pz_wl_else, vu_eq, vu_ne, pz_wi_gc, pz_wi_ga, pz_wi_gn, pz_wi_gl, pz_wi_gr, pz_wi_same, pz_wi_X, pz_wl_gc, pz_wl_ga, pz_wl_gn, pz_wl_gi, pz_wl_gr, pz_wl_same, pz_wl_X, pz_wr_gc, pz_wr_ga, pz_wr_gn, pz_wr_gi, pz_wr_gl, pz_wr_same, pz_wr_X, so_0 hS, ea_ialde he])
  refine po_brP (fun q744 => ?_) (fun q744 => ?_)
  · first
    | exact absurd q744 (by decide)
    | exact absurd trivial q744
    | exact q744.elim
    | (exfalso; (try simp (disch := omega) only [nI_ltI, nI_leI, nI_eq, nI_ltL, nI_leL, nI_eqL, nI_Llt, nI_Lle, nI_Leq, nI_eqm, nI_meq, nI_ltm, nI_lem, nI_mlt, nI_mle, lg0, lgl, lgg, lgle, lgge, Int32.not_lt, Int32.not_le, Int64.not_lt, Int64.not_le, not_false_eq_true, not_true_eq_false, Decidable.not_not, ge_iff_le, gt_iff_lt] at q744) <;> omega)
    | exact absurd q744 (by with_reducible assumption)
    | exact absurd (by with_reducible assumption) q744
    | exact absurd (Decidable.not_not.mp q744) (by with_reducible assumption)
    | exact absurd (by with_reducible assumption) (Int32.not_le.mpr q744)
    | exact absurd (by with_reducible assumption) (Int32.not_lt.mpr q744)
    | skip
      (try simp (disch := omega) only [nI_ltI, nI_leI, nI_eq, nI_ltL, nI_leL, nI_eqL, nI_Llt, nI_Lle, nI_Leq, nI_eqm, nI_meq, nI_ltm, nI_lem, nI_mlt, nI_mle, lg0, lgl, lgg, lgle, lgge, Int32.not_lt, Int32.not_le, Int64.not_lt, Int64.not_le, not_false_eq_true, not_true_eq_false, Decidable.not_not, ge_iff_le, gt_iff_lt] at q744)
      exact nx M2 ⟨hX2.trans hX, hL2, hz2⟩
  · exact absurd trivial q744
theorem cs_17 (hX6 : i + 6 ≤ X.1) (hX7 : X.1 ≤ 3072) (h : INV X M) (nx : ∀ M', INV X M' → pw 1000 0 (1484, [some (.retAddr 0), some (.ref 0), some (.ref 120), some (.int (nI i))], [], M') Q) : pw 1000 0 (749, [some (.retAddr 0), some (.ref 0), some (.ref 120), some (.int (nI i))], [], M) Q := by
  obtain ⟨hX, hL, hz⟩ := h
  have hS := hL.S
  have he : pz_ex M.1 0 = some (0, X.1, X.2) := by rw [hX]; rfl
  have OP := opp_I (a := 37) (b := 38) (by decide +kernel) (by decide +kernel) hz hL (show opp 999 37 38 [.int (X.2 (i + 1)), .int (X.2 (i + 2)), .int (X.2 (i + 3)), .int (X.2 (i + 4)), .int (X.2 (i + 5))] M from op_put (by decide) hL)
  refine pw_blk (mi := mz_0) (b := bz_0_749) rfl rfl ?_
  simp only [bz_0_749, pz_cut_t, pz_cut_f, pz_cut_n, pv_gt, pv_ts, pv_tn, ev_ald1, ev_eld1, ev_ald0, ev_eld0, ev_ild3, ev_ic1, ev_iadd, ea_iald, ev_ic2, ev_ic3, ev_ic4, ev_ic5, ev_cv5_0, pz_wi_gc, pz_wi_ga, pz_wi_gn, pz_wi_gl, pz_wi_gr, pz_wi_same, pz_wi_X, pz_wl_gc, pz_wl_ga, pz_wl_gn, pz_wl_gi, pz_wl_gr, pz_wl_same, pz_wl_X, pz_wr_gc, pz_wr_ga, pz_wr_gn, pz_wr_gi, pz_wr_gl, pz_wr_same, pz_wr_X, so_0 hS, ea_ialde he]
  (try simp (disch := omega) only [nI_clamp, pz_in_nI2, pz_in_nI2L, pv_gt, nI_add, nI_addL, nI_Ladd, pk_mul, nI_mulL, nI_Lmul, pk_sub, nI_subL, nI_Lsub, nI_inc, nI_clampL, Nat.add_sub_cancel, pz_wi_else, pz_wl_else, vu_eq, vu_ne, pz_wi_gc, pz_wi_ga, pz_wi_gn, pz_wi_gl, pz_wi_gr, pz_wi_same, pz_wi_X, pz_wl_gc, pz_wl_ga, pz_wl_gn, pz_wl_gi, pz_wl_gr, pz_wl_same, pz_wl_X, pz_wr_gc, pz_wr_ga, pz_wr_gn, pz_wr_gi, pz_wr_gl, pz_wr_same, pz_wr_X, so_0 hS, ea_ialde he])
  (try refine po_gI (by first | exact pz_in_nI (by omega) (by decide) | decide | assumption) ?_)
  (try refine po_gI (by first | exact pz_in_nI (by omega) (by decide) | decide | assumption) ?_)
  (try refine po_gI (by first | exact pz_in_nI (by omega) (by decide) | decide | assumption) ?_)
  (try refine po_gI (by first | exact pz_in_nI (by omega) (by decide) | decide | assumption) ?_)
  (try refine po_gI (by first | exact pz_in_nI (by omega) (by decide) | decide | assumption) ?_)
  (try refine po_gP (Nat.le_of_ble_eq_true rfl) ?_)
  refine po_call (by omega) (pm_mono OP (fun r1 h1 => ?_))
  obtain ⟨v1, M1⟩ := r1
  obtain ⟨x, ex, hX1, g120, h2⟩ := h1
  simp only at ex hX1 g120 h2
  subst ex
  have he1 : pz_ex M1.1 0 = some (0, X.1, X.2) := by rw [hX1, hX]; rfl
  refine pw_blk (mi := mz_0) (b := bz_0_778) rfl rfl ?_
  simp only [bz_0_778, pz_cut_t, pz_cut_f, pz_cut_n, pv_gt, pv_ts, pv_tn, ev_ald2, ev_eld2, ev_ald0, ev_eld0, ev_ild3, ev_ic1, ev_iadd, ea_iald, ev_ic2, ev_ic3, ev_ic4, ev_ic5, ev_cv5_11, pz_wi_gc, pz_wi_ga, pz_wi_gn, pz_wi_gl, pz_wi_gr, pz_wi_same, pz_wi_X, pz_wl_gc, pz_wl_ga, pz_wl_gn, pz_wl_gi, pz_wl_gr, pz_wl_same, pz_wl_X, pz_wr_gc, pz_wr_ga, pz_wr_gn, pz_wr_gi, pz_wr_gl, pz_wr_same, pz_wr_X, so_0 hS, ea_ialde he, g120, ea_ialde he1]
  (try simp (disch := omega) only [nI_clamp, pz_in_nI2, pz_in_nI2L, pv_gt, nI_add, nI_addL, nI_Ladd, pk_mul, nI_mulL, nI_Lmul, pk_sub, nI_subL, nI_Lsub, nI_inc, nI_clampL, Nat.add_sub_cancel, pz_wi_else, pz_wl_else, vu_eq, vu_ne, pz_wi_gc, pz_wi_ga, pz_wi_gn, pz_wi_gl, pz_wi_gr, pz_wi_same, pz_wi_X, pz_wl_gc, pz_wl_ga, pz_wl_gn, pz_wl_gi, pz_wl_gr, pz_wl_same, pz_wl_X, pz_wr_gc, pz_wr_ga, pz_wr_gn, pz_wr_gi, pz_wr_gl, pz_wr_same, pz_wr_X, so_0 hS, ea_ialde he, g120, ea_ialde he1])
  (try refine po_gI (by first | exact pz_in_nI (by omega) (by decide) | decide | assumption) ?_)
  (try refine po_gI (by first | exact pz_in_nI (by omega) (by decide) | decide | assumption) ?_)
  (try refine po_gI (by first | exact pz_in_nI (by omega) (by decide) | decide | assumption) ?_)
  (try refine po_gI (by first | exact pz_in_nI (by omega) (by decide) | decide | assumption) ?_)
  (try refine po_gI (by first | exact pz_in_nI (by omega) (by decide) | decide | assumption) ?_)
  (try refine po_gP (Nat.le_of_ble_eq_true rfl) ?_)
  refine po_call (by omega) (pm_mono h2 (fun r2 h3 => ?_))
  obtain ⟨v2, M2⟩ := r2
  obtain ⟨ey, hX2, hL2, hz2⟩ := h3
  simp only at ey hX2 hL2 hz2
  subst ey
  refine pw_blk (mi := mz_0) (b := bz_0_807) rfl rfl ?_
  simp only [bz_0_807, pz_cut_t, pz_cut_f, pz_cut_n, pv_gt, pv_ts, pv_tn, ev_ic_eq, pz_wi_gc, pz_wi_ga, pz_wi_gn, pz_wi_gl, pz_wi_gr, pz_wi_same, pz_wi_X, pz_wl_gc, pz_wl_ga, pz_wl_gn, pz_wl_gi, pz_wl_gr, pz_wl_same, pz_wl_X, pz_wr_gc, pz_wr_ga, pz_wr_gn, pz_wr_gi, pz_wr_gl, pz_wr_same, pz_wr_X, so_0 hS, ea_ialde he]
  (try simp (disch := omega) only [nI_clamp, pz_in_nI2, pz_in_nI2L, pv_gt, nI_add, nI_addL, nI_Ladd, pk_mul, nI_mulL, nI_Lmul, pk_sub, nI_subL, nI_Lsub, nI_inc, nI_clampL, Nat.add_sub_cancel, pz_wi_else, pz_wl_else, vu_eq, vu_ne, pz_wi_gc, pz_wi_ga, pz_wi_gn, pz_wi_gl, pz_wi_gr, pz_wi_same, pz_wi_X, pz_wl_gc, pz_wl_ga, pz_wl_gn, pz_wl_gi, pz_wl_gr, pz_wl_same, pz_wl_X, pz_wr_gc, pz_wr_ga, pz_wr_gn, pz_wr_gi, pz_wr_gl, pz_wr_same, pz_wr_X, so_0 hS, ea_ialde he])
  refine po_brP (fun q807 => ?_) (fun q807 => ?_)
  · first
    | exact absurd q807 (by decide)
    | exact absurd trivial q807
    | exact q807.elim
    | (exfalso; (try simp (disch := omega) only [nI_ltI, nI_leI, nI_eq, nI_ltL, nI_leL, nI_eqL, nI_Llt, nI_Lle, nI_Leq, nI_eqm, nI_meq, nI_ltm, nI_lem, nI_mlt, nI_mle, lg0, lgl, lgg, lgle, lgge, Int32.not_lt, Int32.not_le, Int64.not_lt, Int64.not_le, not_false_eq_true, not_true_eq_false, Decidable.not_not, ge_iff_le, gt_iff_lt] at q807) <;> omega)
    | exact absurd q807 (by with_reducible assumption)
    | exact absurd (by with_reducible assumption) q807
    | exact absurd (Decidable.not_not.mp q807) (by with_reducible assumption)
    | exact absurd (by with_reducible assumption) (Int32.not_le.mpr q807)
    | exact absurd (by with_reducible assumption) (Int32.not_lt.mpr q807)
    | skip
      (try simp (disch := omega) only [nI_ltI, nI_leI, nI_eq, nI_ltL, nI_leL, nI_eqL, nI_Llt, nI_Lle, nI_Leq, nI_eqm, nI_meq, nI_ltm, nI_lem, nI_mlt, nI_mle, lg0, lgl, lgg, lgle, lgge, Int32.not_lt, Int32.not_le, Int64.not_lt, Int64.not_le, not_false_eq_true, not_true_eq_false, Decidable.not_not, ge_iff_le, gt_iff_lt] at q807)
      exact nx M2 ⟨hX2.trans hX, hL2, hz2⟩
  · exact absurd trivial q807
theorem cs_18 (hX6 : i + 6 ≤ X.1) (hX7 : X.1 ≤ 3072) (h : INV X M) (nx : ∀ M', INV X M' → pw 1000 0 (1484, [some (.retAddr 0), some (.ref 0), some (.ref 120), some (.int (nI i))], [], M') Q) : pw 1000 0 (812, [some (.retAddr 0), some (.ref 0), some (.ref 120), some (.int (nI i))], [], M) Q := by
  obtain ⟨hX, hL, hz⟩ := h
  have hS := hL.S
  have he : pz_ex M.1 0 = some (0, X.1, X.2) := by rw [hX]; rfl
  have OP := opp_I (a := 39) (b := 40) (by decide +kernel) (by decide +kernel) hz hL (show opp 999 39 40 [.int (X.2 (i + 1)), .int (X.2 (i + 2))] M from op_plans (by decide) hL)
  refine pw_blk (mi := mz_0) (b := bz_0_812) rfl rfl ?_
  simp only [bz_0_812, pz_cut_t, pz_cut_f, pz_cut_n, pv_gt, pv_ts, pv_tn, ev_ald1, ev_eld1, ev_ald0, ev_eld0, ev_ild3, ev_ic1, ev_iadd, ea_iald, ev_ic2, ev_cv2_0, pz_wi_gc, pz_wi_ga, pz_wi_gn, pz_wi_gl, pz_wi_gr, pz_wi_same, pz_wi_X, pz_wl_gc, pz_wl_ga, pz_wl_gn, pz_wl_gi, pz_wl_gr, pz_wl_same, pz_wl_X, pz_wr_gc, pz_wr_ga, pz_wr_gn, pz_wr_gi, pz_wr_gl, pz_wr_same, pz_wr_X, so_0 hS, ea_ialde he]
  (try simp (disch := omega) only [nI_clamp, pz_in_nI2, pz_in_nI2L, pv_gt, nI_add, nI_addL, nI_Ladd, pk_mul, nI_mulL, nI_Lmul, pk_sub, nI_subL, nI_Lsub, nI_inc, nI_clampL, Nat.add_sub_cancel, pz_wi_else, pz_wl_else, vu_eq, vu_ne, pz_wi_gc, pz_wi_ga, pz_wi_gn, pz_wi_gl, pz_wi_gr, pz_wi_same, pz_wi_X, pz_wl_gc, pz_wl_ga, pz_wl_gn, pz_wl_gi, pz_wl_gr, pz_wl_same, pz_wl_X, pz_wr_gc, pz_wr_ga, pz_wr_gn, pz_wr_gi, pz_wr_gl, pz_wr_same, pz_wr_X, so_0 hS, ea_ialde he])
  (try refine po_gI (by first | exact pz_in_nI (by omega) (by decide) | decide | assumption) ?_)
  (try refine po_gI (by first | exact pz_in_nI (by omega) (by decide) | decide | assumption) ?_)
  (try refine po_gP (Nat.le_of_ble_eq_true rfl) ?_)
  refine po_call (by omega) (pm_mono OP (fun r1 h1 => ?_))
  obtain ⟨v1, M1⟩ := r1
  obtain ⟨x, ex, hX1, g120, h2⟩ := h1
  simp only at ex hX1 g120 h2
  subst ex
  have he1 : pz_ex M1.1 0 = some (0, X.1, X.2) := by rw [hX1, hX]; rfl
  refine pw_blk (mi := mz_0) (b := bz_0_826) rfl rfl ?_
  simp only [bz_0_826, pz_cut_t, pz_cut_f, pz_cut_n, pv_gt, pv_ts, pv_tn, ev_ald2, ev_eld2, ev_ald0, ev_eld0, ev_ild3, ev_ic1, ev_iadd, ea_iald, ev_ic2, ev_cv2_11, pz_wi_gc, pz_wi_ga, pz_wi_gn, pz_wi_gl, pz_wi_gr, pz_wi_same, pz_wi_X, pz_wl_gc, pz_wl_ga, pz_wl_gn, pz_wl_gi, pz_wl_gr, pz_wl_same, pz_wl_X, pz_wr_gc, pz_wr_ga, pz_wr_gn, pz_wr_gi, pz_wr_gl, pz_wr_same, pz_wr_X, so_0 hS, ea_ialde he, g120, ea_ialde he1]
  (try simp (disch := omega) only [nI_clamp, pz_in_nI2, pz_in_nI2L, pv_gt, nI_add, nI_addL, nI_Ladd, pk_mul, nI_mulL, nI_Lmul, pk_sub, nI_subL, nI_Lsub, nI_inc, nI_clampL, Nat.add_sub_cancel, pz_wi_else, pz_wl_else, vu_eq, vu_ne, pz_wi_gc, pz_wi_ga, pz_wi_gn, pz_wi_gl, pz_wi_gr, pz_wi_same, pz_wi_X, pz_wl_gc, pz_wl_ga, pz_wl_gn, pz_wl_gi, pz_wl_gr, pz_wl_same, pz_wl_X, pz_wr_gc, pz_wr_ga, pz_wr_gn, pz_wr_gi, pz_wr_gl, pz_wr_same, pz_wr_X, so_0 hS, ea_ialde he, g120, ea_ialde he1])
  (try refine po_gI (by first | exact pz_in_nI (by omega) (by decide) | decide | assumption) ?_)
  (try refine po_gI (by first | exact pz_in_nI (by omega) (by decide) | decide | assumption) ?_)
  (try refine po_gP (Nat.le_of_ble_eq_true rfl) ?_)
  refine po_call (by omega) (pm_mono h2 (fun r2 h3 => ?_))
  obtain ⟨v2, M2⟩ := r2
  obtain ⟨ey, hX2, hL2, hz2⟩ := h3
  simp only at ey hX2 hL2 hz2
  subst ey
  refine pw_blk (mi := mz_0) (b := bz_0_840) rfl rfl ?_
  simp only [bz_0_840, pz_cut_t, pz_cut_f, pz_cut_n, pv_gt, pv_ts, pv_tn, ev_ic_eq, pz_wi_gc, pz_wi_ga, pz_wi_gn, pz_wi_gl, pz_wi_gr, pz_wi_same, pz_wi_X, pz_wl_gc, pz_wl_ga, pz_wl_gn, pz_wl_gi, pz_wl_gr, pz_wl_same, pz_wl_X, pz_wr_gc, pz_wr_ga, pz_wr_gn, pz_wr_gi, pz_wr_gl, pz_wr_same, pz_wr_X, so_0 hS, ea_ialde he]
  (try simp (disch := omega) only [nI_clamp, pz_in_nI2, pz_in_nI2L, pv_gt, nI_add, nI_addL, nI_Ladd, pk_mul, nI_mulL, nI_Lmul, pk_sub, nI_subL, nI_Lsub, nI_inc, nI_clampL, Nat.add_sub_cancel, pz_wi_else, pz_wl_else, vu_eq, vu_ne, pz_wi_gc, pz_wi_ga, pz_wi_gn, pz_wi_gl, pz_wi_gr, pz_wi_same, pz_wi_X, pz_wl_gc, pz_wl_ga, pz_wl_gn, pz_wl_gi, pz_wl_gr, pz_wl_same, pz_wl_X, pz_wr_gc, pz_wr_ga, pz_wr_gn, pz_wr_gi, pz_wr_gl, pz_wr_same, pz_wr_X, so_0 hS, ea_ialde he])
  refine po_brP (fun q840 => ?_) (fun q840 => ?_)
  · first
    | exact absurd q840 (by decide)
    | exact absurd trivial q840
    | exact q840.elim
    | (exfalso; (try simp (disch := omega) only [nI_ltI, nI_leI, nI_eq, nI_ltL, nI_leL, nI_eqL, nI_Llt, nI_Lle, nI_Leq, nI_eqm, nI_meq, nI_ltm, nI_lem, nI_mlt, nI_mle, lg0, lgl, lgg, lgle, lgge, Int32.not_lt, Int32.not_le, Int64.not_lt, Int64.not_le, not_false_eq_true, not_true_eq_false, Decidable.not_not, ge_iff_le, gt_iff_lt] at q840) <;> omega)
    | exact absurd q840 (by with_reducible assumption)
    | exact absurd (by with_reducible assumption) q840
    | exact absurd (Decidable.not_not.mp q840) (by with_reducible assumption)
    | exact absurd (by with_reducible assumption) (Int32.not_le.mpr q840)
    | exact absurd (by with_reducible assumption) (Int32.not_lt.mpr q840)
    | skip
      (try simp (disch := omega) only [nI_ltI, nI_leI, nI_eq, nI_ltL, nI_leL, nI_eqL, nI_Llt, nI_Lle, nI_Leq, nI_eqm, nI_meq, nI_ltm, nI_lem, nI_mlt, nI_mle, lg0, lgl, lgg, lgle, lgge, Int32.not_lt, Int32.not_le, Int64.not_lt, Int64.not_le, not_false_eq_true, not_true_eq_false, Decidable.not_not, ge_iff_le, gt_iff_lt] at q840)
      exact nx M2 ⟨hX2.trans hX, hL2, hz2⟩
  · exact absurd trivial q840
theorem cs_19 (hX6 : i + 6 ≤ X.1) (hX7 : X.1 ≤ 3072) (h : INV X M) (nx : ∀ M', INV X M' → pw 1000 0 (1484, [some (.retAddr 0), some (.ref 0), some (.ref 120), some (.int (nI i))], [], M') Q) : pw 1000 0 (845, [some (.retAddr 0), some (.ref 0), some (.ref 120), some (.int (nI i))], [], M) Q := by
  obtain ⟨hX, hL, hz⟩ := h
  have hS := hL.S
  have he : pz_ex M.1 0 = some (0, X.1, X.2) := by rw [hX]; rfl
  have OP := opp_I (a := 41) (b := 42) (by decide +kernel) (by decide +kernel) hz hL (show opp 999 41 42 [.int (X.2 (i + 1))] M from op_plan (by decide) hL)
  refine pw_blk (mi := mz_0) (b := bz_0_845) rfl rfl ?_
  simp only [bz_0_845, pz_cut_t, pz_cut_f, pz_cut_n, pv_gt, pv_ts, pv_tn, ev_ald1, ev_eld1, ev_ald0, ev_eld0, ev_ild3, ev_ic1, ev_iadd, ea_iald, ev_cv1_0, pz_wi_gc, pz_wi_ga, pz_wi_gn, pz_wi_gl, pz_wi_gr, pz_wi_same, pz_wi_X, pz_wl_gc, pz_wl_ga, pz_wl_gn, pz_wl_gi, pz_wl_gr, pz_wl_same, pz_wl_X, pz_wr_gc, pz_wr_ga, pz_wr_gn, pz_wr_gi, pz_wr_gl, pz_wr_same, pz_wr_X, so_0 hS, ea_ialde he]
  (try simp (disch := omega) only [nI_clamp, pz_in_nI2, pz_in_nI2L, pv_gt, nI_add, nI_addL, nI_Ladd, pk_mul, nI_mulL, nI_Lmul, pk_sub, nI_subL, nI_Lsub, nI_inc, nI_clampL, Nat.add_sub_cancel, pz_wi_else, pz_wl_else, vu_eq, vu_ne, pz_wi_gc, pz_wi_ga, pz_wi_gn, pz_wi_gl, pz_wi_gr, pz_wi_same, pz_wi_X, pz_wl_gc, pz_wl_ga, pz_wl_gn, pz_wl_gi, pz_wl_gr, pz_wl_same, pz_wl_X, pz_wr_gc, pz_wr_ga, pz_wr_gn, pz_wr_gi, pz_wr_gl, pz_wr_same, pz_wr_X, so_0 hS, ea_ialde he])
  (try refine po_gI (by first | exact pz_in_nI (by omega) (by decide) | decide | assumption) ?_)
  (try refine po_gP (Nat.le_of_ble_eq_true rfl) ?_)
  refine po_call (by omega) (pm_mono OP (fun r1 h1 => ?_))
  obtain ⟨v1, M1⟩ := r1
  obtain ⟨x, ex, hX1, g120, h2⟩ := h1
  simp only at ex hX1 g120 h2
  subst ex
  have he1 : pz_ex M1.1 0 = some (0, X.1, X.2) := by rw [hX1, hX]; rfl
  refine pw_blk (mi := mz_0) (b := bz_0_854) rfl rfl ?_
  simp only [bz_0_854, pz_cut_t, pz_cut_f, pz_cut_n, pv_gt, pv_ts, pv_tn, ev_ald2, ev_eld2, ev_ald0, ev_eld0, ev_ild3, ev_ic1, ev_iadd, ea_iald, ev_cv1_11, pz_wi_gc, pz_wi_ga, pz_wi_gn, pz_wi_gl, pz_wi_gr, pz_wi_same, pz_wi_X, pz_wl_gc, pz_wl_ga, pz_wl_gn, pz_wl_gi, pz_wl_gr, pz_wl_same, pz_wl_X, pz_wr_gc, pz_wr_ga, pz_wr_gn, pz_wr_gi, pz_wr_gl, pz_wr_same, pz_wr_X, so_0 hS, ea_ialde he, g120, ea_ialde he1]
  (try simp (disch := omega) only [nI_clamp, pz_in_nI2, pz_in_nI2L, pv_gt, nI_add, nI_addL, nI_Ladd, pk_mul, nI_mulL, nI_Lmul, pk_sub, nI_subL, nI_Lsub, nI_inc, nI_clampL, Nat.add_sub_cancel, pz_wi_else, pz_wl_else, vu_eq, vu_ne, pz_wi_gc, pz_wi_ga, pz_wi_gn, pz_wi_gl, pz_wi_gr, pz_wi_same, pz_wi_X, pz_wl_gc, pz_wl_ga, pz_wl_gn, pz_wl_gi, pz_wl_gr, pz_wl_same, pz_wl_X, pz_wr_gc, pz_wr_ga, pz_wr_gn, pz_wr_gi, pz_wr_gl, pz_wr_same, pz_wr_X, so_0 hS, ea_ialde he, g120, ea_ialde he1])
  (try refine po_gI (by first | exact pz_in_nI (by omega) (by decide) | decide | assumption) ?_)
  (try refine po_gP (Nat.le_of_ble_eq_true rfl) ?_)
  refine po_call (by omega) (pm_mono h2 (fun r2 h3 => ?_))
  obtain ⟨v2, M2⟩ := r2
  obtain ⟨ey, hX2, hL2, hz2⟩ := h3
  simp only at ey hX2 hL2 hz2
  subst ey
  refine pw_blk (mi := mz_0) (b := bz_0_863) rfl rfl ?_
  simp only [bz_0_863, pz_cut_t, pz_cut_f, pz_cut_n, pv_gt, pv_ts, pv_tn, ev_ic_eq, pz_wi_gc, pz_wi_ga, pz_wi_gn, pz_wi_gl, pz_wi_gr, pz_wi_same, pz_wi_X, pz_wl_gc, pz_wl_ga, pz_wl_gn, pz_wl_gi, pz_wl_gr, pz_wl_same, pz_wl_X, pz_wr_gc, pz_wr_ga, pz_wr_gn, pz_wr_gi, pz_wr_gl, pz_wr_same, pz_wr_X, so_0 hS, ea_ialde he]
  (try simp (disch := omega) only [nI_clamp, pz_in_nI2, pz_in_nI2L, pv_gt, nI_add, nI_addL, nI_Ladd, pk_mul, nI_mulL, nI_Lmul, pk_sub, nI_subL, nI_Lsub, nI_inc, nI_clampL, Nat.add_sub_cancel, pz_wi_else, pz_wl_else, vu_eq, vu_ne, pz_wi_gc, pz_wi_ga, pz_wi_gn, pz_wi_gl, pz_wi_gr, pz_wi_same, pz_wi_X, pz_wl_gc, pz_wl_ga, pz_wl_gn, pz_wl_gi, pz_wl_gr, pz_wl_same, pz_wl_X, pz_wr_gc, pz_wr_ga, pz_wr_gn, pz_wr_gi, pz_wr_gl, pz_wr_same, pz_wr_X, so_0 hS, ea_ialde he])
  refine po_brP (fun q863 => ?_) (fun q863 => ?_)
  · first
    | exact absurd q863 (by decide)
    | exact absurd trivial q863
    | exact q863.elim
    | (exfalso; (try simp (disch := omega) only [nI_ltI, nI_leI, nI_eq, nI_ltL, nI_leL, nI_eqL, nI_Llt, nI_Lle, nI_Leq, nI_eqm, nI_meq, nI_ltm, nI_lem, nI_mlt, nI_mle, lg0, lgl, lgg, lgle, lgge, Int32.not_lt, Int32.not_le, Int64.not_lt, Int64.not_le, not_false_eq_true, not_true_eq_false, Decidable.not_not, ge_iff_le, gt_iff_lt] at q863) <;> omega)
    | exact absurd q863 (by with_reducible assumption)
    | exact absurd (by with_reducible assumption) q863
    | exact absurd (Decidable.not_not.mp q863) (by with_reducible assumption)
    | exact absurd (by with_reducible assumption) (Int32.not_le.mpr q863)
    | exact absurd (by with_reducible assumption) (Int32.not_lt.mpr q863)
    | skip
      (try simp (disch := omega) only [nI_ltI, nI_leI, nI_eq, nI_ltL, nI_leL, nI_eqL, nI_Llt, nI_Lle, nI_Leq, nI_eqm, nI_meq, nI_ltm, nI_lem, nI_mlt, nI_mle, lg0, lgl, lgg, lgle, lgge, Int32.not_lt, Int32.not_le, Int64.not_lt, Int64.not_le, not_false_eq_true, not_true_eq_false, Decidable.not_not, ge_iff_le, gt_iff_lt] at q863)
      exact nx M2 ⟨hX2.trans hX, hL2, hz2⟩
  · exact absurd trivial q863
theorem cs_20 (hX6 : i + 6 ≤ X.1) (hX7 : X.1 ≤ 3072) (h : INV X M) (nx : ∀ M', INV X M' → pw 1000 0 (1484, [some (.retAddr 0), some (.ref 0), some (.ref 120), some (.int (nI i))], [], M') Q) : pw 1000 0 (868, [some (.retAddr 0), some (.ref 0), some (.ref 120), some (.int (nI i))], [], M) Q := by
  obtain ⟨hX, hL, hz⟩ := h
  have hS := hL.S
  have he : pz_ex M.1 0 = some (0, X.1, X.2) := by rw [hX]; rfl
  have OP := opp_I (a := 43) (b := 44) (by decide +kernel) (by decide +kernel) hz hL (show opp 999 43 44 [] M from op_rules (by decide) hL)
  refine pw_blk (mi := mz_0) (b := bz_0_868) rfl rfl ?_
  simp only [bz_0_868, pz_cut_t, pz_cut_f, pz_cut_n, pv_gt, pv_ts, pv_tn, ev_ald1, ev_eld1, ev_cv0_0, pz_wi_gc, pz_wi_ga, pz_wi_gn, pz_wi_gl, pz_wi_gr, pz_wi_same, pz_wi_X, pz_wl_gc, pz_wl_ga, pz_wl_gn, pz_wl_gi, pz_wl_gr, pz_wl_same, pz_wl_X, pz_wr_gc, pz_wr_ga, pz_wr_gn, pz_wr_gi, pz_wr_gl, pz_wr_same, pz_wr_X, so_0 hS, ea_ialde he]
  (try simp (disch := omega) only [nI_clamp, pz_in_nI2, pz_in_nI2L, pv_gt, nI_add, nI_addL, nI_Ladd, pk_mul, nI_mulL, nI_Lmul, pk_sub, nI_subL, nI_Lsub, nI_inc, nI_clampL, Nat.add_sub_cancel, pz_wi_else, pz_wl_else, vu_eq, vu_ne, pz_wi_gc, pz_wi_ga, pz_wi_gn, pz_wi_gl, pz_wi_gr, pz_wi_same, pz_wi_X, pz_wl_gc, pz_wl_ga, pz_wl_gn, pz_wl_gi, pz_wl_gr, pz_wl_same, pz_wl_X, pz_wr_gc, pz_wr_ga, pz_wr_gn, pz_wr_gi, pz_wr_gl, pz_wr_same, pz_wr_X, so_0 hS, ea_ialde he])
  (try refine po_gP (Nat.le_of_ble_eq_true rfl) ?_)
  refine po_call (by omega) (pm_mono OP (fun r1 h1 => ?_))
  obtain ⟨v1, M1⟩ := r1
  obtain ⟨x, ex, hX1, g120, h2⟩ := h1
  simp only at ex hX1 g120 h2
  subst ex
  have he1 : pz_ex M1.1 0 = some (0, X.1, X.2) := by rw [hX1, hX]; rfl
  refine pw_blk (mi := mz_0) (b := bz_0_872) rfl rfl ?_
  simp only [bz_0_872, pz_cut_t, pz_cut_f, pz_cut_n, pv_gt, pv_ts, pv_tn, ev_ald2, ev_eld2, ev_cv0_11, pz_wi_gc, pz_wi_ga, pz_wi_gn, pz_wi_gl, pz_wi_gr, pz_wi_same, pz_wi_X, pz_wl_gc, pz_wl_ga, pz_wl_gn, pz_wl_gi, pz_wl_gr, pz_wl_same, pz_wl_X, pz_wr_gc, pz_wr_ga, pz_wr_gn, pz_wr_gi, pz_wr_gl, pz_wr_same, pz_wr_X, so_0 hS, ea_ialde he, g120, ea_ialde he1]
  (try simp (disch := omega) only [nI_clamp, pz_in_nI2, pz_in_nI2L, pv_gt, nI_add, nI_addL, nI_Ladd, pk_mul, nI_mulL, nI_Lmul, pk_sub, nI_subL, nI_Lsub, nI_inc, nI_clampL, Nat.add_sub_cancel, pz_wi_else, pz_wl_else, vu_eq, vu_ne, pz_wi_gc, pz_wi_ga, pz_wi_gn, pz_wi_gl, pz_wi_gr, pz_wi_same, pz_wi_X, pz_wl_gc, pz_wl_ga, pz_wl_gn, pz_wl_gi, pz_wl_gr, pz_wl_same, pz_wl_X, pz_wr_gc, pz_wr_ga, pz_wr_gn, pz_wr_gi, pz_wr_gl, pz_wr_same, pz_wr_X, so_0 hS, ea_ialde he, g120, ea_ialde he1])
  (try refine po_gP (Nat.le_of_ble_eq_true rfl) ?_)
  refine po_call (by omega) (pm_mono h2 (fun r2 h3 => ?_))
  obtain ⟨v2, M2⟩ := r2
  obtain ⟨ey, hX2, hL2, hz2⟩ := h3
  simp only at ey hX2 hL2 hz2
  subst ey
  refine pw_blk (mi := mz_0) (b := bz_0_876) rfl rfl ?_
  simp only [bz_0_876, pz_cut_t, pz_cut_f, pz_cut_n, pv_gt, pv_ts, pv_tn, ev_ic_eq, pz_wi_gc, pz_wi_ga, pz_wi_gn, pz_wi_gl, pz_wi_gr, pz_wi_same, pz_wi_X, pz_wl_gc, pz_wl_ga, pz_wl_gn, pz_wl_gi, pz_wl_gr, pz_wl_same, pz_wl_X, pz_wr_gc, pz_wr_ga, pz_wr_gn, pz_wr_gi, pz_wr_gl, pz_wr_same, pz_wr_X, so_0 hS, ea_ialde he]
  (try simp (disch := omega) only [nI_clamp, pz_in_nI2, pz_in_nI2L, pv_gt, nI_add, nI_addL, nI_Ladd, pk_mul, nI_mulL, nI_Lmul, pk_sub, nI_subL, nI_Lsub, nI_inc, nI_clampL, Nat.add_sub_cancel, pz_wi_else, pz_wl_else, vu_eq, vu_ne, pz_wi_gc, pz_wi_ga, pz_wi_gn, pz_wi_gl, pz_wi_gr, pz_wi_same, pz_wi_X, pz_wl_gc, pz_wl_ga, pz_wl_gn, pz_wl_gi, pz_wl_gr, pz_wl_same, pz_wl_X, pz_wr_gc, pz_wr_ga, pz_wr_gn, pz_wr_gi, pz_wr_gl, pz_wr_same, pz_wr_X, so_0 hS, ea_ialde he])
  refine po_brP (fun q876 => ?_) (fun q876 => ?_)
  · first
    | exact absurd q876 (by decide)
    | exact absurd trivial q876
    | exact q876.elim
    | (exfalso; (try simp (disch := omega) only [nI_ltI, nI_leI, nI_eq, nI_ltL, nI_leL, nI_eqL, nI_Llt, nI_Lle, nI_Leq, nI_eqm, nI_meq, nI_ltm, nI_lem, nI_mlt, nI_mle, lg0, lgl, lgg, lgle, lgge, Int32.not_lt, Int32.not_le, Int64.not_lt, Int64.not_le, not_false_eq_true, not_true_eq_false, Decidable.not_not, ge_iff_le, gt_iff_lt] at q876) <;> omega)
    | exact absurd q876 (by with_reducible assumption)
    | exact absurd (by with_reducible assumption) q876
    | exact absurd (Decidable.not_not.mp q876) (by with_reducible assumption)
    | exact absurd (by with_reducible assumption) (Int32.not_le.mpr q876)
    | exact absurd (by with_reducible assumption) (Int32.not_lt.mpr q876)
    | skip
      (try simp (disch := omega) only [nI_ltI, nI_leI, nI_eq, nI_ltL, nI_leL, nI_eqL, nI_Llt, nI_Lle, nI_Leq, nI_eqm, nI_meq, nI_ltm, nI_lem, nI_mlt, nI_mle, lg0, lgl, lgg, lgle, lgge, Int32.not_lt, Int32.not_le, Int64.not_lt, Int64.not_le, not_false_eq_true, not_true_eq_false, Decidable.not_not, ge_iff_le, gt_iff_lt] at q876)
      exact nx M2 ⟨hX2.trans hX, hL2, hz2⟩
  · exact absurd trivial q876
theorem cs_21 (hX6 : i + 6 ≤ X.1) (hX7 : X.1 ≤ 3072) (h : INV X M) (nx : ∀ M', INV X M' → pw 1000 0 (1484, [some (.retAddr 0), some (.ref 0), some (.ref 120), some (.int (nI i))], [], M') Q) : pw 1000 0 (881, [some (.retAddr 0), some (.ref 0), some (.ref 120), some (.int (nI i))], [], M) Q := by
  obtain ⟨hX, hL, hz⟩ := h
  have hS := hL.S
  have he : pz_ex M.1 0 = some (0, X.1, X.2) := by rw [hX]; rfl
  have OP := opp_I (a := 45) (b := 46) (by decide +kernel) (by decide +kernel) hz hL (show opp 999 45 46 [.int (X.2 (i + 1))] M from op_practise (by decide) hL)
  refine pw_blk (mi := mz_0) (b := bz_0_881) rfl rfl ?_
  simp only [bz_0_881, pz_cut_t, pz_cut_f, pz_cut_n, pv_gt, pv_ts, pv_tn, ev_ald1, ev_eld1, ev_ald0, ev_eld0, ev_ild3, ev_ic1, ev_iadd, ea_iald, ev_cv1_0, pz_wi_gc, pz_wi_ga, pz_wi_gn, pz_wi_gl, pz_wi_gr, pz_wi_same, pz_wi_X, pz_wl_gc, pz_wl_ga, pz_wl_gn, pz_wl_gi, pz_wl_gr, pz_wl_same, pz_wl_X, pz_wr_gc, pz_wr_ga, pz_wr_gn, pz_wr_gi, pz_wr_gl, pz_wr_same, pz_wr_X, so_0 hS, ea_ialde he]
  (try simp (disch := omega) only [nI_clamp, pz_in_nI2, pz_in_nI2L, pv_gt, nI_add, nI_addL, nI_Ladd, pk_mul, nI_mulL, nI_Lmul, pk_sub, nI_subL, nI_Lsub, nI_inc, nI_clampL, Nat.add_sub_cancel, pz_wi_else, pz_wl_else, vu_eq, vu_ne, pz_wi_gc, pz_wi_ga, pz_wi_gn, pz_wi_gl, pz_wi_gr, pz_wi_same, pz_wi_X, pz_wl_gc, pz_wl_ga, pz_wl_gn, pz_wl_gi, pz_wl_gr, pz_wl_same, pz_wl_X, pz_wr_gc, pz_wr_ga, pz_wr_gn, pz_wr_gi, pz_wr_gl, pz_wr_same, pz_wr_X, so_0 hS, ea_ialde he])
  (try refine po_gI (by first | exact pz_in_nI (by omega) (by decide) | decide | assumption) ?_)
  (try refine po_gP (Nat.le_of_ble_eq_true rfl) ?_)
  refine po_call (by omega) (pm_mono OP (fun r1 h1 => ?_))
  obtain ⟨v1, M1⟩ := r1
  obtain ⟨x, ex, hX1, g120, h2⟩ := h1
  simp only at ex hX1 g120 h2
  subst ex
  have he1 : pz_ex M1.1 0 = some (0, X.1, X.2) := by rw [hX1, hX]; rfl
  refine pw_blk (mi := mz_0) (b := bz_0_890) rfl rfl ?_
  simp only [bz_0_890, pz_cut_t, pz_cut_f, pz_cut_n, pv_gt, pv_ts, pv_tn, ev_ald2, ev_eld2, ev_ald0, ev_eld0, ev_ild3, ev_ic1, ev_iadd, ea_iald, ev_cv1_11, pz_wi_gc, pz_wi_ga, pz_wi_gn, pz_wi_gl, pz_wi_gr, pz_wi_same, pz_wi_X, pz_wl_gc, pz_wl_ga, pz_wl_gn, pz_wl_gi, pz_wl_gr, pz_wl_same, pz_wl_X, pz_wr_gc, pz_wr_ga, pz_wr_gn, pz_wr_gi, pz_wr_gl, pz_wr_same, pz_wr_X, so_0 hS, ea_ialde he, g120, ea_ialde he1]
  (try simp (disch := omega) only [nI_clamp, pz_in_nI2, pz_in_nI2L, pv_gt, nI_add, nI_addL, nI_Ladd, pk_mul, nI_mulL, nI_Lmul, pk_sub, nI_subL, nI_Lsub, nI_inc, nI_clampL, Nat.add_sub_cancel, pz_wi_else, pz_wl_else, vu_eq, vu_ne, pz_wi_gc, pz_wi_ga, pz_wi_gn, pz_wi_gl, pz_wi_gr, pz_wi_same, pz_wi_X, pz_wl_gc, pz_wl_ga, pz_wl_gn, pz_wl_gi, pz_wl_gr, pz_wl_same, pz_wl_X, pz_wr_gc, pz_wr_ga, pz_wr_gn, pz_wr_gi, pz_wr_gl, pz_wr_same, pz_wr_X, so_0 hS, ea_ialde he, g120, ea_ialde he1])
  (try refine po_gI (by first | exact pz_in_nI (by omega) (by decide) | decide | assumption) ?_)
  (try refine po_gP (Nat.le_of_ble_eq_true rfl) ?_)
  refine po_call (by omega) (pm_mono h2 (fun r2 h3 => ?_))
  obtain ⟨v2, M2⟩ := r2
  obtain ⟨ey, hX2, hL2, hz2⟩ := h3
  simp only at ey hX2 hL2 hz2
  subst ey
  refine pw_blk (mi := mz_0) (b := bz_0_899) rfl rfl ?_
  simp only [bz_0_899, pz_cut_t, pz_cut_f, pz_cut_n, pv_gt, pv_ts, pv_tn, ev_ic_eq, pz_wi_gc, pz_wi_ga, pz_wi_gn, pz_wi_gl, pz_wi_gr, pz_wi_same, pz_wi_X, pz_wl_gc, pz_wl_ga, pz_wl_gn, pz_wl_gi, pz_wl_gr, pz_wl_same, pz_wl_X, pz_wr_gc, pz_wr_ga, pz_wr_gn, pz_wr_gi, pz_wr_gl, pz_wr_same, pz_wr_X, so_0 hS, ea_ialde he]
  (try simp (disch := omega) only [nI_clamp, pz_in_nI2, pz_in_nI2L, pv_gt, nI_add, nI_addL, nI_Ladd, pk_mul, nI_mulL, nI_Lmul, pk_sub, nI_subL, nI_Lsub, nI_inc, nI_clampL, Nat.add_sub_cancel, pz_wi_else, pz_wl_else, vu_eq, vu_ne, pz_wi_gc, pz_wi_ga, pz_wi_gn, pz_wi_gl, pz_wi_gr, pz_wi_same, pz_wi_X, pz_wl_gc, pz_wl_ga, pz_wl_gn, pz_wl_gi, pz_wl_gr, pz_wl_same, pz_wl_X, pz_wr_gc, pz_wr_ga, pz_wr_gn, pz_wr_gi, pz_wr_gl, pz_wr_same, pz_wr_X, so_0 hS, ea_ialde he])
  refine po_brP (fun q899 => ?_) (fun q899 => ?_)
  · first
    | exact absurd q899 (by decide)
    | exact absurd trivial q899
    | exact q899.elim
    | (exfalso; (try simp (disch := omega) only [nI_ltI, nI_leI, nI_eq, nI_ltL, nI_leL, nI_eqL, nI_Llt, nI_Lle, nI_Leq, nI_eqm, nI_meq, nI_ltm, nI_lem, nI_mlt, nI_mle, lg0, lgl, lgg, lgle, lgge, Int32.not_lt, Int32.not_le, Int64.not_lt, Int64.not_le, not_false_eq_true, not_true_eq_false, Decidable.not_not, ge_iff_le, gt_iff_lt] at q899) <;> omega)
    | exact absurd q899 (by with_reducible assumption)
    | exact absurd (by with_reducible assumption) q899
    | exact absurd (Decidable.not_not.mp q899) (by with_reducible assumption)
    | exact absurd (by with_reducible assumption) (Int32.not_le.mpr q899)
    | exact absurd (by with_reducible assumption) (Int32.not_lt.mpr q899)
    | skip
      (try simp (disch := omega) only [nI_ltI, nI_leI, nI_eq, nI_ltL, nI_leL, nI_eqL, nI_Llt, nI_Lle, nI_Leq, nI_eqm, nI_meq, nI_ltm, nI_lem, nI_mlt, nI_mle, lg0, lgl, lgg, lgle, lgge, Int32.not_lt, Int32.not_le, Int64.not_lt, Int64.not_le, not_false_eq_true, not_true_eq_false, Decidable.not_not, ge_iff_le, gt_iff_lt] at q899)
      exact nx M2 ⟨hX2.trans hX, hL2, hz2⟩
  · exact absurd trivial q899
theorem cs_22 (hX6 : i + 6 ≤ X.1) (hX7 : X.1 ≤ 3072) (h : INV X M) (nx : ∀ M', INV X M' → pw 1000 0 (1484, [some (.retAddr 0), some (.ref 0), some (.ref 120), some (.int (nI i))], [], M') Q) : pw 1000 0 (904, [some (.retAddr 0), some (.ref 0), some (.ref 120), some (.int (nI i))], [], M) Q := by
  obtain ⟨hX, hL, hz⟩ := h
  have hS := hL.S
  have he : pz_ex M.1 0 = some (0, X.1, X.2) := by rw [hX]; rfl
  have OP := opp_I (a := 47) (b := 48) (by decide +kernel) (by decide +kernel) hz hL (show opp 999 47 48 [.int (X.2 (i + 1))] M from op_reach (by decide) hL)
  refine pw_blk (mi := mz_0) (b := bz_0_904) rfl rfl ?_
  simp only [bz_0_904, pz_cut_t, pz_cut_f, pz_cut_n, pv_gt, pv_ts, pv_tn, ev_ald1, ev_eld1, ev_ald0, ev_eld0, ev_ild3, ev_ic1, ev_iadd, ea_iald, ev_cv1_0, pz_wi_gc, pz_wi_ga, pz_wi_gn, pz_wi_gl, pz_wi_gr, pz_wi_same, pz_wi_X, pz_wl_gc, pz_wl_ga, pz_wl_gn, pz_wl_gi, pz_wl_gr, pz_wl_same, pz_wl_X, pz_wr_gc, pz_wr_ga, pz_wr_gn, pz_wr_gi, pz_wr_gl, pz_wr_same, pz_wr_X, so_0 hS, ea_ialde he]
  (try simp (disch := omega) only [nI_clamp, pz_in_nI2, pz_in_nI2L, pv_gt, nI_add, nI_addL, nI_Ladd, pk_mul, nI_mulL, nI_Lmul, pk_sub, nI_subL, nI_Lsub, nI_inc, nI_clampL, Nat.add_sub_cancel, pz_wi_else, pz_wl_else, vu_eq, vu_ne, pz_wi_gc, pz_wi_ga, pz_wi_gn, pz_wi_gl, pz_wi_gr, pz_wi_same, pz_wi_X, pz_wl_gc, pz_wl_ga, pz_wl_gn, pz_wl_gi, pz_wl_gr, pz_wl_same, pz_wl_X, pz_wr_gc, pz_wr_ga, pz_wr_gn, pz_wr_gi, pz_wr_gl, pz_wr_same, pz_wr_X, so_0 hS, ea_ialde he])
  (try refine po_gI (by first | exact pz_in_nI (by omega) (by decide) | decide | assumption) ?_)
  (try refine po_gP (Nat.le_of_ble_eq_true rfl) ?_)
  refine po_call (by omega) (pm_mono OP (fun r1 h1 => ?_))
  obtain ⟨v1, M1⟩ := r1
  obtain ⟨x, ex, hX1, g120, h2⟩ := h1
  simp only at ex hX1 g120 h2
  subst ex
  have he1 : pz_ex M1.1 0 = some (0, X.1, X.2) := by rw [hX1, hX]; rfl
  refine pw_blk (mi := mz_0) (b := bz_0_913) rfl rfl ?_
  simp only [bz_0_913, pz_cut_t, pz_cut_f, pz_cut_n, pv_gt, pv_ts, pv_tn, ev_ald2, ev_eld2, ev_ald0, ev_eld0, ev_ild3, ev_ic1, ev_iadd, ea_iald, ev_cv1_11, pz_wi_gc, pz_wi_ga, pz_wi_gn, pz_wi_gl, pz_wi_gr, pz_wi_same, pz_wi_X, pz_wl_gc, pz_wl_ga, pz_wl_gn, pz_wl_gi, pz_wl_gr, pz_wl_same, pz_wl_X, pz_wr_gc, pz_wr_ga, pz_wr_gn, pz_wr_gi, pz_wr_gl, pz_wr_same, pz_wr_X, so_0 hS, ea_ialde he, g120, ea_ialde he1]
  (try simp (disch := omega) only [nI_clamp, pz_in_nI2, pz_in_nI2L, pv_gt, nI_add, nI_addL, nI_Ladd, pk_mul, nI_mulL, nI_Lmul, pk_sub, nI_subL, nI_Lsub, nI_inc, nI_clampL, Nat.add_sub_cancel, pz_wi_else, pz_wl_else, vu_eq, vu_ne, pz_wi_gc, pz_wi_ga, pz_wi_gn, pz_wi_gl, pz_wi_gr, pz_wi_same, pz_wi_X, pz_wl_gc, pz_wl_ga, pz_wl_gn, pz_wl_gi, pz_wl_gr, pz_wl_same, pz_wl_X, pz_wr_gc, pz_wr_ga, pz_wr_gn, pz_wr_gi, pz_wr_gl, pz_wr_same, pz_wr_X, so_0 hS, ea_ialde he, g120, ea_ialde he1])
  (try refine po_gI (by first | exact pz_in_nI (by omega) (by decide) | decide | assumption) ?_)
  (try refine po_gP (Nat.le_of_ble_eq_true rfl) ?_)
  refine po_call (by omega) (pm_mono h2 (fun r2 h3 => ?_))
  obtain ⟨v2, M2⟩ := r2
  obtain ⟨ey, hX2, hL2, hz2⟩ := h3
  simp only at ey hX2 hL2 hz2
  subst ey
  refine pw_blk (mi := mz_0) (b := bz_0_922) rfl rfl ?_
  simp only [bz_0_922, pz_cut_t, pz_cut_f, pz_cut_n, pv_gt, pv_ts, pv_tn, ev_ic_eq, pz_wi_gc, pz_wi_ga, pz_wi_gn, pz_wi_gl, pz_wi_gr, pz_wi_same, pz_wi_X, pz_wl_gc, pz_wl_ga, pz_wl_gn, pz_wl_gi, pz_wl_gr, pz_wl_same, pz_wl_X, pz_wr_gc, pz_wr_ga, pz_wr_gn, pz_wr_gi, pz_wr_gl, pz_wr_same, pz_wr_X, so_0 hS, ea_ialde he]
  (try simp (disch := omega) only [nI_clamp, pz_in_nI2, pz_in_nI2L, pv_gt, nI_add, nI_addL, nI_Ladd, pk_mul, nI_mulL, nI_Lmul, pk_sub, nI_subL, nI_Lsub, nI_inc, nI_clampL, Nat.add_sub_cancel, pz_wi_else, pz_wl_else, vu_eq, vu_ne, pz_wi_gc, pz_wi_ga, pz_wi_gn, pz_wi_gl, pz_wi_gr, pz_wi_same, pz_wi_X, pz_wl_gc, pz_wl_ga, pz_wl_gn, pz_wl_gi, pz_wl_gr, pz_wl_same, pz_wl_X, pz_wr_gc, pz_wr_ga, pz_wr_gn, pz_wr_gi, pz_wr_gl, pz_wr_same, pz_wr_X, so_0 hS, ea_ialde he])
  refine po_brP (fun q922 => ?_) (fun q922 => ?_)
  · first
    | exact absurd q922 (by decide)
    | exact absurd trivial q922
    | exact q922.elim
    | (exfalso; (try simp (disch := omega) only [nI_ltI, nI_leI, nI_eq, nI_ltL, nI_leL, nI_eqL, nI_Llt, nI_Lle, nI_Leq, nI_eqm, nI_meq, nI_ltm, nI_lem, nI_mlt, nI_mle, lg0, lgl, lgg, lgle, lgge, Int32.not_lt, Int32.not_le, Int64.not_lt, Int64.not_le, not_false_eq_true, not_true_eq_false, Decidable.not_not, ge_iff_le, gt_iff_lt] at q922) <;> omega)
    | exact absurd q922 (by with_reducible assumption)
    | exact absurd (by with_reducible assumption) q922
    | exact absurd (Decidable.not_not.mp q922) (by with_reducible assumption)
    | exact absurd (by with_reducible assumption) (Int32.not_le.mpr q922)
    | exact absurd (by with_reducible assumption) (Int32.not_lt.mpr q922)
    | skip
      (try simp (disch := omega) only [nI_ltI, nI_leI, nI_eq, nI_ltL, nI_leL, nI_eqL, nI_Llt, nI_Lle, nI_Leq, nI_eqm, nI_meq, nI_ltm, nI_lem, nI_mlt, nI_mle, lg0, lgl, lgg, lgle, lgge, Int32.not_lt, Int32.not_le, Int64.not_lt, Int64.not_le, not_false_eq_true, not_true_eq_false, Decidable.not_not, ge_iff_le, gt_iff_lt] at q922)
      exact nx M2 ⟨hX2.trans hX, hL2, hz2⟩
  · exact absurd trivial q922
theorem cs_23 (hX6 : i + 6 ≤ X.1) (hX7 : X.1 ≤ 3072) (h : INV X M) (nx : ∀ M', INV X M' → pw 1000 0 (1484, [some (.retAddr 0), some (.ref 0), some (.ref 120), some (.int (nI i))], [], M') Q) : pw 1000 0 (927, [some (.retAddr 0), some (.ref 0), some (.ref 120), some (.int (nI i))], [], M) Q := by
  obtain ⟨hX, hL, hz⟩ := h
  have hS := hL.S
  have he : pz_ex M.1 0 = some (0, X.1, X.2) := by rw [hX]; rfl
  have OP := opp_I (a := 49) (b := 50) (by decide +kernel) (by decide +kernel) hz hL (show opp 999 49 50 [] M from op_rule (by decide) hL)
  refine pw_blk (mi := mz_0) (b := bz_0_927) rfl rfl ?_
  simp only [bz_0_927, pz_cut_t, pz_cut_f, pz_cut_n, pv_gt, pv_ts, pv_tn, ev_ald1, ev_eld1, ev_cv0_0, pz_wi_gc, pz_wi_ga, pz_wi_gn, pz_wi_gl, pz_wi_gr, pz_wi_same, pz_wi_X, pz_wl_gc, pz_wl_ga, pz_wl_gn, pz_wl_gi, pz_wl_gr, pz_wl_same, pz_wl_X, pz_wr_gc, pz_wr_ga, pz_wr_gn, pz_wr_gi, pz_wr_gl, pz_wr_same, pz_wr_X, so_0 hS, ea_ialde he]
  (try simp (disch := omega) only [nI_clamp, pz_in_nI2, pz_in_nI2L, pv_gt, nI_add, nI_addL, nI_Ladd, pk_mul, nI_mulL, nI_Lmul, pk_sub, nI_subL, nI_Lsub, nI_inc, nI_clampL, Nat.add_sub_cancel, pz_wi_else, pz_wl_else, vu_eq, vu_ne, pz_wi_gc, pz_wi_ga, pz_wi_gn, pz_wi_gl, pz_wi_gr, pz_wi_same, pz_wi_X, pz_wl_gc, pz_wl_ga, pz_wl_gn, pz_wl_gi, pz_wl_gr, pz_wl_same, pz_wl_X, pz_wr_gc, pz_wr_ga, pz_wr_gn, pz_wr_gi, pz_wr_gl, pz_wr_same, pz_wr_X, so_0 hS, ea_ialde he])
  (try refine po_gP (Nat.le_of_ble_eq_true rfl) ?_)
  refine po_call (by omega) (pm_mono OP (fun r1 h1 => ?_))
  obtain ⟨v1, M1⟩ := r1
  obtain ⟨x, ex, hX1, g120, h2⟩ := h1
  simp only at ex hX1 g120 h2
  subst ex
  have he1 : pz_ex M1.1 0 = some (0, X.1, X.2) := by rw [hX1, hX]; rfl
  refine pw_blk (mi := mz_0) (b := bz_0_931) rfl rfl ?_
  simp only [bz_0_931, pz_cut_t, pz_cut_f, pz_cut_n, pv_gt, pv_ts, pv_tn, ev_ald2, ev_eld2, ev_cv0_11, pz_wi_gc, pz_wi_ga, pz_wi_gn, pz_wi_gl, pz_wi_gr, pz_wi_same, pz_wi_X, pz_wl_gc, pz_wl_ga, pz_wl_gn, pz_wl_gi, pz_wl_gr, pz_wl_same, pz_wl_X, pz_wr_gc, pz_wr_ga, pz_wr_gn, pz_wr_gi, pz_wr_gl, pz_wr_same, pz_wr_X, so_0 hS, ea_ialde he, g120, ea_ialde he1]
  (try simp (disch := omega) only [nI_clamp, pz_in_nI2, pz_in_nI2L, pv_gt, nI_add, nI_addL, nI_Ladd, pk_mul, nI_mulL, nI_Lmul, pk_sub, nI_subL, nI_Lsub, nI_inc, nI_clampL, Nat.add_sub_cancel, pz_wi_else, pz_wl_else, vu_eq, vu_ne, pz_wi_gc, pz_wi_ga, pz_wi_gn, pz_wi_gl, pz_wi_gr, pz_wi_same, pz_wi_X, pz_wl_gc, pz_wl_ga, pz_wl_gn, pz_wl_gi, pz_wl_gr, pz_wl_same, pz_wl_X, pz_wr_gc, pz_wr_ga, pz_wr_gn, pz_wr_gi, pz_wr_gl, pz_wr_same, pz_wr_X, so_0 hS, ea_ialde he, g120, ea_ialde he1])
  (try refine po_gP (Nat.le_of_ble_eq_true rfl) ?_)
  refine po_call (by omega) (pm_mono h2 (fun r2 h3 => ?_))
  obtain ⟨v2, M2⟩ := r2
  obtain ⟨ey, hX2, hL2, hz2⟩ := h3
  simp only at ey hX2 hL2 hz2
  subst ey
  refine pw_blk (mi := mz_0) (b := bz_0_935) rfl rfl ?_
  simp only [bz_0_935, pz_cut_t, pz_cut_f, pz_cut_n, pv_gt, pv_ts, pv_tn, ev_ic_eq, pz_wi_gc, pz_wi_ga, pz_wi_gn, pz_wi_gl, pz_wi_gr, pz_wi_same, pz_wi_X, pz_wl_gc, pz_wl_ga, pz_wl_gn, pz_wl_gi, pz_wl_gr, pz_wl_same, pz_wl_X, pz_wr_gc, pz_wr_ga, pz_wr_gn, pz_wr_gi, pz_wr_gl, pz_wr_same, pz_wr_X, so_0 hS, ea_ialde he]
  (try simp (disch := omega) only [nI_clamp, pz_in_nI2, pz_in_nI2L, pv_gt, nI_add, nI_addL, nI_Ladd, pk_mul, nI_mulL, nI_Lmul, pk_sub, nI_subL, nI_Lsub, nI_inc, nI_clampL, Nat.add_sub_cancel, pz_wi_else, pz_wl_else, vu_eq, vu_ne, pz_wi_gc, pz_wi_ga, pz_wi_gn, pz_wi_gl, pz_wi_gr, pz_wi_same, pz_wi_X, pz_wl_gc, pz_wl_ga, pz_wl_gn, pz_wl_gi, pz_wl_gr, pz_wl_same, pz_wl_X, pz_wr_gc, pz_wr_ga, pz_wr_gn, pz_wr_gi, pz_wr_gl, pz_wr_same, pz_wr_X, so_0 hS, ea_ialde he])
  refine po_brP (fun q935 => ?_) (fun q935 => ?_)
  · first
    | exact absurd q935 (by decide)
    | exact absurd trivial q935
    | exact q935.elim
    | (exfalso; (try simp (disch := omega) only [nI_ltI, nI_leI, nI_eq, nI_ltL, nI_leL, nI_eqL, nI_Llt, nI_Lle, nI_Leq, nI_eqm, nI_meq, nI_ltm, nI_lem, nI_mlt, nI_mle, lg0, lgl, lgg, lgle, lgge, Int32.not_lt, Int32.not_le, Int64.not_lt, Int64.not_le, not_false_eq_true, not_true_eq_false, Decidable.not_not, ge_iff_le, gt_iff_lt] at q935) <;> omega)
    | exact absurd q935 (by with_reducible assumption)
    | exact absurd (by with_reducible assumption) q935
    | exact absurd (Decidable.not_not.mp q935) (by with_reducible assumption)
    | exact absurd (by with_reducible assumption) (Int32.not_le.mpr q935)
    | exact absurd (by with_reducible assumption) (Int32.not_lt.mpr q935)
    | skip
      (try simp (disch := omega) only [nI_ltI, nI_leI, nI_eq, nI_ltL, nI_leL, nI_eqL, nI_Llt, nI_Lle, nI_Leq, nI_eqm, nI_meq, nI_ltm, nI_lem, nI_mlt, nI_mle, lg0, lgl, lgg, lgle, lgge, Int32.not_lt, Int32.not_le, Int64.not_lt, Int64.not_le, not_false_eq_true, not_true_eq_false, Decidable.not_not, ge_iff_le, gt_iff_lt] at q935)
      exact nx M2 ⟨hX2.trans hX, hL2, hz2⟩
  · exact absurd trivial q935
theorem cs_24 (hX6 : i + 6 ≤ X.1) (hX7 : X.1 ≤ 3072) (h : INV X M) (nx : ∀ M', INV X M' → pw 1000 0 (1484, [some (.retAddr 0), some (.ref 0), some (.ref 120), some (.int (nI i))], [], M') Q) : pw 1000 0 (940, [some (.retAddr 0), some (.ref 0), some (.ref 120), some (.int (nI i))], [], M) Q := by
  obtain ⟨hX, hL, hz⟩ := h
  have hS := hL.S
  have he : pz_ex M.1 0 = some (0, X.1, X.2) := by rw [hX]; rfl
  have OP := opp_I (a := 51) (b := 52) (by decide +kernel) (by decide +kernel) hz hL (show opp 999 51 52 [.int (X.2 (i + 1))] M from op_finger (by decide) hL)
  refine pw_blk (mi := mz_0) (b := bz_0_940) rfl rfl ?_
  simp only [bz_0_940, pz_cut_t, pz_cut_f, pz_cut_n, pv_gt, pv_ts, pv_tn, ev_ald1, ev_eld1, ev_ald0, ev_eld0, ev_ild3, ev_ic1, ev_iadd, ea_iald, ev_cv1_0, pz_wi_gc, pz_wi_ga, pz_wi_gn, pz_wi_gl, pz_wi_gr, pz_wi_same, pz_wi_X, pz_wl_gc, pz_wl_ga, pz_wl_gn, pz_wl_gi, pz_wl_gr, pz_wl_same, pz_wl_X, pz_wr_gc, pz_wr_ga, pz_wr_gn, pz_wr_gi, pz_wr_gl, pz_wr_same, pz_wr_X, so_0 hS, ea_ialde he]
  (try simp (disch := omega) only [nI_clamp, pz_in_nI2, pz_in_nI2L, pv_gt, nI_add, nI_addL, nI_Ladd, pk_mul, nI_mulL, nI_Lmul, pk_sub, nI_subL, nI_Lsub, nI_inc, nI_clampL, Nat.add_sub_cancel, pz_wi_else, pz_wl_else, vu_eq, vu_ne, pz_wi_gc, pz_wi_ga, pz_wi_gn, pz_wi_gl, pz_wi_gr, pz_wi_same, pz_wi_X, pz_wl_gc, pz_wl_ga, pz_wl_gn, pz_wl_gi, pz_wl_gr, pz_wl_same, pz_wl_X, pz_wr_gc, pz_wr_ga, pz_wr_gn, pz_wr_gi, pz_wr_gl, pz_wr_same, pz_wr_X, so_0 hS, ea_ialde he])
  (try refine po_gI (by first | exact pz_in_nI (by omega) (by decide) | decide | assumption) ?_)
  (try refine po_gP (Nat.le_of_ble_eq_true rfl) ?_)
  refine po_call (by omega) (pm_mono OP (fun r1 h1 => ?_))
  obtain ⟨v1, M1⟩ := r1
  obtain ⟨x, ex, hX1, g120, h2⟩ := h1
  simp only at ex hX1 g120 h2
  subst ex
  have he1 : pz_ex M1.1 0 = some (0, X.1, X.2) := by rw [hX1, hX]; rfl
  refine pw_blk (mi := mz_0) (b := bz_0_949) rfl rfl ?_
  simp only [bz_0_949, pz_cut_t, pz_cut_f, pz_cut_n, pv_gt, pv_ts, pv_tn, ev_ald2, ev_eld2, ev_ald0, ev_eld0, ev_ild3, ev_ic1, ev_iadd, ea_iald, ev_cv1_11, pz_wi_gc, pz_wi_ga, pz_wi_gn, pz_wi_gl, pz_wi_gr, pz_wi_same, pz_wi_X, pz_wl_gc, pz_wl_ga, pz_wl_gn, pz_wl_gi, pz_wl_gr, pz_wl_same, pz_wl_X, pz_wr_gc, pz_wr_ga, pz_wr_gn, pz_wr_gi, pz_wr_gl, pz_wr_same, pz_wr_X, so_0 hS, ea_ialde he, g120, ea_ialde he1]
  (try simp (disch := omega) only [nI_clamp, pz_in_nI2, pz_in_nI2L, pv_gt, nI_add, nI_addL, nI_Ladd, pk_mul, nI_mulL, nI_Lmul, pk_sub, nI_subL, nI_Lsub, nI_inc, nI_clampL, Nat.add_sub_cancel, pz_wi_else, pz_wl_else, vu_eq, vu_ne, pz_wi_gc, pz_wi_ga, pz_wi_gn, pz_wi_gl, pz_wi_gr, pz_wi_same, pz_wi_X, pz_wl_gc, pz_wl_ga, pz_wl_gn, pz_wl_gi, pz_wl_gr, pz_wl_same, pz_wl_X, pz_wr_gc, pz_wr_ga, pz_wr_gn, pz_wr_gi, pz_wr_gl, pz_wr_same, pz_wr_X, so_0 hS, ea_ialde he, g120, ea_ialde he1])
  (try refine po_gI (by first | exact pz_in_nI (by omega) (by decide) | decide | assumption) ?_)
  (try refine po_gP (Nat.le_of_ble_eq_true rfl) ?_)
  refine po_call (by omega) (pm_mono h2 (fun r2 h3 => ?_))
  obtain ⟨v2, M2⟩ := r2
  obtain ⟨ey, hX2, hL2, hz2⟩ := h3
  simp only at ey hX2 hL2 hz2
  subst ey
  refine pw_blk (mi := mz_0) (b := bz_0_958) rfl rfl ?_
  simp only [bz_0_958, pz_cut_t, pz_cut_f, pz_cut_n, pv_gt, pv_ts, pv_tn, ev_ic_eq, pz_wi_gc, pz_wi_ga, pz_wi_gn, pz_wi_gl, pz_wi_gr, pz_wi_same, pz_wi_X, pz_wl_gc, pz_wl_ga, pz_wl_gn, pz_wl_gi, pz_wl_gr, pz_wl_same, pz_wl_X, pz_wr_gc, pz_wr_ga, pz_wr_gn, pz_wr_gi, pz_wr_gl, pz_wr_same, pz_wr_X, so_0 hS, ea_ialde he]
  (try simp (disch := omega) only [nI_clamp, pz_in_nI2, pz_in_nI2L, pv_gt, nI_add, nI_addL, nI_Ladd, pk_mul, nI_mulL, nI_Lmul, pk_sub, nI_subL, nI_Lsub, nI_inc, nI_clampL, Nat.add_sub_cancel, pz_wi_else, pz_wl_else, vu_eq, vu_ne, pz_wi_gc, pz_wi_ga, pz_wi_gn, pz_wi_gl, pz_wi_gr, pz_wi_same, pz_wi_X, pz_wl_gc, pz_wl_ga, pz_wl_gn, pz_wl_gi, pz_wl_gr, pz_wl_same, pz_wl_X, pz_wr_gc, pz_wr_ga, pz_wr_gn, pz_wr_gi, pz_wr_gl, pz_wr_same, pz_wr_X, so_0 hS, ea_ialde he])
  refine po_brP (fun q958 => ?_) (fun q958 => ?_)
  · first
    | exact absurd q958 (by decide)
    | exact absurd trivial q958
    | exact q958.elim
    | (exfalso; (try simp (disch := omega) only [nI_ltI, nI_leI, nI_eq, nI_ltL, nI_leL, nI_eqL, nI_Llt, nI_Lle, nI_Leq, nI_eqm, nI_meq, nI_ltm, nI_lem, nI_mlt, nI_mle, lg0, lgl, lgg, lgle, lgge, Int32.not_lt, Int32.not_le, Int64.not_lt, Int64.not_le, not_false_eq_true, not_true_eq_false, Decidable.not_not, ge_iff_le, gt_iff_lt] at q958) <;> omega)
    | exact absurd q958 (by with_reducible assumption)
    | exact absurd (by with_reducible assumption) q958
    | exact absurd (Decidable.not_not.mp q958) (by with_reducible assumption)
    | exact absurd (by with_reducible assumption) (Int32.not_le.mpr q958)
    | exact absurd (by with_reducible assumption) (Int32.not_lt.mpr q958)
    | skip
      (try simp (disch := omega) only [nI_ltI, nI_leI, nI_eq, nI_ltL, nI_leL, nI_eqL, nI_Llt, nI_Lle, nI_Leq, nI_eqm, nI_meq, nI_ltm, nI_lem, nI_mlt, nI_mle, lg0, lgl, lgg, lgle, lgge, Int32.not_lt, Int32.not_le, Int64.not_lt, Int64.not_le, not_false_eq_true, not_true_eq_false, Decidable.not_not, ge_iff_le, gt_iff_lt] at q958)
      exact nx M2 ⟨hX2.trans hX, hL2, hz2⟩
  · exact absurd trivial q958
theorem cs_25 (hX6 : i + 6 ≤ X.1) (hX7 : X.1 ≤ 3072) (h : INV X M) (nx : ∀ M', INV X M' → pw 1000 0 (1484, [some (.retAddr 0), some (.ref 0), some (.ref 120), some (.int (nI i))], [], M') Q) : pw 1000 0 (963, [some (.retAddr 0), some (.ref 0), some (.ref 120), some (.int (nI i))], [], M) Q := by
  obtain ⟨hX, hL, hz⟩ := h
  have hS := hL.S
  have he : pz_ex M.1 0 = some (0, X.1, X.2) := by rw [hX]; rfl
  have OP := opp_I (a := 53) (b := 54) (by decide +kernel) (by decide +kernel) hz hL (show opp 999 53 54 [.int (X.2 (i + 1)), .int (X.2 (i + 2)), .int (X.2 (i + 3))] M from op_diary (by decide) hL)
  refine pw_blk (mi := mz_0) (b := bz_0_963) rfl rfl ?_
  simp only [bz_0_963, pz_cut_t, pz_cut_f, pz_cut_n, pv_gt, pv_ts, pv_tn, ev_ald1, ev_eld1, ev_ald0, ev_eld0, ev_ild3, ev_ic1, ev_iadd, ea_iald, ev_ic2, ev_ic3, ev_cv3_0, pz_wi_gc, pz_wi_ga, pz_wi_gn, pz_wi_gl, pz_wi_gr, pz_wi_same, pz_wi_X, pz_wl_gc, pz_wl_ga, pz_wl_gn, pz_wl_gi, pz_wl_gr, pz_wl_same, pz_wl_X, pz_wr_gc, pz_wr_ga, pz_wr_gn, pz_wr_gi, pz_wr_gl, pz_wr_same, pz_wr_X, so_0 hS, ea_ialde he]
  (try simp (disch := omega) only [nI_clamp, pz_in_nI2, pz_in_nI2L, pv_gt, nI_add, nI_addL, nI_Ladd, pk_mul, nI_mulL, nI_Lmul, pk_sub, nI_subL, nI_Lsub, nI_inc, nI_clampL, Nat.add_sub_cancel, pz_wi_else, pz_wl_else, vu_eq, vu_ne, pz_wi_gc, pz_wi_ga, pz_wi_gn, pz_wi_gl, pz_wi_gr, pz_wi_same, pz_wi_X, pz_wl_gc, pz_wl_ga, pz_wl_gn, pz_wl_gi, pz_wl_gr, pz_wl_same, pz_wl_X, pz_wr_gc, pz_wr_ga, pz_wr_gn, pz_wr_gi, pz_wr_gl, pz_wr_same, pz_wr_X, so_0 hS, ea_ialde he])
  (try refine po_gI (by first | exact pz_in_nI (by omega) (by decide) | decide | assumption) ?_)
  (try refine po_gI (by first | exact pz_in_nI (by omega) (by decide) | decide | assumption) ?_)
  (try refine po_gI (by first | exact pz_in_nI (by omega) (by decide) | decide | assumption) ?_)
  (try refine po_gP (Nat.le_of_ble_eq_true rfl) ?_)
  refine po_call (by omega) (pm_mono OP (fun r1 h1 => ?_))
  obtain ⟨v1, M1⟩ := r1
  obtain ⟨x, ex, hX1, g120, h2⟩ := h1
  simp only at ex hX1 g120 h2
  subst ex
  have he1 : pz_ex M1.1 0 = some (0, X.1, X.2) := by rw [hX1, hX]; rfl
  refine pw_blk (mi := mz_0) (b := bz_0_982) rfl rfl ?_
  simp only [bz_0_982, pz_cut_t, pz_cut_f, pz_cut_n, pv_gt, pv_ts, pv_tn, ev_ald2, ev_eld2, ev_ald0, ev_eld0, ev_ild3, ev_ic1, ev_iadd, ea_iald, ev_ic2, ev_ic3, ev_cv3_11, pz_wi_gc, pz_wi_ga, pz_wi_gn, pz_wi_gl, pz_wi_gr, pz_wi_same, pz_wi_X, pz_wl_gc, pz_wl_ga, pz_wl_gn, pz_wl_gi, pz_wl_gr, pz_wl_same, pz_wl_X, pz_wr_gc, pz_wr_ga, pz_wr_gn, pz_wr_gi, pz_wr_gl, pz_wr_same, pz_wr_X, so_0 hS, ea_ialde he, g120, ea_ialde he1]
  (try simp (disch := omega) only [nI_clamp, pz_in_nI2, pz_in_nI2L, pv_gt, nI_add, nI_addL, nI_Ladd, pk_mul, nI_mulL, nI_Lmul, pk_sub, nI_subL, nI_Lsub, nI_inc, nI_clampL, Nat.add_sub_cancel, pz_wi_else, pz_wl_else, vu_eq, vu_ne, pz_wi_gc, pz_wi_ga, pz_wi_gn, pz_wi_gl, pz_wi_gr, pz_wi_same, pz_wi_X, pz_wl_gc, pz_wl_ga, pz_wl_gn, pz_wl_gi, pz_wl_gr, pz_wl_same, pz_wl_X, pz_wr_gc, pz_wr_ga, pz_wr_gn, pz_wr_gi, pz_wr_gl, pz_wr_same, pz_wr_X, so_0 hS, ea_ialde he, g120, ea_ialde he1])
  (try refine po_gI (by first | exact pz_in_nI (by omega) (by decide) | decide | assumption) ?_)
  (try refine po_gI (by first | exact pz_in_nI (by omega) (by decide) | decide | assumption) ?_)
  (try refine po_gI (by first | exact pz_in_nI (by omega) (by decide) | decide | assumption) ?_)
  (try refine po_gP (Nat.le_of_ble_eq_true rfl) ?_)
  refine po_call (by omega) (pm_mono h2 (fun r2 h3 => ?_))
  obtain ⟨v2, M2⟩ := r2
  obtain ⟨ey, hX2, hL2, hz2⟩ := h3
  simp only at ey hX2 hL2 hz2
  subst ey
  refine pw_blk (mi := mz_0) (b := bz_0_1001) rfl rfl ?_
  simp only [bz_0_1001, pz_cut_t, pz_cut_f, pz_cut_n, pv_gt, pv_ts, pv_tn, ev_ic_eq, pz_wi_gc, pz_wi_ga, pz_wi_gn, pz_wi_gl, pz_wi_gr, pz_wi_same, pz_wi_X, pz_wl_gc, pz_wl_ga, pz_wl_gn, pz_wl_gi, pz_wl_gr, pz_wl_same, pz_wl_X, pz_wr_gc, pz_wr_ga, pz_wr_gn, pz_wr_gi, pz_wr_gl, pz_wr_same, pz_wr_X, so_0 hS, ea_ialde he]
  (try simp (disch := omega) only [nI_clamp, pz_in_nI2, pz_in_nI2L, pv_gt, nI_add, nI_addL, nI_Ladd, pk_mul, nI_mulL, nI_Lmul, pk_sub, nI_subL, nI_Lsub, nI_inc, nI_clampL, Nat.add_sub_cancel, pz_wi_else, pz_wl_else, vu_eq, vu_ne, pz_wi_gc, pz_wi_ga, pz_wi_gn, pz_wi_gl, pz_wi_gr, pz_wi_same, pz_wi_X, pz_wl_gc, pz_wl_ga, pz_wl_gn, pz_wl_gi, pz_wl_gr, pz_wl_same, pz_wl_X, pz_wr_gc, pz_wr_ga, pz_wr_gn, pz_wr_gi, pz_wr_gl, pz_wr_same, pz_wr_X, so_0 hS, ea_ialde he])
  refine po_brP (fun q1001 => ?_) (fun q1001 => ?_)
  · first
    | exact absurd q1001 (by decide)
    | exact absurd trivial q1001
    | exact q1001.elim
    | (exfalso; (try simp (disch := omega) only [nI_ltI, nI_leI, nI_eq, nI_ltL, nI_leL, nI_eqL, nI_Llt, nI_Lle, nI_Leq, nI_eqm, nI_meq, nI_ltm, nI_lem, nI_mlt, nI_mle, lg0, lgl, lgg, lgle, lgge, Int32.not_lt, Int32.not_le, Int64.not_lt, Int64.not_le, not_false_eq_true, not_true_eq_false, Decidable.not_not, ge_iff_le, gt_iff_lt] at q1001) <;> omega)
    | exact absurd q1001 (by with_reducible assumption)
    | exact absurd (by with_reducible assumption) q1001
    | exact absurd (Decidable.not_not.mp q1001) (by with_reducible assumption)
    | exact absurd (by with_reducible assumption) (Int32.not_le.mpr q1001)
    | exact absurd (by with_reducible assumption) (Int32.not_lt.mpr q1001)
    | skip
      (try simp (disch := omega) only [nI_ltI, nI_leI, nI_eq, nI_ltL, nI_leL, nI_eqL, nI_Llt, nI_Lle, nI_Leq, nI_eqm, nI_meq, nI_ltm, nI_lem, nI_mlt, nI_mle, lg0, lgl, lgg, lgle, lgge, Int32.not_lt, Int32.not_le, Int64.not_lt, Int64.not_le, not_false_eq_true, not_true_eq_false, Decidable.not_not, ge_iff_le, gt_iff_lt] at q1001)
      exact nx M2 ⟨hX2.trans hX, hL2, hz2⟩
  · exact absurd trivial q1001
theorem cs_26 (hX6 : i + 6 ≤ X.1) (hX7 : X.1 ≤ 3072) (h : INV X M) (nx : ∀ M', INV X M' → pw 1000 0 (1484, [some (.retAddr 0), some (.ref 0), some (.ref 120), some (.int (nI i))], [], M') Q) : pw 1000 0 (1006, [some (.retAddr 0), some (.ref 0), some (.ref 120), some (.int (nI i))], [], M) Q := by
  obtain ⟨hX, hL, hz⟩ := h
  have hS := hL.S
  have he : pz_ex M.1 0 = some (0, X.1, X.2) := by rw [hX]; rfl
  by_cases hb0 : X.2 (i + 3) = 0
  · skip
    have HB : (0 : Int32) = 0 ∨ (0 : Int32) = 1 := by decide
    have OP := opp_I (a := 55) (b := 56) (by decide +kernel) (by decide +kernel) hz hL (show opp 999 55 56 [.int (X.2 (i + 1)), .int (X.2 (i + 2)), .int (0)] M from op_paper (by decide) hL HB)
    refine pw_blk (mi := mz_0) (b := bz_0_1006) rfl rfl ?_
    simp only [bz_0_1006, pz_cut_t, pz_cut_f, pz_cut_n, pv_gt, pv_ts, pv_tn, ev_ald1, ev_eld1, ev_ald0, ev_eld0, ev_ild3, ev_ic1, ev_iadd, ea_iald, ev_ic2, ev_ic3, ev_ifeq, pz_wi_gc, pz_wi_ga, pz_wi_gn, pz_wi_gl, pz_wi_gr, pz_wi_same, pz_wi_X, pz_wl_gc, pz_wl_ga, pz_wl_gn, pz_wl_gi, pz_wl_gr, pz_wl_same, pz_wl_X, pz_wr_gc, pz_wr_ga, pz_wr_gn, pz_wr_gi, pz_wr_gl, pz_wr_same, pz_wr_X, so_0 hS, ea_ialde he]
    (try simp (disch := omega) only [nI_clamp, pz_in_nI2, pz_in_nI2L, pv_gt, nI_add, nI_addL, nI_Ladd, pk_mul, nI_mulL, nI_Lmul, pk_sub, nI_subL, nI_Lsub, nI_inc, nI_clampL, Nat.add_sub_cancel, pz_wi_else, pz_wl_else, vu_eq, vu_ne, pz_wi_gc, pz_wi_ga, pz_wi_gn, pz_wi_gl, pz_wi_gr, pz_wi_same, pz_wi_X, pz_wl_gc, pz_wl_ga, pz_wl_gn, pz_wl_gi, pz_wl_gr, pz_wl_same, pz_wl_X, pz_wr_gc, pz_wr_ga, pz_wr_gn, pz_wr_gi, pz_wr_gl, pz_wr_same, pz_wr_X, so_0 hS, ea_ialde he])
    (try refine po_gI (by first | exact pz_in_nI (by omega) (by decide) | decide | assumption) ?_)
    (try refine po_gI (by first | exact pz_in_nI (by omega) (by decide) | decide | assumption) ?_)
    (try refine po_gI (by first | exact pz_in_nI (by omega) (by decide) | decide | assumption) ?_)
    refine po_brP (fun q1006 => ?_) (fun q1006 => ?_)
    · skip
      (try simp (disch := omega) only [nI_ltI, nI_leI, nI_eq, nI_ltL, nI_leL, nI_eqL, nI_Llt, nI_Lle, nI_Leq, nI_eqm, nI_meq, nI_ltm, nI_lem, nI_mlt, nI_mle, lg0, lgl, lgg, lgle, lgge, Int32.not_lt, Int32.not_le, Int64.not_lt, Int64.not_le, not_false_eq_true, not_true_eq_false, Decidable.not_not, ge_iff_le, gt_iff_lt] at q1006)
      refine pw_blk (mi := mz_0) (b := bz_0_1029) rfl rfl ?_
      simp only [bz_0_1029, pz_cut_t, pz_cut_f, pz_cut_n, pv_gt, pv_ts, pv_tn, ev_ic0, ev_nil, pz_wi_gc, pz_wi_ga, pz_wi_gn, pz_wi_gl, pz_wi_gr, pz_wi_same, pz_wi_X, pz_wl_gc, pz_wl_ga, pz_wl_gn, pz_wl_gi, pz_wl_gr, pz_wl_same, pz_wl_X, pz_wr_gc, pz_wr_ga, pz_wr_gn, pz_wr_gi, pz_wr_gl, pz_wr_same, pz_wr_X, so_0 hS, ea_ialde he]
      (try simp (disch := omega) only [nI_clamp, pz_in_nI2, pz_in_nI2L, pv_gt, nI_add, nI_addL, nI_Ladd, pk_mul, nI_mulL, nI_Lmul, pk_sub, nI_subL, nI_Lsub, nI_inc, nI_clampL, Nat.add_sub_cancel, pz_wi_else, pz_wl_else, vu_eq, vu_ne, pz_wi_gc, pz_wi_ga, pz_wi_gn, pz_wi_gl, pz_wi_gr, pz_wi_same, pz_wi_X, pz_wl_gc, pz_wl_ga, pz_wl_gn, pz_wl_gi, pz_wl_gr, pz_wl_same, pz_wl_X, pz_wr_gc, pz_wr_ga, pz_wr_gn, pz_wr_gi, pz_wr_gl, pz_wr_same, pz_wr_X, so_0 hS, ea_ialde he])
      refine po_go ?_
      refine pw_blk (mi := mz_0) (b := bz_0_1030) rfl rfl ?_
      simp only [bz_0_1030, pz_cut_t, pz_cut_f, pz_cut_n, pv_gt, pv_ts, pv_tn, ev_cv3_0, pz_wi_gc, pz_wi_ga, pz_wi_gn, pz_wi_gl, pz_wi_gr, pz_wi_same, pz_wi_X, pz_wl_gc, pz_wl_ga, pz_wl_gn, pz_wl_gi, pz_wl_gr, pz_wl_same, pz_wl_X, pz_wr_gc, pz_wr_ga, pz_wr_gn, pz_wr_gi, pz_wr_gl, pz_wr_same, pz_wr_X, so_0 hS, ea_ialde he]
      (try simp (disch := omega) only [nI_clamp, pz_in_nI2, pz_in_nI2L, pv_gt, nI_add, nI_addL, nI_Ladd, pk_mul, nI_mulL, nI_Lmul, pk_sub, nI_subL, nI_Lsub, nI_inc, nI_clampL, Nat.add_sub_cancel, pz_wi_else, pz_wl_else, vu_eq, vu_ne, pz_wi_gc, pz_wi_ga, pz_wi_gn, pz_wi_gl, pz_wi_gr, pz_wi_same, pz_wi_X, pz_wl_gc, pz_wl_ga, pz_wl_gn, pz_wl_gi, pz_wl_gr, pz_wl_same, pz_wl_X, pz_wr_gc, pz_wr_ga, pz_wr_gn, pz_wr_gi, pz_wr_gl, pz_wr_same, pz_wr_X, so_0 hS, ea_ialde he])
      (try refine po_gP (Nat.le_of_ble_eq_true rfl) ?_)
      refine po_call (by omega) (pm_mono OP (fun r1 h1 => ?_))
      obtain ⟨v1, M1⟩ := r1
      obtain ⟨x, ex, hX1, g120, h2⟩ := h1
      simp only at ex hX1 g120 h2
      subst ex
      have he1 : pz_ex M1.1 0 = some (0, X.1, X.2) := by rw [hX1, hX]; rfl
      refine pw_blk (mi := mz_0) (b := bz_0_1033) rfl rfl ?_
      simp only [bz_0_1033, pz_cut_t, pz_cut_f, pz_cut_n, pv_gt, pv_ts, pv_tn, ev_ald2, ev_eld2, ev_ald0, ev_eld0, ev_ild3, ev_ic1, ev_iadd, ea_iald, ev_ic2, ev_ic3, ev_ifeq, pz_wi_gc, pz_wi_ga, pz_wi_gn, pz_wi_gl, pz_wi_gr, pz_wi_same, pz_wi_X, pz_wl_gc, pz_wl_ga, pz_wl_gn, pz_wl_gi, pz_wl_gr, pz_wl_same, pz_wl_X, pz_wr_gc, pz_wr_ga, pz_wr_gn, pz_wr_gi, pz_wr_gl, pz_wr_same, pz_wr_X, so_0 hS, ea_ialde he, g120, ea_ialde he1]
      (try simp (disch := omega) only [nI_clamp, pz_in_nI2, pz_in_nI2L, pv_gt, nI_add, nI_addL, nI_Ladd, pk_mul, nI_mulL, nI_Lmul, pk_sub, nI_subL, nI_Lsub, nI_inc, nI_clampL, Nat.add_sub_cancel, pz_wi_else, pz_wl_else, vu_eq, vu_ne, pz_wi_gc, pz_wi_ga, pz_wi_gn, pz_wi_gl, pz_wi_gr, pz_wi_same, pz_wi_X, pz_wl_gc, pz_wl_ga, pz_wl_gn, pz_wl_gi, pz_wl_gr, pz_wl_same, pz_wl_X, pz_wr_gc, pz_wr_ga, pz_wr_gn, pz_wr_gi, pz_wr_gl, pz_wr_same, pz_wr_X, so_0 hS, ea_ialde he, g120, ea_ialde he1])
      (try refine po_gI (by first | exact pz_in_nI (by omega) (by decide) | decide | assumption) ?_)
      (try refine po_gI (by first | exact pz_in_nI (by omega) (by decide) | decide | assumption) ?_)
      (try refine po_gI (by first | exact pz_in_nI (by omega) (by decide) | decide | assumption) ?_)
      refine po_brP (fun q1033 => ?_) (fun q1033 => ?_)
      · skip
        (try simp (disch := omega) only [nI_ltI, nI_leI, nI_eq, nI_ltL, nI_leL, nI_eqL, nI_Llt, nI_Lle, nI_Leq, nI_eqm, nI_meq, nI_ltm, nI_lem, nI_mlt, nI_mle, lg0, lgl, lgg, lgle, lgge, Int32.not_lt, Int32.not_le, Int64.not_lt, Int64.not_le, not_false_eq_true, not_true_eq_false, Decidable.not_not, ge_iff_le, gt_iff_lt] at q1033)
        refine pw_blk (mi := mz_0) (b := bz_0_1056) rfl rfl ?_
        simp only [bz_0_1056, pz_cut_t, pz_cut_f, pz_cut_n, pv_gt, pv_ts, pv_tn, ev_ic0, ev_nil, pz_wi_gc, pz_wi_ga, pz_wi_gn, pz_wi_gl, pz_wi_gr, pz_wi_same, pz_wi_X, pz_wl_gc, pz_wl_ga, pz_wl_gn, pz_wl_gi, pz_wl_gr, pz_wl_same, pz_wl_X, pz_wr_gc, pz_wr_ga, pz_wr_gn, pz_wr_gi, pz_wr_gl, pz_wr_same, pz_wr_X, so_0 hS, ea_ialde he, g120, ea_ialde he1]
        (try simp (disch := omega) only [nI_clamp, pz_in_nI2, pz_in_nI2L, pv_gt, nI_add, nI_addL, nI_Ladd, pk_mul, nI_mulL, nI_Lmul, pk_sub, nI_subL, nI_Lsub, nI_inc, nI_clampL, Nat.add_sub_cancel, pz_wi_else, pz_wl_else, vu_eq, vu_ne, pz_wi_gc, pz_wi_ga, pz_wi_gn, pz_wi_gl, pz_wi_gr, pz_wi_same, pz_wi_X, pz_wl_gc, pz_wl_ga, pz_wl_gn, pz_wl_gi, pz_wl_gr, pz_wl_same, pz_wl_X, pz_wr_gc, pz_wr_ga, pz_wr_gn, pz_wr_gi, pz_wr_gl, pz_wr_same, pz_wr_X, so_0 hS, ea_ialde he, g120, ea_ialde he1])
        refine po_go ?_
        refine pw_blk (mi := mz_0) (b := bz_0_1057) rfl rfl ?_
        simp only [bz_0_1057, pz_cut_t, pz_cut_f, pz_cut_n, pv_gt, pv_ts, pv_tn, ev_cv3_11, pz_wi_gc, pz_wi_ga, pz_wi_gn, pz_wi_gl, pz_wi_gr, pz_wi_same, pz_wi_X, pz_wl_gc, pz_wl_ga, pz_wl_gn, pz_wl_gi, pz_wl_gr, pz_wl_same, pz_wl_X, pz_wr_gc, pz_wr_ga, pz_wr_gn, pz_wr_gi, pz_wr_gl, pz_wr_same, pz_wr_X, so_0 hS, ea_ialde he, g120, ea_ialde he1]
        (try simp (disch := omega) only [nI_clamp, pz_in_nI2, pz_in_nI2L, pv_gt, nI_add, nI_addL, nI_Ladd, pk_mul, nI_mulL, nI_Lmul, pk_sub, nI_subL, nI_Lsub, nI_inc, nI_clampL, Nat.add_sub_cancel, pz_wi_else, pz_wl_else, vu_eq, vu_ne, pz_wi_gc, pz_wi_ga, pz_wi_gn, pz_wi_gl, pz_wi_gr, pz_wi_same, pz_wi_X, pz_wl_gc, pz_wl_ga, pz_wl_gn, pz_wl_gi, pz_wl_gr, pz_wl_same, pz_wl_X, pz_wr_gc, pz_wr_ga, pz_wr_gn, pz_wr_gi, pz_wr_gl, pz_wr_same, pz_wr_X, so_0 hS, ea_ialde he, g120, ea_ialde he1])
        (try refine po_gP (Nat.le_of_ble_eq_true rfl) ?_)
        refine po_call (by omega) (pm_mono h2 (fun r2 h3 => ?_))
        obtain ⟨v2, M2⟩ := r2
        obtain ⟨ey, hX2, hL2, hz2⟩ := h3
        simp only at ey hX2 hL2 hz2
        subst ey
        refine pw_blk (mi := mz_0) (b := bz_0_1060) rfl rfl ?_
        simp only [bz_0_1060, pz_cut_t, pz_cut_f, pz_cut_n, pv_gt, pv_ts, pv_tn, ev_ic_eq, pz_wi_gc, pz_wi_ga, pz_wi_gn, pz_wi_gl, pz_wi_gr, pz_wi_same, pz_wi_X, pz_wl_gc, pz_wl_ga, pz_wl_gn, pz_wl_gi, pz_wl_gr, pz_wl_same, pz_wl_X, pz_wr_gc, pz_wr_ga, pz_wr_gn, pz_wr_gi, pz_wr_gl, pz_wr_same, pz_wr_X, so_0 hS, ea_ialde he]
        (try simp (disch := omega) only [nI_clamp, pz_in_nI2, pz_in_nI2L, pv_gt, nI_add, nI_addL, nI_Ladd, pk_mul, nI_mulL, nI_Lmul, pk_sub, nI_subL, nI_Lsub, nI_inc, nI_clampL, Nat.add_sub_cancel, pz_wi_else, pz_wl_else, vu_eq, vu_ne, pz_wi_gc, pz_wi_ga, pz_wi_gn, pz_wi_gl, pz_wi_gr, pz_wi_same, pz_wi_X, pz_wl_gc, pz_wl_ga, pz_wl_gn, pz_wl_gi, pz_wl_gr, pz_wl_same, pz_wl_X, pz_wr_gc, pz_wr_ga, pz_wr_gn, pz_wr_gi, pz_wr_gl, pz_wr_same, pz_wr_X, so_0 hS, ea_ialde he])
        refine po_brP (fun q1060 => ?_) (fun q1060 => ?_)
        · first
          | exact absurd q1060 (by decide)
          | exact absurd trivial q1060
          | exact q1060.elim
          | (exfalso; (try simp (disch := omega) only [nI_ltI, nI_leI, nI_eq, nI_ltL, nI_leL, nI_eqL, nI_Llt, nI_Lle, nI_Leq, nI_eqm, nI_meq, nI_ltm, nI_lem, nI_mlt, nI_mle, lg0, lgl, lgg, lgle, lgge, Int32.not_lt, Int32.not_le, Int64.not_lt, Int64.not_le, not_false_eq_true, not_true_eq_false, Decidable.not_not, ge_iff_le, gt_iff_lt] at q1060) <;> omega)
          | exact absurd q1060 (by with_reducible assumption)
          | exact absurd (by with_reducible assumption) q1060
          | exact absurd (Decidable.not_not.mp q1060) (by with_reducible assumption)
          | exact absurd (by with_reducible assumption) (Int32.not_le.mpr q1060)
          | exact absurd (by with_reducible assumption) (Int32.not_lt.mpr q1060)
          | skip
            (try simp (disch := omega) only [nI_ltI, nI_leI, nI_eq, nI_ltL, nI_leL, nI_eqL, nI_Llt, nI_Lle, nI_Leq, nI_eqm, nI_meq, nI_ltm, nI_lem, nI_mlt, nI_mle, lg0, lgl, lgg, lgle, lgge, Int32.not_lt, Int32.not_le, Int64.not_lt, Int64.not_le, not_false_eq_true, not_true_eq_false, Decidable.not_not, ge_iff_le, gt_iff_lt] at q1060)
            exact nx M2 ⟨hX2.trans hX, hL2, hz2⟩
        · exact absurd trivial q1060
      · first
        | exact absurd q1033 (by decide)
        | exact absurd trivial q1033
        | exact q1033.elim
        | (exfalso; (try simp (disch := omega) only [nI_ltI, nI_leI, nI_eq, nI_ltL, nI_leL, nI_eqL, nI_Llt, nI_Lle, nI_Leq, nI_eqm, nI_meq, nI_ltm, nI_lem, nI_mlt, nI_mle, lg0, lgl, lgg, lgle, lgge, Int32.not_lt, Int32.not_le, Int64.not_lt, Int64.not_le, not_false_eq_true, not_true_eq_false, Decidable.not_not, ge_iff_le, gt_iff_lt] at q1033) <;> omega)
        | exact absurd q1033 (by with_reducible assumption)
        | exact absurd (by with_reducible assumption) q1033
        | exact absurd (Decidable.not_not.mp q1033) (by with_reducible assumption)
        | exact absurd (by with_reducible assumption) (Int32.not_le.mpr q1033)
        | exact absurd (by with_reducible assumption) (Int32.not_lt.mpr q1033)
    · first
      | exact absurd q1006 (by decide)
      | exact absurd trivial q1006
      | exact q1006.elim
      | (exfalso; (try simp (disch := omega) only [nI_ltI, nI_leI, nI_eq, nI_ltL, nI_leL, nI_eqL, nI_Llt, nI_Lle, nI_Leq, nI_eqm, nI_meq, nI_ltm, nI_lem, nI_mlt, nI_mle, lg0, lgl, lgg, lgle, lgge, Int32.not_lt, Int32.not_le, Int64.not_lt, Int64.not_le, not_false_eq_true, not_true_eq_false, Decidable.not_not, ge_iff_le, gt_iff_lt] at q1006) <;> omega)
      | exact absurd q1006 (by with_reducible assumption)
      | exact absurd (by with_reducible assumption) q1006
      | exact absurd (Decidable.not_not.mp q1006) (by with_reducible assumption)
      | exact absurd (by with_reducible assumption) (Int32.not_le.mpr q1006)
      | exact absurd (by with_reducible assumption) (Int32.not_lt.mpr q1006)
  · skip
    have HB : (1 : Int32) = 0 ∨ (1 : Int32) = 1 := by decide
    have OP := opp_I (a := 55) (b := 56) (by decide +kernel) (by decide +kernel) hz hL (show opp 999 55 56 [.int (X.2 (i + 1)), .int (X.2 (i + 2)), .int (1)] M from op_paper (by decide) hL HB)
    refine pw_blk (mi := mz_0) (b := bz_0_1006) rfl rfl ?_
    simp only [bz_0_1006, pz_cut_t, pz_cut_f, pz_cut_n, pv_gt, pv_ts, pv_tn, ev_ald1, ev_eld1, ev_ald0, ev_eld0, ev_ild3, ev_ic1, ev_iadd, ea_iald, ev_ic2, ev_ic3, ev_ifeq, pz_wi_gc, pz_wi_ga, pz_wi_gn, pz_wi_gl, pz_wi_gr, pz_wi_same, pz_wi_X, pz_wl_gc, pz_wl_ga, pz_wl_gn, pz_wl_gi, pz_wl_gr, pz_wl_same, pz_wl_X, pz_wr_gc, pz_wr_ga, pz_wr_gn, pz_wr_gi, pz_wr_gl, pz_wr_same, pz_wr_X, so_0 hS, ea_ialde he]
    (try simp (disch := omega) only [nI_clamp, pz_in_nI2, pz_in_nI2L, pv_gt, nI_add, nI_addL, nI_Ladd, pk_mul, nI_mulL, nI_Lmul, pk_sub, nI_subL, nI_Lsub, nI_inc, nI_clampL, Nat.add_sub_cancel, pz_wi_else, pz_wl_else, vu_eq, vu_ne, pz_wi_gc, pz_wi_ga, pz_wi_gn, pz_wi_gl, pz_wi_gr, pz_wi_same, pz_wi_X, pz_wl_gc, pz_wl_ga, pz_wl_gn, pz_wl_gi, pz_wl_gr, pz_wl_same, pz_wl_X, pz_wr_gc, pz_wr_ga, pz_wr_gn, pz_wr_gi, pz_wr_gl, pz_wr_same, pz_wr_X, so_0 hS, ea_ialde he])
    (try refine po_gI (by first | exact pz_in_nI (by omega) (by decide) | decide | assumption) ?_)
    (try refine po_gI (by first | exact pz_in_nI (by omega) (by decide) | decide | assumption) ?_)
    (try refine po_gI (by first | exact pz_in_nI (by omega) (by decide) | decide | assumption) ?_)
    refine po_brP (fun q1006 => ?_) (fun q1006 => ?_)
    · first
      | exact absurd q1006 (by decide)
      | exact absurd trivial q1006
      | exact q1006.elim
      | (exfalso; (try simp (disch := omega) only [nI_ltI, nI_leI, nI_eq, nI_ltL, nI_leL, nI_eqL, nI_Llt, nI_Lle, nI_Leq, nI_eqm, nI_meq, nI_ltm, nI_lem, nI_mlt, nI_mle, lg0, lgl, lgg, lgle, lgge, Int32.not_lt, Int32.not_le, Int64.not_lt, Int64.not_le, not_false_eq_true, not_true_eq_false, Decidable.not_not, ge_iff_le, gt_iff_lt] at q1006) <;> omega)
      | exact absurd q1006 (by with_reducible assumption)
      | exact absurd (by with_reducible assumption) q1006
      | exact absurd (Decidable.not_not.mp q1006) (by with_reducible assumption)
      | exact absurd (by with_reducible assumption) (Int32.not_le.mpr q1006)
      | exact absurd (by with_reducible assumption) (Int32.not_lt.mpr q1006)
    · skip
      (try simp (disch := omega) only [nI_ltI, nI_leI, nI_eq, nI_ltL, nI_leL, nI_eqL, nI_Llt, nI_Lle, nI_Leq, nI_eqm, nI_meq, nI_ltm, nI_lem, nI_mlt, nI_mle, lg0, lgl, lgg, lgle, lgge, Int32.not_lt, Int32.not_le, Int64.not_lt, Int64.not_le, not_false_eq_true, not_true_eq_false, Decidable.not_not, ge_iff_le, gt_iff_lt] at q1006)
      refine pw_blk (mi := mz_0) (b := bz_0_1025) rfl rfl ?_
      simp only [bz_0_1025, pz_cut_t, pz_cut_f, pz_cut_n, pv_gt, pv_ts, pv_tn, ev_ic1, ev_goto, pz_wi_gc, pz_wi_ga, pz_wi_gn, pz_wi_gl, pz_wi_gr, pz_wi_same, pz_wi_X, pz_wl_gc, pz_wl_ga, pz_wl_gn, pz_wl_gi, pz_wl_gr, pz_wl_same, pz_wl_X, pz_wr_gc, pz_wr_ga, pz_wr_gn, pz_wr_gi, pz_wr_gl, pz_wr_same, pz_wr_X, so_0 hS, ea_ialde he]
      (try simp (disch := omega) only [nI_clamp, pz_in_nI2, pz_in_nI2L, pv_gt, nI_add, nI_addL, nI_Ladd, pk_mul, nI_mulL, nI_Lmul, pk_sub, nI_subL, nI_Lsub, nI_inc, nI_clampL, Nat.add_sub_cancel, pz_wi_else, pz_wl_else, vu_eq, vu_ne, pz_wi_gc, pz_wi_ga, pz_wi_gn, pz_wi_gl, pz_wi_gr, pz_wi_same, pz_wi_X, pz_wl_gc, pz_wl_ga, pz_wl_gn, pz_wl_gi, pz_wl_gr, pz_wl_same, pz_wl_X, pz_wr_gc, pz_wr_ga, pz_wr_gn, pz_wr_gi, pz_wr_gl, pz_wr_same, pz_wr_X, so_0 hS, ea_ialde he])
      refine po_go ?_
      refine pw_blk (mi := mz_0) (b := bz_0_1030) rfl rfl ?_
      simp only [bz_0_1030, pz_cut_t, pz_cut_f, pz_cut_n, pv_gt, pv_ts, pv_tn, ev_cv3_0, pz_wi_gc, pz_wi_ga, pz_wi_gn, pz_wi_gl, pz_wi_gr, pz_wi_same, pz_wi_X, pz_wl_gc, pz_wl_ga, pz_wl_gn, pz_wl_gi, pz_wl_gr, pz_wl_same, pz_wl_X, pz_wr_gc, pz_wr_ga, pz_wr_gn, pz_wr_gi, pz_wr_gl, pz_wr_same, pz_wr_X, so_0 hS, ea_ialde he]
      (try simp (disch := omega) only [nI_clamp, pz_in_nI2, pz_in_nI2L, pv_gt, nI_add, nI_addL, nI_Ladd, pk_mul, nI_mulL, nI_Lmul, pk_sub, nI_subL, nI_Lsub, nI_inc, nI_clampL, Nat.add_sub_cancel, pz_wi_else, pz_wl_else, vu_eq, vu_ne, pz_wi_gc, pz_wi_ga, pz_wi_gn, pz_wi_gl, pz_wi_gr, pz_wi_same, pz_wi_X, pz_wl_gc, pz_wl_ga, pz_wl_gn, pz_wl_gi, pz_wl_gr, pz_wl_same, pz_wl_X, pz_wr_gc, pz_wr_ga, pz_wr_gn, pz_wr_gi, pz_wr_gl, pz_wr_same, pz_wr_X, so_0 hS, ea_ialde he])
      (try refine po_gP (Nat.le_of_ble_eq_true rfl) ?_)
      refine po_call (by omega) (pm_mono OP (fun r1 h1 => ?_))
      obtain ⟨v1, M1⟩ := r1
      obtain ⟨x, ex, hX1, g120, h2⟩ := h1
      simp only at ex hX1 g120 h2
      subst ex
      have he1 : pz_ex M1.1 0 = some (0, X.1, X.2) := by rw [hX1, hX]; rfl
      refine pw_blk (mi := mz_0) (b := bz_0_1033) rfl rfl ?_
      simp only [bz_0_1033, pz_cut_t, pz_cut_f, pz_cut_n, pv_gt, pv_ts, pv_tn, ev_ald2, ev_eld2, ev_ald0, ev_eld0, ev_ild3, ev_ic1, ev_iadd, ea_iald, ev_ic2, ev_ic3, ev_ifeq, pz_wi_gc, pz_wi_ga, pz_wi_gn, pz_wi_gl, pz_wi_gr, pz_wi_same, pz_wi_X, pz_wl_gc, pz_wl_ga, pz_wl_gn, pz_wl_gi, pz_wl_gr, pz_wl_same, pz_wl_X, pz_wr_gc, pz_wr_ga, pz_wr_gn, pz_wr_gi, pz_wr_gl, pz_wr_same, pz_wr_X, so_0 hS, ea_ialde he, g120, ea_ialde he1]
      (try simp (disch := omega) only [nI_clamp, pz_in_nI2, pz_in_nI2L, pv_gt, nI_add, nI_addL, nI_Ladd, pk_mul, nI_mulL, nI_Lmul, pk_sub, nI_subL, nI_Lsub, nI_inc, nI_clampL, Nat.add_sub_cancel, pz_wi_else, pz_wl_else, vu_eq, vu_ne, pz_wi_gc, pz_wi_ga, pz_wi_gn, pz_wi_gl, pz_wi_gr, pz_wi_same, pz_wi_X, pz_wl_gc, pz_wl_ga, pz_wl_gn, pz_wl_gi, pz_wl_gr, pz_wl_same, pz_wl_X, pz_wr_gc, pz_wr_ga, pz_wr_gn, pz_wr_gi, pz_wr_gl, pz_wr_same, pz_wr_X, so_0 hS, ea_ialde he, g120, ea_ialde he1])
      (try refine po_gI (by first | exact pz_in_nI (by omega) (by decide) | decide | assumption) ?_)
      (try refine po_gI (by first | exact pz_in_nI (by omega) (by decide) | decide | assumption) ?_)
      (try refine po_gI (by first | exact pz_in_nI (by omega) (by decide) | decide | assumption) ?_)
      refine po_brP (fun q1033 => ?_) (fun q1033 => ?_)
      · first
        | exact absurd q1033 (by decide)
        | exact absurd trivial q1033
        | exact q1033.elim
        | (exfalso; (try simp (disch := omega) only [nI_ltI, nI_leI, nI_eq, nI_ltL, nI_leL, nI_eqL, nI_Llt, nI_Lle, nI_Leq, nI_eqm, nI_meq, nI_ltm, nI_lem, nI_mlt, nI_mle, lg0, lgl, lgg, lgle, lgge, Int32.not_lt, Int32.not_le, Int64.not_lt, Int64.not_le, not_false_eq_true, not_true_eq_false, Decidable.not_not, ge_iff_le, gt_iff_lt] at q1033) <;> omega)
        | exact absurd q1033 (by with_reducible assumption)
        | exact absurd (by with_reducible assumption) q1033
        | exact absurd (Decidable.not_not.mp q1033) (by with_reducible assumption)
        | exact absurd (by with_reducible assumption) (Int32.not_le.mpr q1033)
        | exact absurd (by with_reducible assumption) (Int32.not_lt.mpr q1033)
      · skip
        (try simp (disch := omega) only [nI_ltI, nI_leI, nI_eq, nI_ltL, nI_leL, nI_eqL, nI_Llt, nI_Lle, nI_Leq, nI_eqm, nI_meq, nI_ltm, nI_lem, nI_mlt, nI_mle, lg0, lgl, lgg, lgle, lgge, Int32.not_lt, Int32.not_le, Int64.not_lt, Int64.not_le, not_false_eq_true, not_true_eq_false, Decidable.not_not, ge_iff_le, gt_iff_lt] at q1033)
        refine pw_blk (mi := mz_0) (b := bz_0_1052) rfl rfl ?_
        simp only [bz_0_1052, pz_cut_t, pz_cut_f, pz_cut_n, pv_gt, pv_ts, pv_tn, ev_ic1, ev_goto, pz_wi_gc, pz_wi_ga, pz_wi_gn, pz_wi_gl, pz_wi_gr, pz_wi_same, pz_wi_X, pz_wl_gc, pz_wl_ga, pz_wl_gn, pz_wl_gi, pz_wl_gr, pz_wl_same, pz_wl_X, pz_wr_gc, pz_wr_ga, pz_wr_gn, pz_wr_gi, pz_wr_gl, pz_wr_same, pz_wr_X, so_0 hS, ea_ialde he]
        (try simp (disch := omega) only [nI_clamp, pz_in_nI2, pz_in_nI2L, pv_gt, nI_add, nI_addL, nI_Ladd, pk_mul, nI_mulL, nI_Lmul, pk_sub, nI_subL, nI_Lsub, nI_inc, nI_clampL, Nat.add_sub_cancel, pz_wi_else, pz_wl_else, vu_eq, vu_ne, pz_wi_gc, pz_wi_ga, pz_wi_gn, pz_wi_gl, pz_wi_gr, pz_wi_same, pz_wi_X, pz_wl_gc, pz_wl_ga, pz_wl_gn, pz_wl_gi, pz_wl_gr, pz_wl_same, pz_wl_X, pz_wr_gc, pz_wr_ga, pz_wr_gn, pz_wr_gi, pz_wr_gl, pz_wr_same, pz_wr_X, so_0 hS, ea_ialde he])
        refine po_go ?_
        refine pw_blk (mi := mz_0) (b := bz_0_1057) rfl rfl ?_
        simp only [bz_0_1057, pz_cut_t, pz_cut_f, pz_cut_n, pv_gt, pv_ts, pv_tn, ev_cv3_11, pz_wi_gc, pz_wi_ga, pz_wi_gn, pz_wi_gl, pz_wi_gr, pz_wi_same, pz_wi_X, pz_wl_gc, pz_wl_ga, pz_wl_gn, pz_wl_gi, pz_wl_gr, pz_wl_same, pz_wl_X, pz_wr_gc, pz_wr_ga, pz_wr_gn, pz_wr_gi, pz_wr_gl, pz_wr_same, pz_wr_X, so_0 hS, ea_ialde he, g120, ea_ialde he1]
        (try simp (disch := omega) only [nI_clamp, pz_in_nI2, pz_in_nI2L, pv_gt, nI_add, nI_addL, nI_Ladd, pk_mul, nI_mulL, nI_Lmul, pk_sub, nI_subL, nI_Lsub, nI_inc, nI_clampL, Nat.add_sub_cancel, pz_wi_else, pz_wl_else, vu_eq, vu_ne, pz_wi_gc, pz_wi_ga, pz_wi_gn, pz_wi_gl, pz_wi_gr, pz_wi_same, pz_wi_X, pz_wl_gc, pz_wl_ga, pz_wl_gn, pz_wl_gi, pz_wl_gr, pz_wl_same, pz_wl_X, pz_wr_gc, pz_wr_ga, pz_wr_gn, pz_wr_gi, pz_wr_gl, pz_wr_same, pz_wr_X, so_0 hS, ea_ialde he, g120, ea_ialde he1])
        (try refine po_gP (Nat.le_of_ble_eq_true rfl) ?_)
        refine po_call (by omega) (pm_mono h2 (fun r2 h3 => ?_))
        obtain ⟨v2, M2⟩ := r2
        obtain ⟨ey, hX2, hL2, hz2⟩ := h3
        simp only at ey hX2 hL2 hz2
        subst ey
        refine pw_blk (mi := mz_0) (b := bz_0_1060) rfl rfl ?_
        simp only [bz_0_1060, pz_cut_t, pz_cut_f, pz_cut_n, pv_gt, pv_ts, pv_tn, ev_ic_eq, pz_wi_gc, pz_wi_ga, pz_wi_gn, pz_wi_gl, pz_wi_gr, pz_wi_same, pz_wi_X, pz_wl_gc, pz_wl_ga, pz_wl_gn, pz_wl_gi, pz_wl_gr, pz_wl_same, pz_wl_X, pz_wr_gc, pz_wr_ga, pz_wr_gn, pz_wr_gi, pz_wr_gl, pz_wr_same, pz_wr_X, so_0 hS, ea_ialde he]
        (try simp (disch := omega) only [nI_clamp, pz_in_nI2, pz_in_nI2L, pv_gt, nI_add, nI_addL, nI_Ladd, pk_mul, nI_mulL, nI_Lmul, pk_sub, nI_subL, nI_Lsub, nI_inc, nI_clampL, Nat.add_sub_cancel, pz_wi_else, pz_wl_else, vu_eq, vu_ne, pz_wi_gc, pz_wi_ga, pz_wi_gn, pz_wi_gl, pz_wi_gr, pz_wi_same, pz_wi_X, pz_wl_gc, pz_wl_ga, pz_wl_gn, pz_wl_gi, pz_wl_gr, pz_wl_same, pz_wl_X, pz_wr_gc, pz_wr_ga, pz_wr_gn, pz_wr_gi, pz_wr_gl, pz_wr_same, pz_wr_X, so_0 hS, ea_ialde he])
        refine po_brP (fun q1060 => ?_) (fun q1060 => ?_)
        · first
          | exact absurd q1060 (by decide)
          | exact absurd trivial q1060
          | exact q1060.elim
          | (exfalso; (try simp (disch := omega) only [nI_ltI, nI_leI, nI_eq, nI_ltL, nI_leL, nI_eqL, nI_Llt, nI_Lle, nI_Leq, nI_eqm, nI_meq, nI_ltm, nI_lem, nI_mlt, nI_mle, lg0, lgl, lgg, lgle, lgge, Int32.not_lt, Int32.not_le, Int64.not_lt, Int64.not_le, not_false_eq_true, not_true_eq_false, Decidable.not_not, ge_iff_le, gt_iff_lt] at q1060) <;> omega)
          | exact absurd q1060 (by with_reducible assumption)
          | exact absurd (by with_reducible assumption) q1060
          | exact absurd (Decidable.not_not.mp q1060) (by with_reducible assumption)
          | exact absurd (by with_reducible assumption) (Int32.not_le.mpr q1060)
          | exact absurd (by with_reducible assumption) (Int32.not_lt.mpr q1060)
          | skip
            (try simp (disch := omega) only [nI_ltI, nI_leI, nI_eq, nI_ltL, nI_leL, nI_eqL, nI_Llt, nI_Lle, nI_Leq, nI_eqm, nI_meq, nI_ltm, nI_lem, nI_mlt, nI_mle, lg0, lgl, lgg, lgle, lgge, Int32.not_lt, Int32.not_le, Int64.not_lt, Int64.not_le, not_false_eq_true, not_true_eq_false, Decidable.not_not, ge_iff_le, gt_iff_lt] at q1060)
            exact nx M2 ⟨hX2.trans hX, hL2, hz2⟩
        · exact absurd trivial q1060
theorem cs_27 (hX6 : i + 6 ≤ X.1) (hX7 : X.1 ≤ 3072) (h : INV X M) (nx : ∀ M', INV X M' → pw 1000 0 (1484, [some (.retAddr 0), some (.ref 0), some (.ref 120), some (.int (nI i))], [], M') Q) : pw 1000 0 (1065, [some (.retAddr 0), some (.ref 0), some (.ref 120), some (.int (nI i))], [], M) Q := by
  obtain ⟨hX, hL, hz⟩ := h
  have hS := hL.S
  have he : pz_ex M.1 0 = some (0, X.1, X.2) := by rw [hX]; rfl
  by_cases hb0 : X.2 (i + 1) = 0
  · skip
    have OP := opp_I (a := 57) (b := 58) (by decide +kernel) (by decide +kernel) hz hL (show opp 999 57 58 [.int (0), .int (X.2 (i + 2))] M from oz_untell (by decide) hL)
    refine pw_blk (mi := mz_0) (b := bz_0_1065) rfl rfl ?_
    simp only [bz_0_1065, pz_cut_t, pz_cut_f, pz_cut_n, pv_gt, pv_ts, pv_tn, ev_ald1, ev_eld1, ev_ald0, ev_eld0, ev_ild3, ev_ic1, ev_iadd, ea_iald, ev_ifeq, pz_wi_gc, pz_wi_ga, pz_wi_gn, pz_wi_gl, pz_wi_gr, pz_wi_same, pz_wi_X, pz_wl_gc, pz_wl_ga, pz_wl_gn, pz_wl_gi, pz_wl_gr, pz_wl_same, pz_wl_X, pz_wr_gc, pz_wr_ga, pz_wr_gn, pz_wr_gi, pz_wr_gl, pz_wr_same, pz_wr_X, so_0 hS, ea_ialde he]
    (try simp (disch := omega) only [nI_clamp, pz_in_nI2, pz_in_nI2L, pv_gt, nI_add, nI_addL, nI_Ladd, pk_mul, nI_mulL, nI_Lmul, pk_sub, nI_subL, nI_Lsub, nI_inc, nI_clampL, Nat.add_sub_cancel, pz_wi_else, pz_wl_else, vu_eq, vu_ne, pz_wi_gc, pz_wi_ga, pz_wi_gn, pz_wi_gl, pz_wi_gr, pz_wi_same, pz_wi_X, pz_wl_gc, pz_wl_ga, pz_wl_gn, pz_wl_gi, pz_wl_gr, pz_wl_same, pz_wl_X, pz_wr_gc, pz_wr_ga, pz_wr_gn, pz_wr_gi, pz_wr_gl, pz_wr_same, pz_wr_X, so_0 hS, ea_ialde he])
    (try refine po_gI (by first | exact pz_in_nI (by omega) (by decide) | decide | assumption) ?_)
    refine po_brP (fun q1065 => ?_) (fun q1065 => ?_)
    · skip
      (try simp (disch := omega) only [nI_ltI, nI_leI, nI_eq, nI_ltL, nI_leL, nI_eqL, nI_Llt, nI_Lle, nI_Leq, nI_eqm, nI_meq, nI_ltm, nI_lem, nI_mlt, nI_mle, lg0, lgl, lgg, lgle, lgge, Int32.not_lt, Int32.not_le, Int64.not_lt, Int64.not_le, not_false_eq_true, not_true_eq_false, Decidable.not_not, ge_iff_le, gt_iff_lt] at q1065)
      refine pw_blk (mi := mz_0) (b := bz_0_1078) rfl rfl ?_
      simp only [bz_0_1078, pz_cut_t, pz_cut_f, pz_cut_n, pv_gt, pv_ts, pv_tn, ev_ic0, ev_nil, pz_wi_gc, pz_wi_ga, pz_wi_gn, pz_wi_gl, pz_wi_gr, pz_wi_same, pz_wi_X, pz_wl_gc, pz_wl_ga, pz_wl_gn, pz_wl_gi, pz_wl_gr, pz_wl_same, pz_wl_X, pz_wr_gc, pz_wr_ga, pz_wr_gn, pz_wr_gi, pz_wr_gl, pz_wr_same, pz_wr_X, so_0 hS, ea_ialde he]
      (try simp (disch := omega) only [nI_clamp, pz_in_nI2, pz_in_nI2L, pv_gt, nI_add, nI_addL, nI_Ladd, pk_mul, nI_mulL, nI_Lmul, pk_sub, nI_subL, nI_Lsub, nI_inc, nI_clampL, Nat.add_sub_cancel, pz_wi_else, pz_wl_else, vu_eq, vu_ne, pz_wi_gc, pz_wi_ga, pz_wi_gn, pz_wi_gl, pz_wi_gr, pz_wi_same, pz_wi_X, pz_wl_gc, pz_wl_ga, pz_wl_gn, pz_wl_gi, pz_wl_gr, pz_wl_same, pz_wl_X, pz_wr_gc, pz_wr_ga, pz_wr_gn, pz_wr_gi, pz_wr_gl, pz_wr_same, pz_wr_X, so_0 hS, ea_ialde he])
      refine po_go ?_
      refine pw_blk (mi := mz_0) (b := bz_0_1079) rfl rfl ?_
      simp only [bz_0_1079, pz_cut_t, pz_cut_f, pz_cut_n, pv_gt, pv_ts, pv_tn, ev_ald0, ev_eld0, ev_ild3, ev_ic2, ev_iadd, ea_iald, ev_cv2_0, pz_wi_gc, pz_wi_ga, pz_wi_gn, pz_wi_gl, pz_wi_gr, pz_wi_same, pz_wi_X, pz_wl_gc, pz_wl_ga, pz_wl_gn, pz_wl_gi, pz_wl_gr, pz_wl_same, pz_wl_X, pz_wr_gc, pz_wr_ga, pz_wr_gn, pz_wr_gi, pz_wr_gl, pz_wr_same, pz_wr_X, so_0 hS, ea_ialde he]
      (try simp (disch := omega) only [nI_clamp, pz_in_nI2, pz_in_nI2L, pv_gt, nI_add, nI_addL, nI_Ladd, pk_mul, nI_mulL, nI_Lmul, pk_sub, nI_subL, nI_Lsub, nI_inc, nI_clampL, Nat.add_sub_cancel, pz_wi_else, pz_wl_else, vu_eq, vu_ne, pz_wi_gc, pz_wi_ga, pz_wi_gn, pz_wi_gl, pz_wi_gr, pz_wi_same, pz_wi_X, pz_wl_gc, pz_wl_ga, pz_wl_gn, pz_wl_gi, pz_wl_gr, pz_wl_same, pz_wl_X, pz_wr_gc, pz_wr_ga, pz_wr_gn, pz_wr_gi, pz_wr_gl, pz_wr_same, pz_wr_X, so_0 hS, ea_ialde he])
      (try refine po_gI (by first | exact pz_in_nI (by omega) (by decide) | decide | assumption) ?_)
      (try refine po_gP (Nat.le_of_ble_eq_true rfl) ?_)
      refine po_call (by omega) (pm_mono OP (fun r1 h1 => ?_))
      obtain ⟨v1, M1⟩ := r1
      obtain ⟨x, ex, hX1, g120, h2⟩ := h1
      simp only at ex hX1 g120 h2
      subst ex
      have he1 : pz_ex M1.1 0 = some (0, X.1, X.2) := by rw [hX1, hX]; rfl
      refine pw_blk (mi := mz_0) (b := bz_0_1087) rfl rfl ?_
      simp only [bz_0_1087, pz_cut_t, pz_cut_f, pz_cut_n, pv_gt, pv_ts, pv_tn, ev_ald2, ev_eld2, ev_ald0, ev_eld0, ev_ild3, ev_ic1, ev_iadd, ea_iald, ev_ifeq, pz_wi_gc, pz_wi_ga, pz_wi_gn, pz_wi_gl, pz_wi_gr, pz_wi_same, pz_wi_X, pz_wl_gc, pz_wl_ga, pz_wl_gn, pz_wl_gi, pz_wl_gr, pz_wl_same, pz_wl_X, pz_wr_gc, pz_wr_ga, pz_wr_gn, pz_wr_gi, pz_wr_gl, pz_wr_same, pz_wr_X, so_0 hS, ea_ialde he, g120, ea_ialde he1]
      (try simp (disch := omega) only [nI_clamp, pz_in_nI2, pz_in_nI2L, pv_gt, nI_add, nI_addL, nI_Ladd, pk_mul, nI_mulL, nI_Lmul, pk_sub, nI_subL, nI_Lsub, nI_inc, nI_clampL, Nat.add_sub_cancel, pz_wi_else, pz_wl_else, vu_eq, vu_ne, pz_wi_gc, pz_wi_ga, pz_wi_gn, pz_wi_gl, pz_wi_gr, pz_wi_same, pz_wi_X, pz_wl_gc, pz_wl_ga, pz_wl_gn, pz_wl_gi, pz_wl_gr, pz_wl_same, pz_wl_X, pz_wr_gc, pz_wr_ga, pz_wr_gn, pz_wr_gi, pz_wr_gl, pz_wr_same, pz_wr_X, so_0 hS, ea_ialde he, g120, ea_ialde he1])
      (try refine po_gI (by first | exact pz_in_nI (by omega) (by decide) | decide | assumption) ?_)
      refine po_brP (fun q1087 => ?_) (fun q1087 => ?_)
      · skip
        (try simp (disch := omega) only [nI_ltI, nI_leI, nI_eq, nI_ltL, nI_leL, nI_eqL, nI_Llt, nI_Lle, nI_Leq, nI_eqm, nI_meq, nI_ltm, nI_lem, nI_mlt, nI_mle, lg0, lgl, lgg, lgle, lgge, Int32.not_lt, Int32.not_le, Int64.not_lt, Int64.not_le, not_false_eq_true, not_true_eq_false, Decidable.not_not, ge_iff_le, gt_iff_lt] at q1087)
        refine pw_blk (mi := mz_0) (b := bz_0_1100) rfl rfl ?_
        simp only [bz_0_1100, pz_cut_t, pz_cut_f, pz_cut_n, pv_gt, pv_ts, pv_tn, ev_ic0, ev_nil, pz_wi_gc, pz_wi_ga, pz_wi_gn, pz_wi_gl, pz_wi_gr, pz_wi_same, pz_wi_X, pz_wl_gc, pz_wl_ga, pz_wl_gn, pz_wl_gi, pz_wl_gr, pz_wl_same, pz_wl_X, pz_wr_gc, pz_wr_ga, pz_wr_gn, pz_wr_gi, pz_wr_gl, pz_wr_same, pz_wr_X, so_0 hS, ea_ialde he, g120, ea_ialde he1]
        (try simp (disch := omega) only [nI_clamp, pz_in_nI2, pz_in_nI2L, pv_gt, nI_add, nI_addL, nI_Ladd, pk_mul, nI_mulL, nI_Lmul, pk_sub, nI_subL, nI_Lsub, nI_inc, nI_clampL, Nat.add_sub_cancel, pz_wi_else, pz_wl_else, vu_eq, vu_ne, pz_wi_gc, pz_wi_ga, pz_wi_gn, pz_wi_gl, pz_wi_gr, pz_wi_same, pz_wi_X, pz_wl_gc, pz_wl_ga, pz_wl_gn, pz_wl_gi, pz_wl_gr, pz_wl_same, pz_wl_X, pz_wr_gc, pz_wr_ga, pz_wr_gn, pz_wr_gi, pz_wr_gl, pz_wr_same, pz_wr_X, so_0 hS, ea_ialde he, g120, ea_ialde he1])
        refine po_go ?_
        refine pw_blk (mi := mz_0) (b := bz_0_1101) rfl rfl ?_
        simp only [bz_0_1101, pz_cut_t, pz_cut_f, pz_cut_n, pv_gt, pv_ts, pv_tn, ev_ald0, ev_eld0, ev_ild3, ev_ic2, ev_iadd, ea_iald, ev_cv2_11, pz_wi_gc, pz_wi_ga, pz_wi_gn, pz_wi_gl, pz_wi_gr, pz_wi_same, pz_wi_X, pz_wl_gc, pz_wl_ga, pz_wl_gn, pz_wl_gi, pz_wl_gr, pz_wl_same, pz_wl_X, pz_wr_gc, pz_wr_ga, pz_wr_gn, pz_wr_gi, pz_wr_gl, pz_wr_same, pz_wr_X, so_0 hS, ea_ialde he, g120, ea_ialde he1]
        (try simp (disch := omega) only [nI_clamp, pz_in_nI2, pz_in_nI2L, pv_gt, nI_add, nI_addL, nI_Ladd, pk_mul, nI_mulL, nI_Lmul, pk_sub, nI_subL, nI_Lsub, nI_inc, nI_clampL, Nat.add_sub_cancel, pz_wi_else, pz_wl_else, vu_eq, vu_ne, pz_wi_gc, pz_wi_ga, pz_wi_gn, pz_wi_gl, pz_wi_gr, pz_wi_same, pz_wi_X, pz_wl_gc, pz_wl_ga, pz_wl_gn, pz_wl_gi, pz_wl_gr, pz_wl_same, pz_wl_X, pz_wr_gc, pz_wr_ga, pz_wr_gn, pz_wr_gi, pz_wr_gl, pz_wr_same, pz_wr_X, so_0 hS, ea_ialde he, g120, ea_ialde he1])
        (try refine po_gI (by first | exact pz_in_nI (by omega) (by decide) | decide | assumption) ?_)
        (try refine po_gP (Nat.le_of_ble_eq_true rfl) ?_)
        refine po_call (by omega) (pm_mono h2 (fun r2 h3 => ?_))
        obtain ⟨v2, M2⟩ := r2
        obtain ⟨ey, hX2, hL2, hz2⟩ := h3
        simp only at ey hX2 hL2 hz2
        subst ey
        refine pw_blk (mi := mz_0) (b := bz_0_1109) rfl rfl ?_
        simp only [bz_0_1109, pz_cut_t, pz_cut_f, pz_cut_n, pv_gt, pv_ts, pv_tn, ev_ic_eq, pz_wi_gc, pz_wi_ga, pz_wi_gn, pz_wi_gl, pz_wi_gr, pz_wi_same, pz_wi_X, pz_wl_gc, pz_wl_ga, pz_wl_gn, pz_wl_gi, pz_wl_gr, pz_wl_same, pz_wl_X, pz_wr_gc, pz_wr_ga, pz_wr_gn, pz_wr_gi, pz_wr_gl, pz_wr_same, pz_wr_X, so_0 hS, ea_ialde he]
        (try simp (disch := omega) only [nI_clamp, pz_in_nI2, pz_in_nI2L, pv_gt, nI_add, nI_addL, nI_Ladd, pk_mul, nI_mulL, nI_Lmul, pk_sub, nI_subL, nI_Lsub, nI_inc, nI_clampL, Nat.add_sub_cancel, pz_wi_else, pz_wl_else, vu_eq, vu_ne, pz_wi_gc, pz_wi_ga, pz_wi_gn, pz_wi_gl, pz_wi_gr, pz_wi_same, pz_wi_X, pz_wl_gc, pz_wl_ga, pz_wl_gn, pz_wl_gi, pz_wl_gr, pz_wl_same, pz_wl_X, pz_wr_gc, pz_wr_ga, pz_wr_gn, pz_wr_gi, pz_wr_gl, pz_wr_same, pz_wr_X, so_0 hS, ea_ialde he])
        refine po_brP (fun q1109 => ?_) (fun q1109 => ?_)
        · first
          | exact absurd q1109 (by decide)
          | exact absurd trivial q1109
          | exact q1109.elim
          | (exfalso; (try simp (disch := omega) only [nI_ltI, nI_leI, nI_eq, nI_ltL, nI_leL, nI_eqL, nI_Llt, nI_Lle, nI_Leq, nI_eqm, nI_meq, nI_ltm, nI_lem, nI_mlt, nI_mle, lg0, lgl, lgg, lgle, lgge, Int32.not_lt, Int32.not_le, Int64.not_lt, Int64.not_le, not_false_eq_true, not_true_eq_false, Decidable.not_not, ge_iff_le, gt_iff_lt] at q1109) <;> omega)
          | exact absurd q1109 (by with_reducible assumption)
          | exact absurd (by with_reducible assumption) q1109
          | exact absurd (Decidable.not_not.mp q1109) (by with_reducible assumption)
          | exact absurd (by with_reducible assumption) (Int32.not_le.mpr q1109)
          | exact absurd (by with_reducible assumption) (Int32.not_lt.mpr q1109)
          | skip
            (try simp (disch := omega) only [nI_ltI, nI_leI, nI_eq, nI_ltL, nI_leL, nI_eqL, nI_Llt, nI_Lle, nI_Leq, nI_eqm, nI_meq, nI_ltm, nI_lem, nI_mlt, nI_mle, lg0, lgl, lgg, lgle, lgge, Int32.not_lt, Int32.not_le, Int64.not_lt, Int64.not_le, not_false_eq_true, not_true_eq_false, Decidable.not_not, ge_iff_le, gt_iff_lt] at q1109)
            exact nx M2 ⟨hX2.trans hX, hL2, hz2⟩
        · exact absurd trivial q1109
      · first
        | exact absurd q1087 (by decide)
        | exact absurd trivial q1087
        | exact q1087.elim
        | (exfalso; (try simp (disch := omega) only [nI_ltI, nI_leI, nI_eq, nI_ltL, nI_leL, nI_eqL, nI_Llt, nI_Lle, nI_Leq, nI_eqm, nI_meq, nI_ltm, nI_lem, nI_mlt, nI_mle, lg0, lgl, lgg, lgle, lgge, Int32.not_lt, Int32.not_le, Int64.not_lt, Int64.not_le, not_false_eq_true, not_true_eq_false, Decidable.not_not, ge_iff_le, gt_iff_lt] at q1087) <;> omega)
        | exact absurd q1087 (by with_reducible assumption)
        | exact absurd (by with_reducible assumption) q1087
        | exact absurd (Decidable.not_not.mp q1087) (by with_reducible assumption)
        | exact absurd (by with_reducible assumption) (Int32.not_le.mpr q1087)
        | exact absurd (by with_reducible assumption) (Int32.not_lt.mpr q1087)
    · first
      | exact absurd q1065 (by decide)
      | exact absurd trivial q1065
      | exact q1065.elim
      | (exfalso; (try simp (disch := omega) only [nI_ltI, nI_leI, nI_eq, nI_ltL, nI_leL, nI_eqL, nI_Llt, nI_Lle, nI_Leq, nI_eqm, nI_meq, nI_ltm, nI_lem, nI_mlt, nI_mle, lg0, lgl, lgg, lgle, lgge, Int32.not_lt, Int32.not_le, Int64.not_lt, Int64.not_le, not_false_eq_true, not_true_eq_false, Decidable.not_not, ge_iff_le, gt_iff_lt] at q1065) <;> omega)
      | exact absurd q1065 (by with_reducible assumption)
      | exact absurd (by with_reducible assumption) q1065
      | exact absurd (Decidable.not_not.mp q1065) (by with_reducible assumption)
      | exact absurd (by with_reducible assumption) (Int32.not_le.mpr q1065)
      | exact absurd (by with_reducible assumption) (Int32.not_lt.mpr q1065)
  · skip
    have OP := opp_I (a := 57) (b := 58) (by decide +kernel) (by decide +kernel) hz hL (show opp 999 57 58 [.int (1), .int (X.2 (i + 2))] M from oz_untell (by decide) hL)
    refine pw_blk (mi := mz_0) (b := bz_0_1065) rfl rfl ?_
    simp only [bz_0_1065, pz_cut_t, pz_cut_f, pz_cut_n, pv_gt, pv_ts, pv_tn, ev_ald1, ev_eld1, ev_ald0, ev_eld0, ev_ild3, ev_ic1, ev_iadd, ea_iald, ev_ifeq, pz_wi_gc, pz_wi_ga, pz_wi_gn, pz_wi_gl, pz_wi_gr, pz_wi_same, pz_wi_X, pz_wl_gc, pz_wl_ga, pz_wl_gn, pz_wl_gi, pz_wl_gr, pz_wl_same, pz_wl_X, pz_wr_gc, pz_wr_ga, pz_wr_gn, pz_wr_gi, pz_wr_gl, pz_wr_same, pz_wr_X, so_0 hS, ea_ialde he]
    (try simp (disch := omega) only [nI_clamp, pz_in_nI2, pz_in_nI2L, pv_gt, nI_add, nI_addL, nI_Ladd, pk_mul, nI_mulL, nI_Lmul, pk_sub, nI_subL, nI_Lsub, nI_inc, nI_clampL, Nat.add_sub_cancel, pz_wi_else, pz_wl_else, vu_eq, vu_ne, pz_wi_gc, pz_wi_ga, pz_wi_gn, pz_wi_gl, pz_wi_gr, pz_wi_same, pz_wi_X, pz_wl_gc, pz_wl_ga, pz_wl_gn, pz_wl_gi, pz_wl_gr, pz_wl_same, pz_wl_X, pz_wr_gc, pz_wr_ga, pz_wr_gn, pz_wr_gi, pz_wr_gl, pz_wr_same, pz_wr_X, so_0 hS, ea_ialde he])
    (try refine po_gI (by first | exact pz_in_nI (by omega) (by decide) | decide | assumption) ?_)
    refine po_brP (fun q1065 => ?_) (fun q1065 => ?_)
    · first
      | exact absurd q1065 (by decide)
      | exact absurd trivial q1065
      | exact q1065.elim
      | (exfalso; (try simp (disch := omega) only [nI_ltI, nI_leI, nI_eq, nI_ltL, nI_leL, nI_eqL, nI_Llt, nI_Lle, nI_Leq, nI_eqm, nI_meq, nI_ltm, nI_lem, nI_mlt, nI_mle, lg0, lgl, lgg, lgle, lgge, Int32.not_lt, Int32.not_le, Int64.not_lt, Int64.not_le, not_false_eq_true, not_true_eq_false, Decidable.not_not, ge_iff_le, gt_iff_lt] at q1065) <;> omega)
      | exact absurd q1065 (by with_reducible assumption)
      | exact absurd (by with_reducible assumption) q1065
      | exact absurd (Decidable.not_not.mp q1065) (by with_reducible assumption)
      | exact absurd (by with_reducible assumption) (Int32.not_le.mpr q1065)
      | exact absurd (by with_reducible assumption) (Int32.not_lt.mpr q1065)
    · skip
      (try simp (disch := omega) only [nI_ltI, nI_leI, nI_eq, nI_ltL, nI_leL, nI_eqL, nI_Llt, nI_Lle, nI_Leq, nI_eqm, nI_meq, nI_ltm, nI_lem, nI_mlt, nI_mle, lg0, lgl, lgg, lgle, lgge, Int32.not_lt, Int32.not_le, Int64.not_lt, Int64.not_le, not_false_eq_true, not_true_eq_false, Decidable.not_not, ge_iff_le, gt_iff_lt] at q1065)
      refine pw_blk (mi := mz_0) (b := bz_0_1074) rfl rfl ?_
      simp only [bz_0_1074, pz_cut_t, pz_cut_f, pz_cut_n, pv_gt, pv_ts, pv_tn, ev_ic1, ev_goto, pz_wi_gc, pz_wi_ga, pz_wi_gn, pz_wi_gl, pz_wi_gr, pz_wi_same, pz_wi_X, pz_wl_gc, pz_wl_ga, pz_wl_gn, pz_wl_gi, pz_wl_gr, pz_wl_same, pz_wl_X, pz_wr_gc, pz_wr_ga, pz_wr_gn, pz_wr_gi, pz_wr_gl, pz_wr_same, pz_wr_X, so_0 hS, ea_ialde he]
      (try simp (disch := omega) only [nI_clamp, pz_in_nI2, pz_in_nI2L, pv_gt, nI_add, nI_addL, nI_Ladd, pk_mul, nI_mulL, nI_Lmul, pk_sub, nI_subL, nI_Lsub, nI_inc, nI_clampL, Nat.add_sub_cancel, pz_wi_else, pz_wl_else, vu_eq, vu_ne, pz_wi_gc, pz_wi_ga, pz_wi_gn, pz_wi_gl, pz_wi_gr, pz_wi_same, pz_wi_X, pz_wl_gc, pz_wl_ga, pz_wl_gn, pz_wl_gi, pz_wl_gr, pz_wl_same, pz_wl_X, pz_wr_gc, pz_wr_ga, pz_wr_gn, pz_wr_gi, pz_wr_gl, pz_wr_same, pz_wr_X, so_0 hS, ea_ialde he])
      refine po_go ?_
      refine pw_blk (mi := mz_0) (b := bz_0_1079) rfl rfl ?_
      simp only [bz_0_1079, pz_cut_t, pz_cut_f, pz_cut_n, pv_gt, pv_ts, pv_tn, ev_ald0, ev_eld0, ev_ild3, ev_ic2, ev_iadd, ea_iald, ev_cv2_0, pz_wi_gc, pz_wi_ga, pz_wi_gn, pz_wi_gl, pz_wi_gr, pz_wi_same, pz_wi_X, pz_wl_gc, pz_wl_ga, pz_wl_gn, pz_wl_gi, pz_wl_gr, pz_wl_same, pz_wl_X, pz_wr_gc, pz_wr_ga, pz_wr_gn, pz_wr_gi, pz_wr_gl, pz_wr_same, pz_wr_X, so_0 hS, ea_ialde he]
      (try simp (disch := omega) only [nI_clamp, pz_in_nI2, pz_in_nI2L, pv_gt, nI_add, nI_addL, nI_Ladd, pk_mul, nI_mulL, nI_Lmul, pk_sub, nI_subL, nI_Lsub, nI_inc, nI_clampL, Nat.add_sub_cancel, pz_wi_else, pz_wl_else, vu_eq, vu_ne, pz_wi_gc, pz_wi_ga, pz_wi_gn, pz_wi_gl, pz_wi_gr, pz_wi_same, pz_wi_X, pz_wl_gc, pz_wl_ga, pz_wl_gn, pz_wl_gi, pz_wl_gr, pz_wl_same, pz_wl_X, pz_wr_gc, pz_wr_ga, pz_wr_gn, pz_wr_gi, pz_wr_gl, pz_wr_same, pz_wr_X, so_0 hS, ea_ialde he])
      (try refine po_gI (by first | exact pz_in_nI (by omega) (by decide) | decide | assumption) ?_)
      (try refine po_gP (Nat.le_of_ble_eq_true rfl) ?_)
      refine po_call (by omega) (pm_mono OP (fun r1 h1 => ?_))
      obtain ⟨v1, M1⟩ := r1
      obtain ⟨x, ex, hX1, g120, h2⟩ := h1
      simp only at ex hX1 g120 h2
      subst ex
      have he1 : pz_ex M1.1 0 = some (0, X.1, X.2) := by rw [hX1, hX]; rfl
      refine pw_blk (mi := mz_0) (b := bz_0_1087) rfl rfl ?_
      simp only [bz_0_1087, pz_cut_t, pz_cut_f, pz_cut_n, pv_gt, pv_ts, pv_tn, ev_ald2, ev_eld2, ev_ald0, ev_eld0, ev_ild3, ev_ic1, ev_iadd, ea_iald, ev_ifeq, pz_wi_gc, pz_wi_ga, pz_wi_gn, pz_wi_gl, pz_wi_gr, pz_wi_same, pz_wi_X, pz_wl_gc, pz_wl_ga, pz_wl_gn, pz_wl_gi, pz_wl_gr, pz_wl_same, pz_wl_X, pz_wr_gc, pz_wr_ga, pz_wr_gn, pz_wr_gi, pz_wr_gl, pz_wr_same, pz_wr_X, so_0 hS, ea_ialde he, g120, ea_ialde he1]
      (try simp (disch := omega) only [nI_clamp, pz_in_nI2, pz_in_nI2L, pv_gt, nI_add, nI_addL, nI_Ladd, pk_mul, nI_mulL, nI_Lmul, pk_sub, nI_subL, nI_Lsub, nI_inc, nI_clampL, Nat.add_sub_cancel, pz_wi_else, pz_wl_else, vu_eq, vu_ne, pz_wi_gc, pz_wi_ga, pz_wi_gn, pz_wi_gl, pz_wi_gr, pz_wi_same, pz_wi_X, pz_wl_gc, pz_wl_ga, pz_wl_gn, pz_wl_gi, pz_wl_gr, pz_wl_same, pz_wl_X, pz_wr_gc, pz_wr_ga, pz_wr_gn, pz_wr_gi, pz_wr_gl, pz_wr_same, pz_wr_X, so_0 hS, ea_ialde he, g120, ea_ialde he1])
      (try refine po_gI (by first | exact pz_in_nI (by omega) (by decide) | decide | assumption) ?_)
      refine po_brP (fun q1087 => ?_) (fun q1087 => ?_)
      · first
        | exact absurd q1087 (by decide)
        | exact absurd trivial q1087
        | exact q1087.elim
        | (exfalso; (try simp (disch := omega) only [nI_ltI, nI_leI, nI_eq, nI_ltL, nI_leL, nI_eqL, nI_Llt, nI_Lle, nI_Leq, nI_eqm, nI_meq, nI_ltm, nI_lem, nI_mlt, nI_mle, lg0, lgl, lgg, lgle, lgge, Int32.not_lt, Int32.not_le, Int64.not_lt, Int64.not_le, not_false_eq_true, not_true_eq_false, Decidable.not_not, ge_iff_le, gt_iff_lt] at q1087) <;> omega)
        | exact absurd q1087 (by with_reducible assumption)
        | exact absurd (by with_reducible assumption) q1087
        | exact absurd (Decidable.not_not.mp q1087) (by with_reducible assumption)
        | exact absurd (by with_reducible assumption) (Int32.not_le.mpr q1087)
        | exact absurd (by with_reducible assumption) (Int32.not_lt.mpr q1087)
      · skip
        (try simp (disch := omega) only [nI_ltI, nI_leI, nI_eq, nI_ltL, nI_leL, nI_eqL, nI_Llt, nI_Lle, nI_Leq, nI_eqm, nI_meq, nI_ltm, nI_lem, nI_mlt, nI_mle, lg0, lgl, lgg, lgle, lgge, Int32.not_lt, Int32.not_le, Int64.not_lt, Int64.not_le, not_false_eq_true, not_true_eq_false, Decidable.not_not, ge_iff_le, gt_iff_lt] at q1087)
        refine pw_blk (mi := mz_0) (b := bz_0_1096) rfl rfl ?_
        simp only [bz_0_1096, pz_cut_t, pz_cut_f, pz_cut_n, pv_gt, pv_ts, pv_tn, ev_ic1, ev_goto, pz_wi_gc, pz_wi_ga, pz_wi_gn, pz_wi_gl, pz_wi_gr, pz_wi_same, pz_wi_X, pz_wl_gc, pz_wl_ga, pz_wl_gn, pz_wl_gi, pz_wl_gr, pz_wl_same, pz_wl_X, pz_wr_gc, pz_wr_ga, pz_wr_gn, pz_wr_gi, pz_wr_gl, pz_wr_same, pz_wr_X, so_0 hS, ea_ialde he]
        (try simp (disch := omega) only [nI_clamp, pz_in_nI2, pz_in_nI2L, pv_gt, nI_add, nI_addL, nI_Ladd, pk_mul, nI_mulL, nI_Lmul, pk_sub, nI_subL, nI_Lsub, nI_inc, nI_clampL, Nat.add_sub_cancel, pz_wi_else, pz_wl_else, vu_eq, vu_ne, pz_wi_gc, pz_wi_ga, pz_wi_gn, pz_wi_gl, pz_wi_gr, pz_wi_same, pz_wi_X, pz_wl_gc, pz_wl_ga, pz_wl_gn, pz_wl_gi, pz_wl_gr, pz_wl_same, pz_wl_X, pz_wr_gc, pz_wr_ga, pz_wr_gn, pz_wr_gi, pz_wr_gl, pz_wr_same, pz_wr_X, so_0 hS, ea_ialde he])
        refine po_go ?_
        refine pw_blk (mi := mz_0) (b := bz_0_1101) rfl rfl ?_
        simp only [bz_0_1101, pz_cut_t, pz_cut_f, pz_cut_n, pv_gt, pv_ts, pv_tn, ev_ald0, ev_eld0, ev_ild3, ev_ic2, ev_iadd, ea_iald, ev_cv2_11, pz_wi_gc, pz_wi_ga, pz_wi_gn, pz_wi_gl, pz_wi_gr, pz_wi_same, pz_wi_X, pz_wl_gc, pz_wl_ga, pz_wl_gn, pz_wl_gi, pz_wl_gr, pz_wl_same, pz_wl_X, pz_wr_gc, pz_wr_ga, pz_wr_gn, pz_wr_gi, pz_wr_gl, pz_wr_same, pz_wr_X, so_0 hS, ea_ialde he, g120, ea_ialde he1]
        (try simp (disch := omega) only [nI_clamp, pz_in_nI2, pz_in_nI2L, pv_gt, nI_add, nI_addL, nI_Ladd, pk_mul, nI_mulL, nI_Lmul, pk_sub, nI_subL, nI_Lsub, nI_inc, nI_clampL, Nat.add_sub_cancel, pz_wi_else, pz_wl_else, vu_eq, vu_ne, pz_wi_gc, pz_wi_ga, pz_wi_gn, pz_wi_gl, pz_wi_gr, pz_wi_same, pz_wi_X, pz_wl_gc, pz_wl_ga, pz_wl_gn, pz_wl_gi, pz_wl_gr, pz_wl_same, pz_wl_X, pz_wr_gc, pz_wr_ga, pz_wr_gn, pz_wr_gi, pz_wr_gl, pz_wr_same, pz_wr_X, so_0 hS, ea_ialde he, g120, ea_ialde he1])
        (try refine po_gI (by first | exact pz_in_nI (by omega) (by decide) | decide | assumption) ?_)
        (try refine po_gP (Nat.le_of_ble_eq_true rfl) ?_)
        refine po_call (by omega) (pm_mono h2 (fun r2 h3 => ?_))
        obtain ⟨v2, M2⟩ := r2
        obtain ⟨ey, hX2, hL2, hz2⟩ := h3
        simp only at ey hX2 hL2 hz2
        subst ey
        refine pw_blk (mi := mz_0) (b := bz_0_1109) rfl rfl ?_
        simp only [bz_0_1109, pz_cut_t, pz_cut_f, pz_cut_n, pv_gt, pv_ts, pv_tn, ev_ic_eq, pz_wi_gc, pz_wi_ga, pz_wi_gn, pz_wi_gl, pz_wi_gr, pz_wi_same, pz_wi_X, pz_wl_gc, pz_wl_ga, pz_wl_gn, pz_wl_gi, pz_wl_gr, pz_wl_same, pz_wl_X, pz_wr_gc, pz_wr_ga, pz_wr_gn, pz_wr_gi, pz_wr_gl, pz_wr_same, pz_wr_X, so_0 hS, ea_ialde he]
        (try simp (disch := omega) only [nI_clamp, pz_in_nI2, pz_in_nI2L, pv_gt, nI_add, nI_addL, nI_Ladd, pk_mul, nI_mulL, nI_Lmul, pk_sub, nI_subL, nI_Lsub, nI_inc, nI_clampL, Nat.add_sub_cancel, pz_wi_else, pz_wl_else, vu_eq, vu_ne, pz_wi_gc, pz_wi_ga, pz_wi_gn, pz_wi_gl, pz_wi_gr, pz_wi_same, pz_wi_X, pz_wl_gc, pz_wl_ga, pz_wl_gn, pz_wl_gi, pz_wl_gr, pz_wl_same, pz_wl_X, pz_wr_gc, pz_wr_ga, pz_wr_gn, pz_wr_gi, pz_wr_gl, pz_wr_same, pz_wr_X, so_0 hS, ea_ialde he])
        refine po_brP (fun q1109 => ?_) (fun q1109 => ?_)
        · first
          | exact absurd q1109 (by decide)
          | exact absurd trivial q1109
          | exact q1109.elim
          | (exfalso; (try simp (disch := omega) only [nI_ltI, nI_leI, nI_eq, nI_ltL, nI_leL, nI_eqL, nI_Llt, nI_Lle, nI_Leq, nI_eqm, nI_meq, nI_ltm, nI_lem, nI_mlt, nI_mle, lg0, lgl, lgg, lgle, lgge, Int32.not_lt, Int32.not_le, Int64.not_lt, Int64.not_le, not_false_eq_true, not_true_eq_false, Decidable.not_not, ge_iff_le, gt_iff_lt] at q1109) <;> omega)
          | exact absurd q1109 (by with_reducible assumption)
          | exact absurd (by with_reducible assumption) q1109
          | exact absurd (Decidable.not_not.mp q1109) (by with_reducible assumption)
          | exact absurd (by with_reducible assumption) (Int32.not_le.mpr q1109)
          | exact absurd (by with_reducible assumption) (Int32.not_lt.mpr q1109)
          | skip
            (try simp (disch := omega) only [nI_ltI, nI_leI, nI_eq, nI_ltL, nI_leL, nI_eqL, nI_Llt, nI_Lle, nI_Leq, nI_eqm, nI_meq, nI_ltm, nI_lem, nI_mlt, nI_mle, lg0, lgl, lgg, lgle, lgge, Int32.not_lt, Int32.not_le, Int64.not_lt, Int64.not_le, not_false_eq_true, not_true_eq_false, Decidable.not_not, ge_iff_le, gt_iff_lt] at q1109)
            exact nx M2 ⟨hX2.trans hX, hL2, hz2⟩
        · exact absurd trivial q1109
theorem cs_28 (hX6 : i + 6 ≤ X.1) (hX7 : X.1 ≤ 3072) (h : INV X M) (nx : ∀ M', INV X M' → pw 1000 0 (1484, [some (.retAddr 0), some (.ref 0), some (.ref 120), some (.int (nI i))], [], M') Q) : pw 1000 0 (1114, [some (.retAddr 0), some (.ref 0), some (.ref 120), some (.int (nI i))], [], M) Q := by
  obtain ⟨hX, hL, hz⟩ := h
  have hS := hL.S
  have he : pz_ex M.1 0 = some (0, X.1, X.2) := by rw [hX]; rfl
  have OP := opp_I (a := 59) (b := 60) (by decide +kernel) (by decide +kernel) hz hL (show opp 999 59 60 [.int (X.2 (i + 1))] M from oz_later (by decide) hL)
  refine pw_blk (mi := mz_0) (b := bz_0_1114) rfl rfl ?_
  simp only [bz_0_1114, pz_cut_t, pz_cut_f, pz_cut_n, pv_gt, pv_ts, pv_tn, ev_ald1, ev_eld1, ev_ald0, ev_eld0, ev_ild3, ev_ic1, ev_iadd, ea_iald, ev_cv1_0, pz_wi_gc, pz_wi_ga, pz_wi_gn, pz_wi_gl, pz_wi_gr, pz_wi_same, pz_wi_X, pz_wl_gc, pz_wl_ga, pz_wl_gn, pz_wl_gi, pz_wl_gr, pz_wl_same, pz_wl_X, pz_wr_gc, pz_wr_ga, pz_wr_gn, pz_wr_gi, pz_wr_gl, pz_wr_same, pz_wr_X, so_0 hS, ea_ialde he]
  (try simp (disch := omega) only [nI_clamp, pz_in_nI2, pz_in_nI2L, pv_gt, nI_add, nI_addL, nI_Ladd, pk_mul, nI_mulL, nI_Lmul, pk_sub, nI_subL, nI_Lsub, nI_inc, nI_clampL, Nat.add_sub_cancel, pz_wi_else, pz_wl_else, vu_eq, vu_ne, pz_wi_gc, pz_wi_ga, pz_wi_gn, pz_wi_gl, pz_wi_gr, pz_wi_same, pz_wi_X, pz_wl_gc, pz_wl_ga, pz_wl_gn, pz_wl_gi, pz_wl_gr, pz_wl_same, pz_wl_X, pz_wr_gc, pz_wr_ga, pz_wr_gn, pz_wr_gi, pz_wr_gl, pz_wr_same, pz_wr_X, so_0 hS, ea_ialde he])
  (try refine po_gI (by first | exact pz_in_nI (by omega) (by decide) | decide | assumption) ?_)
  (try refine po_gP (Nat.le_of_ble_eq_true rfl) ?_)
  refine po_call (by omega) (pm_mono OP (fun r1 h1 => ?_))
  obtain ⟨v1, M1⟩ := r1
  obtain ⟨x, ex, hX1, g120, h2⟩ := h1
  simp only at ex hX1 g120 h2
  subst ex
  have he1 : pz_ex M1.1 0 = some (0, X.1, X.2) := by rw [hX1, hX]; rfl
  refine pw_blk (mi := mz_0) (b := bz_0_1123) rfl rfl ?_
  simp only [bz_0_1123, pz_cut_t, pz_cut_f, pz_cut_n, pv_gt, pv_ts, pv_tn, ev_ald2, ev_eld2, ev_ald0, ev_eld0, ev_ild3, ev_ic1, ev_iadd, ea_iald, ev_cv1_11, pz_wi_gc, pz_wi_ga, pz_wi_gn, pz_wi_gl, pz_wi_gr, pz_wi_same, pz_wi_X, pz_wl_gc, pz_wl_ga, pz_wl_gn, pz_wl_gi, pz_wl_gr, pz_wl_same, pz_wl_X, pz_wr_gc, pz_wr_ga, pz_wr_gn, pz_wr_gi, pz_wr_gl, pz_wr_same, pz_wr_X, so_0 hS, ea_ialde he, g120, ea_ialde he1]
  (try simp (disch := omega) only [nI_clamp, pz_in_nI2, pz_in_nI2L, pv_gt, nI_add, nI_addL, nI_Ladd, pk_mul, nI_mulL, nI_Lmul, pk_sub, nI_subL, nI_Lsub, nI_inc, nI_clampL, Nat.add_sub_cancel, pz_wi_else, pz_wl_else, vu_eq, vu_ne, pz_wi_gc, pz_wi_ga, pz_wi_gn, pz_wi_gl, pz_wi_gr, pz_wi_same, pz_wi_X, pz_wl_gc, pz_wl_ga, pz_wl_gn, pz_wl_gi, pz_wl_gr, pz_wl_same, pz_wl_X, pz_wr_gc, pz_wr_ga, pz_wr_gn, pz_wr_gi, pz_wr_gl, pz_wr_same, pz_wr_X, so_0 hS, ea_ialde he, g120, ea_ialde he1])
  (try refine po_gI (by first | exact pz_in_nI (by omega) (by decide) | decide | assumption) ?_)
  (try refine po_gP (Nat.le_of_ble_eq_true rfl) ?_)
  refine po_call (by omega) (pm_mono h2 (fun r2 h3 => ?_))
  obtain ⟨v2, M2⟩ := r2
  obtain ⟨ey, hX2, hL2, hz2⟩ := h3
  simp only at ey hX2 hL2 hz2
  subst ey
  refine pw_blk (mi := mz_0) (b := bz_0_1132) rfl rfl ?_
  simp only [bz_0_1132, pz_cut_t, pz_cut_f, pz_cut_n, pv_gt, pv_ts, pv_tn, ev_ic_eq, pz_wi_gc, pz_wi_ga, pz_wi_gn, pz_wi_gl, pz_wi_gr, pz_wi_same, pz_wi_X, pz_wl_gc, pz_wl_ga, pz_wl_gn, pz_wl_gi, pz_wl_gr, pz_wl_same, pz_wl_X, pz_wr_gc, pz_wr_ga, pz_wr_gn, pz_wr_gi, pz_wr_gl, pz_wr_same, pz_wr_X, so_0 hS, ea_ialde he]
  (try simp (disch := omega) only [nI_clamp, pz_in_nI2, pz_in_nI2L, pv_gt, nI_add, nI_addL, nI_Ladd, pk_mul, nI_mulL, nI_Lmul, pk_sub, nI_subL, nI_Lsub, nI_inc, nI_clampL, Nat.add_sub_cancel, pz_wi_else, pz_wl_else, vu_eq, vu_ne, pz_wi_gc, pz_wi_ga, pz_wi_gn, pz_wi_gl, pz_wi_gr, pz_wi_same, pz_wi_X, pz_wl_gc, pz_wl_ga, pz_wl_gn, pz_wl_gi, pz_wl_gr, pz_wl_same, pz_wl_X, pz_wr_gc, pz_wr_ga, pz_wr_gn, pz_wr_gi, pz_wr_gl, pz_wr_same, pz_wr_X, so_0 hS, ea_ialde he])
  refine po_brP (fun q1132 => ?_) (fun q1132 => ?_)
  · first
    | exact absurd q1132 (by decide)
    | exact absurd trivial q1132
    | exact q1132.elim
    | (exfalso; (try simp (disch := omega) only [nI_ltI, nI_leI, nI_eq, nI_ltL, nI_leL, nI_eqL, nI_Llt, nI_Lle, nI_Leq, nI_eqm, nI_meq, nI_ltm, nI_lem, nI_mlt, nI_mle, lg0, lgl, lgg, lgle, lgge, Int32.not_lt, Int32.not_le, Int64.not_lt, Int64.not_le, not_false_eq_true, not_true_eq_false, Decidable.not_not, ge_iff_le, gt_iff_lt] at q1132) <;> omega)
    | exact absurd q1132 (by with_reducible assumption)
    | exact absurd (by with_reducible assumption) q1132
    | exact absurd (Decidable.not_not.mp q1132) (by with_reducible assumption)
    | exact absurd (by with_reducible assumption) (Int32.not_le.mpr q1132)
    | exact absurd (by with_reducible assumption) (Int32.not_lt.mpr q1132)
    | skip
      (try simp (disch := omega) only [nI_ltI, nI_leI, nI_eq, nI_ltL, nI_leL, nI_eqL, nI_Llt, nI_Lle, nI_Leq, nI_eqm, nI_meq, nI_ltm, nI_lem, nI_mlt, nI_mle, lg0, lgl, lgg, lgle, lgge, Int32.not_lt, Int32.not_le, Int64.not_lt, Int64.not_le, not_false_eq_true, not_true_eq_false, Decidable.not_not, ge_iff_le, gt_iff_lt] at q1132)
      exact nx M2 ⟨hX2.trans hX, hL2, hz2⟩
  · exact absurd trivial q1132
theorem cs_29 (hX6 : i + 6 ≤ X.1) (hX7 : X.1 ≤ 3072) (h : INV X M) (nx : ∀ M', INV X M' → pw 1000 0 (1484, [some (.retAddr 0), some (.ref 0), some (.ref 120), some (.int (nI i))], [], M') Q) : pw 1000 0 (1137, [some (.retAddr 0), some (.ref 0), some (.ref 120), some (.int (nI i))], [], M) Q := by
  obtain ⟨hX, hL, hz⟩ := h
  have hS := hL.S
  have he : pz_ex M.1 0 = some (0, X.1, X.2) := by rw [hX]; rfl
  have OP := opp_I (a := 61) (b := 62) (by decide +kernel) (by decide +kernel) hz hL (show opp 999 61 62 [.int (X.2 (i + 1)), .int (X.2 (i + 2))] M from oz_cuts (by decide) hL)
  refine pw_blk (mi := mz_0) (b := bz_0_1137) rfl rfl ?_
  simp only [bz_0_1137, pz_cut_t, pz_cut_f, pz_cut_n, pv_gt, pv_ts, pv_tn, ev_ald1, ev_eld1, ev_ald0, ev_eld0, ev_ild3, ev_ic1, ev_iadd, ea_iald, ev_ic2, ev_cv2_0, pz_wi_gc, pz_wi_ga, pz_wi_gn, pz_wi_gl, pz_wi_gr, pz_wi_same, pz_wi_X, pz_wl_gc, pz_wl_ga, pz_wl_gn, pz_wl_gi, pz_wl_gr, pz_wl_same, pz_wl_X, pz_wr_gc, pz_wr_ga, pz_wr_gn, pz_wr_gi, pz_wr_gl, pz_wr_same, pz_wr_X, so_0 hS, ea_ialde he]
  (try simp (disch := omega) only [nI_clamp, pz_in_nI2, pz_in_nI2L, pv_gt, nI_add, nI_addL, nI_Ladd, pk_mul, nI_mulL, nI_Lmul, pk_sub, nI_subL, nI_Lsub, nI_inc, nI_clampL, Nat.add_sub_cancel, pz_wi_else, pz_wl_else, vu_eq, vu_ne, pz_wi_gc, pz_wi_ga, pz_wi_gn, pz_wi_gl, pz_wi_gr, pz_wi_same, pz_wi_X, pz_wl_gc, pz_wl_ga, pz_wl_gn, pz_wl_gi, pz_wl_gr, pz_wl_same, pz_wl_X, pz_wr_gc, pz_wr_ga, pz_wr_gn, pz_wr_gi, pz_wr_gl, pz_wr_same, pz_wr_X, so_0 hS, ea_ialde he])
  (try refine po_gI (by first | exact pz_in_nI (by omega) (by decide) | decide | assumption) ?_)
  (try refine po_gI (by first | exact pz_in_nI (by omega) (by decide) | decide | assumption) ?_)
  (try refine po_gP (Nat.le_of_ble_eq_true rfl) ?_)
  refine po_call (by omega) (pm_mono OP (fun r1 h1 => ?_))
  obtain ⟨v1, M1⟩ := r1
  obtain ⟨x, ex, hX1, g120, h2⟩ := h1
  simp only at ex hX1 g120 h2
  subst ex
  have he1 : pz_ex M1.1 0 = some (0, X.1, X.2) := by rw [hX1, hX]; rfl
  refine pw_blk (mi := mz_0) (b := bz_0_1151) rfl rfl ?_
  simp only [bz_0_1151, pz_cut_t, pz_cut_f, pz_cut_n, pv_gt, pv_ts, pv_tn, ev_ald2, ev_eld2, ev_ald0, ev_eld0, ev_ild3, ev_ic1, ev_iadd, ea_iald, ev_ic2, ev_cv2_11, pz_wi_gc, pz_wi_ga, pz_wi_gn, pz_wi_gl, pz_wi_gr, pz_wi_same, pz_wi_X, pz_wl_gc, pz_wl_ga, pz_wl_gn, pz_wl_gi, pz_wl_gr, pz_wl_same, pz_wl_X, pz_wr_gc, pz_wr_ga, pz_wr_gn, pz_wr_gi, pz_wr_gl, pz_wr_same, pz_wr_X, so_0 hS, ea_ialde he, g120, ea_ialde he1]
  (try simp (disch := omega) only [nI_clamp, pz_in_nI2, pz_in_nI2L, pv_gt, nI_add, nI_addL, nI_Ladd, pk_mul, nI_mulL, nI_Lmul, pk_sub, nI_subL, nI_Lsub, nI_inc, nI_clampL, Nat.add_sub_cancel, pz_wi_else, pz_wl_else, vu_eq, vu_ne, pz_wi_gc, pz_wi_ga, pz_wi_gn, pz_wi_gl, pz_wi_gr, pz_wi_same, pz_wi_X, pz_wl_gc, pz_wl_ga, pz_wl_gn, pz_wl_gi, pz_wl_gr, pz_wl_same, pz_wl_X, pz_wr_gc, pz_wr_ga, pz_wr_gn, pz_wr_gi, pz_wr_gl, pz_wr_same, pz_wr_X, so_0 hS, ea_ialde he, g120, ea_ialde he1])
  (try refine po_gI (by first | exact pz_in_nI (by omega) (by decide) | decide | assumption) ?_)
  (try refine po_gI (by first | exact pz_in_nI (by omega) (by decide) | decide | assumption) ?_)
  (try refine po_gP (Nat.le_of_ble_eq_true rfl) ?_)
  refine po_call (by omega) (pm_mono h2 (fun r2 h3 => ?_))
  obtain ⟨v2, M2⟩ := r2
  obtain ⟨ey, hX2, hL2, hz2⟩ := h3
  simp only at ey hX2 hL2 hz2
  subst ey
  refine pw_blk (mi := mz_0) (b := bz_0_1165) rfl rfl ?_
  simp only [bz_0_1165, pz_cut_t, pz_cut_f, pz_cut_n, pv_gt, pv_ts, pv_tn, ev_ic_eq, pz_wi_gc, pz_wi_ga, pz_wi_gn, pz_wi_gl, pz_wi_gr, pz_wi_same, pz_wi_X, pz_wl_gc, pz_wl_ga, pz_wl_gn, pz_wl_gi, pz_wl_gr, pz_wl_same, pz_wl_X, pz_wr_gc, pz_wr_ga, pz_wr_gn, pz_wr_gi, pz_wr_gl, pz_wr_same, pz_wr_X, so_0 hS, ea_ialde he]
  (try simp (disch := omega) only [nI_clamp, pz_in_nI2, pz_in_nI2L, pv_gt, nI_add, nI_addL, nI_Ladd, pk_mul, nI_mulL, nI_Lmul, pk_sub, nI_subL, nI_Lsub, nI_inc, nI_clampL, Nat.add_sub_cancel, pz_wi_else, pz_wl_else, vu_eq, vu_ne, pz_wi_gc, pz_wi_ga, pz_wi_gn, pz_wi_gl, pz_wi_gr, pz_wi_same, pz_wi_X, pz_wl_gc, pz_wl_ga, pz_wl_gn, pz_wl_gi, pz_wl_gr, pz_wl_same, pz_wl_X, pz_wr_gc, pz_wr_ga, pz_wr_gn, pz_wr_gi, pz_wr_gl, pz_wr_same, pz_wr_X, so_0 hS, ea_ialde he])
  refine po_brP (fun q1165 => ?_) (fun q1165 => ?_)
  · first
    | exact absurd q1165 (by decide)
    | exact absurd trivial q1165
    | exact q1165.elim
    | (exfalso; (try simp (disch := omega) only [nI_ltI, nI_leI, nI_eq, nI_ltL, nI_leL, nI_eqL, nI_Llt, nI_Lle, nI_Leq, nI_eqm, nI_meq, nI_ltm, nI_lem, nI_mlt, nI_mle, lg0, lgl, lgg, lgle, lgge, Int32.not_lt, Int32.not_le, Int64.not_lt, Int64.not_le, not_false_eq_true, not_true_eq_false, Decidable.not_not, ge_iff_le, gt_iff_lt] at q1165) <;> omega)
    | exact absurd q1165 (by with_reducible assumption)
    | exact absurd (by with_reducible assumption) q1165
    | exact absurd (Decidable.not_not.mp q1165) (by with_reducible assumption)
    | exact absurd (by with_reducible assumption) (Int32.not_le.mpr q1165)
    | exact absurd (by with_reducible assumption) (Int32.not_lt.mpr q1165)
    | skip
      (try simp (disch := omega) only [nI_ltI, nI_leI, nI_eq, nI_ltL, nI_leL, nI_eqL, nI_Llt, nI_Lle, nI_Leq, nI_eqm, nI_meq, nI_ltm, nI_lem, nI_mlt, nI_mle, lg0, lgl, lgg, lgle, lgge, Int32.not_lt, Int32.not_le, Int64.not_lt, Int64.not_le, not_false_eq_true, not_true_eq_false, Decidable.not_not, ge_iff_le, gt_iff_lt] at q1165)
      exact nx M2 ⟨hX2.trans hX, hL2, hz2⟩
  · exact absurd trivial q1165
theorem cs_30 (hX6 : i + 6 ≤ X.1) (hX7 : X.1 ≤ 3072) (h : INV X M) (nx : ∀ M', INV X M' → pw 1000 0 (1484, [some (.retAddr 0), some (.ref 0), some (.ref 120), some (.int (nI i))], [], M') Q) : pw 1000 0 (1170, [some (.retAddr 0), some (.ref 0), some (.ref 120), some (.int (nI i))], [], M) Q := by
  obtain ⟨hX, hL, hz⟩ := h
  have hS := hL.S
  have he : pz_ex M.1 0 = some (0, X.1, X.2) := by rw [hX]; rfl
  have OP := opp_I (a := 63) (b := 64) (by decide +kernel) (by decide +kernel) hz hL (show opp 999 63 64 [.int (X.2 (i + 1)), .int (X.2 (i + 2))] M from op_diaries (by decide) hL)
  refine pw_blk (mi := mz_0) (b := bz_0_1170) rfl rfl ?_
  simp only [bz_0_1170, pz_cut_t, pz_cut_f, pz_cut_n, pv_gt, pv_ts, pv_tn, ev_ald1, ev_eld1, ev_ald0, ev_eld0, ev_ild3, ev_ic1, ev_iadd, ea_iald, ev_ic2, ev_cv2_0, pz_wi_gc, pz_wi_ga, pz_wi_gn, pz_wi_gl, pz_wi_gr, pz_wi_same, pz_wi_X, pz_wl_gc, pz_wl_ga, pz_wl_gn, pz_wl_gi, pz_wl_gr, pz_wl_same, pz_wl_X, pz_wr_gc, pz_wr_ga, pz_wr_gn, pz_wr_gi, pz_wr_gl, pz_wr_same, pz_wr_X, so_0 hS, ea_ialde he]
  (try simp (disch := omega) only [nI_clamp, pz_in_nI2, pz_in_nI2L, pv_gt, nI_add, nI_addL, nI_Ladd, pk_mul, nI_mulL, nI_Lmul, pk_sub, nI_subL, nI_Lsub, nI_inc, nI_clampL, Nat.add_sub_cancel, pz_wi_else, pz_wl_else, vu_eq, vu_ne, pz_wi_gc, pz_wi_ga, pz_wi_gn, pz_wi_gl, pz_wi_gr, pz_wi_same, pz_wi_X, pz_wl_gc, pz_wl_ga, pz_wl_gn, pz_wl_gi, pz_wl_gr, pz_wl_same, pz_wl_X, pz_wr_gc, pz_wr_ga, pz_wr_gn, pz_wr_gi, pz_wr_gl, pz_wr_same, pz_wr_X, so_0 hS, ea_ialde he])
  (try refine po_gI (by first | exact pz_in_nI (by omega) (by decide) | decide | assumption) ?_)
  (try refine po_gI (by first | exact pz_in_nI (by omega) (by decide) | decide | assumption) ?_)
  (try refine po_gP (Nat.le_of_ble_eq_true rfl) ?_)
  refine po_call (by omega) (pm_mono OP (fun r1 h1 => ?_))
  obtain ⟨v1, M1⟩ := r1
  obtain ⟨x, ex, hX1, g120, h2⟩ := h1
  simp only at ex hX1 g120 h2
  subst ex
  have he1 : pz_ex M1.1 0 = some (0, X.1, X.2) := by rw [hX1, hX]; rfl
  refine pw_blk (mi := mz_0) (b := bz_0_1184) rfl rfl ?_
  simp only [bz_0_1184, pz_cut_t, pz_cut_f, pz_cut_n, pv_gt, pv_ts, pv_tn, ev_ald2, ev_eld2, ev_ald0, ev_eld0, ev_ild3, ev_ic1, ev_iadd, ea_iald, ev_ic2, ev_cv2_11, pz_wi_gc, pz_wi_ga, pz_wi_gn, pz_wi_gl, pz_wi_gr, pz_wi_same, pz_wi_X, pz_wl_gc, pz_wl_ga, pz_wl_gn, pz_wl_gi, pz_wl_gr, pz_wl_same, pz_wl_X, pz_wr_gc, pz_wr_ga, pz_wr_gn, pz_wr_gi, pz_wr_gl, pz_wr_same, pz_wr_X, so_0 hS, ea_ialde he, g120, ea_ialde he1]
  (try simp (disch := omega) only [nI_clamp, pz_in_nI2, pz_in_nI2L, pv_gt, nI_add, nI_addL, nI_Ladd, pk_mul, nI_mulL, nI_Lmul, pk_sub, nI_subL, nI_Lsub, nI_inc, nI_clampL, Nat.add_sub_cancel, pz_wi_else, pz_wl_else, vu_eq, vu_ne, pz_wi_gc, pz_wi_ga, pz_wi_gn, pz_wi_gl, pz_wi_gr, pz_wi_same, pz_wi_X, pz_wl_gc, pz_wl_ga, pz_wl_gn, pz_wl_gi, pz_wl_gr, pz_wl_same, pz_wl_X, pz_wr_gc, pz_wr_ga, pz_wr_gn, pz_wr_gi, pz_wr_gl, pz_wr_same, pz_wr_X, so_0 hS, ea_ialde he, g120, ea_ialde he1])
  (try refine po_gI (by first | exact pz_in_nI (by omega) (by decide) | decide | assumption) ?_)
  (try refine po_gI (by first | exact pz_in_nI (by omega) (by decide) | decide | assumption) ?_)
  (try refine po_gP (Nat.le_of_ble_eq_true rfl) ?_)
  refine po_call (by omega) (pm_mono h2 (fun r2 h3 => ?_))
  obtain ⟨v2, M2⟩ := r2
  obtain ⟨ey, hX2, hL2, hz2⟩ := h3
  simp only at ey hX2 hL2 hz2
  subst ey
  refine pw_blk (mi := mz_0) (b := bz_0_1198) rfl rfl ?_
  simp only [bz_0_1198, pz_cut_t, pz_cut_f, pz_cut_n, pv_gt, pv_ts, pv_tn, ev_ic_eq, pz_wi_gc, pz_wi_ga, pz_wi_gn, pz_wi_gl, pz_wi_gr, pz_wi_same, pz_wi_X, pz_wl_gc, pz_wl_ga, pz_wl_gn, pz_wl_gi, pz_wl_gr, pz_wl_same, pz_wl_X, pz_wr_gc, pz_wr_ga, pz_wr_gn, pz_wr_gi, pz_wr_gl, pz_wr_same, pz_wr_X, so_0 hS, ea_ialde he]
  (try simp (disch := omega) only [nI_clamp, pz_in_nI2, pz_in_nI2L, pv_gt, nI_add, nI_addL, nI_Ladd, pk_mul, nI_mulL, nI_Lmul, pk_sub, nI_subL, nI_Lsub, nI_inc, nI_clampL, Nat.add_sub_cancel, pz_wi_else, pz_wl_else, vu_eq, vu_ne, pz_wi_gc, pz_wi_ga, pz_wi_gn, pz_wi_gl, pz_wi_gr, pz_wi_same, pz_wi_X, pz_wl_gc, pz_wl_ga, pz_wl_gn, pz_wl_gi, pz_wl_gr, pz_wl_same, pz_wl_X, pz_wr_gc, pz_wr_ga, pz_wr_gn, pz_wr_gi, pz_wr_gl, pz_wr_same, pz_wr_X, so_0 hS, ea_ialde he])
  refine po_brP (fun q1198 => ?_) (fun q1198 => ?_)
  · first
    | exact absurd q1198 (by decide)
    | exact absurd trivial q1198
    | exact q1198.elim
    | (exfalso; (try simp (disch := omega) only [nI_ltI, nI_leI, nI_eq, nI_ltL, nI_leL, nI_eqL, nI_Llt, nI_Lle, nI_Leq, nI_eqm, nI_meq, nI_ltm, nI_lem, nI_mlt, nI_mle, lg0, lgl, lgg, lgle, lgge, Int32.not_lt, Int32.not_le, Int64.not_lt, Int64.not_le, not_false_eq_true, not_true_eq_false, Decidable.not_not, ge_iff_le, gt_iff_lt] at q1198) <;> omega)
    | exact absurd q1198 (by with_reducible assumption)
    | exact absurd (by with_reducible assumption) q1198
    | exact absurd (Decidable.not_not.mp q1198) (by with_reducible assumption)
    | exact absurd (by with_reducible assumption) (Int32.not_le.mpr q1198)
    | exact absurd (by with_reducible assumption) (Int32.not_lt.mpr q1198)
    | skip
      (try simp (disch := omega) only [nI_ltI, nI_leI, nI_eq, nI_ltL, nI_leL, nI_eqL, nI_Llt, nI_Lle, nI_Leq, nI_eqm, nI_meq, nI_ltm, nI_lem, nI_mlt, nI_mle, lg0, lgl, lgg, lgle, lgge, Int32.not_lt, Int32.not_le, Int64.not_lt, Int64.not_le, not_false_eq_true, not_true_eq_false, Decidable.not_not, ge_iff_le, gt_iff_lt] at q1198)
      exact nx M2 ⟨hX2.trans hX, hL2, hz2⟩
  · exact absurd trivial q1198
theorem cs_31 (hX6 : i + 6 ≤ X.1) (hX7 : X.1 ≤ 3072) (h : INV X M) (nx : ∀ M', INV X M' → pw 1000 0 (1484, [some (.retAddr 0), some (.ref 0), some (.ref 120), some (.int (nI i))], [], M') Q) : pw 1000 0 (1203, [some (.retAddr 0), some (.ref 0), some (.ref 120), some (.int (nI i))], [], M) Q := by
  obtain ⟨hX, hL, hz⟩ := h
  have hS := hL.S
  have he : pz_ex M.1 0 = some (0, X.1, X.2) := by rw [hX]; rfl
  have OP := opp_L (a := 65) (b := 66) (by decide +kernel) (by decide +kernel) hz hL (show opp 999 65 66 [.int (X.2 (i + 1)), .int (X.2 (i + 2))] M from op_luck (by decide) hL)
  refine pw_blk (mi := mz_0) (b := bz_0_1203) rfl rfl ?_
  simp only [bz_0_1203, pz_cut_t, pz_cut_f, pz_cut_n, pv_gt, pv_ts, pv_tn, ev_ald1, ev_eld1, ev_ald0, ev_eld0, ev_ild3, ev_ic1, ev_iadd, ea_iald, ev_ic2, ev_cv2_0, pz_wi_gc, pz_wi_ga, pz_wi_gn, pz_wi_gl, pz_wi_gr, pz_wi_same, pz_wi_X, pz_wl_gc, pz_wl_ga, pz_wl_gn, pz_wl_gi, pz_wl_gr, pz_wl_same, pz_wl_X, pz_wr_gc, pz_wr_ga, pz_wr_gn, pz_wr_gi, pz_wr_gl, pz_wr_same, pz_wr_X, so_0 hS, ea_ialde he]
  (try simp (disch := omega) only [nI_clamp, pz_in_nI2, pz_in_nI2L, pv_gt, nI_add, nI_addL, nI_Ladd, pk_mul, nI_mulL, nI_Lmul, pk_sub, nI_subL, nI_Lsub, nI_inc, nI_clampL, Nat.add_sub_cancel, pz_wi_else, pz_wl_else, vu_eq, vu_ne, pz_wi_gc, pz_wi_ga, pz_wi_gn, pz_wi_gl, pz_wi_gr, pz_wi_same, pz_wi_X, pz_wl_gc, pz_wl_ga, pz_wl_gn, pz_wl_gi, pz_wl_gr, pz_wl_same, pz_wl_X, pz_wr_gc, pz_wr_ga, pz_wr_gn, pz_wr_gi, pz_wr_gl, pz_wr_same, pz_wr_X, so_0 hS, ea_ialde he])
  (try refine po_gI (by first | exact pz_in_nI (by omega) (by decide) | decide | assumption) ?_)
  (try refine po_gI (by first | exact pz_in_nI (by omega) (by decide) | decide | assumption) ?_)
  (try refine po_gP (Nat.le_of_ble_eq_true rfl) ?_)
  refine po_call (by omega) (pm_mono OP (fun r1 h1 => ?_))
  obtain ⟨v1, M1⟩ := r1
  obtain ⟨x, ex, hX1, g120, h2⟩ := h1
  simp only at ex hX1 g120 h2
  subst ex
  have he1 : pz_ex M1.1 0 = some (0, X.1, X.2) := by rw [hX1, hX]; rfl
  refine pw_blk (mi := mz_0) (b := bz_0_1217) rfl rfl ?_
  simp only [bz_0_1217, pz_cut_t, pz_cut_f, pz_cut_n, pv_gt, pv_ts, pv_tn, ev_ald2, ev_eld2, ev_ald0, ev_eld0, ev_ild3, ev_ic1, ev_iadd, ea_iald, ev_ic2, ev_cv2_11, pz_wi_gc, pz_wi_ga, pz_wi_gn, pz_wi_gl, pz_wi_gr, pz_wi_same, pz_wi_X, pz_wl_gc, pz_wl_ga, pz_wl_gn, pz_wl_gi, pz_wl_gr, pz_wl_same, pz_wl_X, pz_wr_gc, pz_wr_ga, pz_wr_gn, pz_wr_gi, pz_wr_gl, pz_wr_same, pz_wr_X, so_0 hS, ea_ialde he, g120, ea_ialde he1]
  (try simp (disch := omega) only [nI_clamp, pz_in_nI2, pz_in_nI2L, pv_gt, nI_add, nI_addL, nI_Ladd, pk_mul, nI_mulL, nI_Lmul, pk_sub, nI_subL, nI_Lsub, nI_inc, nI_clampL, Nat.add_sub_cancel, pz_wi_else, pz_wl_else, vu_eq, vu_ne, pz_wi_gc, pz_wi_ga, pz_wi_gn, pz_wi_gl, pz_wi_gr, pz_wi_same, pz_wi_X, pz_wl_gc, pz_wl_ga, pz_wl_gn, pz_wl_gi, pz_wl_gr, pz_wl_same, pz_wl_X, pz_wr_gc, pz_wr_ga, pz_wr_gn, pz_wr_gi, pz_wr_gl, pz_wr_same, pz_wr_X, so_0 hS, ea_ialde he, g120, ea_ialde he1])
  (try refine po_gI (by first | exact pz_in_nI (by omega) (by decide) | decide | assumption) ?_)
  (try refine po_gI (by first | exact pz_in_nI (by omega) (by decide) | decide | assumption) ?_)
  (try refine po_gP (Nat.le_of_ble_eq_true rfl) ?_)
  refine po_call (by omega) (pm_mono h2 (fun r2 h3 => ?_))
  obtain ⟨v2, M2⟩ := r2
  obtain ⟨ey, hX2, hL2, hz2⟩ := h3
  simp only at ey hX2 hL2 hz2
  subst ey
  refine pw_blk (mi := mz_0) (b := bz_0_1231) rfl rfl ?_
  simp only [bz_0_1231, pz_cut_t, pz_cut_f, pz_cut_n, pv_gt, pv_ts, pv_tn, ev_lcmp, ev_ifeq, pz_wi_gc, pz_wi_ga, pz_wi_gn, pz_wi_gl, pz_wi_gr, pz_wi_same, pz_wi_X, pz_wl_gc, pz_wl_ga, pz_wl_gn, pz_wl_gi, pz_wl_gr, pz_wl_same, pz_wl_X, pz_wr_gc, pz_wr_ga, pz_wr_gn, pz_wr_gi, pz_wr_gl, pz_wr_same, pz_wr_X, so_0 hS, ea_ialde he]
  (try simp (disch := omega) only [nI_clamp, pz_in_nI2, pz_in_nI2L, pv_gt, nI_add, nI_addL, nI_Ladd, pk_mul, nI_mulL, nI_Lmul, pk_sub, nI_subL, nI_Lsub, nI_inc, nI_clampL, Nat.add_sub_cancel, pz_wi_else, pz_wl_else, vu_eq, vu_ne, pz_wi_gc, pz_wi_ga, pz_wi_gn, pz_wi_gl, pz_wi_gr, pz_wi_same, pz_wi_X, pz_wl_gc, pz_wl_ga, pz_wl_gn, pz_wl_gi, pz_wl_gr, pz_wl_same, pz_wl_X, pz_wr_gc, pz_wr_ga, pz_wr_gn, pz_wr_gi, pz_wr_gl, pz_wr_same, pz_wr_X, so_0 hS, ea_ialde he])
  refine po_brP (fun q1231 => ?_) (fun q1231 => ?_)
  · first
    | exact absurd q1231 (by decide)
    | exact absurd trivial q1231
    | exact q1231.elim
    | (exfalso; (try simp (disch := omega) only [nI_ltI, nI_leI, nI_eq, nI_ltL, nI_leL, nI_eqL, nI_Llt, nI_Lle, nI_Leq, nI_eqm, nI_meq, nI_ltm, nI_lem, nI_mlt, nI_mle, lg0, lgl, lgg, lgle, lgge, Int32.not_lt, Int32.not_le, Int64.not_lt, Int64.not_le, not_false_eq_true, not_true_eq_false, Decidable.not_not, ge_iff_le, gt_iff_lt] at q1231) <;> omega)
    | exact absurd q1231 (by with_reducible assumption)
    | exact absurd (by with_reducible assumption) q1231
    | exact absurd (Decidable.not_not.mp q1231) (by with_reducible assumption)
    | exact absurd (by with_reducible assumption) (Int32.not_le.mpr q1231)
    | exact absurd (by with_reducible assumption) (Int32.not_lt.mpr q1231)
    | skip
      (try simp (disch := omega) only [nI_ltI, nI_leI, nI_eq, nI_ltL, nI_leL, nI_eqL, nI_Llt, nI_Lle, nI_Leq, nI_eqm, nI_meq, nI_ltm, nI_lem, nI_mlt, nI_mle, lg0, lgl, lgg, lgle, lgge, Int32.not_lt, Int32.not_le, Int64.not_lt, Int64.not_le, not_false_eq_true, not_true_eq_false, Decidable.not_not, ge_iff_le, gt_iff_lt] at q1231)
      exact nx M2 ⟨hX2.trans hX, hL2, hz2⟩
  · exact absurd (by unfold lg_cmp; simp) q1231
theorem cs_32 (hX6 : i + 6 ≤ X.1) (hX7 : X.1 ≤ 3072) (h : INV X M) (nx : ∀ M', INV X M' → pw 1000 0 (1484, [some (.retAddr 0), some (.ref 0), some (.ref 120), some (.int (nI i))], [], M') Q) : pw 1000 0 (1237, [some (.retAddr 0), some (.ref 0), some (.ref 120), some (.int (nI i))], [], M) Q := by
  obtain ⟨hX, hL, hz⟩ := h
  have hS := hL.S
  have he : pz_ex M.1 0 = some (0, X.1, X.2) := by rw [hX]; rfl
  have OP := opp_I (a := 67) (b := 68) (by decide +kernel) (by decide +kernel) hz hL (show opp 999 67 68 [.int (X.2 (i + 1)), .int (X.2 (i + 2))] M from op_hang (by decide) hL)
  refine pw_blk (mi := mz_0) (b := bz_0_1237) rfl rfl ?_
  simp only [bz_0_1237, pz_cut_t, pz_cut_f, pz_cut_n, pv_gt, pv_ts, pv_tn, ev_ald1, ev_eld1, ev_ald0, ev_eld0, ev_ild3, ev_ic1, ev_iadd, ea_iald, ev_ic2, ev_cv2_0, pz_wi_gc, pz_wi_ga, pz_wi_gn, pz_wi_gl, pz_wi_gr, pz_wi_same, pz_wi_X, pz_wl_gc, pz_wl_ga, pz_wl_gn, pz_wl_gi, pz_wl_gr, pz_wl_same, pz_wl_X, pz_wr_gc, pz_wr_ga, pz_wr_gn, pz_wr_gi, pz_wr_gl, pz_wr_same, pz_wr_X, so_0 hS, ea_ialde he]
  (try simp (disch := omega) only [nI_clamp, pz_in_nI2, pz_in_nI2L, pv_gt, nI_add, nI_addL, nI_Ladd, pk_mul, nI_mulL, nI_Lmul, pk_sub, nI_subL, nI_Lsub, nI_inc, nI_clampL, Nat.add_sub_cancel, pz_wi_else, pz_wl_else, vu_eq, vu_ne, pz_wi_gc, pz_wi_ga, pz_wi_gn, pz_wi_gl, pz_wi_gr, pz_wi_same, pz_wi_X, pz_wl_gc, pz_wl_ga, pz_wl_gn, pz_wl_gi, pz_wl_gr, pz_wl_same, pz_wl_X, pz_wr_gc, pz_wr_ga, pz_wr_gn, pz_wr_gi, pz_wr_gl, pz_wr_same, pz_wr_X, so_0 hS, ea_ialde he])
  (try refine po_gI (by first | exact pz_in_nI (by omega) (by decide) | decide | assumption) ?_)
  (try refine po_gI (by first | exact pz_in_nI (by omega) (by decide) | decide | assumption) ?_)
  (try refine po_gP (Nat.le_of_ble_eq_true rfl) ?_)
  refine po_call (by omega) (pm_mono OP (fun r1 h1 => ?_))
  obtain ⟨v1, M1⟩ := r1
  obtain ⟨x, ex, hX1, g120, h2⟩ := h1
  simp only at ex hX1 g120 h2
  subst ex
  have he1 : pz_ex M1.1 0 = some (0, X.1, X.2) := by rw [hX1, hX]; rfl
  refine pw_blk (mi := mz_0) (b := bz_0_1251) rfl rfl ?_
  simp only [bz_0_1251, pz_cut_t, pz_cut_f, pz_cut_n, pv_gt, pv_ts, pv_tn, ev_ald2, ev_eld2, ev_ald0, ev_eld0, ev_ild3, ev_ic1, ev_iadd, ea_iald, ev_ic2, ev_cv2_11, pz_wi_gc, pz_wi_ga, pz_wi_gn, pz_wi_gl, pz_wi_gr, pz_wi_same, pz_wi_X, pz_wl_gc, pz_wl_ga, pz_wl_gn, pz_wl_gi, pz_wl_gr, pz_wl_same, pz_wl_X, pz_wr_gc, pz_wr_ga, pz_wr_gn, pz_wr_gi, pz_wr_gl, pz_wr_same, pz_wr_X, so_0 hS, ea_ialde he, g120, ea_ialde he1]
  (try simp (disch := omega) only [nI_clamp, pz_in_nI2, pz_in_nI2L, pv_gt, nI_add, nI_addL, nI_Ladd, pk_mul, nI_mulL, nI_Lmul, pk_sub, nI_subL, nI_Lsub, nI_inc, nI_clampL, Nat.add_sub_cancel, pz_wi_else, pz_wl_else, vu_eq, vu_ne, pz_wi_gc, pz_wi_ga, pz_wi_gn, pz_wi_gl, pz_wi_gr, pz_wi_same, pz_wi_X, pz_wl_gc, pz_wl_ga, pz_wl_gn, pz_wl_gi, pz_wl_gr, pz_wl_same, pz_wl_X, pz_wr_gc, pz_wr_ga, pz_wr_gn, pz_wr_gi, pz_wr_gl, pz_wr_same, pz_wr_X, so_0 hS, ea_ialde he, g120, ea_ialde he1])
  (try refine po_gI (by first | exact pz_in_nI (by omega) (by decide) | decide | assumption) ?_)
  (try refine po_gI (by first | exact pz_in_nI (by omega) (by decide) | decide | assumption) ?_)
  (try refine po_gP (Nat.le_of_ble_eq_true rfl) ?_)
  refine po_call (by omega) (pm_mono h2 (fun r2 h3 => ?_))
  obtain ⟨v2, M2⟩ := r2
  obtain ⟨ey, hX2, hL2, hz2⟩ := h3
  simp only at ey hX2 hL2 hz2
  subst ey
  refine pw_blk (mi := mz_0) (b := bz_0_1265) rfl rfl ?_
  simp only [bz_0_1265, pz_cut_t, pz_cut_f, pz_cut_n, pv_gt, pv_ts, pv_tn, ev_ic_eq, pz_wi_gc, pz_wi_ga, pz_wi_gn, pz_wi_gl, pz_wi_gr, pz_wi_same, pz_wi_X, pz_wl_gc, pz_wl_ga, pz_wl_gn, pz_wl_gi, pz_wl_gr, pz_wl_same, pz_wl_X, pz_wr_gc, pz_wr_ga, pz_wr_gn, pz_wr_gi, pz_wr_gl, pz_wr_same, pz_wr_X, so_0 hS, ea_ialde he]
  (try simp (disch := omega) only [nI_clamp, pz_in_nI2, pz_in_nI2L, pv_gt, nI_add, nI_addL, nI_Ladd, pk_mul, nI_mulL, nI_Lmul, pk_sub, nI_subL, nI_Lsub, nI_inc, nI_clampL, Nat.add_sub_cancel, pz_wi_else, pz_wl_else, vu_eq, vu_ne, pz_wi_gc, pz_wi_ga, pz_wi_gn, pz_wi_gl, pz_wi_gr, pz_wi_same, pz_wi_X, pz_wl_gc, pz_wl_ga, pz_wl_gn, pz_wl_gi, pz_wl_gr, pz_wl_same, pz_wl_X, pz_wr_gc, pz_wr_ga, pz_wr_gn, pz_wr_gi, pz_wr_gl, pz_wr_same, pz_wr_X, so_0 hS, ea_ialde he])
  refine po_brP (fun q1265 => ?_) (fun q1265 => ?_)
  · first
    | exact absurd q1265 (by decide)
    | exact absurd trivial q1265
    | exact q1265.elim
    | (exfalso; (try simp (disch := omega) only [nI_ltI, nI_leI, nI_eq, nI_ltL, nI_leL, nI_eqL, nI_Llt, nI_Lle, nI_Leq, nI_eqm, nI_meq, nI_ltm, nI_lem, nI_mlt, nI_mle, lg0, lgl, lgg, lgle, lgge, Int32.not_lt, Int32.not_le, Int64.not_lt, Int64.not_le, not_false_eq_true, not_true_eq_false, Decidable.not_not, ge_iff_le, gt_iff_lt] at q1265) <;> omega)
    | exact absurd q1265 (by with_reducible assumption)
    | exact absurd (by with_reducible assumption) q1265
    | exact absurd (Decidable.not_not.mp q1265) (by with_reducible assumption)
    | exact absurd (by with_reducible assumption) (Int32.not_le.mpr q1265)
    | exact absurd (by with_reducible assumption) (Int32.not_lt.mpr q1265)
    | skip
      (try simp (disch := omega) only [nI_ltI, nI_leI, nI_eq, nI_ltL, nI_leL, nI_eqL, nI_Llt, nI_Lle, nI_Leq, nI_eqm, nI_meq, nI_ltm, nI_lem, nI_mlt, nI_mle, lg0, lgl, lgg, lgle, lgge, Int32.not_lt, Int32.not_le, Int64.not_lt, Int64.not_le, not_false_eq_true, not_true_eq_false, Decidable.not_not, ge_iff_le, gt_iff_lt] at q1265)
      exact nx M2 ⟨hX2.trans hX, hL2, hz2⟩
  · exact absurd trivial q1265
theorem cs_33 (hX6 : i + 6 ≤ X.1) (hX7 : X.1 ≤ 3072) (h : INV X M) (nx : ∀ M', INV X M' → pw 1000 0 (1484, [some (.retAddr 0), some (.ref 0), some (.ref 120), some (.int (nI i))], [], M') Q) : pw 1000 0 (1270, [some (.retAddr 0), some (.ref 0), some (.ref 120), some (.int (nI i))], [], M) Q := by
  obtain ⟨hX, hL, hz⟩ := h
  have hS := hL.S
  have he : pz_ex M.1 0 = some (0, X.1, X.2) := by rw [hX]; rfl
  have OP := opp_I (a := 69) (b := 70) (by decide +kernel) (by decide +kernel) hz hL (show opp 999 69 70 [.int (X.2 (i + 1)), .int (X.2 (i + 2))] M from op_laws (by decide) hL)
  refine pw_blk (mi := mz_0) (b := bz_0_1270) rfl rfl ?_
  simp only [bz_0_1270, pz_cut_t, pz_cut_f, pz_cut_n, pv_gt, pv_ts, pv_tn, ev_ald1, ev_eld1, ev_ald0, ev_eld0, ev_ild3, ev_ic1, ev_iadd, ea_iald, ev_ic2, ev_cv2_0, pz_wi_gc, pz_wi_ga, pz_wi_gn, pz_wi_gl, pz_wi_gr, pz_wi_same, pz_wi_X, pz_wl_gc, pz_wl_ga, pz_wl_gn, pz_wl_gi, pz_wl_gr, pz_wl_same, pz_wl_X, pz_wr_gc, pz_wr_ga, pz_wr_gn, pz_wr_gi, pz_wr_gl, pz_wr_same, pz_wr_X, so_0 hS, ea_ialde he]
  (try simp (disch := omega) only [nI_clamp, pz_in_nI2, pz_in_nI2L, pv_gt, nI_add, nI_addL, nI_Ladd, pk_mul, nI_mulL, nI_Lmul, pk_sub, nI_subL, nI_Lsub, nI_inc, nI_clampL, Nat.add_sub_cancel, pz_wi_else, pz_wl_else, vu_eq, vu_ne, pz_wi_gc, pz_wi_ga, pz_wi_gn, pz_wi_gl, pz_wi_gr, pz_wi_same, pz_wi_X, pz_wl_gc, pz_wl_ga, pz_wl_gn, pz_wl_gi, pz_wl_gr, pz_wl_same, pz_wl_X, pz_wr_gc, pz_wr_ga, pz_wr_gn, pz_wr_gi, pz_wr_gl, pz_wr_same, pz_wr_X, so_0 hS, ea_ialde he])
  (try refine po_gI (by first | exact pz_in_nI (by omega) (by decide) | decide | assumption) ?_)
  (try refine po_gI (by first | exact pz_in_nI (by omega) (by decide) | decide | assumption) ?_)
  (try refine po_gP (Nat.le_of_ble_eq_true rfl) ?_)
  refine po_call (by omega) (pm_mono OP (fun r1 h1 => ?_))
  obtain ⟨v1, M1⟩ := r1
  obtain ⟨x, ex, hX1, g120, h2⟩ := h1
  simp only at ex hX1 g120 h2
  subst ex
  have he1 : pz_ex M1.1 0 = some (0, X.1, X.2) := by rw [hX1, hX]; rfl
  refine pw_blk (mi := mz_0) (b := bz_0_1284) rfl rfl ?_
  simp only [bz_0_1284, pz_cut_t, pz_cut_f, pz_cut_n, pv_gt, pv_ts, pv_tn, ev_ald2, ev_eld2, ev_ald0, ev_eld0, ev_ild3, ev_ic1, ev_iadd, ea_iald, ev_ic2, ev_cv2_11, pz_wi_gc, pz_wi_ga, pz_wi_gn, pz_wi_gl, pz_wi_gr, pz_wi_same, pz_wi_X, pz_wl_gc, pz_wl_ga, pz_wl_gn, pz_wl_gi, pz_wl_gr, pz_wl_same, pz_wl_X, pz_wr_gc, pz_wr_ga, pz_wr_gn, pz_wr_gi, pz_wr_gl, pz_wr_same, pz_wr_X, so_0 hS, ea_ialde he, g120, ea_ialde he1]
  (try simp (disch := omega) only [nI_clamp, pz_in_nI2, pz_in_nI2L, pv_gt, nI_add, nI_addL, nI_Ladd, pk_mul, nI_mulL, nI_Lmul, pk_sub, nI_subL, nI_Lsub, nI_inc, nI_clampL, Nat.add_sub_cancel, pz_wi_else, pz_wl_else, vu_eq, vu_ne, pz_wi_gc, pz_wi_ga, pz_wi_gn, pz_wi_gl, pz_wi_gr, pz_wi_same, pz_wi_X, pz_wl_gc, pz_wl_ga, pz_wl_gn, pz_wl_gi, pz_wl_gr, pz_wl_same, pz_wl_X, pz_wr_gc, pz_wr_ga, pz_wr_gn, pz_wr_gi, pz_wr_gl, pz_wr_same, pz_wr_X, so_0 hS, ea_ialde he, g120, ea_ialde he1])
  (try refine po_gI (by first | exact pz_in_nI (by omega) (by decide) | decide | assumption) ?_)
  (try refine po_gI (by first | exact pz_in_nI (by omega) (by decide) | decide | assumption) ?_)
  (try refine po_gP (Nat.le_of_ble_eq_true rfl) ?_)
  refine po_call (by omega) (pm_mono h2 (fun r2 h3 => ?_))
  obtain ⟨v2, M2⟩ := r2
  obtain ⟨ey, hX2, hL2, hz2⟩ := h3
  simp only at ey hX2 hL2 hz2
  subst ey
  refine pw_blk (mi := mz_0) (b := bz_0_1298) rfl rfl ?_
  simp only [bz_0_1298, pz_cut_t, pz_cut_f, pz_cut_n, pv_gt, pv_ts, pv_tn, ev_ic_eq, pz_wi_gc, pz_wi_ga, pz_wi_gn, pz_wi_gl, pz_wi_gr, pz_wi_same, pz_wi_X, pz_wl_gc, pz_wl_ga, pz_wl_gn, pz_wl_gi, pz_wl_gr, pz_wl_same, pz_wl_X, pz_wr_gc, pz_wr_ga, pz_wr_gn, pz_wr_gi, pz_wr_gl, pz_wr_same, pz_wr_X, so_0 hS, ea_ialde he]
  (try simp (disch := omega) only [nI_clamp, pz_in_nI2, pz_in_nI2L, pv_gt, nI_add, nI_addL, nI_Ladd, pk_mul, nI_mulL, nI_Lmul, pk_sub, nI_subL, nI_Lsub, nI_inc, nI_clampL, Nat.add_sub_cancel, pz_wi_else, pz_wl_else, vu_eq, vu_ne, pz_wi_gc, pz_wi_ga, pz_wi_gn, pz_wi_gl, pz_wi_gr, pz_wi_same, pz_wi_X, pz_wl_gc, pz_wl_ga, pz_wl_gn, pz_wl_gi, pz_wl_gr, pz_wl_same, pz_wl_X, pz_wr_gc, pz_wr_ga, pz_wr_gn, pz_wr_gi, pz_wr_gl, pz_wr_same, pz_wr_X, so_0 hS, ea_ialde he])
  refine po_brP (fun q1298 => ?_) (fun q1298 => ?_)
  · first
    | exact absurd q1298 (by decide)
    | exact absurd trivial q1298
    | exact q1298.elim
    | (exfalso; (try simp (disch := omega) only [nI_ltI, nI_leI, nI_eq, nI_ltL, nI_leL, nI_eqL, nI_Llt, nI_Lle, nI_Leq, nI_eqm, nI_meq, nI_ltm, nI_lem, nI_mlt, nI_mle, lg0, lgl, lgg, lgle, lgge, Int32.not_lt, Int32.not_le, Int64.not_lt, Int64.not_le, not_false_eq_true, not_true_eq_false, Decidable.not_not, ge_iff_le, gt_iff_lt] at q1298) <;> omega)
    | exact absurd q1298 (by with_reducible assumption)
    | exact absurd (by with_reducible assumption) q1298
    | exact absurd (Decidable.not_not.mp q1298) (by with_reducible assumption)
    | exact absurd (by with_reducible assumption) (Int32.not_le.mpr q1298)
    | exact absurd (by with_reducible assumption) (Int32.not_lt.mpr q1298)
    | skip
      (try simp (disch := omega) only [nI_ltI, nI_leI, nI_eq, nI_ltL, nI_leL, nI_eqL, nI_Llt, nI_Lle, nI_Leq, nI_eqm, nI_meq, nI_ltm, nI_lem, nI_mlt, nI_mle, lg0, lgl, lgg, lgle, lgge, Int32.not_lt, Int32.not_le, Int64.not_lt, Int64.not_le, not_false_eq_true, not_true_eq_false, Decidable.not_not, ge_iff_le, gt_iff_lt] at q1298)
      exact nx M2 ⟨hX2.trans hX, hL2, hz2⟩
  · exact absurd trivial q1298
theorem cs_34 (hX6 : i + 6 ≤ X.1) (hX7 : X.1 ≤ 3072) (h : INV X M) (nx : ∀ M', INV X M' → pw 1000 0 (1484, [some (.retAddr 0), some (.ref 0), some (.ref 120), some (.int (nI i))], [], M') Q) : pw 1000 0 (1303, [some (.retAddr 0), some (.ref 0), some (.ref 120), some (.int (nI i))], [], M) Q := by
  obtain ⟨hX, hL, hz⟩ := h
  have hS := hL.S
  have he : pz_ex M.1 0 = some (0, X.1, X.2) := by rw [hX]; rfl
  have OP := opp_I (a := 71) (b := 72) (by decide +kernel) (by decide +kernel) hz hL (show opp 999 71 72 [.int (X.2 (i + 1))] M from op_hidden (by decide) hL)
  refine pw_blk (mi := mz_0) (b := bz_0_1303) rfl rfl ?_
  simp only [bz_0_1303, pz_cut_t, pz_cut_f, pz_cut_n, pv_gt, pv_ts, pv_tn, ev_ald1, ev_eld1, ev_ald0, ev_eld0, ev_ild3, ev_ic1, ev_iadd, ea_iald, ev_cv1_0, pz_wi_gc, pz_wi_ga, pz_wi_gn, pz_wi_gl, pz_wi_gr, pz_wi_same, pz_wi_X, pz_wl_gc, pz_wl_ga, pz_wl_gn, pz_wl_gi, pz_wl_gr, pz_wl_same, pz_wl_X, pz_wr_gc, pz_wr_ga, pz_wr_gn, pz_wr_gi, pz_wr_gl, pz_wr_same, pz_wr_X, so_0 hS, ea_ialde he]
  (try simp (disch := omega) only [nI_clamp, pz_in_nI2, pz_in_nI2L, pv_gt, nI_add, nI_addL, nI_Ladd, pk_mul, nI_mulL, nI_Lmul, pk_sub, nI_subL, nI_Lsub, nI_inc, nI_clampL, Nat.add_sub_cancel, pz_wi_else, pz_wl_else, vu_eq, vu_ne, pz_wi_gc, pz_wi_ga, pz_wi_gn, pz_wi_gl, pz_wi_gr, pz_wi_same, pz_wi_X, pz_wl_gc, pz_wl_ga, pz_wl_gn, pz_wl_gi, pz_wl_gr, pz_wl_same, pz_wl_X, pz_wr_gc, pz_wr_ga, pz_wr_gn, pz_wr_gi, pz_wr_gl, pz_wr_same, pz_wr_X, so_0 hS, ea_ialde he])
  (try refine po_gI (by first | exact pz_in_nI (by omega) (by decide) | decide | assumption) ?_)
  (try refine po_gP (Nat.le_of_ble_eq_true rfl) ?_)
  refine po_call (by omega) (pm_mono OP (fun r1 h1 => ?_))
  obtain ⟨v1, M1⟩ := r1
  obtain ⟨x, ex, hX1, g120, h2⟩ := h1
  simp only at ex hX1 g120 h2
  subst ex
  have he1 : pz_ex M1.1 0 = some (0, X.1, X.2) := by rw [hX1, hX]; rfl
  refine pw_blk (mi := mz_0) (b := bz_0_1312) rfl rfl ?_
  simp only [bz_0_1312, pz_cut_t, pz_cut_f, pz_cut_n, pv_gt, pv_ts, pv_tn, ev_ald2, ev_eld2, ev_ald0, ev_eld0, ev_ild3, ev_ic1, ev_iadd, ea_iald, ev_cv1_11, pz_wi_gc, pz_wi_ga, pz_wi_gn, pz_wi_gl, pz_wi_gr, pz_wi_same, pz_wi_X, pz_wl_gc, pz_wl_ga, pz_wl_gn, pz_wl_gi, pz_wl_gr, pz_wl_same, pz_wl_X, pz_wr_gc, pz_wr_ga, pz_wr_gn, pz_wr_gi, pz_wr_gl, pz_wr_same, pz_wr_X, so_0 hS, ea_ialde he, g120, ea_ialde he1]
  (try simp (disch := omega) only [nI_clamp, pz_in_nI2, pz_in_nI2L, pv_gt, nI_add, nI_addL, nI_Ladd, pk_mul, nI_mulL, nI_Lmul, pk_sub, nI_subL, nI_Lsub, nI_inc, nI_clampL, Nat.add_sub_cancel, pz_wi_else, pz_wl_else, vu_eq, vu_ne, pz_wi_gc, pz_wi_ga, pz_wi_gn, pz_wi_gl, pz_wi_gr, pz_wi_same, pz_wi_X, pz_wl_gc, pz_wl_ga, pz_wl_gn, pz_wl_gi, pz_wl_gr, pz_wl_same, pz_wl_X, pz_wr_gc, pz_wr_ga, pz_wr_gn, pz_wr_gi, pz_wr_gl, pz_wr_same, pz_wr_X, so_0 hS, ea_ialde he, g120, ea_ialde he1])
  (try refine po_gI (by first | exact pz_in_nI (by omega) (by decide) | decide | assumption) ?_)
  (try refine po_gP (Nat.le_of_ble_eq_true rfl) ?_)
  refine po_call (by omega) (pm_mono h2 (fun r2 h3 => ?_))
  obtain ⟨v2, M2⟩ := r2
  obtain ⟨ey, hX2, hL2, hz2⟩ := h3
  simp only at ey hX2 hL2 hz2
  subst ey
  refine pw_blk (mi := mz_0) (b := bz_0_1321) rfl rfl ?_
  simp only [bz_0_1321, pz_cut_t, pz_cut_f, pz_cut_n, pv_gt, pv_ts, pv_tn, ev_ic_eq, pz_wi_gc, pz_wi_ga, pz_wi_gn, pz_wi_gl, pz_wi_gr, pz_wi_same, pz_wi_X, pz_wl_gc, pz_wl_ga, pz_wl_gn, pz_wl_gi, pz_wl_gr, pz_wl_same, pz_wl_X, pz_wr_gc, pz_wr_ga, pz_wr_gn, pz_wr_gi, pz_wr_gl, pz_wr_same, pz_wr_X, so_0 hS, ea_ialde he]
  (try simp (disch := omega) only [nI_clamp, pz_in_nI2, pz_in_nI2L, pv_gt, nI_add, nI_addL, nI_Ladd, pk_mul, nI_mulL, nI_Lmul, pk_sub, nI_subL, nI_Lsub, nI_inc, nI_clampL, Nat.add_sub_cancel, pz_wi_else, pz_wl_else, vu_eq, vu_ne, pz_wi_gc, pz_wi_ga, pz_wi_gn, pz_wi_gl, pz_wi_gr, pz_wi_same, pz_wi_X, pz_wl_gc, pz_wl_ga, pz_wl_gn, pz_wl_gi, pz_wl_gr, pz_wl_same, pz_wl_X, pz_wr_gc, pz_wr_ga, pz_wr_gn, pz_wr_gi, pz_wr_gl, pz_wr_same, pz_wr_X, so_0 hS, ea_ialde he])
  refine po_brP (fun q1321 => ?_) (fun q1321 => ?_)
  · first
    | exact absurd q1321 (by decide)
    | exact absurd trivial q1321
    | exact q1321.elim
    | (exfalso; (try simp (disch := omega) only [nI_ltI, nI_leI, nI_eq, nI_ltL, nI_leL, nI_eqL, nI_Llt, nI_Lle, nI_Leq, nI_eqm, nI_meq, nI_ltm, nI_lem, nI_mlt, nI_mle, lg0, lgl, lgg, lgle, lgge, Int32.not_lt, Int32.not_le, Int64.not_lt, Int64.not_le, not_false_eq_true, not_true_eq_false, Decidable.not_not, ge_iff_le, gt_iff_lt] at q1321) <;> omega)
    | exact absurd q1321 (by with_reducible assumption)
    | exact absurd (by with_reducible assumption) q1321
    | exact absurd (Decidable.not_not.mp q1321) (by with_reducible assumption)
    | exact absurd (by with_reducible assumption) (Int32.not_le.mpr q1321)
    | exact absurd (by with_reducible assumption) (Int32.not_lt.mpr q1321)
    | skip
      (try simp (disch := omega) only [nI_ltI, nI_leI, nI_eq, nI_ltL, nI_leL, nI_eqL, nI_Llt, nI_Lle, nI_Leq, nI_eqm, nI_meq, nI_ltm, nI_lem, nI_mlt, nI_mle, lg0, lgl, lgg, lgle, lgge, Int32.not_lt, Int32.not_le, Int64.not_lt, Int64.not_le, not_false_eq_true, not_true_eq_false, Decidable.not_not, ge_iff_le, gt_iff_lt] at q1321)
      exact nx M2 ⟨hX2.trans hX, hL2, hz2⟩
  · exact absurd trivial q1321
theorem cs_35 (hX6 : i + 6 ≤ X.1) (hX7 : X.1 ≤ 3072) (h : INV X M) (nx : ∀ M', INV X M' → pw 1000 0 (1484, [some (.retAddr 0), some (.ref 0), some (.ref 120), some (.int (nI i))], [], M') Q) : pw 1000 0 (1326, [some (.retAddr 0), some (.ref 0), some (.ref 120), some (.int (nI i))], [], M) Q := by
  obtain ⟨hX, hL, hz⟩ := h
  have hS := hL.S
  have he : pz_ex M.1 0 = some (0, X.1, X.2) := by rw [hX]; rfl
  have OP := opp_I (a := 73) (b := 74) (by decide +kernel) (by decide +kernel) hz hL (show opp 999 73 74 [.int (X.2 (i + 1)), .int (X.2 (i + 2))] M from op_months (by decide) hL)
  refine pw_blk (mi := mz_0) (b := bz_0_1326) rfl rfl ?_
  simp only [bz_0_1326, pz_cut_t, pz_cut_f, pz_cut_n, pv_gt, pv_ts, pv_tn, ev_ald1, ev_eld1, ev_ald0, ev_eld0, ev_ild3, ev_ic1, ev_iadd, ea_iald, ev_ic2, ev_cv2_0, pz_wi_gc, pz_wi_ga, pz_wi_gn, pz_wi_gl, pz_wi_gr, pz_wi_same, pz_wi_X, pz_wl_gc, pz_wl_ga, pz_wl_gn, pz_wl_gi, pz_wl_gr, pz_wl_same, pz_wl_X, pz_wr_gc, pz_wr_ga, pz_wr_gn, pz_wr_gi, pz_wr_gl, pz_wr_same, pz_wr_X, so_0 hS, ea_ialde he]
  (try simp (disch := omega) only [nI_clamp, pz_in_nI2, pz_in_nI2L, pv_gt, nI_add, nI_addL, nI_Ladd, pk_mul, nI_mulL, nI_Lmul, pk_sub, nI_subL, nI_Lsub, nI_inc, nI_clampL, Nat.add_sub_cancel, pz_wi_else, pz_wl_else, vu_eq, vu_ne, pz_wi_gc, pz_wi_ga, pz_wi_gn, pz_wi_gl, pz_wi_gr, pz_wi_same, pz_wi_X, pz_wl_gc, pz_wl_ga, pz_wl_gn, pz_wl_gi, pz_wl_gr, pz_wl_same, pz_wl_X, pz_wr_gc, pz_wr_ga, pz_wr_gn, pz_wr_gi, pz_wr_gl, pz_wr_same, pz_wr_X, so_0 hS, ea_ialde he])
  (try refine po_gI (by first | exact pz_in_nI (by omega) (by decide) | decide | assumption) ?_)
  (try refine po_gI (by first | exact pz_in_nI (by omega) (by decide) | decide | assumption) ?_)
  (try refine po_gP (Nat.le_of_ble_eq_true rfl) ?_)
  refine po_call (by omega) (pm_mono OP (fun r1 h1 => ?_))
  obtain ⟨v1, M1⟩ := r1
  obtain ⟨x, ex, hX1, g120, h2⟩ := h1
  simp only at ex hX1 g120 h2
  subst ex
  have he1 : pz_ex M1.1 0 = some (0, X.1, X.2) := by rw [hX1, hX]; rfl
  refine pw_blk (mi := mz_0) (b := bz_0_1340) rfl rfl ?_
  simp only [bz_0_1340, pz_cut_t, pz_cut_f, pz_cut_n, pv_gt, pv_ts, pv_tn, ev_ald2, ev_eld2, ev_ald0, ev_eld0, ev_ild3, ev_ic1, ev_iadd, ea_iald, ev_ic2, ev_cv2_11, pz_wi_gc, pz_wi_ga, pz_wi_gn, pz_wi_gl, pz_wi_gr, pz_wi_same, pz_wi_X, pz_wl_gc, pz_wl_ga, pz_wl_gn, pz_wl_gi, pz_wl_gr, pz_wl_same, pz_wl_X, pz_wr_gc, pz_wr_ga, pz_wr_gn, pz_wr_gi, pz_wr_gl, pz_wr_same, pz_wr_X, so_0 hS, ea_ialde he, g120, ea_ialde he1]
  (try simp (disch := omega) only [nI_clamp, pz_in_nI2, pz_in_nI2L, pv_gt, nI_add, nI_addL, nI_Ladd, pk_mul, nI_mulL, nI_Lmul, pk_sub, nI_subL, nI_Lsub, nI_inc, nI_clampL, Nat.add_sub_cancel, pz_wi_else, pz_wl_else, vu_eq, vu_ne, pz_wi_gc, pz_wi_ga, pz_wi_gn, pz_wi_gl, pz_wi_gr, pz_wi_same, pz_wi_X, pz_wl_gc, pz_wl_ga, pz_wl_gn, pz_wl_gi, pz_wl_gr, pz_wl_same, pz_wl_X, pz_wr_gc, pz_wr_ga, pz_wr_gn, pz_wr_gi, pz_wr_gl, pz_wr_same, pz_wr_X, so_0 hS, ea_ialde he, g120, ea_ialde he1])
  (try refine po_gI (by first | exact pz_in_nI (by omega) (by decide) | decide | assumption) ?_)
  (try refine po_gI (by first | exact pz_in_nI (by omega) (by decide) | decide | assumption) ?_)
  (try refine po_gP (Nat.le_of_ble_eq_true rfl) ?_)
  refine po_call (by omega) (pm_mono h2 (fun r2 h3 => ?_))
  obtain ⟨v2, M2⟩ := r2
  obtain ⟨ey, hX2, hL2, hz2⟩ := h3
  simp only at ey hX2 hL2 hz2
  subst ey
  refine pw_blk (mi := mz_0) (b := bz_0_1354) rfl rfl ?_
  simp only [bz_0_1354, pz_cut_t, pz_cut_f, pz_cut_n, pv_gt, pv_ts, pv_tn, ev_ic_eq, pz_wi_gc, pz_wi_ga, pz_wi_gn, pz_wi_gl, pz_wi_gr, pz_wi_same, pz_wi_X, pz_wl_gc, pz_wl_ga, pz_wl_gn, pz_wl_gi, pz_wl_gr, pz_wl_same, pz_wl_X, pz_wr_gc, pz_wr_ga, pz_wr_gn, pz_wr_gi, pz_wr_gl, pz_wr_same, pz_wr_X, so_0 hS, ea_ialde he]
  (try simp (disch := omega) only [nI_clamp, pz_in_nI2, pz_in_nI2L, pv_gt, nI_add, nI_addL, nI_Ladd, pk_mul, nI_mulL, nI_Lmul, pk_sub, nI_subL, nI_Lsub, nI_inc, nI_clampL, Nat.add_sub_cancel, pz_wi_else, pz_wl_else, vu_eq, vu_ne, pz_wi_gc, pz_wi_ga, pz_wi_gn, pz_wi_gl, pz_wi_gr, pz_wi_same, pz_wi_X, pz_wl_gc, pz_wl_ga, pz_wl_gn, pz_wl_gi, pz_wl_gr, pz_wl_same, pz_wl_X, pz_wr_gc, pz_wr_ga, pz_wr_gn, pz_wr_gi, pz_wr_gl, pz_wr_same, pz_wr_X, so_0 hS, ea_ialde he])
  refine po_brP (fun q1354 => ?_) (fun q1354 => ?_)
  · first
    | exact absurd q1354 (by decide)
    | exact absurd trivial q1354
    | exact q1354.elim
    | (exfalso; (try simp (disch := omega) only [nI_ltI, nI_leI, nI_eq, nI_ltL, nI_leL, nI_eqL, nI_Llt, nI_Lle, nI_Leq, nI_eqm, nI_meq, nI_ltm, nI_lem, nI_mlt, nI_mle, lg0, lgl, lgg, lgle, lgge, Int32.not_lt, Int32.not_le, Int64.not_lt, Int64.not_le, not_false_eq_true, not_true_eq_false, Decidable.not_not, ge_iff_le, gt_iff_lt] at q1354) <;> omega)
    | exact absurd q1354 (by with_reducible assumption)
    | exact absurd (by with_reducible assumption) q1354
    | exact absurd (Decidable.not_not.mp q1354) (by with_reducible assumption)
    | exact absurd (by with_reducible assumption) (Int32.not_le.mpr q1354)
    | exact absurd (by with_reducible assumption) (Int32.not_lt.mpr q1354)
    | skip
      (try simp (disch := omega) only [nI_ltI, nI_leI, nI_eq, nI_ltL, nI_leL, nI_eqL, nI_Llt, nI_Lle, nI_Leq, nI_eqm, nI_meq, nI_ltm, nI_lem, nI_mlt, nI_mle, lg0, lgl, lgg, lgle, lgge, Int32.not_lt, Int32.not_le, Int64.not_lt, Int64.not_le, not_false_eq_true, not_true_eq_false, Decidable.not_not, ge_iff_le, gt_iff_lt] at q1354)
      exact nx M2 ⟨hX2.trans hX, hL2, hz2⟩
  · exact absurd trivial q1354
theorem cs_36 (hX6 : i + 6 ≤ X.1) (hX7 : X.1 ≤ 3072) (h : INV X M) (nx : ∀ M', INV X M' → pw 1000 0 (1484, [some (.retAddr 0), some (.ref 0), some (.ref 120), some (.int (nI i))], [], M') Q) : pw 1000 0 (1359, [some (.retAddr 0), some (.ref 0), some (.ref 120), some (.int (nI i))], [], M) Q := by
  obtain ⟨hX, hL, hz⟩ := h
  have hS := hL.S
  have he : pz_ex M.1 0 = some (0, X.1, X.2) := by rw [hX]; rfl
  have OP := opp_I (a := 75) (b := 76) (by decide +kernel) (by decide +kernel) hz hL (show opp 999 75 76 [.int (X.2 (i + 1)), .int (X.2 (i + 2))] M from op_back (by decide) hL)
  refine pw_blk (mi := mz_0) (b := bz_0_1359) rfl rfl ?_
  simp only [bz_0_1359, pz_cut_t, pz_cut_f, pz_cut_n, pv_gt, pv_ts, pv_tn, ev_ald1, ev_eld1, ev_ald0, ev_eld0, ev_ild3, ev_ic1, ev_iadd, ea_iald, ev_ic2, ev_cv2_0, pz_wi_gc, pz_wi_ga, pz_wi_gn, pz_wi_gl, pz_wi_gr, pz_wi_same, pz_wi_X, pz_wl_gc, pz_wl_ga, pz_wl_gn, pz_wl_gi, pz_wl_gr, pz_wl_same, pz_wl_X, pz_wr_gc, pz_wr_ga, pz_wr_gn, pz_wr_gi, pz_wr_gl, pz_wr_same, pz_wr_X, so_0 hS, ea_ialde he]
  (try simp (disch := omega) only [nI_clamp, pz_in_nI2, pz_in_nI2L, pv_gt, nI_add, nI_addL, nI_Ladd, pk_mul, nI_mulL, nI_Lmul, pk_sub, nI_subL, nI_Lsub, nI_inc, nI_clampL, Nat.add_sub_cancel, pz_wi_else, pz_wl_else, vu_eq, vu_ne, pz_wi_gc, pz_wi_ga, pz_wi_gn, pz_wi_gl, pz_wi_gr, pz_wi_same, pz_wi_X, pz_wl_gc, pz_wl_ga, pz_wl_gn, pz_wl_gi, pz_wl_gr, pz_wl_same, pz_wl_X, pz_wr_gc, pz_wr_ga, pz_wr_gn, pz_wr_gi, pz_wr_gl, pz_wr_same, pz_wr_X, so_0 hS, ea_ialde he])
  (try refine po_gI (by first | exact pz_in_nI (by omega) (by decide) | decide | assumption) ?_)
  (try refine po_gI (by first | exact pz_in_nI (by omega) (by decide) | decide | assumption) ?_)
  (try refine po_gP (Nat.le_of_ble_eq_true rfl) ?_)
  refine po_call (by omega) (pm_mono OP (fun r1 h1 => ?_))
  obtain ⟨v1, M1⟩ := r1
  obtain ⟨x, ex, hX1, g120, h2⟩ := h1
  simp only at ex hX1 g120 h2
  subst ex
  have he1 : pz_ex M1.1 0 = some (0, X.1, X.2) := by rw [hX1, hX]; rfl
  refine pw_blk (mi := mz_0) (b := bz_0_1373) rfl rfl ?_
  simp only [bz_0_1373, pz_cut_t, pz_cut_f, pz_cut_n, pv_gt, pv_ts, pv_tn, ev_ald2, ev_eld2, ev_ald0, ev_eld0, ev_ild3, ev_ic1, ev_iadd, ea_iald, ev_ic2, ev_cv2_11, pz_wi_gc, pz_wi_ga, pz_wi_gn, pz_wi_gl, pz_wi_gr, pz_wi_same, pz_wi_X, pz_wl_gc, pz_wl_ga, pz_wl_gn, pz_wl_gi, pz_wl_gr, pz_wl_same, pz_wl_X, pz_wr_gc, pz_wr_ga, pz_wr_gn, pz_wr_gi, pz_wr_gl, pz_wr_same, pz_wr_X, so_0 hS, ea_ialde he, g120, ea_ialde he1]
  (try simp (disch := omega) only [nI_clamp, pz_in_nI2, pz_in_nI2L, pv_gt, nI_add, nI_addL, nI_Ladd, pk_mul, nI_mulL, nI_Lmul, pk_sub, nI_subL, nI_Lsub, nI_inc, nI_clampL, Nat.add_sub_cancel, pz_wi_else, pz_wl_else, vu_eq, vu_ne, pz_wi_gc, pz_wi_ga, pz_wi_gn, pz_wi_gl, pz_wi_gr, pz_wi_same, pz_wi_X, pz_wl_gc, pz_wl_ga, pz_wl_gn, pz_wl_gi, pz_wl_gr, pz_wl_same, pz_wl_X, pz_wr_gc, pz_wr_ga, pz_wr_gn, pz_wr_gi, pz_wr_gl, pz_wr_same, pz_wr_X, so_0 hS, ea_ialde he, g120, ea_ialde he1])
  (try refine po_gI (by first | exact pz_in_nI (by omega) (by decide) | decide | assumption) ?_)
  (try refine po_gI (by first | exact pz_in_nI (by omega) (by decide) | decide | assumption) ?_)
  (try refine po_gP (Nat.le_of_ble_eq_true rfl) ?_)
  refine po_call (by omega) (pm_mono h2 (fun r2 h3 => ?_))
  obtain ⟨v2, M2⟩ := r2
  obtain ⟨ey, hX2, hL2, hz2⟩ := h3
  simp only at ey hX2 hL2 hz2
  subst ey
  refine pw_blk (mi := mz_0) (b := bz_0_1387) rfl rfl ?_
  simp only [bz_0_1387, pz_cut_t, pz_cut_f, pz_cut_n, pv_gt, pv_ts, pv_tn, ev_ic_eq, pz_wi_gc, pz_wi_ga, pz_wi_gn, pz_wi_gl, pz_wi_gr, pz_wi_same, pz_wi_X, pz_wl_gc, pz_wl_ga, pz_wl_gn, pz_wl_gi, pz_wl_gr, pz_wl_same, pz_wl_X, pz_wr_gc, pz_wr_ga, pz_wr_gn, pz_wr_gi, pz_wr_gl, pz_wr_same, pz_wr_X, so_0 hS, ea_ialde he]
  (try simp (disch := omega) only [nI_clamp, pz_in_nI2, pz_in_nI2L, pv_gt, nI_add, nI_addL, nI_Ladd, pk_mul, nI_mulL, nI_Lmul, pk_sub, nI_subL, nI_Lsub, nI_inc, nI_clampL, Nat.add_sub_cancel, pz_wi_else, pz_wl_else, vu_eq, vu_ne, pz_wi_gc, pz_wi_ga, pz_wi_gn, pz_wi_gl, pz_wi_gr, pz_wi_same, pz_wi_X, pz_wl_gc, pz_wl_ga, pz_wl_gn, pz_wl_gi, pz_wl_gr, pz_wl_same, pz_wl_X, pz_wr_gc, pz_wr_ga, pz_wr_gn, pz_wr_gi, pz_wr_gl, pz_wr_same, pz_wr_X, so_0 hS, ea_ialde he])
  refine po_brP (fun q1387 => ?_) (fun q1387 => ?_)
  · first
    | exact absurd q1387 (by decide)
    | exact absurd trivial q1387
    | exact q1387.elim
    | (exfalso; (try simp (disch := omega) only [nI_ltI, nI_leI, nI_eq, nI_ltL, nI_leL, nI_eqL, nI_Llt, nI_Lle, nI_Leq, nI_eqm, nI_meq, nI_ltm, nI_lem, nI_mlt, nI_mle, lg0, lgl, lgg, lgle, lgge, Int32.not_lt, Int32.not_le, Int64.not_lt, Int64.not_le, not_false_eq_true, not_true_eq_false, Decidable.not_not, ge_iff_le, gt_iff_lt] at q1387) <;> omega)
    | exact absurd q1387 (by with_reducible assumption)
    | exact absurd (by with_reducible assumption) q1387
    | exact absurd (Decidable.not_not.mp q1387) (by with_reducible assumption)
    | exact absurd (by with_reducible assumption) (Int32.not_le.mpr q1387)
    | exact absurd (by with_reducible assumption) (Int32.not_lt.mpr q1387)
    | skip
      (try simp (disch := omega) only [nI_ltI, nI_leI, nI_eq, nI_ltL, nI_leL, nI_eqL, nI_Llt, nI_Lle, nI_Leq, nI_eqm, nI_meq, nI_ltm, nI_lem, nI_mlt, nI_mle, lg0, lgl, lgg, lgle, lgge, Int32.not_lt, Int32.not_le, Int64.not_lt, Int64.not_le, not_false_eq_true, not_true_eq_false, Decidable.not_not, ge_iff_le, gt_iff_lt] at q1387)
      exact nx M2 ⟨hX2.trans hX, hL2, hz2⟩
  · exact absurd trivial q1387
theorem cs_37 (hX6 : i + 6 ≤ X.1) (hX7 : X.1 ≤ 3072) (h : INV X M) (nx : ∀ M', INV X M' → pw 1000 0 (1484, [some (.retAddr 0), some (.ref 0), some (.ref 120), some (.int (nI i))], [], M') Q) : pw 1000 0 (1392, [some (.retAddr 0), some (.ref 0), some (.ref 120), some (.int (nI i))], [], M) Q := by
  obtain ⟨hX, hL, hz⟩ := h
  have hS := hL.S
  have he : pz_ex M.1 0 = some (0, X.1, X.2) := by rw [hX]; rfl
  have OP := opp_I (a := 77) (b := 78) (by decide +kernel) (by decide +kernel) hz hL (show opp 999 77 78 [.int (X.2 (i + 1))] M from oz_seed hL)
  refine pw_blk (mi := mz_0) (b := bz_0_1392) rfl rfl ?_
  simp only [bz_0_1392, pz_cut_t, pz_cut_f, pz_cut_n, pv_gt, pv_ts, pv_tn, ev_ald1, ev_eld1, ev_ald0, ev_eld0, ev_ild3, ev_ic1, ev_iadd, ea_iald, ev_cv1_0, pz_wi_gc, pz_wi_ga, pz_wi_gn, pz_wi_gl, pz_wi_gr, pz_wi_same, pz_wi_X, pz_wl_gc, pz_wl_ga, pz_wl_gn, pz_wl_gi, pz_wl_gr, pz_wl_same, pz_wl_X, pz_wr_gc, pz_wr_ga, pz_wr_gn, pz_wr_gi, pz_wr_gl, pz_wr_same, pz_wr_X, so_0 hS, ea_ialde he]
  (try simp (disch := omega) only [nI_clamp, pz_in_nI2, pz_in_nI2L, pv_gt, nI_add, nI_addL, nI_Ladd, pk_mul, nI_mulL, nI_Lmul, pk_sub, nI_subL, nI_Lsub, nI_inc, nI_clampL, Nat.add_sub_cancel, pz_wi_else, pz_wl_else, vu_eq, vu_ne, pz_wi_gc, pz_wi_ga, pz_wi_gn, pz_wi_gl, pz_wi_gr, pz_wi_same, pz_wi_X, pz_wl_gc, pz_wl_ga, pz_wl_gn, pz_wl_gi, pz_wl_gr, pz_wl_same, pz_wl_X, pz_wr_gc, pz_wr_ga, pz_wr_gn, pz_wr_gi, pz_wr_gl, pz_wr_same, pz_wr_X, so_0 hS, ea_ialde he])
  (try refine po_gI (by first | exact pz_in_nI (by omega) (by decide) | decide | assumption) ?_)
  (try refine po_gP (Nat.le_of_ble_eq_true rfl) ?_)
  refine po_call (by omega) (pm_mono OP (fun r1 h1 => ?_))
  obtain ⟨v1, M1⟩ := r1
  obtain ⟨x, ex, hX1, g120, h2⟩ := h1
  simp only at ex hX1 g120 h2
  subst ex
  have he1 : pz_ex M1.1 0 = some (0, X.1, X.2) := by rw [hX1, hX]; rfl
  refine pw_blk (mi := mz_0) (b := bz_0_1401) rfl rfl ?_
  simp only [bz_0_1401, pz_cut_t, pz_cut_f, pz_cut_n, pv_gt, pv_ts, pv_tn, ev_ald2, ev_eld2, ev_ald0, ev_eld0, ev_ild3, ev_ic1, ev_iadd, ea_iald, ev_cv1_11, pz_wi_gc, pz_wi_ga, pz_wi_gn, pz_wi_gl, pz_wi_gr, pz_wi_same, pz_wi_X, pz_wl_gc, pz_wl_ga, pz_wl_gn, pz_wl_gi, pz_wl_gr, pz_wl_same, pz_wl_X, pz_wr_gc, pz_wr_ga, pz_wr_gn, pz_wr_gi, pz_wr_gl, pz_wr_same, pz_wr_X, so_0 hS, ea_ialde he, g120, ea_ialde he1]
  (try simp (disch := omega) only [nI_clamp, pz_in_nI2, pz_in_nI2L, pv_gt, nI_add, nI_addL, nI_Ladd, pk_mul, nI_mulL, nI_Lmul, pk_sub, nI_subL, nI_Lsub, nI_inc, nI_clampL, Nat.add_sub_cancel, pz_wi_else, pz_wl_else, vu_eq, vu_ne, pz_wi_gc, pz_wi_ga, pz_wi_gn, pz_wi_gl, pz_wi_gr, pz_wi_same, pz_wi_X, pz_wl_gc, pz_wl_ga, pz_wl_gn, pz_wl_gi, pz_wl_gr, pz_wl_same, pz_wl_X, pz_wr_gc, pz_wr_ga, pz_wr_gn, pz_wr_gi, pz_wr_gl, pz_wr_same, pz_wr_X, so_0 hS, ea_ialde he, g120, ea_ialde he1])
  (try refine po_gI (by first | exact pz_in_nI (by omega) (by decide) | decide | assumption) ?_)
  (try refine po_gP (Nat.le_of_ble_eq_true rfl) ?_)
  refine po_call (by omega) (pm_mono h2 (fun r2 h3 => ?_))
  obtain ⟨v2, M2⟩ := r2
  obtain ⟨ey, hX2, hL2, hz2⟩ := h3
  simp only at ey hX2 hL2 hz2
  subst ey
  refine pw_blk (mi := mz_0) (b := bz_0_1410) rfl rfl ?_
  simp only [bz_0_1410, pz_cut_t, pz_cut_f, pz_cut_n, pv_gt, pv_ts, pv_tn, ev_ic_eq, pz_wi_gc, pz_wi_ga, pz_wi_gn, pz_wi_gl, pz_wi_gr, pz_wi_same, pz_wi_X, pz_wl_gc, pz_wl_ga, pz_wl_gn, pz_wl_gi, pz_wl_gr, pz_wl_same, pz_wl_X, pz_wr_gc, pz_wr_ga, pz_wr_gn, pz_wr_gi, pz_wr_gl, pz_wr_same, pz_wr_X, so_0 hS, ea_ialde he]
  (try simp (disch := omega) only [nI_clamp, pz_in_nI2, pz_in_nI2L, pv_gt, nI_add, nI_addL, nI_Ladd, pk_mul, nI_mulL, nI_Lmul, pk_sub, nI_subL, nI_Lsub, nI_inc, nI_clampL, Nat.add_sub_cancel, pz_wi_else, pz_wl_else, vu_eq, vu_ne, pz_wi_gc, pz_wi_ga, pz_wi_gn, pz_wi_gl, pz_wi_gr, pz_wi_same, pz_wi_X, pz_wl_gc, pz_wl_ga, pz_wl_gn, pz_wl_gi, pz_wl_gr, pz_wl_same, pz_wl_X, pz_wr_gc, pz_wr_ga, pz_wr_gn, pz_wr_gi, pz_wr_gl, pz_wr_same, pz_wr_X, so_0 hS, ea_ialde he])
  refine po_brP (fun q1410 => ?_) (fun q1410 => ?_)
  · first
    | exact absurd q1410 (by decide)
    | exact absurd trivial q1410
    | exact q1410.elim
    | (exfalso; (try simp (disch := omega) only [nI_ltI, nI_leI, nI_eq, nI_ltL, nI_leL, nI_eqL, nI_Llt, nI_Lle, nI_Leq, nI_eqm, nI_meq, nI_ltm, nI_lem, nI_mlt, nI_mle, lg0, lgl, lgg, lgle, lgge, Int32.not_lt, Int32.not_le, Int64.not_lt, Int64.not_le, not_false_eq_true, not_true_eq_false, Decidable.not_not, ge_iff_le, gt_iff_lt] at q1410) <;> omega)
    | exact absurd q1410 (by with_reducible assumption)
    | exact absurd (by with_reducible assumption) q1410
    | exact absurd (Decidable.not_not.mp q1410) (by with_reducible assumption)
    | exact absurd (by with_reducible assumption) (Int32.not_le.mpr q1410)
    | exact absurd (by with_reducible assumption) (Int32.not_lt.mpr q1410)
    | skip
      (try simp (disch := omega) only [nI_ltI, nI_leI, nI_eq, nI_ltL, nI_leL, nI_eqL, nI_Llt, nI_Lle, nI_Leq, nI_eqm, nI_meq, nI_ltm, nI_lem, nI_mlt, nI_mle, lg0, lgl, lgg, lgle, lgge, Int32.not_lt, Int32.not_le, Int64.not_lt, Int64.not_le, not_false_eq_true, not_true_eq_false, Decidable.not_not, ge_iff_le, gt_iff_lt] at q1410)
      exact nx M2 ⟨hX2.trans hX, hL2, hz2⟩
  · exact absurd trivial q1410
theorem cs_38 (hX6 : i + 6 ≤ X.1) (hX7 : X.1 ≤ 3072) (h : INV X M) (nx : ∀ M', INV X M' → pw 1000 0 (1484, [some (.retAddr 0), some (.ref 0), some (.ref 120), some (.int (nI i))], [], M') Q) : pw 1000 0 (1415, [some (.retAddr 0), some (.ref 0), some (.ref 120), some (.int (nI i))], [], M) Q := by
  obtain ⟨hX, hL, hz⟩ := h
  have hS := hL.S
  have he : pz_ex M.1 0 = some (0, X.1, X.2) := by rw [hX]; rfl
  have OP := opp_I (a := 79) (b := 80) (by decide +kernel) (by decide +kernel) hz hL (show opp 999 79 80 [.int (X.2 (i + 1))] M from op_image (by decide) hL)
  refine pw_blk (mi := mz_0) (b := bz_0_1415) rfl rfl ?_
  simp only [bz_0_1415, pz_cut_t, pz_cut_f, pz_cut_n, pv_gt, pv_ts, pv_tn, ev_ald1, ev_eld1, ev_ald0, ev_eld0, ev_ild3, ev_ic1, ev_iadd, ea_iald, ev_cv1_0, pz_wi_gc, pz_wi_ga, pz_wi_gn, pz_wi_gl, pz_wi_gr, pz_wi_same, pz_wi_X, pz_wl_gc, pz_wl_ga, pz_wl_gn, pz_wl_gi, pz_wl_gr, pz_wl_same, pz_wl_X, pz_wr_gc, pz_wr_ga, pz_wr_gn, pz_wr_gi, pz_wr_gl, pz_wr_same, pz_wr_X, so_0 hS, ea_ialde he]
  (try simp (disch := omega) only [nI_clamp, pz_in_nI2, pz_in_nI2L, pv_gt, nI_add, nI_addL, nI_Ladd, pk_mul, nI_mulL, nI_Lmul, pk_sub, nI_subL, nI_Lsub, nI_inc, nI_clampL, Nat.add_sub_cancel, pz_wi_else, pz_wl_else, vu_eq, vu_ne, pz_wi_gc, pz_wi_ga, pz_wi_gn, pz_wi_gl, pz_wi_gr, pz_wi_same, pz_wi_X, pz_wl_gc, pz_wl_ga, pz_wl_gn, pz_wl_gi, pz_wl_gr, pz_wl_same, pz_wl_X, pz_wr_gc, pz_wr_ga, pz_wr_gn, pz_wr_gi, pz_wr_gl, pz_wr_same, pz_wr_X, so_0 hS, ea_ialde he])
  (try refine po_gI (by first | exact pz_in_nI (by omega) (by decide) | decide | assumption) ?_)
  (try refine po_gP (Nat.le_of_ble_eq_true rfl) ?_)
  refine po_call (by omega) (pm_mono OP (fun r1 h1 => ?_))
  obtain ⟨v1, M1⟩ := r1
  obtain ⟨x, ex, hX1, g120, h2⟩ := h1
  simp only at ex hX1 g120 h2
  subst ex
  have he1 : pz_ex M1.1 0 = some (0, X.1, X.2) := by rw [hX1, hX]; rfl
  refine pw_blk (mi := mz_0) (b := bz_0_1424) rfl rfl ?_
  simp only [bz_0_1424, pz_cut_t, pz_cut_f, pz_cut_n, pv_gt, pv_ts, pv_tn, ev_ald2, ev_eld2, ev_ald0, ev_eld0, ev_ild3, ev_ic1, ev_iadd, ea_iald, ev_cv1_11, pz_wi_gc, pz_wi_ga, pz_wi_gn, pz_wi_gl, pz_wi_gr, pz_wi_same, pz_wi_X, pz_wl_gc, pz_wl_ga, pz_wl_gn, pz_wl_gi, pz_wl_gr, pz_wl_same, pz_wl_X, pz_wr_gc, pz_wr_ga, pz_wr_gn, pz_wr_gi, pz_wr_gl, pz_wr_same, pz_wr_X, so_0 hS, ea_ialde he, g120, ea_ialde he1]
  (try simp (disch := omega) only [nI_clamp, pz_in_nI2, pz_in_nI2L, pv_gt, nI_add, nI_addL, nI_Ladd, pk_mul, nI_mulL, nI_Lmul, pk_sub, nI_subL, nI_Lsub, nI_inc, nI_clampL, Nat.add_sub_cancel, pz_wi_else, pz_wl_else, vu_eq, vu_ne, pz_wi_gc, pz_wi_ga, pz_wi_gn, pz_wi_gl, pz_wi_gr, pz_wi_same, pz_wi_X, pz_wl_gc, pz_wl_ga, pz_wl_gn, pz_wl_gi, pz_wl_gr, pz_wl_same, pz_wl_X, pz_wr_gc, pz_wr_ga, pz_wr_gn, pz_wr_gi, pz_wr_gl, pz_wr_same, pz_wr_X, so_0 hS, ea_ialde he, g120, ea_ialde he1])
  (try refine po_gI (by first | exact pz_in_nI (by omega) (by decide) | decide | assumption) ?_)
  (try refine po_gP (Nat.le_of_ble_eq_true rfl) ?_)
  refine po_call (by omega) (pm_mono h2 (fun r2 h3 => ?_))
  obtain ⟨v2, M2⟩ := r2
  obtain ⟨ey, hX2, hL2, hz2⟩ := h3
  simp only at ey hX2 hL2 hz2
  subst ey
  refine pw_blk (mi := mz_0) (b := bz_0_1433) rfl rfl ?_
  simp only [bz_0_1433, pz_cut_t, pz_cut_f, pz_cut_n, pv_gt, pv_ts, pv_tn, ev_ic_eq, pz_wi_gc, pz_wi_ga, pz_wi_gn, pz_wi_gl, pz_wi_gr, pz_wi_same, pz_wi_X, pz_wl_gc, pz_wl_ga, pz_wl_gn, pz_wl_gi, pz_wl_gr, pz_wl_same, pz_wl_X, pz_wr_gc, pz_wr_ga, pz_wr_gn, pz_wr_gi, pz_wr_gl, pz_wr_same, pz_wr_X, so_0 hS, ea_ialde he]
  (try simp (disch := omega) only [nI_clamp, pz_in_nI2, pz_in_nI2L, pv_gt, nI_add, nI_addL, nI_Ladd, pk_mul, nI_mulL, nI_Lmul, pk_sub, nI_subL, nI_Lsub, nI_inc, nI_clampL, Nat.add_sub_cancel, pz_wi_else, pz_wl_else, vu_eq, vu_ne, pz_wi_gc, pz_wi_ga, pz_wi_gn, pz_wi_gl, pz_wi_gr, pz_wi_same, pz_wi_X, pz_wl_gc, pz_wl_ga, pz_wl_gn, pz_wl_gi, pz_wl_gr, pz_wl_same, pz_wl_X, pz_wr_gc, pz_wr_ga, pz_wr_gn, pz_wr_gi, pz_wr_gl, pz_wr_same, pz_wr_X, so_0 hS, ea_ialde he])
  refine po_brP (fun q1433 => ?_) (fun q1433 => ?_)
  · first
    | exact absurd q1433 (by decide)
    | exact absurd trivial q1433
    | exact q1433.elim
    | (exfalso; (try simp (disch := omega) only [nI_ltI, nI_leI, nI_eq, nI_ltL, nI_leL, nI_eqL, nI_Llt, nI_Lle, nI_Leq, nI_eqm, nI_meq, nI_ltm, nI_lem, nI_mlt, nI_mle, lg0, lgl, lgg, lgle, lgge, Int32.not_lt, Int32.not_le, Int64.not_lt, Int64.not_le, not_false_eq_true, not_true_eq_false, Decidable.not_not, ge_iff_le, gt_iff_lt] at q1433) <;> omega)
    | exact absurd q1433 (by with_reducible assumption)
    | exact absurd (by with_reducible assumption) q1433
    | exact absurd (Decidable.not_not.mp q1433) (by with_reducible assumption)
    | exact absurd (by with_reducible assumption) (Int32.not_le.mpr q1433)
    | exact absurd (by with_reducible assumption) (Int32.not_lt.mpr q1433)
    | skip
      (try simp (disch := omega) only [nI_ltI, nI_leI, nI_eq, nI_ltL, nI_leL, nI_eqL, nI_Llt, nI_Lle, nI_Leq, nI_eqm, nI_meq, nI_ltm, nI_lem, nI_mlt, nI_mle, lg0, lgl, lgg, lgle, lgge, Int32.not_lt, Int32.not_le, Int64.not_lt, Int64.not_le, not_false_eq_true, not_true_eq_false, Decidable.not_not, ge_iff_le, gt_iff_lt] at q1433)
      exact nx M2 ⟨hX2.trans hX, hL2, hz2⟩
  · exact absurd trivial q1433
theorem cs_39 (hX6 : i + 6 ≤ X.1) (hX7 : X.1 ≤ 3072) (h : INV X M) (nx : ∀ M', INV X M' → pw 1000 0 (1484, [some (.retAddr 0), some (.ref 0), some (.ref 120), some (.int (nI i))], [], M') Q) : pw 1000 0 (1438, [some (.retAddr 0), some (.ref 0), some (.ref 120), some (.int (nI i))], [], M) Q := by
  obtain ⟨hX, hL, hz⟩ := h
  have hS := hL.S
  have he : pz_ex M.1 0 = some (0, X.1, X.2) := by rw [hX]; rfl
  have OP := opp_I (a := 81) (b := 82) (by decide +kernel) (by decide +kernel) hz hL (show opp 999 81 82 [.int (X.2 (i + 1))] M from op_again (by decide) hL)
  refine pw_blk (mi := mz_0) (b := bz_0_1438) rfl rfl ?_
  simp only [bz_0_1438, pz_cut_t, pz_cut_f, pz_cut_n, pv_gt, pv_ts, pv_tn, ev_ald1, ev_eld1, ev_ald0, ev_eld0, ev_ild3, ev_ic1, ev_iadd, ea_iald, ev_cv1_0, pz_wi_gc, pz_wi_ga, pz_wi_gn, pz_wi_gl, pz_wi_gr, pz_wi_same, pz_wi_X, pz_wl_gc, pz_wl_ga, pz_wl_gn, pz_wl_gi, pz_wl_gr, pz_wl_same, pz_wl_X, pz_wr_gc, pz_wr_ga, pz_wr_gn, pz_wr_gi, pz_wr_gl, pz_wr_same, pz_wr_X, so_0 hS, ea_ialde he]
  (try simp (disch := omega) only [nI_clamp, pz_in_nI2, pz_in_nI2L, pv_gt, nI_add, nI_addL, nI_Ladd, pk_mul, nI_mulL, nI_Lmul, pk_sub, nI_subL, nI_Lsub, nI_inc, nI_clampL, Nat.add_sub_cancel, pz_wi_else, pz_wl_else, vu_eq, vu_ne, pz_wi_gc, pz_wi_ga, pz_wi_gn, pz_wi_gl, pz_wi_gr, pz_wi_same, pz_wi_X, pz_wl_gc, pz_wl_ga, pz_wl_gn, pz_wl_gi, pz_wl_gr, pz_wl_same, pz_wl_X, pz_wr_gc, pz_wr_ga, pz_wr_gn, pz_wr_gi, pz_wr_gl, pz_wr_same, pz_wr_X, so_0 hS, ea_ialde he])
  (try refine po_gI (by first | exact pz_in_nI (by omega) (by decide) | decide | assumption) ?_)
  (try refine po_gP (Nat.le_of_ble_eq_true rfl) ?_)
  refine po_call (by omega) (pm_mono OP (fun r1 h1 => ?_))
  obtain ⟨v1, M1⟩ := r1
  obtain ⟨x, ex, hX1, g120, h2⟩ := h1
  simp only at ex hX1 g120 h2
  subst ex
  have he1 : pz_ex M1.1 0 = some (0, X.1, X.2) := by rw [hX1, hX]; rfl
  refine pw_blk (mi := mz_0) (b := bz_0_1447) rfl rfl ?_
  simp only [bz_0_1447, pz_cut_t, pz_cut_f, pz_cut_n, pv_gt, pv_ts, pv_tn, ev_ald2, ev_eld2, ev_ald0, ev_eld0, ev_ild3, ev_ic1, ev_iadd, ea_iald, ev_cv1_11, pz_wi_gc, pz_wi_ga, pz_wi_gn, pz_wi_gl, pz_wi_gr, pz_wi_same, pz_wi_X, pz_wl_gc, pz_wl_ga, pz_wl_gn, pz_wl_gi, pz_wl_gr, pz_wl_same, pz_wl_X, pz_wr_gc, pz_wr_ga, pz_wr_gn, pz_wr_gi, pz_wr_gl, pz_wr_same, pz_wr_X, so_0 hS, ea_ialde he, g120, ea_ialde he1]
  (try simp (disch := omega) only [nI_clamp, pz_in_nI2, pz_in_nI2L, pv_gt, nI_add, nI_addL, nI_Ladd, pk_mul, nI_mulL, nI_Lmul, pk_sub, nI_subL, nI_Lsub, nI_inc, nI_clampL, Nat.add_sub_cancel, pz_wi_else, pz_wl_else, vu_eq, vu_ne, pz_wi_gc, pz_wi_ga, pz_wi_gn, pz_wi_gl, pz_wi_gr, pz_wi_same, pz_wi_X, pz_wl_gc, pz_wl_ga, pz_wl_gn, pz_wl_gi, pz_wl_gr, pz_wl_same, pz_wl_X, pz_wr_gc, pz_wr_ga, pz_wr_gn, pz_wr_gi, pz_wr_gl, pz_wr_same, pz_wr_X, so_0 hS, ea_ialde he, g120, ea_ialde he1])
  (try refine po_gI (by first | exact pz_in_nI (by omega) (by decide) | decide | assumption) ?_)
  (try refine po_gP (Nat.le_of_ble_eq_true rfl) ?_)
  refine po_call (by omega) (pm_mono h2 (fun r2 h3 => ?_))
  obtain ⟨v2, M2⟩ := r2
  obtain ⟨ey, hX2, hL2, hz2⟩ := h3
  simp only at ey hX2 hL2 hz2
  subst ey
  refine pw_blk (mi := mz_0) (b := bz_0_1456) rfl rfl ?_
  simp only [bz_0_1456, pz_cut_t, pz_cut_f, pz_cut_n, pv_gt, pv_ts, pv_tn, ev_ic_eq, pz_wi_gc, pz_wi_ga, pz_wi_gn, pz_wi_gl, pz_wi_gr, pz_wi_same, pz_wi_X, pz_wl_gc, pz_wl_ga, pz_wl_gn, pz_wl_gi, pz_wl_gr, pz_wl_same, pz_wl_X, pz_wr_gc, pz_wr_ga, pz_wr_gn, pz_wr_gi, pz_wr_gl, pz_wr_same, pz_wr_X, so_0 hS, ea_ialde he]
  (try simp (disch := omega) only [nI_clamp, pz_in_nI2, pz_in_nI2L, pv_gt, nI_add, nI_addL, nI_Ladd, pk_mul, nI_mulL, nI_Lmul, pk_sub, nI_subL, nI_Lsub, nI_inc, nI_clampL, Nat.add_sub_cancel, pz_wi_else, pz_wl_else, vu_eq, vu_ne, pz_wi_gc, pz_wi_ga, pz_wi_gn, pz_wi_gl, pz_wi_gr, pz_wi_same, pz_wi_X, pz_wl_gc, pz_wl_ga, pz_wl_gn, pz_wl_gi, pz_wl_gr, pz_wl_same, pz_wl_X, pz_wr_gc, pz_wr_ga, pz_wr_gn, pz_wr_gi, pz_wr_gl, pz_wr_same, pz_wr_X, so_0 hS, ea_ialde he])
  refine po_brP (fun q1456 => ?_) (fun q1456 => ?_)
  · first
    | exact absurd q1456 (by decide)
    | exact absurd trivial q1456
    | exact q1456.elim
    | (exfalso; (try simp (disch := omega) only [nI_ltI, nI_leI, nI_eq, nI_ltL, nI_leL, nI_eqL, nI_Llt, nI_Lle, nI_Leq, nI_eqm, nI_meq, nI_ltm, nI_lem, nI_mlt, nI_mle, lg0, lgl, lgg, lgle, lgge, Int32.not_lt, Int32.not_le, Int64.not_lt, Int64.not_le, not_false_eq_true, not_true_eq_false, Decidable.not_not, ge_iff_le, gt_iff_lt] at q1456) <;> omega)
    | exact absurd q1456 (by with_reducible assumption)
    | exact absurd (by with_reducible assumption) q1456
    | exact absurd (Decidable.not_not.mp q1456) (by with_reducible assumption)
    | exact absurd (by with_reducible assumption) (Int32.not_le.mpr q1456)
    | exact absurd (by with_reducible assumption) (Int32.not_lt.mpr q1456)
    | skip
      (try simp (disch := omega) only [nI_ltI, nI_leI, nI_eq, nI_ltL, nI_leL, nI_eqL, nI_Llt, nI_Lle, nI_Leq, nI_eqm, nI_meq, nI_ltm, nI_lem, nI_mlt, nI_mle, lg0, lgl, lgg, lgle, lgge, Int32.not_lt, Int32.not_le, Int64.not_lt, Int64.not_le, not_false_eq_true, not_true_eq_false, Decidable.not_not, ge_iff_le, gt_iff_lt] at q1456)
      exact nx M2 ⟨hX2.trans hX, hL2, hz2⟩
  · exact absurd trivial q1456
theorem cs_40 (hX6 : i + 6 ≤ X.1) (hX7 : X.1 ≤ 3072) (h : INV X M) (nx : ∀ M', INV X M' → pw 1000 0 (1484, [some (.retAddr 0), some (.ref 0), some (.ref 120), some (.int (nI i))], [], M') Q) : pw 1000 0 (1461, [some (.retAddr 0), some (.ref 0), some (.ref 120), some (.int (nI i))], [], M) Q := by
  obtain ⟨hX, hL, hz⟩ := h
  have hS := hL.S
  have he : pz_ex M.1 0 = some (0, X.1, X.2) := by rw [hX]; rfl
  have OP := opp_I (a := 83) (b := 84) (by decide +kernel) (by decide +kernel) hz hL (show opp 999 83 84 [.int (X.2 (i + 1))] M from oz_about (by decide) hL)
  refine pw_blk (mi := mz_0) (b := bz_0_1461) rfl rfl ?_
  simp only [bz_0_1461, pz_cut_t, pz_cut_f, pz_cut_n, pv_gt, pv_ts, pv_tn, ev_ald1, ev_eld1, ev_ald0, ev_eld0, ev_ild3, ev_ic1, ev_iadd, ea_iald, ev_cv1_0, pz_wi_gc, pz_wi_ga, pz_wi_gn, pz_wi_gl, pz_wi_gr, pz_wi_same, pz_wi_X, pz_wl_gc, pz_wl_ga, pz_wl_gn, pz_wl_gi, pz_wl_gr, pz_wl_same, pz_wl_X, pz_wr_gc, pz_wr_ga, pz_wr_gn, pz_wr_gi, pz_wr_gl, pz_wr_same, pz_wr_X, so_0 hS, ea_ialde he]
  (try simp (disch := omega) only [nI_clamp, pz_in_nI2, pz_in_nI2L, pv_gt, nI_add, nI_addL, nI_Ladd, pk_mul, nI_mulL, nI_Lmul, pk_sub, nI_subL, nI_Lsub, nI_inc, nI_clampL, Nat.add_sub_cancel, pz_wi_else, pz_wl_else, vu_eq, vu_ne, pz_wi_gc, pz_wi_ga, pz_wi_gn, pz_wi_gl, pz_wi_gr, pz_wi_same, pz_wi_X, pz_wl_gc, pz_wl_ga, pz_wl_gn, pz_wl_gi, pz_wl_gr, pz_wl_same, pz_wl_X, pz_wr_gc, pz_wr_ga, pz_wr_gn, pz_wr_gi, pz_wr_gl, pz_wr_same, pz_wr_X, so_0 hS, ea_ialde he])
  (try refine po_gI (by first | exact pz_in_nI (by omega) (by decide) | decide | assumption) ?_)
  (try refine po_gP (Nat.le_of_ble_eq_true rfl) ?_)
  refine po_call (by omega) (pm_mono OP (fun r1 h1 => ?_))
  obtain ⟨v1, M1⟩ := r1
  obtain ⟨x, ex, hX1, g120, h2⟩ := h1
  simp only at ex hX1 g120 h2
  subst ex
  have he1 : pz_ex M1.1 0 = some (0, X.1, X.2) := by rw [hX1, hX]; rfl
  refine pw_blk (mi := mz_0) (b := bz_0_1470) rfl rfl ?_
  simp only [bz_0_1470, pz_cut_t, pz_cut_f, pz_cut_n, pv_gt, pv_ts, pv_tn, ev_ald2, ev_eld2, ev_ald0, ev_eld0, ev_ild3, ev_ic1, ev_iadd, ea_iald, ev_cv1_11, pz_wi_gc, pz_wi_ga, pz_wi_gn, pz_wi_gl, pz_wi_gr, pz_wi_same, pz_wi_X, pz_wl_gc, pz_wl_ga, pz_wl_gn, pz_wl_gi, pz_wl_gr, pz_wl_same, pz_wl_X, pz_wr_gc, pz_wr_ga, pz_wr_gn, pz_wr_gi, pz_wr_gl, pz_wr_same, pz_wr_X, so_0 hS, ea_ialde he, g120, ea_ialde he1]
  (try simp (disch := omega) only [nI_clamp, pz_in_nI2, pz_in_nI2L, pv_gt, nI_add, nI_addL, nI_Ladd, pk_mul, nI_mulL, nI_Lmul, pk_sub, nI_subL, nI_Lsub, nI_inc, nI_clampL, Nat.add_sub_cancel, pz_wi_else, pz_wl_else, vu_eq, vu_ne, pz_wi_gc, pz_wi_ga, pz_wi_gn, pz_wi_gl, pz_wi_gr, pz_wi_same, pz_wi_X, pz_wl_gc, pz_wl_ga, pz_wl_gn, pz_wl_gi, pz_wl_gr, pz_wl_same, pz_wl_X, pz_wr_gc, pz_wr_ga, pz_wr_gn, pz_wr_gi, pz_wr_gl, pz_wr_same, pz_wr_X, so_0 hS, ea_ialde he, g120, ea_ialde he1])
  (try refine po_gI (by first | exact pz_in_nI (by omega) (by decide) | decide | assumption) ?_)
  (try refine po_gP (Nat.le_of_ble_eq_true rfl) ?_)
  refine po_call (by omega) (pm_mono h2 (fun r2 h3 => ?_))
  obtain ⟨v2, M2⟩ := r2
  obtain ⟨ey, hX2, hL2, hz2⟩ := h3
  simp only at ey hX2 hL2 hz2
  subst ey
  refine pw_blk (mi := mz_0) (b := bz_0_1479) rfl rfl ?_
  simp only [bz_0_1479, pz_cut_t, pz_cut_f, pz_cut_n, pv_gt, pv_ts, pv_tn, ev_ic_eq, pz_wi_gc, pz_wi_ga, pz_wi_gn, pz_wi_gl, pz_wi_gr, pz_wi_same, pz_wi_X, pz_wl_gc, pz_wl_ga, pz_wl_gn, pz_wl_gi, pz_wl_gr, pz_wl_same, pz_wl_X, pz_wr_gc, pz_wr_ga, pz_wr_gn, pz_wr_gi, pz_wr_gl, pz_wr_same, pz_wr_X, so_0 hS, ea_ialde he]
  (try simp (disch := omega) only [nI_clamp, pz_in_nI2, pz_in_nI2L, pv_gt, nI_add, nI_addL, nI_Ladd, pk_mul, nI_mulL, nI_Lmul, pk_sub, nI_subL, nI_Lsub, nI_inc, nI_clampL, Nat.add_sub_cancel, pz_wi_else, pz_wl_else, vu_eq, vu_ne, pz_wi_gc, pz_wi_ga, pz_wi_gn, pz_wi_gl, pz_wi_gr, pz_wi_same, pz_wi_X, pz_wl_gc, pz_wl_ga, pz_wl_gn, pz_wl_gi, pz_wl_gr, pz_wl_same, pz_wl_X, pz_wr_gc, pz_wr_ga, pz_wr_gn, pz_wr_gi, pz_wr_gl, pz_wr_same, pz_wr_X, so_0 hS, ea_ialde he])
  refine po_brP (fun q1479 => ?_) (fun q1479 => ?_)
  · first
    | exact absurd q1479 (by decide)
    | exact absurd trivial q1479
    | exact q1479.elim
    | (exfalso; (try simp (disch := omega) only [nI_ltI, nI_leI, nI_eq, nI_ltL, nI_leL, nI_eqL, nI_Llt, nI_Lle, nI_Leq, nI_eqm, nI_meq, nI_ltm, nI_lem, nI_mlt, nI_mle, lg0, lgl, lgg, lgle, lgge, Int32.not_lt, Int32.not_le, Int64.not_lt, Int64.not_le, not_false_eq_true, not_true_eq_false, Decidable.not_not, ge_iff_le, gt_iff_lt] at q1479) <;> omega)
    | exact absurd q1479 (by with_reducible assumption)
    | exact absurd (by with_reducible assumption) q1479
    | exact absurd (Decidable.not_not.mp q1479) (by with_reducible assumption)
    | exact absurd (by with_reducible assumption) (Int32.not_le.mpr q1479)
    | exact absurd (by with_reducible assumption) (Int32.not_lt.mpr q1479)
    | skip
      (try simp (disch := omega) only [nI_ltI, nI_leI, nI_eq, nI_ltL, nI_leL, nI_eqL, nI_Llt, nI_Lle, nI_Leq, nI_eqm, nI_meq, nI_ltm, nI_lem, nI_mlt, nI_mle, lg0, lgl, lgg, lgle, lgge, Int32.not_lt, Int32.not_le, Int64.not_lt, Int64.not_le, not_false_eq_true, not_true_eq_false, Decidable.not_not, ge_iff_le, gt_iff_lt] at q1479)
      exact nx M2 ⟨hX2.trans hX, hL2, hz2⟩
  · exact absurd trivial q1479
end LAW
