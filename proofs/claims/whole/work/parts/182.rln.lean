/-! ===== a line: the reference ===== -/
section RU
variable {d : Nat} {M M' : pz_M} {Q : Option Value × pz_M → Prop} {ru : Bool} {T : Nat → Nat} {L : Nat} {b : Nat}
/-- nothing of its kind may follow -/
def fulB (c : Sc) (σ : Sg) : Bool := if isWs 0 σ = true then decide (c.H = 8) else if isWs 1 σ = true then decide (c.P = 4) else if isWs 13 σ = true then decide (c.N = 6) else if isWs 6 σ = true then c.lt else (!isWs 4 σ && !isWs 5 σ)
theorem r_isFull (hd : 2 ≤ d) {σ : Sg} {c : Sc} (hb : b ≤ 1) (e39 : gi M 120 39 = nI b) (z : gi M 120 4 = 0) (s : rSt M ru T L σ) (o : okS c) (x : rsc M b c) (k : Q (some (.int (bI (fulB c σ))), M)) : pm d 191 [.ref 120] M Q := by
  have hS := s.1.1
  obtain ⟨x0, x3, x6, x10, x18⟩ := x.1
  obtain ⟨o1, o2, o3, o4, -⟩ := o.1
  unfold fulB at k
  have w : ∀ w wv, wv = p8 (wds.getD w []) → w < 26 → ∀ d' (Q' : Option Value × pz_M → Prop), Q' (some (.int (bI (isWs w σ))), M) → pm d' 220 [.ref 120, .long wv] M Q' := fun w wv h1 h2 d' Q' hq => r_isWd h1 h2 s (fun q hb => by rw [hb z]; exact hq)
  cases z0 : isWs 0 σ with
  | true =>
    rw [if_pos z0] at k
    by_cases q : c.H = 8
    · rw [decide_eq_true q] at k
      refine pm_ent (L := [some (.ref 120)]) rfl (Nat.le_of_ble_eq_true rfl) ?_
      refine pw_blk (mi := mz_191) (b := bz_191_0) rfl rfl ?_
      simp only [bz_191_0, pz_cut_t, pz_cut_f, pz_cut_n, pv_gt, pv_ts, pv_tn, ev_ald0, ev_eld0, ev_ldl1751474544, ev_cv1_11, pz_wi_gc, pz_wi_ga, pz_wi_gn, pz_wi_gl, pz_wi_gr, pz_wi_same, pz_wi_X, pz_wl_gc, pz_wl_ga, pz_wl_gn, pz_wl_gi, pz_wl_gr, pz_wl_same, pz_wl_X, pz_wr_gc, pz_wr_ga, pz_wr_gn, pz_wr_gi, pz_wr_gl, pz_wr_same, pz_wr_X, so_120 hS, e39, x3, x6, x10, x18, q]
      (try simp (disch := omega) only [nI_clamp, pz_in_nI2, pz_in_nI2L, pv_gt, nI_add, nI_addL, nI_Ladd, pk_mul, nI_mulL, nI_Lmul, pk_sub, nI_subL, nI_Lsub, nI_inc, nI_clampL, Nat.add_sub_cancel, pz_wi_else, pz_wl_else, vu_eq, vu_ne, pz_wi_gc, pz_wi_ga, pz_wi_gn, pz_wi_gl, pz_wi_gr, pz_wi_same, pz_wi_X, pz_wl_gc, pz_wl_ga, pz_wl_gn, pz_wl_gi, pz_wl_gr, pz_wl_same, pz_wl_X, pz_wr_gc, pz_wr_ga, pz_wr_gn, pz_wr_gi, pz_wr_gl, pz_wr_same, pz_wr_X, e39, x3, x6, x10, x18, q])
      (try refine po_gP (Nat.le_of_ble_eq_true rfl) ?_)
      refine po_call (by omega) (w 0 _ (by decide +kernel) (by decide) _ _ ?_)
      rw [z0]
      refine pw_blk (mi := mz_191) (b := bz_191_7) rfl rfl ?_
      simp only [bz_191_7, pz_cut_t, pz_cut_f, pz_cut_n, pv_gt, pv_ts, pv_tn, ev_ifeq, pz_wi_gc, pz_wi_ga, pz_wi_gn, pz_wi_gl, pz_wi_gr, pz_wi_same, pz_wi_X, pz_wl_gc, pz_wl_ga, pz_wl_gn, pz_wl_gi, pz_wl_gr, pz_wl_same, pz_wl_X, pz_wr_gc, pz_wr_ga, pz_wr_gn, pz_wr_gi, pz_wr_gl, pz_wr_same, pz_wr_X, e39, x3, x6, x10, x18, q, bI_t]
      (try simp (disch := omega) only [nI_clamp, pz_in_nI2, pz_in_nI2L, pv_gt, nI_add, nI_addL, nI_Ladd, pk_mul, nI_mulL, nI_Lmul, pk_sub, nI_subL, nI_Lsub, nI_inc, nI_clampL, Nat.add_sub_cancel, pz_wi_else, pz_wl_else, vu_eq, vu_ne, pz_wi_gc, pz_wi_ga, pz_wi_gn, pz_wi_gl, pz_wi_gr, pz_wi_same, pz_wi_X, pz_wl_gc, pz_wl_ga, pz_wl_gn, pz_wl_gi, pz_wl_gr, pz_wl_same, pz_wl_X, pz_wr_gc, pz_wr_ga, pz_wr_gn, pz_wr_gi, pz_wr_gl, pz_wr_same, pz_wr_X, e39, x3, x6, x10, x18, q, bI_t])
      refine po_brP (fun q7 => ?_) (fun q7 => ?_)
      · first
        | exact absurd q7 (by decide)
        | exact absurd trivial q7
        | exact q7.elim
        | (exfalso; (try simp (disch := omega) only [nI_ltI, nI_leI, nI_eq, nI_ltL, nI_leL, nI_eqL, nI_Llt, nI_Lle, nI_Leq, nI_eqm, nI_meq, nI_ltm, nI_lem, nI_mlt, nI_mle, lg0, lgl, lgg, lgle, lgge, Int32.not_lt, Int32.not_le, Int64.not_lt, Int64.not_le, not_false_eq_true, not_true_eq_false, Decidable.not_not, ge_iff_le, gt_iff_lt] at q7) <;> omega)
        | exact absurd q7 (by with_reducible assumption)
        | exact absurd (by with_reducible assumption) q7
        | exact absurd (Decidable.not_not.mp q7) (by with_reducible assumption)
        | exact absurd (by with_reducible assumption) (Int32.not_le.mpr q7)
        | exact absurd (by with_reducible assumption) (Int32.not_lt.mpr q7)
      · skip
        (try simp (disch := omega) only [nI_ltI, nI_leI, nI_eq, nI_ltL, nI_leL, nI_eqL, nI_Llt, nI_Lle, nI_Leq, nI_eqm, nI_meq, nI_ltm, nI_lem, nI_mlt, nI_mle, lg0, lgl, lgg, lgle, lgge, Int32.not_lt, Int32.not_le, Int64.not_lt, Int64.not_le, not_false_eq_true, not_true_eq_false, Decidable.not_not, ge_iff_le, gt_iff_lt] at q7)
        refine pw_blk (mi := mz_191) (b := bz_191_10) rfl rfl ?_
        simp only [bz_191_10, pz_cut_t, pz_cut_f, pz_cut_n, pv_gt, pv_ts, pv_tn, ev_ald0, ev_eld0, ev_gf11_2, ev_gf11_0, ea_iald, ev_bp8, ev_ic_ne, pz_wi_gc, pz_wi_ga, pz_wi_gn, pz_wi_gl, pz_wi_gr, pz_wi_same, pz_wi_X, pz_wl_gc, pz_wl_ga, pz_wl_gn, pz_wl_gi, pz_wl_gr, pz_wl_same, pz_wl_X, pz_wr_gc, pz_wr_ga, pz_wr_gn, pz_wr_gi, pz_wr_gl, pz_wr_same, pz_wr_X, so_120 hS, sr_120_13 hS, sa_124 hS, sn_124 hS, e39, x3, x6, x10, x18, q, sa_125 hS, sn_125 hS, sa_126 hS, sn_126 hS, sa_133 hS, sn_133 hS]
        (try simp (disch := omega) only [nI_clamp, pz_in_nI2, pz_in_nI2L, pv_gt, nI_add, nI_addL, nI_Ladd, pk_mul, nI_mulL, nI_Lmul, pk_sub, nI_subL, nI_Lsub, nI_inc, nI_clampL, Nat.add_sub_cancel, pz_wi_else, pz_wl_else, vu_eq, vu_ne, pz_wi_gc, pz_wi_ga, pz_wi_gn, pz_wi_gl, pz_wi_gr, pz_wi_same, pz_wi_X, pz_wl_gc, pz_wl_ga, pz_wl_gn, pz_wl_gi, pz_wl_gr, pz_wl_same, pz_wl_X, pz_wr_gc, pz_wr_ga, pz_wr_gn, pz_wr_gi, pz_wr_gl, pz_wr_same, pz_wr_X, e39, x3, x6, x10, x18, q])
        (try refine po_gI (by first | exact pz_in_nI (by omega) (by decide) | decide | assumption) ?_)
        refine po_brP (fun q10 => ?_) (fun q10 => ?_)
        · first
          | exact absurd q10 (by decide)
          | exact absurd trivial q10
          | exact q10.elim
          | (exfalso; (try simp (disch := omega) only [nI_ltI, nI_leI, nI_eq, nI_ltL, nI_leL, nI_eqL, nI_Llt, nI_Lle, nI_Leq, nI_eqm, nI_meq, nI_ltm, nI_lem, nI_mlt, nI_mle, lg0, lgl, lgg, lgle, lgge, Int32.not_lt, Int32.not_le, Int64.not_lt, Int64.not_le, not_false_eq_true, not_true_eq_false, Decidable.not_not, ge_iff_le, gt_iff_lt] at q10) <;> omega)
          | exact absurd q10 (by with_reducible assumption)
          | exact absurd (by with_reducible assumption) q10
          | exact absurd (Decidable.not_not.mp q10) (by with_reducible assumption)
          | exact absurd (by with_reducible assumption) (Int32.not_le.mpr q10)
          | exact absurd (by with_reducible assumption) (Int32.not_lt.mpr q10)
        · skip
          (try simp (disch := omega) only [nI_ltI, nI_leI, nI_eq, nI_ltL, nI_leL, nI_eqL, nI_Llt, nI_Lle, nI_Leq, nI_eqm, nI_meq, nI_ltm, nI_lem, nI_mlt, nI_mle, lg0, lgl, lgg, lgle, lgge, Int32.not_lt, Int32.not_le, Int64.not_lt, Int64.not_le, not_false_eq_true, not_true_eq_false, Decidable.not_not, ge_iff_le, gt_iff_lt] at q10)
          refine pw_blk (mi := mz_191) (b := bz_191_24) rfl rfl ?_
          simp only [bz_191_24, pz_cut_t, pz_cut_f, pz_cut_n, pv_gt, pv_ts, pv_tn, ev_ic1, ev_goto, pz_wi_gc, pz_wi_ga, pz_wi_gn, pz_wi_gl, pz_wi_gr, pz_wi_same, pz_wi_X, pz_wl_gc, pz_wl_ga, pz_wl_gn, pz_wl_gi, pz_wl_gr, pz_wl_same, pz_wl_X, pz_wr_gc, pz_wr_ga, pz_wr_gn, pz_wr_gi, pz_wr_gl, pz_wr_same, pz_wr_X, e39, x3, x6, x10, x18, q]
          (try simp (disch := omega) only [nI_clamp, pz_in_nI2, pz_in_nI2L, pv_gt, nI_add, nI_addL, nI_Ladd, pk_mul, nI_mulL, nI_Lmul, pk_sub, nI_subL, nI_Lsub, nI_inc, nI_clampL, Nat.add_sub_cancel, pz_wi_else, pz_wl_else, vu_eq, vu_ne, pz_wi_gc, pz_wi_ga, pz_wi_gn, pz_wi_gl, pz_wi_gr, pz_wi_same, pz_wi_X, pz_wl_gc, pz_wl_ga, pz_wl_gn, pz_wl_gi, pz_wl_gr, pz_wl_same, pz_wl_X, pz_wr_gc, pz_wr_ga, pz_wr_gn, pz_wr_gi, pz_wr_gl, pz_wr_same, pz_wr_X, e39, x3, x6, x10, x18, q])
          refine po_go ?_
          refine pw_blk (mi := mz_191) (b := bz_191_29) rfl rfl ?_
          simp only [bz_191_29, pz_cut_t, pz_cut_f, pz_cut_n, pv_gt, pv_ts, pv_tn, ev_iret1, pz_wi_gc, pz_wi_ga, pz_wi_gn, pz_wi_gl, pz_wi_gr, pz_wi_same, pz_wi_X, pz_wl_gc, pz_wl_ga, pz_wl_gn, pz_wl_gi, pz_wl_gr, pz_wl_same, pz_wl_X, pz_wr_gc, pz_wr_ga, pz_wr_gn, pz_wr_gi, pz_wr_gl, pz_wr_same, pz_wr_X, e39, x3, x6, x10, x18, q]
          (try simp (disch := omega) only [nI_clamp, pz_in_nI2, pz_in_nI2L, pv_gt, nI_add, nI_addL, nI_Ladd, pk_mul, nI_mulL, nI_Lmul, pk_sub, nI_subL, nI_Lsub, nI_inc, nI_clampL, Nat.add_sub_cancel, pz_wi_else, pz_wl_else, vu_eq, vu_ne, pz_wi_gc, pz_wi_ga, pz_wi_gn, pz_wi_gl, pz_wi_gr, pz_wi_same, pz_wi_X, pz_wl_gc, pz_wl_ga, pz_wl_gn, pz_wl_gi, pz_wl_gr, pz_wl_same, pz_wl_X, pz_wr_gc, pz_wr_ga, pz_wr_gn, pz_wr_gi, pz_wr_gl, pz_wr_same, pz_wr_X, e39, x3, x6, x10, x18, q])
          (try refine po_gP (by first | decide | assumption) ?_)
          exact po_ret k
    · rw [decide_eq_false q] at k
      refine pm_ent (L := [some (.ref 120)]) rfl (Nat.le_of_ble_eq_true rfl) ?_
      refine pw_blk (mi := mz_191) (b := bz_191_0) rfl rfl ?_
      simp only [bz_191_0, pz_cut_t, pz_cut_f, pz_cut_n, pv_gt, pv_ts, pv_tn, ev_ald0, ev_eld0, ev_ldl1751474544, ev_cv1_11, pz_wi_gc, pz_wi_ga, pz_wi_gn, pz_wi_gl, pz_wi_gr, pz_wi_same, pz_wi_X, pz_wl_gc, pz_wl_ga, pz_wl_gn, pz_wl_gi, pz_wl_gr, pz_wl_same, pz_wl_X, pz_wr_gc, pz_wr_ga, pz_wr_gn, pz_wr_gi, pz_wr_gl, pz_wr_same, pz_wr_X, so_120 hS, e39, x3, x6, x10, x18]
      (try simp (disch := omega) only [nI_clamp, pz_in_nI2, pz_in_nI2L, pv_gt, nI_add, nI_addL, nI_Ladd, pk_mul, nI_mulL, nI_Lmul, pk_sub, nI_subL, nI_Lsub, nI_inc, nI_clampL, Nat.add_sub_cancel, pz_wi_else, pz_wl_else, vu_eq, vu_ne, pz_wi_gc, pz_wi_ga, pz_wi_gn, pz_wi_gl, pz_wi_gr, pz_wi_same, pz_wi_X, pz_wl_gc, pz_wl_ga, pz_wl_gn, pz_wl_gi, pz_wl_gr, pz_wl_same, pz_wl_X, pz_wr_gc, pz_wr_ga, pz_wr_gn, pz_wr_gi, pz_wr_gl, pz_wr_same, pz_wr_X, e39, x3, x6, x10, x18])
      (try refine po_gP (Nat.le_of_ble_eq_true rfl) ?_)
      refine po_call (by omega) (w 0 _ (by decide +kernel) (by decide) _ _ ?_)
      rw [z0]
      refine pw_blk (mi := mz_191) (b := bz_191_7) rfl rfl ?_
      simp only [bz_191_7, pz_cut_t, pz_cut_f, pz_cut_n, pv_gt, pv_ts, pv_tn, ev_ifeq, pz_wi_gc, pz_wi_ga, pz_wi_gn, pz_wi_gl, pz_wi_gr, pz_wi_same, pz_wi_X, pz_wl_gc, pz_wl_ga, pz_wl_gn, pz_wl_gi, pz_wl_gr, pz_wl_same, pz_wl_X, pz_wr_gc, pz_wr_ga, pz_wr_gn, pz_wr_gi, pz_wr_gl, pz_wr_same, pz_wr_X, e39, x3, x6, x10, x18, bI_t]
      (try simp (disch := omega) only [nI_clamp, pz_in_nI2, pz_in_nI2L, pv_gt, nI_add, nI_addL, nI_Ladd, pk_mul, nI_mulL, nI_Lmul, pk_sub, nI_subL, nI_Lsub, nI_inc, nI_clampL, Nat.add_sub_cancel, pz_wi_else, pz_wl_else, vu_eq, vu_ne, pz_wi_gc, pz_wi_ga, pz_wi_gn, pz_wi_gl, pz_wi_gr, pz_wi_same, pz_wi_X, pz_wl_gc, pz_wl_ga, pz_wl_gn, pz_wl_gi, pz_wl_gr, pz_wl_same, pz_wl_X, pz_wr_gc, pz_wr_ga, pz_wr_gn, pz_wr_gi, pz_wr_gl, pz_wr_same, pz_wr_X, e39, x3, x6, x10, x18, bI_t])
      refine po_brP (fun q7 => ?_) (fun q7 => ?_)
      · first
        | exact absurd q7 (by decide)
        | exact absurd trivial q7
        | exact q7.elim
        | (exfalso; (try simp (disch := omega) only [nI_ltI, nI_leI, nI_eq, nI_ltL, nI_leL, nI_eqL, nI_Llt, nI_Lle, nI_Leq, nI_eqm, nI_meq, nI_ltm, nI_lem, nI_mlt, nI_mle, lg0, lgl, lgg, lgle, lgge, Int32.not_lt, Int32.not_le, Int64.not_lt, Int64.not_le, not_false_eq_true, not_true_eq_false, Decidable.not_not, ge_iff_le, gt_iff_lt] at q7) <;> omega)
        | exact absurd q7 (by with_reducible assumption)
        | exact absurd (by with_reducible assumption) q7
        | exact absurd (Decidable.not_not.mp q7) (by with_reducible assumption)
        | exact absurd (by with_reducible assumption) (Int32.not_le.mpr q7)
        | exact absurd (by with_reducible assumption) (Int32.not_lt.mpr q7)
      · skip
        (try simp (disch := omega) only [nI_ltI, nI_leI, nI_eq, nI_ltL, nI_leL, nI_eqL, nI_Llt, nI_Lle, nI_Leq, nI_eqm, nI_meq, nI_ltm, nI_lem, nI_mlt, nI_mle, lg0, lgl, lgg, lgle, lgge, Int32.not_lt, Int32.not_le, Int64.not_lt, Int64.not_le, not_false_eq_true, not_true_eq_false, Decidable.not_not, ge_iff_le, gt_iff_lt] at q7)
        refine pw_blk (mi := mz_191) (b := bz_191_10) rfl rfl ?_
        simp only [bz_191_10, pz_cut_t, pz_cut_f, pz_cut_n, pv_gt, pv_ts, pv_tn, ev_ald0, ev_eld0, ev_gf11_2, ev_gf11_0, ea_iald, ev_bp8, ev_ic_ne, pz_wi_gc, pz_wi_ga, pz_wi_gn, pz_wi_gl, pz_wi_gr, pz_wi_same, pz_wi_X, pz_wl_gc, pz_wl_ga, pz_wl_gn, pz_wl_gi, pz_wl_gr, pz_wl_same, pz_wl_X, pz_wr_gc, pz_wr_ga, pz_wr_gn, pz_wr_gi, pz_wr_gl, pz_wr_same, pz_wr_X, so_120 hS, sr_120_13 hS, sa_124 hS, sn_124 hS, e39, x3, x6, x10, x18, sa_125 hS, sn_125 hS, sa_126 hS, sn_126 hS, sa_133 hS, sn_133 hS]
        (try simp (disch := omega) only [nI_clamp, pz_in_nI2, pz_in_nI2L, pv_gt, nI_add, nI_addL, nI_Ladd, pk_mul, nI_mulL, nI_Lmul, pk_sub, nI_subL, nI_Lsub, nI_inc, nI_clampL, Nat.add_sub_cancel, pz_wi_else, pz_wl_else, vu_eq, vu_ne, pz_wi_gc, pz_wi_ga, pz_wi_gn, pz_wi_gl, pz_wi_gr, pz_wi_same, pz_wi_X, pz_wl_gc, pz_wl_ga, pz_wl_gn, pz_wl_gi, pz_wl_gr, pz_wl_same, pz_wl_X, pz_wr_gc, pz_wr_ga, pz_wr_gn, pz_wr_gi, pz_wr_gl, pz_wr_same, pz_wr_X, e39, x3, x6, x10, x18])
        (try refine po_gI (by first | exact pz_in_nI (by omega) (by decide) | decide | assumption) ?_)
        refine po_brP (fun q10 => ?_) (fun q10 => ?_)
        · skip
          (try simp (disch := omega) only [nI_ltI, nI_leI, nI_eq, nI_ltL, nI_leL, nI_eqL, nI_Llt, nI_Lle, nI_Leq, nI_eqm, nI_meq, nI_ltm, nI_lem, nI_mlt, nI_mle, lg0, lgl, lgg, lgle, lgge, Int32.not_lt, Int32.not_le, Int64.not_lt, Int64.not_le, not_false_eq_true, not_true_eq_false, Decidable.not_not, ge_iff_le, gt_iff_lt] at q10)
          refine pw_blk (mi := mz_191) (b := bz_191_28) rfl rfl ?_
          simp only [bz_191_28, pz_cut_t, pz_cut_f, pz_cut_n, pv_gt, pv_ts, pv_tn, ev_ic0, ev_nil, pz_wi_gc, pz_wi_ga, pz_wi_gn, pz_wi_gl, pz_wi_gr, pz_wi_same, pz_wi_X, pz_wl_gc, pz_wl_ga, pz_wl_gn, pz_wl_gi, pz_wl_gr, pz_wl_same, pz_wl_X, pz_wr_gc, pz_wr_ga, pz_wr_gn, pz_wr_gi, pz_wr_gl, pz_wr_same, pz_wr_X, e39, x3, x6, x10, x18]
          (try simp (disch := omega) only [nI_clamp, pz_in_nI2, pz_in_nI2L, pv_gt, nI_add, nI_addL, nI_Ladd, pk_mul, nI_mulL, nI_Lmul, pk_sub, nI_subL, nI_Lsub, nI_inc, nI_clampL, Nat.add_sub_cancel, pz_wi_else, pz_wl_else, vu_eq, vu_ne, pz_wi_gc, pz_wi_ga, pz_wi_gn, pz_wi_gl, pz_wi_gr, pz_wi_same, pz_wi_X, pz_wl_gc, pz_wl_ga, pz_wl_gn, pz_wl_gi, pz_wl_gr, pz_wl_same, pz_wl_X, pz_wr_gc, pz_wr_ga, pz_wr_gn, pz_wr_gi, pz_wr_gl, pz_wr_same, pz_wr_X, e39, x3, x6, x10, x18])
          refine po_go ?_
          refine pw_blk (mi := mz_191) (b := bz_191_29) rfl rfl ?_
          simp only [bz_191_29, pz_cut_t, pz_cut_f, pz_cut_n, pv_gt, pv_ts, pv_tn, ev_iret1, pz_wi_gc, pz_wi_ga, pz_wi_gn, pz_wi_gl, pz_wi_gr, pz_wi_same, pz_wi_X, pz_wl_gc, pz_wl_ga, pz_wl_gn, pz_wl_gi, pz_wl_gr, pz_wl_same, pz_wl_X, pz_wr_gc, pz_wr_ga, pz_wr_gn, pz_wr_gi, pz_wr_gl, pz_wr_same, pz_wr_X, e39, x3, x6, x10, x18]
          (try simp (disch := omega) only [nI_clamp, pz_in_nI2, pz_in_nI2L, pv_gt, nI_add, nI_addL, nI_Ladd, pk_mul, nI_mulL, nI_Lmul, pk_sub, nI_subL, nI_Lsub, nI_inc, nI_clampL, Nat.add_sub_cancel, pz_wi_else, pz_wl_else, vu_eq, vu_ne, pz_wi_gc, pz_wi_ga, pz_wi_gn, pz_wi_gl, pz_wi_gr, pz_wi_same, pz_wi_X, pz_wl_gc, pz_wl_ga, pz_wl_gn, pz_wl_gi, pz_wl_gr, pz_wl_same, pz_wl_X, pz_wr_gc, pz_wr_ga, pz_wr_gn, pz_wr_gi, pz_wr_gl, pz_wr_same, pz_wr_X, e39, x3, x6, x10, x18])
          (try refine po_gP (by first | decide | assumption) ?_)
          exact po_ret k
        · first
          | exact absurd q10 (by decide)
          | exact absurd trivial q10
          | exact q10.elim
          | (exfalso; (try simp (disch := omega) only [nI_ltI, nI_leI, nI_eq, nI_ltL, nI_leL, nI_eqL, nI_Llt, nI_Lle, nI_Leq, nI_eqm, nI_meq, nI_ltm, nI_lem, nI_mlt, nI_mle, lg0, lgl, lgg, lgle, lgge, Int32.not_lt, Int32.not_le, Int64.not_lt, Int64.not_le, not_false_eq_true, not_true_eq_false, Decidable.not_not, ge_iff_le, gt_iff_lt] at q10) <;> omega)
          | exact absurd q10 (by with_reducible assumption)
          | exact absurd (by with_reducible assumption) q10
          | exact absurd (Decidable.not_not.mp q10) (by with_reducible assumption)
          | exact absurd (by with_reducible assumption) (Int32.not_le.mpr q10)
          | exact absurd (by with_reducible assumption) (Int32.not_lt.mpr q10)
  | false =>
    rw [if_neg (by rw [z0]; decide)] at k
    cases z1 : isWs 1 σ with
    | true =>
      rw [if_pos z1] at k
      by_cases q : c.P = 4
      · rw [decide_eq_true q] at k
        refine pm_ent (L := [some (.ref 120)]) rfl (Nat.le_of_ble_eq_true rfl) ?_
        refine pw_blk (mi := mz_191) (b := bz_191_0) rfl rfl ?_
        simp only [bz_191_0, pz_cut_t, pz_cut_f, pz_cut_n, pv_gt, pv_ts, pv_tn, ev_ald0, ev_eld0, ev_ldl1751474544, ev_cv1_11, pz_wi_gc, pz_wi_ga, pz_wi_gn, pz_wi_gl, pz_wi_gr, pz_wi_same, pz_wi_X, pz_wl_gc, pz_wl_ga, pz_wl_gn, pz_wl_gi, pz_wl_gr, pz_wl_same, pz_wl_X, pz_wr_gc, pz_wr_ga, pz_wr_gn, pz_wr_gi, pz_wr_gl, pz_wr_same, pz_wr_X, so_120 hS, e39, x3, x6, x10, x18, q]
        (try simp (disch := omega) only [nI_clamp, pz_in_nI2, pz_in_nI2L, pv_gt, nI_add, nI_addL, nI_Ladd, pk_mul, nI_mulL, nI_Lmul, pk_sub, nI_subL, nI_Lsub, nI_inc, nI_clampL, Nat.add_sub_cancel, pz_wi_else, pz_wl_else, vu_eq, vu_ne, pz_wi_gc, pz_wi_ga, pz_wi_gn, pz_wi_gl, pz_wi_gr, pz_wi_same, pz_wi_X, pz_wl_gc, pz_wl_ga, pz_wl_gn, pz_wl_gi, pz_wl_gr, pz_wl_same, pz_wl_X, pz_wr_gc, pz_wr_ga, pz_wr_gn, pz_wr_gi, pz_wr_gl, pz_wr_same, pz_wr_X, e39, x3, x6, x10, x18, q])
        (try refine po_gP (Nat.le_of_ble_eq_true rfl) ?_)
        refine po_call (by omega) (w 0 _ (by decide +kernel) (by decide) _ _ ?_)
        rw [z0]
        refine pw_blk (mi := mz_191) (b := bz_191_7) rfl rfl ?_
        simp only [bz_191_7, pz_cut_t, pz_cut_f, pz_cut_n, pv_gt, pv_ts, pv_tn, ev_ifeq, pz_wi_gc, pz_wi_ga, pz_wi_gn, pz_wi_gl, pz_wi_gr, pz_wi_same, pz_wi_X, pz_wl_gc, pz_wl_ga, pz_wl_gn, pz_wl_gi, pz_wl_gr, pz_wl_same, pz_wl_X, pz_wr_gc, pz_wr_ga, pz_wr_gn, pz_wr_gi, pz_wr_gl, pz_wr_same, pz_wr_X, e39, x3, x6, x10, x18, q, bI_f]
        (try simp (disch := omega) only [nI_clamp, pz_in_nI2, pz_in_nI2L, pv_gt, nI_add, nI_addL, nI_Ladd, pk_mul, nI_mulL, nI_Lmul, pk_sub, nI_subL, nI_Lsub, nI_inc, nI_clampL, Nat.add_sub_cancel, pz_wi_else, pz_wl_else, vu_eq, vu_ne, pz_wi_gc, pz_wi_ga, pz_wi_gn, pz_wi_gl, pz_wi_gr, pz_wi_same, pz_wi_X, pz_wl_gc, pz_wl_ga, pz_wl_gn, pz_wl_gi, pz_wl_gr, pz_wl_same, pz_wl_X, pz_wr_gc, pz_wr_ga, pz_wr_gn, pz_wr_gi, pz_wr_gl, pz_wr_same, pz_wr_X, e39, x3, x6, x10, x18, q, bI_f])
        refine po_brP (fun q7 => ?_) (fun q7 => ?_)
        · skip
          (try simp (disch := omega) only [nI_ltI, nI_leI, nI_eq, nI_ltL, nI_leL, nI_eqL, nI_Llt, nI_Lle, nI_Leq, nI_eqm, nI_meq, nI_ltm, nI_lem, nI_mlt, nI_mle, lg0, lgl, lgg, lgle, lgge, Int32.not_lt, Int32.not_le, Int64.not_lt, Int64.not_le, not_false_eq_true, not_true_eq_false, Decidable.not_not, ge_iff_le, gt_iff_lt] at q7)
          refine pw_blk (mi := mz_191) (b := bz_191_30) rfl rfl ?_
          simp only [bz_191_30, pz_cut_t, pz_cut_f, pz_cut_n, pv_gt, pv_ts, pv_tn, ev_ald0, ev_eld0, ev_ldl1885434484, ev_cv1_11, pz_wi_gc, pz_wi_ga, pz_wi_gn, pz_wi_gl, pz_wi_gr, pz_wi_same, pz_wi_X, pz_wl_gc, pz_wl_ga, pz_wl_gn, pz_wl_gi, pz_wl_gr, pz_wl_same, pz_wl_X, pz_wr_gc, pz_wr_ga, pz_wr_gn, pz_wr_gi, pz_wr_gl, pz_wr_same, pz_wr_X, so_120 hS, e39, x3, x6, x10, x18, q]
          (try simp (disch := omega) only [nI_clamp, pz_in_nI2, pz_in_nI2L, pv_gt, nI_add, nI_addL, nI_Ladd, pk_mul, nI_mulL, nI_Lmul, pk_sub, nI_subL, nI_Lsub, nI_inc, nI_clampL, Nat.add_sub_cancel, pz_wi_else, pz_wl_else, vu_eq, vu_ne, pz_wi_gc, pz_wi_ga, pz_wi_gn, pz_wi_gl, pz_wi_gr, pz_wi_same, pz_wi_X, pz_wl_gc, pz_wl_ga, pz_wl_gn, pz_wl_gi, pz_wl_gr, pz_wl_same, pz_wl_X, pz_wr_gc, pz_wr_ga, pz_wr_gn, pz_wr_gi, pz_wr_gl, pz_wr_same, pz_wr_X, e39, x3, x6, x10, x18, q])
          (try refine po_gP (Nat.le_of_ble_eq_true rfl) ?_)
          refine po_call (by omega) (w 1 _ (by decide +kernel) (by decide) _ _ ?_)
          rw [z1]
          refine pw_blk (mi := mz_191) (b := bz_191_37) rfl rfl ?_
          simp only [bz_191_37, pz_cut_t, pz_cut_f, pz_cut_n, pv_gt, pv_ts, pv_tn, ev_ifeq, pz_wi_gc, pz_wi_ga, pz_wi_gn, pz_wi_gl, pz_wi_gr, pz_wi_same, pz_wi_X, pz_wl_gc, pz_wl_ga, pz_wl_gn, pz_wl_gi, pz_wl_gr, pz_wl_same, pz_wl_X, pz_wr_gc, pz_wr_ga, pz_wr_gn, pz_wr_gi, pz_wr_gl, pz_wr_same, pz_wr_X, e39, x3, x6, x10, x18, q, bI_t]
          (try simp (disch := omega) only [nI_clamp, pz_in_nI2, pz_in_nI2L, pv_gt, nI_add, nI_addL, nI_Ladd, pk_mul, nI_mulL, nI_Lmul, pk_sub, nI_subL, nI_Lsub, nI_inc, nI_clampL, Nat.add_sub_cancel, pz_wi_else, pz_wl_else, vu_eq, vu_ne, pz_wi_gc, pz_wi_ga, pz_wi_gn, pz_wi_gl, pz_wi_gr, pz_wi_same, pz_wi_X, pz_wl_gc, pz_wl_ga, pz_wl_gn, pz_wl_gi, pz_wl_gr, pz_wl_same, pz_wl_X, pz_wr_gc, pz_wr_ga, pz_wr_gn, pz_wr_gi, pz_wr_gl, pz_wr_same, pz_wr_X, e39, x3, x6, x10, x18, q, bI_t])
          refine po_brP (fun q37 => ?_) (fun q37 => ?_)
          · first
            | exact absurd q37 (by decide)
            | exact absurd trivial q37
            | exact q37.elim
            | (exfalso; (try simp (disch := omega) only [nI_ltI, nI_leI, nI_eq, nI_ltL, nI_leL, nI_eqL, nI_Llt, nI_Lle, nI_Leq, nI_eqm, nI_meq, nI_ltm, nI_lem, nI_mlt, nI_mle, lg0, lgl, lgg, lgle, lgge, Int32.not_lt, Int32.not_le, Int64.not_lt, Int64.not_le, not_false_eq_true, not_true_eq_false, Decidable.not_not, ge_iff_le, gt_iff_lt] at q37) <;> omega)
            | exact absurd q37 (by with_reducible assumption)
            | exact absurd (by with_reducible assumption) q37
            | exact absurd (Decidable.not_not.mp q37) (by with_reducible assumption)
            | exact absurd (by with_reducible assumption) (Int32.not_le.mpr q37)
            | exact absurd (by with_reducible assumption) (Int32.not_lt.mpr q37)
          · skip
            (try simp (disch := omega) only [nI_ltI, nI_leI, nI_eq, nI_ltL, nI_leL, nI_eqL, nI_Llt, nI_Lle, nI_Leq, nI_eqm, nI_meq, nI_ltm, nI_lem, nI_mlt, nI_mle, lg0, lgl, lgg, lgle, lgge, Int32.not_lt, Int32.not_le, Int64.not_lt, Int64.not_le, not_false_eq_true, not_true_eq_false, Decidable.not_not, ge_iff_le, gt_iff_lt] at q37)
            refine pw_blk (mi := mz_191) (b := bz_191_40) rfl rfl ?_
            simp only [bz_191_40, pz_cut_t, pz_cut_f, pz_cut_n, pv_gt, pv_ts, pv_tn, ev_ald0, ev_eld0, ev_gf11_2, ev_gf11_0, ea_iald, ev_ic4, ev_ic_ne, pz_wi_gc, pz_wi_ga, pz_wi_gn, pz_wi_gl, pz_wi_gr, pz_wi_same, pz_wi_X, pz_wl_gc, pz_wl_ga, pz_wl_gn, pz_wl_gi, pz_wl_gr, pz_wl_same, pz_wl_X, pz_wr_gc, pz_wr_ga, pz_wr_gn, pz_wr_gi, pz_wr_gl, pz_wr_same, pz_wr_X, so_120 hS, sr_120_14 hS, sa_125 hS, sn_125 hS, e39, x3, x6, x10, x18, q, sa_124 hS, sn_124 hS, sa_126 hS, sn_126 hS, sa_133 hS, sn_133 hS]
            (try simp (disch := omega) only [nI_clamp, pz_in_nI2, pz_in_nI2L, pv_gt, nI_add, nI_addL, nI_Ladd, pk_mul, nI_mulL, nI_Lmul, pk_sub, nI_subL, nI_Lsub, nI_inc, nI_clampL, Nat.add_sub_cancel, pz_wi_else, pz_wl_else, vu_eq, vu_ne, pz_wi_gc, pz_wi_ga, pz_wi_gn, pz_wi_gl, pz_wi_gr, pz_wi_same, pz_wi_X, pz_wl_gc, pz_wl_ga, pz_wl_gn, pz_wl_gi, pz_wl_gr, pz_wl_same, pz_wl_X, pz_wr_gc, pz_wr_ga, pz_wr_gn, pz_wr_gi, pz_wr_gl, pz_wr_same, pz_wr_X, e39, x3, x6, x10, x18, q])
            (try refine po_gI (by first | exact pz_in_nI (by omega) (by decide) | decide | assumption) ?_)
            refine po_brP (fun q40 => ?_) (fun q40 => ?_)
            · first
              | exact absurd q40 (by decide)
              | exact absurd trivial q40
              | exact q40.elim
              | (exfalso; (try simp (disch := omega) only [nI_ltI, nI_leI, nI_eq, nI_ltL, nI_leL, nI_eqL, nI_Llt, nI_Lle, nI_Leq, nI_eqm, nI_meq, nI_ltm, nI_lem, nI_mlt, nI_mle, lg0, lgl, lgg, lgle, lgge, Int32.not_lt, Int32.not_le, Int64.not_lt, Int64.not_le, not_false_eq_true, not_true_eq_false, Decidable.not_not, ge_iff_le, gt_iff_lt] at q40) <;> omega)
              | exact absurd q40 (by with_reducible assumption)
              | exact absurd (by with_reducible assumption) q40
              | exact absurd (Decidable.not_not.mp q40) (by with_reducible assumption)
              | exact absurd (by with_reducible assumption) (Int32.not_le.mpr q40)
              | exact absurd (by with_reducible assumption) (Int32.not_lt.mpr q40)
            · skip
              (try simp (disch := omega) only [nI_ltI, nI_leI, nI_eq, nI_ltL, nI_leL, nI_eqL, nI_Llt, nI_Lle, nI_Leq, nI_eqm, nI_meq, nI_ltm, nI_lem, nI_mlt, nI_mle, lg0, lgl, lgg, lgle, lgge, Int32.not_lt, Int32.not_le, Int64.not_lt, Int64.not_le, not_false_eq_true, not_true_eq_false, Decidable.not_not, ge_iff_le, gt_iff_lt] at q40)
              refine pw_blk (mi := mz_191) (b := bz_191_53) rfl rfl ?_
              simp only [bz_191_53, pz_cut_t, pz_cut_f, pz_cut_n, pv_gt, pv_ts, pv_tn, ev_ic1, ev_goto, pz_wi_gc, pz_wi_ga, pz_wi_gn, pz_wi_gl, pz_wi_gr, pz_wi_same, pz_wi_X, pz_wl_gc, pz_wl_ga, pz_wl_gn, pz_wl_gi, pz_wl_gr, pz_wl_same, pz_wl_X, pz_wr_gc, pz_wr_ga, pz_wr_gn, pz_wr_gi, pz_wr_gl, pz_wr_same, pz_wr_X, e39, x3, x6, x10, x18, q]
              (try simp (disch := omega) only [nI_clamp, pz_in_nI2, pz_in_nI2L, pv_gt, nI_add, nI_addL, nI_Ladd, pk_mul, nI_mulL, nI_Lmul, pk_sub, nI_subL, nI_Lsub, nI_inc, nI_clampL, Nat.add_sub_cancel, pz_wi_else, pz_wl_else, vu_eq, vu_ne, pz_wi_gc, pz_wi_ga, pz_wi_gn, pz_wi_gl, pz_wi_gr, pz_wi_same, pz_wi_X, pz_wl_gc, pz_wl_ga, pz_wl_gn, pz_wl_gi, pz_wl_gr, pz_wl_same, pz_wl_X, pz_wr_gc, pz_wr_ga, pz_wr_gn, pz_wr_gi, pz_wr_gl, pz_wr_same, pz_wr_X, e39, x3, x6, x10, x18, q])
              refine po_go ?_
              refine pw_blk (mi := mz_191) (b := bz_191_58) rfl rfl ?_
              simp only [bz_191_58, pz_cut_t, pz_cut_f, pz_cut_n, pv_gt, pv_ts, pv_tn, ev_iret1, pz_wi_gc, pz_wi_ga, pz_wi_gn, pz_wi_gl, pz_wi_gr, pz_wi_same, pz_wi_X, pz_wl_gc, pz_wl_ga, pz_wl_gn, pz_wl_gi, pz_wl_gr, pz_wl_same, pz_wl_X, pz_wr_gc, pz_wr_ga, pz_wr_gn, pz_wr_gi, pz_wr_gl, pz_wr_same, pz_wr_X, e39, x3, x6, x10, x18, q]
              (try simp (disch := omega) only [nI_clamp, pz_in_nI2, pz_in_nI2L, pv_gt, nI_add, nI_addL, nI_Ladd, pk_mul, nI_mulL, nI_Lmul, pk_sub, nI_subL, nI_Lsub, nI_inc, nI_clampL, Nat.add_sub_cancel, pz_wi_else, pz_wl_else, vu_eq, vu_ne, pz_wi_gc, pz_wi_ga, pz_wi_gn, pz_wi_gl, pz_wi_gr, pz_wi_same, pz_wi_X, pz_wl_gc, pz_wl_ga, pz_wl_gn, pz_wl_gi, pz_wl_gr, pz_wl_same, pz_wl_X, pz_wr_gc, pz_wr_ga, pz_wr_gn, pz_wr_gi, pz_wr_gl, pz_wr_same, pz_wr_X, e39, x3, x6, x10, x18, q])
              (try refine po_gP (by first | decide | assumption) ?_)
              exact po_ret k
        · first
          | exact absurd q7 (by decide)
          | exact absurd trivial q7
          | exact q7.elim
          | (exfalso; (try simp (disch := omega) only [nI_ltI, nI_leI, nI_eq, nI_ltL, nI_leL, nI_eqL, nI_Llt, nI_Lle, nI_Leq, nI_eqm, nI_meq, nI_ltm, nI_lem, nI_mlt, nI_mle, lg0, lgl, lgg, lgle, lgge, Int32.not_lt, Int32.not_le, Int64.not_lt, Int64.not_le, not_false_eq_true, not_true_eq_false, Decidable.not_not, ge_iff_le, gt_iff_lt] at q7) <;> omega)
          | exact absurd q7 (by with_reducible assumption)
          | exact absurd (by with_reducible assumption) q7
          | exact absurd (Decidable.not_not.mp q7) (by with_reducible assumption)
          | exact absurd (by with_reducible assumption) (Int32.not_le.mpr q7)
          | exact absurd (by with_reducible assumption) (Int32.not_lt.mpr q7)
      · rw [decide_eq_false q] at k
        refine pm_ent (L := [some (.ref 120)]) rfl (Nat.le_of_ble_eq_true rfl) ?_
        refine pw_blk (mi := mz_191) (b := bz_191_0) rfl rfl ?_
        simp only [bz_191_0, pz_cut_t, pz_cut_f, pz_cut_n, pv_gt, pv_ts, pv_tn, ev_ald0, ev_eld0, ev_ldl1751474544, ev_cv1_11, pz_wi_gc, pz_wi_ga, pz_wi_gn, pz_wi_gl, pz_wi_gr, pz_wi_same, pz_wi_X, pz_wl_gc, pz_wl_ga, pz_wl_gn, pz_wl_gi, pz_wl_gr, pz_wl_same, pz_wl_X, pz_wr_gc, pz_wr_ga, pz_wr_gn, pz_wr_gi, pz_wr_gl, pz_wr_same, pz_wr_X, so_120 hS, e39, x3, x6, x10, x18]
        (try simp (disch := omega) only [nI_clamp, pz_in_nI2, pz_in_nI2L, pv_gt, nI_add, nI_addL, nI_Ladd, pk_mul, nI_mulL, nI_Lmul, pk_sub, nI_subL, nI_Lsub, nI_inc, nI_clampL, Nat.add_sub_cancel, pz_wi_else, pz_wl_else, vu_eq, vu_ne, pz_wi_gc, pz_wi_ga, pz_wi_gn, pz_wi_gl, pz_wi_gr, pz_wi_same, pz_wi_X, pz_wl_gc, pz_wl_ga, pz_wl_gn, pz_wl_gi, pz_wl_gr, pz_wl_same, pz_wl_X, pz_wr_gc, pz_wr_ga, pz_wr_gn, pz_wr_gi, pz_wr_gl, pz_wr_same, pz_wr_X, e39, x3, x6, x10, x18])
        (try refine po_gP (Nat.le_of_ble_eq_true rfl) ?_)
        refine po_call (by omega) (w 0 _ (by decide +kernel) (by decide) _ _ ?_)
        rw [z0]
        refine pw_blk (mi := mz_191) (b := bz_191_7) rfl rfl ?_
        simp only [bz_191_7, pz_cut_t, pz_cut_f, pz_cut_n, pv_gt, pv_ts, pv_tn, ev_ifeq, pz_wi_gc, pz_wi_ga, pz_wi_gn, pz_wi_gl, pz_wi_gr, pz_wi_same, pz_wi_X, pz_wl_gc, pz_wl_ga, pz_wl_gn, pz_wl_gi, pz_wl_gr, pz_wl_same, pz_wl_X, pz_wr_gc, pz_wr_ga, pz_wr_gn, pz_wr_gi, pz_wr_gl, pz_wr_same, pz_wr_X, e39, x3, x6, x10, x18, bI_f]
        (try simp (disch := omega) only [nI_clamp, pz_in_nI2, pz_in_nI2L, pv_gt, nI_add, nI_addL, nI_Ladd, pk_mul, nI_mulL, nI_Lmul, pk_sub, nI_subL, nI_Lsub, nI_inc, nI_clampL, Nat.add_sub_cancel, pz_wi_else, pz_wl_else, vu_eq, vu_ne, pz_wi_gc, pz_wi_ga, pz_wi_gn, pz_wi_gl, pz_wi_gr, pz_wi_same, pz_wi_X, pz_wl_gc, pz_wl_ga, pz_wl_gn, pz_wl_gi, pz_wl_gr, pz_wl_same, pz_wl_X, pz_wr_gc, pz_wr_ga, pz_wr_gn, pz_wr_gi, pz_wr_gl, pz_wr_same, pz_wr_X, e39, x3, x6, x10, x18, bI_f])
        refine po_brP (fun q7 => ?_) (fun q7 => ?_)
        · skip
          (try simp (disch := omega) only [nI_ltI, nI_leI, nI_eq, nI_ltL, nI_leL, nI_eqL, nI_Llt, nI_Lle, nI_Leq, nI_eqm, nI_meq, nI_ltm, nI_lem, nI_mlt, nI_mle, lg0, lgl, lgg, lgle, lgge, Int32.not_lt, Int32.not_le, Int64.not_lt, Int64.not_le, not_false_eq_true, not_true_eq_false, Decidable.not_not, ge_iff_le, gt_iff_lt] at q7)
          refine pw_blk (mi := mz_191) (b := bz_191_30) rfl rfl ?_
          simp only [bz_191_30, pz_cut_t, pz_cut_f, pz_cut_n, pv_gt, pv_ts, pv_tn, ev_ald0, ev_eld0, ev_ldl1885434484, ev_cv1_11, pz_wi_gc, pz_wi_ga, pz_wi_gn, pz_wi_gl, pz_wi_gr, pz_wi_same, pz_wi_X, pz_wl_gc, pz_wl_ga, pz_wl_gn, pz_wl_gi, pz_wl_gr, pz_wl_same, pz_wl_X, pz_wr_gc, pz_wr_ga, pz_wr_gn, pz_wr_gi, pz_wr_gl, pz_wr_same, pz_wr_X, so_120 hS, e39, x3, x6, x10, x18]
          (try simp (disch := omega) only [nI_clamp, pz_in_nI2, pz_in_nI2L, pv_gt, nI_add, nI_addL, nI_Ladd, pk_mul, nI_mulL, nI_Lmul, pk_sub, nI_subL, nI_Lsub, nI_inc, nI_clampL, Nat.add_sub_cancel, pz_wi_else, pz_wl_else, vu_eq, vu_ne, pz_wi_gc, pz_wi_ga, pz_wi_gn, pz_wi_gl, pz_wi_gr, pz_wi_same, pz_wi_X, pz_wl_gc, pz_wl_ga, pz_wl_gn, pz_wl_gi, pz_wl_gr, pz_wl_same, pz_wl_X, pz_wr_gc, pz_wr_ga, pz_wr_gn, pz_wr_gi, pz_wr_gl, pz_wr_same, pz_wr_X, e39, x3, x6, x10, x18])
          (try refine po_gP (Nat.le_of_ble_eq_true rfl) ?_)
          refine po_call (by omega) (w 1 _ (by decide +kernel) (by decide) _ _ ?_)
          rw [z1]
          refine pw_blk (mi := mz_191) (b := bz_191_37) rfl rfl ?_
          simp only [bz_191_37, pz_cut_t, pz_cut_f, pz_cut_n, pv_gt, pv_ts, pv_tn, ev_ifeq, pz_wi_gc, pz_wi_ga, pz_wi_gn, pz_wi_gl, pz_wi_gr, pz_wi_same, pz_wi_X, pz_wl_gc, pz_wl_ga, pz_wl_gn, pz_wl_gi, pz_wl_gr, pz_wl_same, pz_wl_X, pz_wr_gc, pz_wr_ga, pz_wr_gn, pz_wr_gi, pz_wr_gl, pz_wr_same, pz_wr_X, e39, x3, x6, x10, x18, bI_t]
          (try simp (disch := omega) only [nI_clamp, pz_in_nI2, pz_in_nI2L, pv_gt, nI_add, nI_addL, nI_Ladd, pk_mul, nI_mulL, nI_Lmul, pk_sub, nI_subL, nI_Lsub, nI_inc, nI_clampL, Nat.add_sub_cancel, pz_wi_else, pz_wl_else, vu_eq, vu_ne, pz_wi_gc, pz_wi_ga, pz_wi_gn, pz_wi_gl, pz_wi_gr, pz_wi_same, pz_wi_X, pz_wl_gc, pz_wl_ga, pz_wl_gn, pz_wl_gi, pz_wl_gr, pz_wl_same, pz_wl_X, pz_wr_gc, pz_wr_ga, pz_wr_gn, pz_wr_gi, pz_wr_gl, pz_wr_same, pz_wr_X, e39, x3, x6, x10, x18, bI_t])
          refine po_brP (fun q37 => ?_) (fun q37 => ?_)
          · first
            | exact absurd q37 (by decide)
            | exact absurd trivial q37
            | exact q37.elim
            | (exfalso; (try simp (disch := omega) only [nI_ltI, nI_leI, nI_eq, nI_ltL, nI_leL, nI_eqL, nI_Llt, nI_Lle, nI_Leq, nI_eqm, nI_meq, nI_ltm, nI_lem, nI_mlt, nI_mle, lg0, lgl, lgg, lgle, lgge, Int32.not_lt, Int32.not_le, Int64.not_lt, Int64.not_le, not_false_eq_true, not_true_eq_false, Decidable.not_not, ge_iff_le, gt_iff_lt] at q37) <;> omega)
            | exact absurd q37 (by with_reducible assumption)
            | exact absurd (by with_reducible assumption) q37
            | exact absurd (Decidable.not_not.mp q37) (by with_reducible assumption)
            | exact absurd (by with_reducible assumption) (Int32.not_le.mpr q37)
            | exact absurd (by with_reducible assumption) (Int32.not_lt.mpr q37)
          · skip
            (try simp (disch := omega) only [nI_ltI, nI_leI, nI_eq, nI_ltL, nI_leL, nI_eqL, nI_Llt, nI_Lle, nI_Leq, nI_eqm, nI_meq, nI_ltm, nI_lem, nI_mlt, nI_mle, lg0, lgl, lgg, lgle, lgge, Int32.not_lt, Int32.not_le, Int64.not_lt, Int64.not_le, not_false_eq_true, not_true_eq_false, Decidable.not_not, ge_iff_le, gt_iff_lt] at q37)
            refine pw_blk (mi := mz_191) (b := bz_191_40) rfl rfl ?_
            simp only [bz_191_40, pz_cut_t, pz_cut_f, pz_cut_n, pv_gt, pv_ts, pv_tn, ev_ald0, ev_eld0, ev_gf11_2, ev_gf11_0, ea_iald, ev_ic4, ev_ic_ne, pz_wi_gc, pz_wi_ga, pz_wi_gn, pz_wi_gl, pz_wi_gr, pz_wi_same, pz_wi_X, pz_wl_gc, pz_wl_ga, pz_wl_gn, pz_wl_gi, pz_wl_gr, pz_wl_same, pz_wl_X, pz_wr_gc, pz_wr_ga, pz_wr_gn, pz_wr_gi, pz_wr_gl, pz_wr_same, pz_wr_X, so_120 hS, sr_120_14 hS, sa_125 hS, sn_125 hS, e39, x3, x6, x10, x18, sa_124 hS, sn_124 hS, sa_126 hS, sn_126 hS, sa_133 hS, sn_133 hS]
            (try simp (disch := omega) only [nI_clamp, pz_in_nI2, pz_in_nI2L, pv_gt, nI_add, nI_addL, nI_Ladd, pk_mul, nI_mulL, nI_Lmul, pk_sub, nI_subL, nI_Lsub, nI_inc, nI_clampL, Nat.add_sub_cancel, pz_wi_else, pz_wl_else, vu_eq, vu_ne, pz_wi_gc, pz_wi_ga, pz_wi_gn, pz_wi_gl, pz_wi_gr, pz_wi_same, pz_wi_X, pz_wl_gc, pz_wl_ga, pz_wl_gn, pz_wl_gi, pz_wl_gr, pz_wl_same, pz_wl_X, pz_wr_gc, pz_wr_ga, pz_wr_gn, pz_wr_gi, pz_wr_gl, pz_wr_same, pz_wr_X, e39, x3, x6, x10, x18])
            (try refine po_gI (by first | exact pz_in_nI (by omega) (by decide) | decide | assumption) ?_)
            refine po_brP (fun q40 => ?_) (fun q40 => ?_)
            · skip
              (try simp (disch := omega) only [nI_ltI, nI_leI, nI_eq, nI_ltL, nI_leL, nI_eqL, nI_Llt, nI_Lle, nI_Leq, nI_eqm, nI_meq, nI_ltm, nI_lem, nI_mlt, nI_mle, lg0, lgl, lgg, lgle, lgge, Int32.not_lt, Int32.not_le, Int64.not_lt, Int64.not_le, not_false_eq_true, not_true_eq_false, Decidable.not_not, ge_iff_le, gt_iff_lt] at q40)
              refine pw_blk (mi := mz_191) (b := bz_191_57) rfl rfl ?_
              simp only [bz_191_57, pz_cut_t, pz_cut_f, pz_cut_n, pv_gt, pv_ts, pv_tn, ev_ic0, ev_nil, pz_wi_gc, pz_wi_ga, pz_wi_gn, pz_wi_gl, pz_wi_gr, pz_wi_same, pz_wi_X, pz_wl_gc, pz_wl_ga, pz_wl_gn, pz_wl_gi, pz_wl_gr, pz_wl_same, pz_wl_X, pz_wr_gc, pz_wr_ga, pz_wr_gn, pz_wr_gi, pz_wr_gl, pz_wr_same, pz_wr_X, e39, x3, x6, x10, x18]
              (try simp (disch := omega) only [nI_clamp, pz_in_nI2, pz_in_nI2L, pv_gt, nI_add, nI_addL, nI_Ladd, pk_mul, nI_mulL, nI_Lmul, pk_sub, nI_subL, nI_Lsub, nI_inc, nI_clampL, Nat.add_sub_cancel, pz_wi_else, pz_wl_else, vu_eq, vu_ne, pz_wi_gc, pz_wi_ga, pz_wi_gn, pz_wi_gl, pz_wi_gr, pz_wi_same, pz_wi_X, pz_wl_gc, pz_wl_ga, pz_wl_gn, pz_wl_gi, pz_wl_gr, pz_wl_same, pz_wl_X, pz_wr_gc, pz_wr_ga, pz_wr_gn, pz_wr_gi, pz_wr_gl, pz_wr_same, pz_wr_X, e39, x3, x6, x10, x18])
              refine po_go ?_
              refine pw_blk (mi := mz_191) (b := bz_191_58) rfl rfl ?_
              simp only [bz_191_58, pz_cut_t, pz_cut_f, pz_cut_n, pv_gt, pv_ts, pv_tn, ev_iret1, pz_wi_gc, pz_wi_ga, pz_wi_gn, pz_wi_gl, pz_wi_gr, pz_wi_same, pz_wi_X, pz_wl_gc, pz_wl_ga, pz_wl_gn, pz_wl_gi, pz_wl_gr, pz_wl_same, pz_wl_X, pz_wr_gc, pz_wr_ga, pz_wr_gn, pz_wr_gi, pz_wr_gl, pz_wr_same, pz_wr_X, e39, x3, x6, x10, x18]
              (try simp (disch := omega) only [nI_clamp, pz_in_nI2, pz_in_nI2L, pv_gt, nI_add, nI_addL, nI_Ladd, pk_mul, nI_mulL, nI_Lmul, pk_sub, nI_subL, nI_Lsub, nI_inc, nI_clampL, Nat.add_sub_cancel, pz_wi_else, pz_wl_else, vu_eq, vu_ne, pz_wi_gc, pz_wi_ga, pz_wi_gn, pz_wi_gl, pz_wi_gr, pz_wi_same, pz_wi_X, pz_wl_gc, pz_wl_ga, pz_wl_gn, pz_wl_gi, pz_wl_gr, pz_wl_same, pz_wl_X, pz_wr_gc, pz_wr_ga, pz_wr_gn, pz_wr_gi, pz_wr_gl, pz_wr_same, pz_wr_X, e39, x3, x6, x10, x18])
              (try refine po_gP (by first | decide | assumption) ?_)
              exact po_ret k
            · first
              | exact absurd q40 (by decide)
              | exact absurd trivial q40
              | exact q40.elim
              | (exfalso; (try simp (disch := omega) only [nI_ltI, nI_leI, nI_eq, nI_ltL, nI_leL, nI_eqL, nI_Llt, nI_Lle, nI_Leq, nI_eqm, nI_meq, nI_ltm, nI_lem, nI_mlt, nI_mle, lg0, lgl, lgg, lgle, lgge, Int32.not_lt, Int32.not_le, Int64.not_lt, Int64.not_le, not_false_eq_true, not_true_eq_false, Decidable.not_not, ge_iff_le, gt_iff_lt] at q40) <;> omega)
              | exact absurd q40 (by with_reducible assumption)
              | exact absurd (by with_reducible assumption) q40
              | exact absurd (Decidable.not_not.mp q40) (by with_reducible assumption)
              | exact absurd (by with_reducible assumption) (Int32.not_le.mpr q40)
              | exact absurd (by with_reducible assumption) (Int32.not_lt.mpr q40)
        · first
          | exact absurd q7 (by decide)
          | exact absurd trivial q7
          | exact q7.elim
          | (exfalso; (try simp (disch := omega) only [nI_ltI, nI_leI, nI_eq, nI_ltL, nI_leL, nI_eqL, nI_Llt, nI_Lle, nI_Leq, nI_eqm, nI_meq, nI_ltm, nI_lem, nI_mlt, nI_mle, lg0, lgl, lgg, lgle, lgge, Int32.not_lt, Int32.not_le, Int64.not_lt, Int64.not_le, not_false_eq_true, not_true_eq_false, Decidable.not_not, ge_iff_le, gt_iff_lt] at q7) <;> omega)
          | exact absurd q7 (by with_reducible assumption)
          | exact absurd (by with_reducible assumption) q7
          | exact absurd (Decidable.not_not.mp q7) (by with_reducible assumption)
          | exact absurd (by with_reducible assumption) (Int32.not_le.mpr q7)
          | exact absurd (by with_reducible assumption) (Int32.not_lt.mpr q7)
    | false =>
      rw [if_neg (by rw [z1]; decide)] at k
      cases z13 : isWs 13 σ with
      | true =>
        rw [if_pos z13] at k
        by_cases q : c.N = 6
        · rw [decide_eq_true q] at k
          refine pm_ent (L := [some (.ref 120)]) rfl (Nat.le_of_ble_eq_true rfl) ?_
          refine pw_blk (mi := mz_191) (b := bz_191_0) rfl rfl ?_
          simp only [bz_191_0, pz_cut_t, pz_cut_f, pz_cut_n, pv_gt, pv_ts, pv_tn, ev_ald0, ev_eld0, ev_ldl1751474544, ev_cv1_11, pz_wi_gc, pz_wi_ga, pz_wi_gn, pz_wi_gl, pz_wi_gr, pz_wi_same, pz_wi_X, pz_wl_gc, pz_wl_ga, pz_wl_gn, pz_wl_gi, pz_wl_gr, pz_wl_same, pz_wl_X, pz_wr_gc, pz_wr_ga, pz_wr_gn, pz_wr_gi, pz_wr_gl, pz_wr_same, pz_wr_X, so_120 hS, e39, x3, x6, x10, x18, q]
          (try simp (disch := omega) only [nI_clamp, pz_in_nI2, pz_in_nI2L, pv_gt, nI_add, nI_addL, nI_Ladd, pk_mul, nI_mulL, nI_Lmul, pk_sub, nI_subL, nI_Lsub, nI_inc, nI_clampL, Nat.add_sub_cancel, pz_wi_else, pz_wl_else, vu_eq, vu_ne, pz_wi_gc, pz_wi_ga, pz_wi_gn, pz_wi_gl, pz_wi_gr, pz_wi_same, pz_wi_X, pz_wl_gc, pz_wl_ga, pz_wl_gn, pz_wl_gi, pz_wl_gr, pz_wl_same, pz_wl_X, pz_wr_gc, pz_wr_ga, pz_wr_gn, pz_wr_gi, pz_wr_gl, pz_wr_same, pz_wr_X, e39, x3, x6, x10, x18, q])
          (try refine po_gP (Nat.le_of_ble_eq_true rfl) ?_)
          refine po_call (by omega) (w 0 _ (by decide +kernel) (by decide) _ _ ?_)
          rw [z0]
          refine pw_blk (mi := mz_191) (b := bz_191_7) rfl rfl ?_
          simp only [bz_191_7, pz_cut_t, pz_cut_f, pz_cut_n, pv_gt, pv_ts, pv_tn, ev_ifeq, pz_wi_gc, pz_wi_ga, pz_wi_gn, pz_wi_gl, pz_wi_gr, pz_wi_same, pz_wi_X, pz_wl_gc, pz_wl_ga, pz_wl_gn, pz_wl_gi, pz_wl_gr, pz_wl_same, pz_wl_X, pz_wr_gc, pz_wr_ga, pz_wr_gn, pz_wr_gi, pz_wr_gl, pz_wr_same, pz_wr_X, e39, x3, x6, x10, x18, q, bI_f]
          (try simp (disch := omega) only [nI_clamp, pz_in_nI2, pz_in_nI2L, pv_gt, nI_add, nI_addL, nI_Ladd, pk_mul, nI_mulL, nI_Lmul, pk_sub, nI_subL, nI_Lsub, nI_inc, nI_clampL, Nat.add_sub_cancel, pz_wi_else, pz_wl_else, vu_eq, vu_ne, pz_wi_gc, pz_wi_ga, pz_wi_gn, pz_wi_gl, pz_wi_gr, pz_wi_same, pz_wi_X, pz_wl_gc, pz_wl_ga, pz_wl_gn, pz_wl_gi, pz_wl_gr, pz_wl_same, pz_wl_X, pz_wr_gc, pz_wr_ga, pz_wr_gn, pz_wr_gi, pz_wr_gl, pz_wr_same, pz_wr_X, e39, x3, x6, x10, x18, q, bI_f])
          refine po_brP (fun q7 => ?_) (fun q7 => ?_)
          · skip
            (try simp (disch := omega) only [nI_ltI, nI_leI, nI_eq, nI_ltL, nI_leL, nI_eqL, nI_Llt, nI_Lle, nI_Leq, nI_eqm, nI_meq, nI_ltm, nI_lem, nI_mlt, nI_mle, lg0, lgl, lgg, lgle, lgge, Int32.not_lt, Int32.not_le, Int64.not_lt, Int64.not_le, not_false_eq_true, not_true_eq_false, Decidable.not_not, ge_iff_le, gt_iff_lt] at q7)
            refine pw_blk (mi := mz_191) (b := bz_191_30) rfl rfl ?_
            simp only [bz_191_30, pz_cut_t, pz_cut_f, pz_cut_n, pv_gt, pv_ts, pv_tn, ev_ald0, ev_eld0, ev_ldl1885434484, ev_cv1_11, pz_wi_gc, pz_wi_ga, pz_wi_gn, pz_wi_gl, pz_wi_gr, pz_wi_same, pz_wi_X, pz_wl_gc, pz_wl_ga, pz_wl_gn, pz_wl_gi, pz_wl_gr, pz_wl_same, pz_wl_X, pz_wr_gc, pz_wr_ga, pz_wr_gn, pz_wr_gi, pz_wr_gl, pz_wr_same, pz_wr_X, so_120 hS, e39, x3, x6, x10, x18, q]
            (try simp (disch := omega) only [nI_clamp, pz_in_nI2, pz_in_nI2L, pv_gt, nI_add, nI_addL, nI_Ladd, pk_mul, nI_mulL, nI_Lmul, pk_sub, nI_subL, nI_Lsub, nI_inc, nI_clampL, Nat.add_sub_cancel, pz_wi_else, pz_wl_else, vu_eq, vu_ne, pz_wi_gc, pz_wi_ga, pz_wi_gn, pz_wi_gl, pz_wi_gr, pz_wi_same, pz_wi_X, pz_wl_gc, pz_wl_ga, pz_wl_gn, pz_wl_gi, pz_wl_gr, pz_wl_same, pz_wl_X, pz_wr_gc, pz_wr_ga, pz_wr_gn, pz_wr_gi, pz_wr_gl, pz_wr_same, pz_wr_X, e39, x3, x6, x10, x18, q])
            (try refine po_gP (Nat.le_of_ble_eq_true rfl) ?_)
            refine po_call (by omega) (w 1 _ (by decide +kernel) (by decide) _ _ ?_)
            rw [z1]
            refine pw_blk (mi := mz_191) (b := bz_191_37) rfl rfl ?_
            simp only [bz_191_37, pz_cut_t, pz_cut_f, pz_cut_n, pv_gt, pv_ts, pv_tn, ev_ifeq, pz_wi_gc, pz_wi_ga, pz_wi_gn, pz_wi_gl, pz_wi_gr, pz_wi_same, pz_wi_X, pz_wl_gc, pz_wl_ga, pz_wl_gn, pz_wl_gi, pz_wl_gr, pz_wl_same, pz_wl_X, pz_wr_gc, pz_wr_ga, pz_wr_gn, pz_wr_gi, pz_wr_gl, pz_wr_same, pz_wr_X, e39, x3, x6, x10, x18, q, bI_f]
            (try simp (disch := omega) only [nI_clamp, pz_in_nI2, pz_in_nI2L, pv_gt, nI_add, nI_addL, nI_Ladd, pk_mul, nI_mulL, nI_Lmul, pk_sub, nI_subL, nI_Lsub, nI_inc, nI_clampL, Nat.add_sub_cancel, pz_wi_else, pz_wl_else, vu_eq, vu_ne, pz_wi_gc, pz_wi_ga, pz_wi_gn, pz_wi_gl, pz_wi_gr, pz_wi_same, pz_wi_X, pz_wl_gc, pz_wl_ga, pz_wl_gn, pz_wl_gi, pz_wl_gr, pz_wl_same, pz_wl_X, pz_wr_gc, pz_wr_ga, pz_wr_gn, pz_wr_gi, pz_wr_gl, pz_wr_same, pz_wr_X, e39, x3, x6, x10, x18, q, bI_f])
            refine po_brP (fun q37 => ?_) (fun q37 => ?_)
            · skip
              (try simp (disch := omega) only [nI_ltI, nI_leI, nI_eq, nI_ltL, nI_leL, nI_eqL, nI_Llt, nI_Lle, nI_Leq, nI_eqm, nI_meq, nI_ltm, nI_lem, nI_mlt, nI_mle, lg0, lgl, lgg, lgle, lgge, Int32.not_lt, Int32.not_le, Int64.not_lt, Int64.not_le, not_false_eq_true, not_true_eq_false, Decidable.not_not, ge_iff_le, gt_iff_lt] at q37)
              refine pw_blk (mi := mz_191) (b := bz_191_59) rfl rfl ?_
              simp only [bz_191_59, pz_cut_t, pz_cut_f, pz_cut_n, pv_gt, pv_ts, pv_tn, ev_ald0, ev_eld0, ev_ldl1886151022, ev_cv1_11, pz_wi_gc, pz_wi_ga, pz_wi_gn, pz_wi_gl, pz_wi_gr, pz_wi_same, pz_wi_X, pz_wl_gc, pz_wl_ga, pz_wl_gn, pz_wl_gi, pz_wl_gr, pz_wl_same, pz_wl_X, pz_wr_gc, pz_wr_ga, pz_wr_gn, pz_wr_gi, pz_wr_gl, pz_wr_same, pz_wr_X, so_120 hS, e39, x3, x6, x10, x18, q]
              (try simp (disch := omega) only [nI_clamp, pz_in_nI2, pz_in_nI2L, pv_gt, nI_add, nI_addL, nI_Ladd, pk_mul, nI_mulL, nI_Lmul, pk_sub, nI_subL, nI_Lsub, nI_inc, nI_clampL, Nat.add_sub_cancel, pz_wi_else, pz_wl_else, vu_eq, vu_ne, pz_wi_gc, pz_wi_ga, pz_wi_gn, pz_wi_gl, pz_wi_gr, pz_wi_same, pz_wi_X, pz_wl_gc, pz_wl_ga, pz_wl_gn, pz_wl_gi, pz_wl_gr, pz_wl_same, pz_wl_X, pz_wr_gc, pz_wr_ga, pz_wr_gn, pz_wr_gi, pz_wr_gl, pz_wr_same, pz_wr_X, e39, x3, x6, x10, x18, q])
              (try refine po_gP (Nat.le_of_ble_eq_true rfl) ?_)
              refine po_call (by omega) (w 13 _ (by decide +kernel) (by decide) _ _ ?_)
              rw [z13]
              refine pw_blk (mi := mz_191) (b := bz_191_66) rfl rfl ?_
              simp only [bz_191_66, pz_cut_t, pz_cut_f, pz_cut_n, pv_gt, pv_ts, pv_tn, ev_ifeq, pz_wi_gc, pz_wi_ga, pz_wi_gn, pz_wi_gl, pz_wi_gr, pz_wi_same, pz_wi_X, pz_wl_gc, pz_wl_ga, pz_wl_gn, pz_wl_gi, pz_wl_gr, pz_wl_same, pz_wl_X, pz_wr_gc, pz_wr_ga, pz_wr_gn, pz_wr_gi, pz_wr_gl, pz_wr_same, pz_wr_X, e39, x3, x6, x10, x18, q, bI_t]
              (try simp (disch := omega) only [nI_clamp, pz_in_nI2, pz_in_nI2L, pv_gt, nI_add, nI_addL, nI_Ladd, pk_mul, nI_mulL, nI_Lmul, pk_sub, nI_subL, nI_Lsub, nI_inc, nI_clampL, Nat.add_sub_cancel, pz_wi_else, pz_wl_else, vu_eq, vu_ne, pz_wi_gc, pz_wi_ga, pz_wi_gn, pz_wi_gl, pz_wi_gr, pz_wi_same, pz_wi_X, pz_wl_gc, pz_wl_ga, pz_wl_gn, pz_wl_gi, pz_wl_gr, pz_wl_same, pz_wl_X, pz_wr_gc, pz_wr_ga, pz_wr_gn, pz_wr_gi, pz_wr_gl, pz_wr_same, pz_wr_X, e39, x3, x6, x10, x18, q, bI_t])
              refine po_brP (fun q66 => ?_) (fun q66 => ?_)
              · first
                | exact absurd q66 (by decide)
                | exact absurd trivial q66
                | exact q66.elim
                | (exfalso; (try simp (disch := omega) only [nI_ltI, nI_leI, nI_eq, nI_ltL, nI_leL, nI_eqL, nI_Llt, nI_Lle, nI_Leq, nI_eqm, nI_meq, nI_ltm, nI_lem, nI_mlt, nI_mle, lg0, lgl, lgg, lgle, lgge, Int32.not_lt, Int32.not_le, Int64.not_lt, Int64.not_le, not_false_eq_true, not_true_eq_false, Decidable.not_not, ge_iff_le, gt_iff_lt] at q66) <;> omega)
                | exact absurd q66 (by with_reducible assumption)
                | exact absurd (by with_reducible assumption) q66
                | exact absurd (Decidable.not_not.mp q66) (by with_reducible assumption)
                | exact absurd (by with_reducible assumption) (Int32.not_le.mpr q66)
                | exact absurd (by with_reducible assumption) (Int32.not_lt.mpr q66)
              · skip
                (try simp (disch := omega) only [nI_ltI, nI_leI, nI_eq, nI_ltL, nI_leL, nI_eqL, nI_Llt, nI_Lle, nI_Leq, nI_eqm, nI_meq, nI_ltm, nI_lem, nI_mlt, nI_mle, lg0, lgl, lgg, lgle, lgge, Int32.not_lt, Int32.not_le, Int64.not_lt, Int64.not_le, not_false_eq_true, not_true_eq_false, Decidable.not_not, ge_iff_le, gt_iff_lt] at q66)
                refine pw_blk (mi := mz_191) (b := bz_191_69) rfl rfl ?_
                simp only [bz_191_69, pz_cut_t, pz_cut_f, pz_cut_n, pv_gt, pv_ts, pv_tn, ev_ald0, ev_eld0, ev_gf11_2, ev_gf11_0, ea_iald, ev_bp6, ev_ic_ne, pz_wi_gc, pz_wi_ga, pz_wi_gn, pz_wi_gl, pz_wi_gr, pz_wi_same, pz_wi_X, pz_wl_gc, pz_wl_ga, pz_wl_gn, pz_wl_gi, pz_wl_gr, pz_wl_same, pz_wl_X, pz_wr_gc, pz_wr_ga, pz_wr_gn, pz_wr_gi, pz_wr_gl, pz_wr_same, pz_wr_X, so_120 hS, sr_120_15 hS, sa_126 hS, sn_126 hS, e39, x3, x6, x10, x18, q, sa_124 hS, sn_124 hS, sa_125 hS, sn_125 hS, sa_133 hS, sn_133 hS]
                (try simp (disch := omega) only [nI_clamp, pz_in_nI2, pz_in_nI2L, pv_gt, nI_add, nI_addL, nI_Ladd, pk_mul, nI_mulL, nI_Lmul, pk_sub, nI_subL, nI_Lsub, nI_inc, nI_clampL, Nat.add_sub_cancel, pz_wi_else, pz_wl_else, vu_eq, vu_ne, pz_wi_gc, pz_wi_ga, pz_wi_gn, pz_wi_gl, pz_wi_gr, pz_wi_same, pz_wi_X, pz_wl_gc, pz_wl_ga, pz_wl_gn, pz_wl_gi, pz_wl_gr, pz_wl_same, pz_wl_X, pz_wr_gc, pz_wr_ga, pz_wr_gn, pz_wr_gi, pz_wr_gl, pz_wr_same, pz_wr_X, e39, x3, x6, x10, x18, q])
                (try refine po_gI (by first | exact pz_in_nI (by omega) (by decide) | decide | assumption) ?_)
                refine po_brP (fun q69 => ?_) (fun q69 => ?_)
                · first
                  | exact absurd q69 (by decide)
                  | exact absurd trivial q69
                  | exact q69.elim
                  | (exfalso; (try simp (disch := omega) only [nI_ltI, nI_leI, nI_eq, nI_ltL, nI_leL, nI_eqL, nI_Llt, nI_Lle, nI_Leq, nI_eqm, nI_meq, nI_ltm, nI_lem, nI_mlt, nI_mle, lg0, lgl, lgg, lgle, lgge, Int32.not_lt, Int32.not_le, Int64.not_lt, Int64.not_le, not_false_eq_true, not_true_eq_false, Decidable.not_not, ge_iff_le, gt_iff_lt] at q69) <;> omega)
                  | exact absurd q69 (by with_reducible assumption)
                  | exact absurd (by with_reducible assumption) q69
                  | exact absurd (Decidable.not_not.mp q69) (by with_reducible assumption)
                  | exact absurd (by with_reducible assumption) (Int32.not_le.mpr q69)
                  | exact absurd (by with_reducible assumption) (Int32.not_lt.mpr q69)
                · skip
                  (try simp (disch := omega) only [nI_ltI, nI_leI, nI_eq, nI_ltL, nI_leL, nI_eqL, nI_Llt, nI_Lle, nI_Leq, nI_eqm, nI_meq, nI_ltm, nI_lem, nI_mlt, nI_mle, lg0, lgl, lgg, lgle, lgge, Int32.not_lt, Int32.not_le, Int64.not_lt, Int64.not_le, not_false_eq_true, not_true_eq_false, Decidable.not_not, ge_iff_le, gt_iff_lt] at q69)
                  refine pw_blk (mi := mz_191) (b := bz_191_83) rfl rfl ?_
                  simp only [bz_191_83, pz_cut_t, pz_cut_f, pz_cut_n, pv_gt, pv_ts, pv_tn, ev_ic1, ev_goto, pz_wi_gc, pz_wi_ga, pz_wi_gn, pz_wi_gl, pz_wi_gr, pz_wi_same, pz_wi_X, pz_wl_gc, pz_wl_ga, pz_wl_gn, pz_wl_gi, pz_wl_gr, pz_wl_same, pz_wl_X, pz_wr_gc, pz_wr_ga, pz_wr_gn, pz_wr_gi, pz_wr_gl, pz_wr_same, pz_wr_X, e39, x3, x6, x10, x18, q]
                  (try simp (disch := omega) only [nI_clamp, pz_in_nI2, pz_in_nI2L, pv_gt, nI_add, nI_addL, nI_Ladd, pk_mul, nI_mulL, nI_Lmul, pk_sub, nI_subL, nI_Lsub, nI_inc, nI_clampL, Nat.add_sub_cancel, pz_wi_else, pz_wl_else, vu_eq, vu_ne, pz_wi_gc, pz_wi_ga, pz_wi_gn, pz_wi_gl, pz_wi_gr, pz_wi_same, pz_wi_X, pz_wl_gc, pz_wl_ga, pz_wl_gn, pz_wl_gi, pz_wl_gr, pz_wl_same, pz_wl_X, pz_wr_gc, pz_wr_ga, pz_wr_gn, pz_wr_gi, pz_wr_gl, pz_wr_same, pz_wr_X, e39, x3, x6, x10, x18, q])
                  refine po_go ?_
                  refine pw_blk (mi := mz_191) (b := bz_191_88) rfl rfl ?_
                  simp only [bz_191_88, pz_cut_t, pz_cut_f, pz_cut_n, pv_gt, pv_ts, pv_tn, ev_iret1, pz_wi_gc, pz_wi_ga, pz_wi_gn, pz_wi_gl, pz_wi_gr, pz_wi_same, pz_wi_X, pz_wl_gc, pz_wl_ga, pz_wl_gn, pz_wl_gi, pz_wl_gr, pz_wl_same, pz_wl_X, pz_wr_gc, pz_wr_ga, pz_wr_gn, pz_wr_gi, pz_wr_gl, pz_wr_same, pz_wr_X, e39, x3, x6, x10, x18, q]
                  (try simp (disch := omega) only [nI_clamp, pz_in_nI2, pz_in_nI2L, pv_gt, nI_add, nI_addL, nI_Ladd, pk_mul, nI_mulL, nI_Lmul, pk_sub, nI_subL, nI_Lsub, nI_inc, nI_clampL, Nat.add_sub_cancel, pz_wi_else, pz_wl_else, vu_eq, vu_ne, pz_wi_gc, pz_wi_ga, pz_wi_gn, pz_wi_gl, pz_wi_gr, pz_wi_same, pz_wi_X, pz_wl_gc, pz_wl_ga, pz_wl_gn, pz_wl_gi, pz_wl_gr, pz_wl_same, pz_wl_X, pz_wr_gc, pz_wr_ga, pz_wr_gn, pz_wr_gi, pz_wr_gl, pz_wr_same, pz_wr_X, e39, x3, x6, x10, x18, q])
                  (try refine po_gP (by first | decide | assumption) ?_)
                  exact po_ret k
            · first
              | exact absurd q37 (by decide)
              | exact absurd trivial q37
              | exact q37.elim
              | (exfalso; (try simp (disch := omega) only [nI_ltI, nI_leI, nI_eq, nI_ltL, nI_leL, nI_eqL, nI_Llt, nI_Lle, nI_Leq, nI_eqm, nI_meq, nI_ltm, nI_lem, nI_mlt, nI_mle, lg0, lgl, lgg, lgle, lgge, Int32.not_lt, Int32.not_le, Int64.not_lt, Int64.not_le, not_false_eq_true, not_true_eq_false, Decidable.not_not, ge_iff_le, gt_iff_lt] at q37) <;> omega)
              | exact absurd q37 (by with_reducible assumption)
              | exact absurd (by with_reducible assumption) q37
              | exact absurd (Decidable.not_not.mp q37) (by with_reducible assumption)
              | exact absurd (by with_reducible assumption) (Int32.not_le.mpr q37)
              | exact absurd (by with_reducible assumption) (Int32.not_lt.mpr q37)
          · first
            | exact absurd q7 (by decide)
            | exact absurd trivial q7
            | exact q7.elim
            | (exfalso; (try simp (disch := omega) only [nI_ltI, nI_leI, nI_eq, nI_ltL, nI_leL, nI_eqL, nI_Llt, nI_Lle, nI_Leq, nI_eqm, nI_meq, nI_ltm, nI_lem, nI_mlt, nI_mle, lg0, lgl, lgg, lgle, lgge, Int32.not_lt, Int32.not_le, Int64.not_lt, Int64.not_le, not_false_eq_true, not_true_eq_false, Decidable.not_not, ge_iff_le, gt_iff_lt] at q7) <;> omega)
            | exact absurd q7 (by with_reducible assumption)
            | exact absurd (by with_reducible assumption) q7
            | exact absurd (Decidable.not_not.mp q7) (by with_reducible assumption)
            | exact absurd (by with_reducible assumption) (Int32.not_le.mpr q7)
            | exact absurd (by with_reducible assumption) (Int32.not_lt.mpr q7)
        · rw [decide_eq_false q] at k
          refine pm_ent (L := [some (.ref 120)]) rfl (Nat.le_of_ble_eq_true rfl) ?_
          refine pw_blk (mi := mz_191) (b := bz_191_0) rfl rfl ?_
          simp only [bz_191_0, pz_cut_t, pz_cut_f, pz_cut_n, pv_gt, pv_ts, pv_tn, ev_ald0, ev_eld0, ev_ldl1751474544, ev_cv1_11, pz_wi_gc, pz_wi_ga, pz_wi_gn, pz_wi_gl, pz_wi_gr, pz_wi_same, pz_wi_X, pz_wl_gc, pz_wl_ga, pz_wl_gn, pz_wl_gi, pz_wl_gr, pz_wl_same, pz_wl_X, pz_wr_gc, pz_wr_ga, pz_wr_gn, pz_wr_gi, pz_wr_gl, pz_wr_same, pz_wr_X, so_120 hS, e39, x3, x6, x10, x18]
          (try simp (disch := omega) only [nI_clamp, pz_in_nI2, pz_in_nI2L, pv_gt, nI_add, nI_addL, nI_Ladd, pk_mul, nI_mulL, nI_Lmul, pk_sub, nI_subL, nI_Lsub, nI_inc, nI_clampL, Nat.add_sub_cancel, pz_wi_else, pz_wl_else, vu_eq, vu_ne, pz_wi_gc, pz_wi_ga, pz_wi_gn, pz_wi_gl, pz_wi_gr, pz_wi_same, pz_wi_X, pz_wl_gc, pz_wl_ga, pz_wl_gn, pz_wl_gi, pz_wl_gr, pz_wl_same, pz_wl_X, pz_wr_gc, pz_wr_ga, pz_wr_gn, pz_wr_gi, pz_wr_gl, pz_wr_same, pz_wr_X, e39, x3, x6, x10, x18])
          (try refine po_gP (Nat.le_of_ble_eq_true rfl) ?_)
          refine po_call (by omega) (w 0 _ (by decide +kernel) (by decide) _ _ ?_)
          rw [z0]
          refine pw_blk (mi := mz_191) (b := bz_191_7) rfl rfl ?_
          simp only [bz_191_7, pz_cut_t, pz_cut_f, pz_cut_n, pv_gt, pv_ts, pv_tn, ev_ifeq, pz_wi_gc, pz_wi_ga, pz_wi_gn, pz_wi_gl, pz_wi_gr, pz_wi_same, pz_wi_X, pz_wl_gc, pz_wl_ga, pz_wl_gn, pz_wl_gi, pz_wl_gr, pz_wl_same, pz_wl_X, pz_wr_gc, pz_wr_ga, pz_wr_gn, pz_wr_gi, pz_wr_gl, pz_wr_same, pz_wr_X, e39, x3, x6, x10, x18, bI_f]
          (try simp (disch := omega) only [nI_clamp, pz_in_nI2, pz_in_nI2L, pv_gt, nI_add, nI_addL, nI_Ladd, pk_mul, nI_mulL, nI_Lmul, pk_sub, nI_subL, nI_Lsub, nI_inc, nI_clampL, Nat.add_sub_cancel, pz_wi_else, pz_wl_else, vu_eq, vu_ne, pz_wi_gc, pz_wi_ga, pz_wi_gn, pz_wi_gl, pz_wi_gr, pz_wi_same, pz_wi_X, pz_wl_gc, pz_wl_ga, pz_wl_gn, pz_wl_gi, pz_wl_gr, pz_wl_same, pz_wl_X, pz_wr_gc, pz_wr_ga, pz_wr_gn, pz_wr_gi, pz_wr_gl, pz_wr_same, pz_wr_X, e39, x3, x6, x10, x18, bI_f])
          refine po_brP (fun q7 => ?_) (fun q7 => ?_)
          · skip
            (try simp (disch := omega) only [nI_ltI, nI_leI, nI_eq, nI_ltL, nI_leL, nI_eqL, nI_Llt, nI_Lle, nI_Leq, nI_eqm, nI_meq, nI_ltm, nI_lem, nI_mlt, nI_mle, lg0, lgl, lgg, lgle, lgge, Int32.not_lt, Int32.not_le, Int64.not_lt, Int64.not_le, not_false_eq_true, not_true_eq_false, Decidable.not_not, ge_iff_le, gt_iff_lt] at q7)
            refine pw_blk (mi := mz_191) (b := bz_191_30) rfl rfl ?_
            simp only [bz_191_30, pz_cut_t, pz_cut_f, pz_cut_n, pv_gt, pv_ts, pv_tn, ev_ald0, ev_eld0, ev_ldl1885434484, ev_cv1_11, pz_wi_gc, pz_wi_ga, pz_wi_gn, pz_wi_gl, pz_wi_gr, pz_wi_same, pz_wi_X, pz_wl_gc, pz_wl_ga, pz_wl_gn, pz_wl_gi, pz_wl_gr, pz_wl_same, pz_wl_X, pz_wr_gc, pz_wr_ga, pz_wr_gn, pz_wr_gi, pz_wr_gl, pz_wr_same, pz_wr_X, so_120 hS, e39, x3, x6, x10, x18]
            (try simp (disch := omega) only [nI_clamp, pz_in_nI2, pz_in_nI2L, pv_gt, nI_add, nI_addL, nI_Ladd, pk_mul, nI_mulL, nI_Lmul, pk_sub, nI_subL, nI_Lsub, nI_inc, nI_clampL, Nat.add_sub_cancel, pz_wi_else, pz_wl_else, vu_eq, vu_ne, pz_wi_gc, pz_wi_ga, pz_wi_gn, pz_wi_gl, pz_wi_gr, pz_wi_same, pz_wi_X, pz_wl_gc, pz_wl_ga, pz_wl_gn, pz_wl_gi, pz_wl_gr, pz_wl_same, pz_wl_X, pz_wr_gc, pz_wr_ga, pz_wr_gn, pz_wr_gi, pz_wr_gl, pz_wr_same, pz_wr_X, e39, x3, x6, x10, x18])
            (try refine po_gP (Nat.le_of_ble_eq_true rfl) ?_)
            refine po_call (by omega) (w 1 _ (by decide +kernel) (by decide) _ _ ?_)
            rw [z1]
            refine pw_blk (mi := mz_191) (b := bz_191_37) rfl rfl ?_
            simp only [bz_191_37, pz_cut_t, pz_cut_f, pz_cut_n, pv_gt, pv_ts, pv_tn, ev_ifeq, pz_wi_gc, pz_wi_ga, pz_wi_gn, pz_wi_gl, pz_wi_gr, pz_wi_same, pz_wi_X, pz_wl_gc, pz_wl_ga, pz_wl_gn, pz_wl_gi, pz_wl_gr, pz_wl_same, pz_wl_X, pz_wr_gc, pz_wr_ga, pz_wr_gn, pz_wr_gi, pz_wr_gl, pz_wr_same, pz_wr_X, e39, x3, x6, x10, x18, bI_f]
            (try simp (disch := omega) only [nI_clamp, pz_in_nI2, pz_in_nI2L, pv_gt, nI_add, nI_addL, nI_Ladd, pk_mul, nI_mulL, nI_Lmul, pk_sub, nI_subL, nI_Lsub, nI_inc, nI_clampL, Nat.add_sub_cancel, pz_wi_else, pz_wl_else, vu_eq, vu_ne, pz_wi_gc, pz_wi_ga, pz_wi_gn, pz_wi_gl, pz_wi_gr, pz_wi_same, pz_wi_X, pz_wl_gc, pz_wl_ga, pz_wl_gn, pz_wl_gi, pz_wl_gr, pz_wl_same, pz_wl_X, pz_wr_gc, pz_wr_ga, pz_wr_gn, pz_wr_gi, pz_wr_gl, pz_wr_same, pz_wr_X, e39, x3, x6, x10, x18, bI_f])
            refine po_brP (fun q37 => ?_) (fun q37 => ?_)
            · skip
              (try simp (disch := omega) only [nI_ltI, nI_leI, nI_eq, nI_ltL, nI_leL, nI_eqL, nI_Llt, nI_Lle, nI_Leq, nI_eqm, nI_meq, nI_ltm, nI_lem, nI_mlt, nI_mle, lg0, lgl, lgg, lgle, lgge, Int32.not_lt, Int32.not_le, Int64.not_lt, Int64.not_le, not_false_eq_true, not_true_eq_false, Decidable.not_not, ge_iff_le, gt_iff_lt] at q37)
              refine pw_blk (mi := mz_191) (b := bz_191_59) rfl rfl ?_
              simp only [bz_191_59, pz_cut_t, pz_cut_f, pz_cut_n, pv_gt, pv_ts, pv_tn, ev_ald0, ev_eld0, ev_ldl1886151022, ev_cv1_11, pz_wi_gc, pz_wi_ga, pz_wi_gn, pz_wi_gl, pz_wi_gr, pz_wi_same, pz_wi_X, pz_wl_gc, pz_wl_ga, pz_wl_gn, pz_wl_gi, pz_wl_gr, pz_wl_same, pz_wl_X, pz_wr_gc, pz_wr_ga, pz_wr_gn, pz_wr_gi, pz_wr_gl, pz_wr_same, pz_wr_X, so_120 hS, e39, x3, x6, x10, x18]
              (try simp (disch := omega) only [nI_clamp, pz_in_nI2, pz_in_nI2L, pv_gt, nI_add, nI_addL, nI_Ladd, pk_mul, nI_mulL, nI_Lmul, pk_sub, nI_subL, nI_Lsub, nI_inc, nI_clampL, Nat.add_sub_cancel, pz_wi_else, pz_wl_else, vu_eq, vu_ne, pz_wi_gc, pz_wi_ga, pz_wi_gn, pz_wi_gl, pz_wi_gr, pz_wi_same, pz_wi_X, pz_wl_gc, pz_wl_ga, pz_wl_gn, pz_wl_gi, pz_wl_gr, pz_wl_same, pz_wl_X, pz_wr_gc, pz_wr_ga, pz_wr_gn, pz_wr_gi, pz_wr_gl, pz_wr_same, pz_wr_X, e39, x3, x6, x10, x18])
              (try refine po_gP (Nat.le_of_ble_eq_true rfl) ?_)
              refine po_call (by omega) (w 13 _ (by decide +kernel) (by decide) _ _ ?_)
              rw [z13]
              refine pw_blk (mi := mz_191) (b := bz_191_66) rfl rfl ?_
              simp only [bz_191_66, pz_cut_t, pz_cut_f, pz_cut_n, pv_gt, pv_ts, pv_tn, ev_ifeq, pz_wi_gc, pz_wi_ga, pz_wi_gn, pz_wi_gl, pz_wi_gr, pz_wi_same, pz_wi_X, pz_wl_gc, pz_wl_ga, pz_wl_gn, pz_wl_gi, pz_wl_gr, pz_wl_same, pz_wl_X, pz_wr_gc, pz_wr_ga, pz_wr_gn, pz_wr_gi, pz_wr_gl, pz_wr_same, pz_wr_X, e39, x3, x6, x10, x18, bI_t]
              (try simp (disch := omega) only [nI_clamp, pz_in_nI2, pz_in_nI2L, pv_gt, nI_add, nI_addL, nI_Ladd, pk_mul, nI_mulL, nI_Lmul, pk_sub, nI_subL, nI_Lsub, nI_inc, nI_clampL, Nat.add_sub_cancel, pz_wi_else, pz_wl_else, vu_eq, vu_ne, pz_wi_gc, pz_wi_ga, pz_wi_gn, pz_wi_gl, pz_wi_gr, pz_wi_same, pz_wi_X, pz_wl_gc, pz_wl_ga, pz_wl_gn, pz_wl_gi, pz_wl_gr, pz_wl_same, pz_wl_X, pz_wr_gc, pz_wr_ga, pz_wr_gn, pz_wr_gi, pz_wr_gl, pz_wr_same, pz_wr_X, e39, x3, x6, x10, x18, bI_t])
              refine po_brP (fun q66 => ?_) (fun q66 => ?_)
              · first
                | exact absurd q66 (by decide)
                | exact absurd trivial q66
                | exact q66.elim
                | (exfalso; (try simp (disch := omega) only [nI_ltI, nI_leI, nI_eq, nI_ltL, nI_leL, nI_eqL, nI_Llt, nI_Lle, nI_Leq, nI_eqm, nI_meq, nI_ltm, nI_lem, nI_mlt, nI_mle, lg0, lgl, lgg, lgle, lgge, Int32.not_lt, Int32.not_le, Int64.not_lt, Int64.not_le, not_false_eq_true, not_true_eq_false, Decidable.not_not, ge_iff_le, gt_iff_lt] at q66) <;> omega)
                | exact absurd q66 (by with_reducible assumption)
                | exact absurd (by with_reducible assumption) q66
                | exact absurd (Decidable.not_not.mp q66) (by with_reducible assumption)
                | exact absurd (by with_reducible assumption) (Int32.not_le.mpr q66)
                | exact absurd (by with_reducible assumption) (Int32.not_lt.mpr q66)
              · skip
                (try simp (disch := omega) only [nI_ltI, nI_leI, nI_eq, nI_ltL, nI_leL, nI_eqL, nI_Llt, nI_Lle, nI_Leq, nI_eqm, nI_meq, nI_ltm, nI_lem, nI_mlt, nI_mle, lg0, lgl, lgg, lgle, lgge, Int32.not_lt, Int32.not_le, Int64.not_lt, Int64.not_le, not_false_eq_true, not_true_eq_false, Decidable.not_not, ge_iff_le, gt_iff_lt] at q66)
                refine pw_blk (mi := mz_191) (b := bz_191_69) rfl rfl ?_
                simp only [bz_191_69, pz_cut_t, pz_cut_f, pz_cut_n, pv_gt, pv_ts, pv_tn, ev_ald0, ev_eld0, ev_gf11_2, ev_gf11_0, ea_iald, ev_bp6, ev_ic_ne, pz_wi_gc, pz_wi_ga, pz_wi_gn, pz_wi_gl, pz_wi_gr, pz_wi_same, pz_wi_X, pz_wl_gc, pz_wl_ga, pz_wl_gn, pz_wl_gi, pz_wl_gr, pz_wl_same, pz_wl_X, pz_wr_gc, pz_wr_ga, pz_wr_gn, pz_wr_gi, pz_wr_gl, pz_wr_same, pz_wr_X, so_120 hS, sr_120_15 hS, sa_126 hS, sn_126 hS, e39, x3, x6, x10, x18, sa_124 hS, sn_124 hS, sa_125 hS, sn_125 hS, sa_133 hS, sn_133 hS]
                (try simp (disch := omega) only [nI_clamp, pz_in_nI2, pz_in_nI2L, pv_gt, nI_add, nI_addL, nI_Ladd, pk_mul, nI_mulL, nI_Lmul, pk_sub, nI_subL, nI_Lsub, nI_inc, nI_clampL, Nat.add_sub_cancel, pz_wi_else, pz_wl_else, vu_eq, vu_ne, pz_wi_gc, pz_wi_ga, pz_wi_gn, pz_wi_gl, pz_wi_gr, pz_wi_same, pz_wi_X, pz_wl_gc, pz_wl_ga, pz_wl_gn, pz_wl_gi, pz_wl_gr, pz_wl_same, pz_wl_X, pz_wr_gc, pz_wr_ga, pz_wr_gn, pz_wr_gi, pz_wr_gl, pz_wr_same, pz_wr_X, e39, x3, x6, x10, x18])
                (try refine po_gI (by first | exact pz_in_nI (by omega) (by decide) | decide | assumption) ?_)
                refine po_brP (fun q69 => ?_) (fun q69 => ?_)
                · skip
                  (try simp (disch := omega) only [nI_ltI, nI_leI, nI_eq, nI_ltL, nI_leL, nI_eqL, nI_Llt, nI_Lle, nI_Leq, nI_eqm, nI_meq, nI_ltm, nI_lem, nI_mlt, nI_mle, lg0, lgl, lgg, lgle, lgge, Int32.not_lt, Int32.not_le, Int64.not_lt, Int64.not_le, not_false_eq_true, not_true_eq_false, Decidable.not_not, ge_iff_le, gt_iff_lt] at q69)
                  refine pw_blk (mi := mz_191) (b := bz_191_87) rfl rfl ?_
                  simp only [bz_191_87, pz_cut_t, pz_cut_f, pz_cut_n, pv_gt, pv_ts, pv_tn, ev_ic0, ev_nil, pz_wi_gc, pz_wi_ga, pz_wi_gn, pz_wi_gl, pz_wi_gr, pz_wi_same, pz_wi_X, pz_wl_gc, pz_wl_ga, pz_wl_gn, pz_wl_gi, pz_wl_gr, pz_wl_same, pz_wl_X, pz_wr_gc, pz_wr_ga, pz_wr_gn, pz_wr_gi, pz_wr_gl, pz_wr_same, pz_wr_X, e39, x3, x6, x10, x18]
                  (try simp (disch := omega) only [nI_clamp, pz_in_nI2, pz_in_nI2L, pv_gt, nI_add, nI_addL, nI_Ladd, pk_mul, nI_mulL, nI_Lmul, pk_sub, nI_subL, nI_Lsub, nI_inc, nI_clampL, Nat.add_sub_cancel, pz_wi_else, pz_wl_else, vu_eq, vu_ne, pz_wi_gc, pz_wi_ga, pz_wi_gn, pz_wi_gl, pz_wi_gr, pz_wi_same, pz_wi_X, pz_wl_gc, pz_wl_ga, pz_wl_gn, pz_wl_gi, pz_wl_gr, pz_wl_same, pz_wl_X, pz_wr_gc, pz_wr_ga, pz_wr_gn, pz_wr_gi, pz_wr_gl, pz_wr_same, pz_wr_X, e39, x3, x6, x10, x18])
                  refine po_go ?_
                  refine pw_blk (mi := mz_191) (b := bz_191_88) rfl rfl ?_
                  simp only [bz_191_88, pz_cut_t, pz_cut_f, pz_cut_n, pv_gt, pv_ts, pv_tn, ev_iret1, pz_wi_gc, pz_wi_ga, pz_wi_gn, pz_wi_gl, pz_wi_gr, pz_wi_same, pz_wi_X, pz_wl_gc, pz_wl_ga, pz_wl_gn, pz_wl_gi, pz_wl_gr, pz_wl_same, pz_wl_X, pz_wr_gc, pz_wr_ga, pz_wr_gn, pz_wr_gi, pz_wr_gl, pz_wr_same, pz_wr_X, e39, x3, x6, x10, x18]
                  (try simp (disch := omega) only [nI_clamp, pz_in_nI2, pz_in_nI2L, pv_gt, nI_add, nI_addL, nI_Ladd, pk_mul, nI_mulL, nI_Lmul, pk_sub, nI_subL, nI_Lsub, nI_inc, nI_clampL, Nat.add_sub_cancel, pz_wi_else, pz_wl_else, vu_eq, vu_ne, pz_wi_gc, pz_wi_ga, pz_wi_gn, pz_wi_gl, pz_wi_gr, pz_wi_same, pz_wi_X, pz_wl_gc, pz_wl_ga, pz_wl_gn, pz_wl_gi, pz_wl_gr, pz_wl_same, pz_wl_X, pz_wr_gc, pz_wr_ga, pz_wr_gn, pz_wr_gi, pz_wr_gl, pz_wr_same, pz_wr_X, e39, x3, x6, x10, x18])
                  (try refine po_gP (by first | decide | assumption) ?_)
                  exact po_ret k
                · first
                  | exact absurd q69 (by decide)
                  | exact absurd trivial q69
                  | exact q69.elim
                  | (exfalso; (try simp (disch := omega) only [nI_ltI, nI_leI, nI_eq, nI_ltL, nI_leL, nI_eqL, nI_Llt, nI_Lle, nI_Leq, nI_eqm, nI_meq, nI_ltm, nI_lem, nI_mlt, nI_mle, lg0, lgl, lgg, lgle, lgge, Int32.not_lt, Int32.not_le, Int64.not_lt, Int64.not_le, not_false_eq_true, not_true_eq_false, Decidable.not_not, ge_iff_le, gt_iff_lt] at q69) <;> omega)
                  | exact absurd q69 (by with_reducible assumption)
                  | exact absurd (by with_reducible assumption) q69
                  | exact absurd (Decidable.not_not.mp q69) (by with_reducible assumption)
                  | exact absurd (by with_reducible assumption) (Int32.not_le.mpr q69)
                  | exact absurd (by with_reducible assumption) (Int32.not_lt.mpr q69)
            · first
              | exact absurd q37 (by decide)
              | exact absurd trivial q37
              | exact q37.elim
              | (exfalso; (try simp (disch := omega) only [nI_ltI, nI_leI, nI_eq, nI_ltL, nI_leL, nI_eqL, nI_Llt, nI_Lle, nI_Leq, nI_eqm, nI_meq, nI_ltm, nI_lem, nI_mlt, nI_mle, lg0, lgl, lgg, lgle, lgge, Int32.not_lt, Int32.not_le, Int64.not_lt, Int64.not_le, not_false_eq_true, not_true_eq_false, Decidable.not_not, ge_iff_le, gt_iff_lt] at q37) <;> omega)
              | exact absurd q37 (by with_reducible assumption)
              | exact absurd (by with_reducible assumption) q37
              | exact absurd (Decidable.not_not.mp q37) (by with_reducible assumption)
              | exact absurd (by with_reducible assumption) (Int32.not_le.mpr q37)
              | exact absurd (by with_reducible assumption) (Int32.not_lt.mpr q37)
          · first
            | exact absurd q7 (by decide)
            | exact absurd trivial q7
            | exact q7.elim
            | (exfalso; (try simp (disch := omega) only [nI_ltI, nI_leI, nI_eq, nI_ltL, nI_leL, nI_eqL, nI_Llt, nI_Lle, nI_Leq, nI_eqm, nI_meq, nI_ltm, nI_lem, nI_mlt, nI_mle, lg0, lgl, lgg, lgle, lgge, Int32.not_lt, Int32.not_le, Int64.not_lt, Int64.not_le, not_false_eq_true, not_true_eq_false, Decidable.not_not, ge_iff_le, gt_iff_lt] at q7) <;> omega)
            | exact absurd q7 (by with_reducible assumption)
            | exact absurd (by with_reducible assumption) q7
            | exact absurd (Decidable.not_not.mp q7) (by with_reducible assumption)
            | exact absurd (by with_reducible assumption) (Int32.not_le.mpr q7)
            | exact absurd (by with_reducible assumption) (Int32.not_lt.mpr q7)
      | false =>
        rw [if_neg (by rw [z13]; decide)] at k
        cases z6 : isWs 6 σ with
        | true =>
          rw [if_pos z6] at k
          cases q : c.lt with
          | true =>
            rw [q] at k x18
            refine pm_ent (L := [some (.ref 120)]) rfl (Nat.le_of_ble_eq_true rfl) ?_
            refine pw_blk (mi := mz_191) (b := bz_191_0) rfl rfl ?_
            simp only [bz_191_0, pz_cut_t, pz_cut_f, pz_cut_n, pv_gt, pv_ts, pv_tn, ev_ald0, ev_eld0, ev_ldl1751474544, ev_cv1_11, pz_wi_gc, pz_wi_ga, pz_wi_gn, pz_wi_gl, pz_wi_gr, pz_wi_same, pz_wi_X, pz_wl_gc, pz_wl_ga, pz_wl_gn, pz_wl_gi, pz_wl_gr, pz_wl_same, pz_wl_X, pz_wr_gc, pz_wr_ga, pz_wr_gn, pz_wr_gi, pz_wr_gl, pz_wr_same, pz_wr_X, so_120 hS, e39, x3, x6, x10, x18, bI_t]
            (try simp (disch := omega) only [nI_clamp, pz_in_nI2, pz_in_nI2L, pv_gt, nI_add, nI_addL, nI_Ladd, pk_mul, nI_mulL, nI_Lmul, pk_sub, nI_subL, nI_Lsub, nI_inc, nI_clampL, Nat.add_sub_cancel, pz_wi_else, pz_wl_else, vu_eq, vu_ne, pz_wi_gc, pz_wi_ga, pz_wi_gn, pz_wi_gl, pz_wi_gr, pz_wi_same, pz_wi_X, pz_wl_gc, pz_wl_ga, pz_wl_gn, pz_wl_gi, pz_wl_gr, pz_wl_same, pz_wl_X, pz_wr_gc, pz_wr_ga, pz_wr_gn, pz_wr_gi, pz_wr_gl, pz_wr_same, pz_wr_X, e39, x3, x6, x10, x18, bI_t])
            (try refine po_gP (Nat.le_of_ble_eq_true rfl) ?_)
            refine po_call (by omega) (w 0 _ (by decide +kernel) (by decide) _ _ ?_)
            rw [z0]
            refine pw_blk (mi := mz_191) (b := bz_191_7) rfl rfl ?_
            simp only [bz_191_7, pz_cut_t, pz_cut_f, pz_cut_n, pv_gt, pv_ts, pv_tn, ev_ifeq, pz_wi_gc, pz_wi_ga, pz_wi_gn, pz_wi_gl, pz_wi_gr, pz_wi_same, pz_wi_X, pz_wl_gc, pz_wl_ga, pz_wl_gn, pz_wl_gi, pz_wl_gr, pz_wl_same, pz_wl_X, pz_wr_gc, pz_wr_ga, pz_wr_gn, pz_wr_gi, pz_wr_gl, pz_wr_same, pz_wr_X, e39, x3, x6, x10, x18, bI_t, bI_f]
            (try simp (disch := omega) only [nI_clamp, pz_in_nI2, pz_in_nI2L, pv_gt, nI_add, nI_addL, nI_Ladd, pk_mul, nI_mulL, nI_Lmul, pk_sub, nI_subL, nI_Lsub, nI_inc, nI_clampL, Nat.add_sub_cancel, pz_wi_else, pz_wl_else, vu_eq, vu_ne, pz_wi_gc, pz_wi_ga, pz_wi_gn, pz_wi_gl, pz_wi_gr, pz_wi_same, pz_wi_X, pz_wl_gc, pz_wl_ga, pz_wl_gn, pz_wl_gi, pz_wl_gr, pz_wl_same, pz_wl_X, pz_wr_gc, pz_wr_ga, pz_wr_gn, pz_wr_gi, pz_wr_gl, pz_wr_same, pz_wr_X, e39, x3, x6, x10, x18, bI_t, bI_f])
            refine po_brP (fun q7 => ?_) (fun q7 => ?_)
            · skip
              (try simp (disch := omega) only [nI_ltI, nI_leI, nI_eq, nI_ltL, nI_leL, nI_eqL, nI_Llt, nI_Lle, nI_Leq, nI_eqm, nI_meq, nI_ltm, nI_lem, nI_mlt, nI_mle, lg0, lgl, lgg, lgle, lgge, Int32.not_lt, Int32.not_le, Int64.not_lt, Int64.not_le, not_false_eq_true, not_true_eq_false, Decidable.not_not, ge_iff_le, gt_iff_lt] at q7)
              refine pw_blk (mi := mz_191) (b := bz_191_30) rfl rfl ?_
              simp only [bz_191_30, pz_cut_t, pz_cut_f, pz_cut_n, pv_gt, pv_ts, pv_tn, ev_ald0, ev_eld0, ev_ldl1885434484, ev_cv1_11, pz_wi_gc, pz_wi_ga, pz_wi_gn, pz_wi_gl, pz_wi_gr, pz_wi_same, pz_wi_X, pz_wl_gc, pz_wl_ga, pz_wl_gn, pz_wl_gi, pz_wl_gr, pz_wl_same, pz_wl_X, pz_wr_gc, pz_wr_ga, pz_wr_gn, pz_wr_gi, pz_wr_gl, pz_wr_same, pz_wr_X, so_120 hS, e39, x3, x6, x10, x18, bI_t]
              (try simp (disch := omega) only [nI_clamp, pz_in_nI2, pz_in_nI2L, pv_gt, nI_add, nI_addL, nI_Ladd, pk_mul, nI_mulL, nI_Lmul, pk_sub, nI_subL, nI_Lsub, nI_inc, nI_clampL, Nat.add_sub_cancel, pz_wi_else, pz_wl_else, vu_eq, vu_ne, pz_wi_gc, pz_wi_ga, pz_wi_gn, pz_wi_gl, pz_wi_gr, pz_wi_same, pz_wi_X, pz_wl_gc, pz_wl_ga, pz_wl_gn, pz_wl_gi, pz_wl_gr, pz_wl_same, pz_wl_X, pz_wr_gc, pz_wr_ga, pz_wr_gn, pz_wr_gi, pz_wr_gl, pz_wr_same, pz_wr_X, e39, x3, x6, x10, x18, bI_t])
              (try refine po_gP (Nat.le_of_ble_eq_true rfl) ?_)
              refine po_call (by omega) (w 1 _ (by decide +kernel) (by decide) _ _ ?_)
              rw [z1]
              refine pw_blk (mi := mz_191) (b := bz_191_37) rfl rfl ?_
              simp only [bz_191_37, pz_cut_t, pz_cut_f, pz_cut_n, pv_gt, pv_ts, pv_tn, ev_ifeq, pz_wi_gc, pz_wi_ga, pz_wi_gn, pz_wi_gl, pz_wi_gr, pz_wi_same, pz_wi_X, pz_wl_gc, pz_wl_ga, pz_wl_gn, pz_wl_gi, pz_wl_gr, pz_wl_same, pz_wl_X, pz_wr_gc, pz_wr_ga, pz_wr_gn, pz_wr_gi, pz_wr_gl, pz_wr_same, pz_wr_X, e39, x3, x6, x10, x18, bI_t, bI_f]
              (try simp (disch := omega) only [nI_clamp, pz_in_nI2, pz_in_nI2L, pv_gt, nI_add, nI_addL, nI_Ladd, pk_mul, nI_mulL, nI_Lmul, pk_sub, nI_subL, nI_Lsub, nI_inc, nI_clampL, Nat.add_sub_cancel, pz_wi_else, pz_wl_else, vu_eq, vu_ne, pz_wi_gc, pz_wi_ga, pz_wi_gn, pz_wi_gl, pz_wi_gr, pz_wi_same, pz_wi_X, pz_wl_gc, pz_wl_ga, pz_wl_gn, pz_wl_gi, pz_wl_gr, pz_wl_same, pz_wl_X, pz_wr_gc, pz_wr_ga, pz_wr_gn, pz_wr_gi, pz_wr_gl, pz_wr_same, pz_wr_X, e39, x3, x6, x10, x18, bI_t, bI_f])
              refine po_brP (fun q37 => ?_) (fun q37 => ?_)
              · skip
                (try simp (disch := omega) only [nI_ltI, nI_leI, nI_eq, nI_ltL, nI_leL, nI_eqL, nI_Llt, nI_Lle, nI_Leq, nI_eqm, nI_meq, nI_ltm, nI_lem, nI_mlt, nI_mle, lg0, lgl, lgg, lgle, lgge, Int32.not_lt, Int32.not_le, Int64.not_lt, Int64.not_le, not_false_eq_true, not_true_eq_false, Decidable.not_not, ge_iff_le, gt_iff_lt] at q37)
                refine pw_blk (mi := mz_191) (b := bz_191_59) rfl rfl ?_
                simp only [bz_191_59, pz_cut_t, pz_cut_f, pz_cut_n, pv_gt, pv_ts, pv_tn, ev_ald0, ev_eld0, ev_ldl1886151022, ev_cv1_11, pz_wi_gc, pz_wi_ga, pz_wi_gn, pz_wi_gl, pz_wi_gr, pz_wi_same, pz_wi_X, pz_wl_gc, pz_wl_ga, pz_wl_gn, pz_wl_gi, pz_wl_gr, pz_wl_same, pz_wl_X, pz_wr_gc, pz_wr_ga, pz_wr_gn, pz_wr_gi, pz_wr_gl, pz_wr_same, pz_wr_X, so_120 hS, e39, x3, x6, x10, x18, bI_t]
                (try simp (disch := omega) only [nI_clamp, pz_in_nI2, pz_in_nI2L, pv_gt, nI_add, nI_addL, nI_Ladd, pk_mul, nI_mulL, nI_Lmul, pk_sub, nI_subL, nI_Lsub, nI_inc, nI_clampL, Nat.add_sub_cancel, pz_wi_else, pz_wl_else, vu_eq, vu_ne, pz_wi_gc, pz_wi_ga, pz_wi_gn, pz_wi_gl, pz_wi_gr, pz_wi_same, pz_wi_X, pz_wl_gc, pz_wl_ga, pz_wl_gn, pz_wl_gi, pz_wl_gr, pz_wl_same, pz_wl_X, pz_wr_gc, pz_wr_ga, pz_wr_gn, pz_wr_gi, pz_wr_gl, pz_wr_same, pz_wr_X, e39, x3, x6, x10, x18, bI_t])
                (try refine po_gP (Nat.le_of_ble_eq_true rfl) ?_)
                refine po_call (by omega) (w 13 _ (by decide +kernel) (by decide) _ _ ?_)
                rw [z13]
                refine pw_blk (mi := mz_191) (b := bz_191_66) rfl rfl ?_
                simp only [bz_191_66, pz_cut_t, pz_cut_f, pz_cut_n, pv_gt, pv_ts, pv_tn, ev_ifeq, pz_wi_gc, pz_wi_ga, pz_wi_gn, pz_wi_gl, pz_wi_gr, pz_wi_same, pz_wi_X, pz_wl_gc, pz_wl_ga, pz_wl_gn, pz_wl_gi, pz_wl_gr, pz_wl_same, pz_wl_X, pz_wr_gc, pz_wr_ga, pz_wr_gn, pz_wr_gi, pz_wr_gl, pz_wr_same, pz_wr_X, e39, x3, x6, x10, x18, bI_t, bI_f]
                (try simp (disch := omega) only [nI_clamp, pz_in_nI2, pz_in_nI2L, pv_gt, nI_add, nI_addL, nI_Ladd, pk_mul, nI_mulL, nI_Lmul, pk_sub, nI_subL, nI_Lsub, nI_inc, nI_clampL, Nat.add_sub_cancel, pz_wi_else, pz_wl_else, vu_eq, vu_ne, pz_wi_gc, pz_wi_ga, pz_wi_gn, pz_wi_gl, pz_wi_gr, pz_wi_same, pz_wi_X, pz_wl_gc, pz_wl_ga, pz_wl_gn, pz_wl_gi, pz_wl_gr, pz_wl_same, pz_wl_X, pz_wr_gc, pz_wr_ga, pz_wr_gn, pz_wr_gi, pz_wr_gl, pz_wr_same, pz_wr_X, e39, x3, x6, x10, x18, bI_t, bI_f])
                refine po_brP (fun q66 => ?_) (fun q66 => ?_)
                · skip
                  (try simp (disch := omega) only [nI_ltI, nI_leI, nI_eq, nI_ltL, nI_leL, nI_eqL, nI_Llt, nI_Lle, nI_Leq, nI_eqm, nI_meq, nI_ltm, nI_lem, nI_mlt, nI_mle, lg0, lgl, lgg, lgle, lgge, Int32.not_lt, Int32.not_le, Int64.not_lt, Int64.not_le, not_false_eq_true, not_true_eq_false, Decidable.not_not, ge_iff_le, gt_iff_lt] at q66)
                  refine pw_blk (mi := mz_191) (b := bz_191_89) rfl rfl ?_
                  simp only [bz_191_89, pz_cut_t, pz_cut_f, pz_cut_n, pv_gt, pv_ts, pv_tn, ev_ald0, ev_eld0, ev_ldl7102839, ev_cv1_11, pz_wi_gc, pz_wi_ga, pz_wi_gn, pz_wi_gl, pz_wi_gr, pz_wi_same, pz_wi_X, pz_wl_gc, pz_wl_ga, pz_wl_gn, pz_wl_gi, pz_wl_gr, pz_wl_same, pz_wl_X, pz_wr_gc, pz_wr_ga, pz_wr_gn, pz_wr_gi, pz_wr_gl, pz_wr_same, pz_wr_X, so_120 hS, e39, x3, x6, x10, x18, bI_t]
                  (try simp (disch := omega) only [nI_clamp, pz_in_nI2, pz_in_nI2L, pv_gt, nI_add, nI_addL, nI_Ladd, pk_mul, nI_mulL, nI_Lmul, pk_sub, nI_subL, nI_Lsub, nI_inc, nI_clampL, Nat.add_sub_cancel, pz_wi_else, pz_wl_else, vu_eq, vu_ne, pz_wi_gc, pz_wi_ga, pz_wi_gn, pz_wi_gl, pz_wi_gr, pz_wi_same, pz_wi_X, pz_wl_gc, pz_wl_ga, pz_wl_gn, pz_wl_gi, pz_wl_gr, pz_wl_same, pz_wl_X, pz_wr_gc, pz_wr_ga, pz_wr_gn, pz_wr_gi, pz_wr_gl, pz_wr_same, pz_wr_X, e39, x3, x6, x10, x18, bI_t])
                  (try refine po_gP (Nat.le_of_ble_eq_true rfl) ?_)
                  refine po_call (by omega) (w 6 _ (by decide +kernel) (by decide) _ _ ?_)
                  rw [z6]
                  refine pw_blk (mi := mz_191) (b := bz_191_96) rfl rfl ?_
                  simp only [bz_191_96, pz_cut_t, pz_cut_f, pz_cut_n, pv_gt, pv_ts, pv_tn, ev_ifeq, pz_wi_gc, pz_wi_ga, pz_wi_gn, pz_wi_gl, pz_wi_gr, pz_wi_same, pz_wi_X, pz_wl_gc, pz_wl_ga, pz_wl_gn, pz_wl_gi, pz_wl_gr, pz_wl_same, pz_wl_X, pz_wr_gc, pz_wr_ga, pz_wr_gn, pz_wr_gi, pz_wr_gl, pz_wr_same, pz_wr_X, e39, x3, x6, x10, x18, bI_t, bI_t]
                  (try simp (disch := omega) only [nI_clamp, pz_in_nI2, pz_in_nI2L, pv_gt, nI_add, nI_addL, nI_Ladd, pk_mul, nI_mulL, nI_Lmul, pk_sub, nI_subL, nI_Lsub, nI_inc, nI_clampL, Nat.add_sub_cancel, pz_wi_else, pz_wl_else, vu_eq, vu_ne, pz_wi_gc, pz_wi_ga, pz_wi_gn, pz_wi_gl, pz_wi_gr, pz_wi_same, pz_wi_X, pz_wl_gc, pz_wl_ga, pz_wl_gn, pz_wl_gi, pz_wl_gr, pz_wl_same, pz_wl_X, pz_wr_gc, pz_wr_ga, pz_wr_gn, pz_wr_gi, pz_wr_gl, pz_wr_same, pz_wr_X, e39, x3, x6, x10, x18, bI_t, bI_t])
                  refine po_brP (fun q96 => ?_) (fun q96 => ?_)
                  · first
                    | exact absurd q96 (by decide)
                    | exact absurd trivial q96
                    | exact q96.elim
                    | (exfalso; (try simp (disch := omega) only [nI_ltI, nI_leI, nI_eq, nI_ltL, nI_leL, nI_eqL, nI_Llt, nI_Lle, nI_Leq, nI_eqm, nI_meq, nI_ltm, nI_lem, nI_mlt, nI_mle, lg0, lgl, lgg, lgle, lgge, Int32.not_lt, Int32.not_le, Int64.not_lt, Int64.not_le, not_false_eq_true, not_true_eq_false, Decidable.not_not, ge_iff_le, gt_iff_lt] at q96) <;> omega)
                    | exact absurd q96 (by with_reducible assumption)
                    | exact absurd (by with_reducible assumption) q96
                    | exact absurd (Decidable.not_not.mp q96) (by with_reducible assumption)
                    | exact absurd (by with_reducible assumption) (Int32.not_le.mpr q96)
                    | exact absurd (by with_reducible assumption) (Int32.not_lt.mpr q96)
                  · skip
                    (try simp (disch := omega) only [nI_ltI, nI_leI, nI_eq, nI_ltL, nI_leL, nI_eqL, nI_Llt, nI_Lle, nI_Leq, nI_eqm, nI_meq, nI_ltm, nI_lem, nI_mlt, nI_mle, lg0, lgl, lgg, lgle, lgge, Int32.not_lt, Int32.not_le, Int64.not_lt, Int64.not_le, not_false_eq_true, not_true_eq_false, Decidable.not_not, ge_iff_le, gt_iff_lt] at q96)
                    refine pw_blk (mi := mz_191) (b := bz_191_99) rfl rfl ?_
                    simp only [bz_191_99, pz_cut_t, pz_cut_f, pz_cut_n, pv_gt, pv_ts, pv_tn, ev_ald0, ev_eld0, ev_gf11_2, ev_gf11_0, ea_bald, ea_zald, ev_goto, pz_wi_gc, pz_wi_ga, pz_wi_gn, pz_wi_gl, pz_wi_gr, pz_wi_same, pz_wi_X, pz_wl_gc, pz_wl_ga, pz_wl_gn, pz_wl_gi, pz_wl_gr, pz_wl_same, pz_wl_X, pz_wr_gc, pz_wr_ga, pz_wr_gn, pz_wr_gi, pz_wr_gl, pz_wr_same, pz_wr_X, so_120 hS, sr_120_22 hS, sa_133 hS, sn_133 hS, e39, x3, x6, x10, x18, bI_t, sa_124 hS, sn_124 hS, sa_125 hS, sn_125 hS, sa_126 hS, sn_126 hS]
                    (try simp (disch := omega) only [nI_clamp, pz_in_nI2, pz_in_nI2L, pv_gt, nI_add, nI_addL, nI_Ladd, pk_mul, nI_mulL, nI_Lmul, pk_sub, nI_subL, nI_Lsub, nI_inc, nI_clampL, Nat.add_sub_cancel, pz_wi_else, pz_wl_else, vu_eq, vu_ne, pz_wi_gc, pz_wi_ga, pz_wi_gn, pz_wi_gl, pz_wi_gr, pz_wi_same, pz_wi_X, pz_wl_gc, pz_wl_ga, pz_wl_gn, pz_wl_gi, pz_wl_gr, pz_wl_same, pz_wl_X, pz_wr_gc, pz_wr_ga, pz_wr_gn, pz_wr_gi, pz_wr_gl, pz_wr_same, pz_wr_X, e39, x3, x6, x10, x18, bI_t])
                    (try refine po_gI (by first | exact pz_in_nI (by omega) (by decide) | decide | assumption) ?_)
                    refine po_go ?_
                    refine pw_blk (mi := mz_191) (b := bz_191_136) rfl rfl ?_
                    simp only [bz_191_136, pz_cut_t, pz_cut_f, pz_cut_n, pv_gt, pv_ts, pv_tn, ev_iret1, pz_wi_gc, pz_wi_ga, pz_wi_gn, pz_wi_gl, pz_wi_gr, pz_wi_same, pz_wi_X, pz_wl_gc, pz_wl_ga, pz_wl_gn, pz_wl_gi, pz_wl_gr, pz_wl_same, pz_wl_X, pz_wr_gc, pz_wr_ga, pz_wr_gn, pz_wr_gi, pz_wr_gl, pz_wr_same, pz_wr_X, e39, x3, x6, x10, x18, bI_t]
                    (try simp (disch := omega) only [nI_clamp, pz_in_nI2, pz_in_nI2L, pv_gt, nI_add, nI_addL, nI_Ladd, pk_mul, nI_mulL, nI_Lmul, pk_sub, nI_subL, nI_Lsub, nI_inc, nI_clampL, Nat.add_sub_cancel, pz_wi_else, pz_wl_else, vu_eq, vu_ne, pz_wi_gc, pz_wi_ga, pz_wi_gn, pz_wi_gl, pz_wi_gr, pz_wi_same, pz_wi_X, pz_wl_gc, pz_wl_ga, pz_wl_gn, pz_wl_gi, pz_wl_gr, pz_wl_same, pz_wl_X, pz_wr_gc, pz_wr_ga, pz_wr_gn, pz_wr_gi, pz_wr_gl, pz_wr_same, pz_wr_X, e39, x3, x6, x10, x18, bI_t])
                    (try refine po_gP (by first | decide | assumption) ?_)
                    exact po_ret k
                · first
                  | exact absurd q66 (by decide)
                  | exact absurd trivial q66
                  | exact q66.elim
                  | (exfalso; (try simp (disch := omega) only [nI_ltI, nI_leI, nI_eq, nI_ltL, nI_leL, nI_eqL, nI_Llt, nI_Lle, nI_Leq, nI_eqm, nI_meq, nI_ltm, nI_lem, nI_mlt, nI_mle, lg0, lgl, lgg, lgle, lgge, Int32.not_lt, Int32.not_le, Int64.not_lt, Int64.not_le, not_false_eq_true, not_true_eq_false, Decidable.not_not, ge_iff_le, gt_iff_lt] at q66) <;> omega)
                  | exact absurd q66 (by with_reducible assumption)
                  | exact absurd (by with_reducible assumption) q66
                  | exact absurd (Decidable.not_not.mp q66) (by with_reducible assumption)
                  | exact absurd (by with_reducible assumption) (Int32.not_le.mpr q66)
                  | exact absurd (by with_reducible assumption) (Int32.not_lt.mpr q66)
              · first
                | exact absurd q37 (by decide)
                | exact absurd trivial q37
                | exact q37.elim
                | (exfalso; (try simp (disch := omega) only [nI_ltI, nI_leI, nI_eq, nI_ltL, nI_leL, nI_eqL, nI_Llt, nI_Lle, nI_Leq, nI_eqm, nI_meq, nI_ltm, nI_lem, nI_mlt, nI_mle, lg0, lgl, lgg, lgle, lgge, Int32.not_lt, Int32.not_le, Int64.not_lt, Int64.not_le, not_false_eq_true, not_true_eq_false, Decidable.not_not, ge_iff_le, gt_iff_lt] at q37) <;> omega)
                | exact absurd q37 (by with_reducible assumption)
                | exact absurd (by with_reducible assumption) q37
                | exact absurd (Decidable.not_not.mp q37) (by with_reducible assumption)
                | exact absurd (by with_reducible assumption) (Int32.not_le.mpr q37)
                | exact absurd (by with_reducible assumption) (Int32.not_lt.mpr q37)
            · first
              | exact absurd q7 (by decide)
              | exact absurd trivial q7
              | exact q7.elim
              | (exfalso; (try simp (disch := omega) only [nI_ltI, nI_leI, nI_eq, nI_ltL, nI_leL, nI_eqL, nI_Llt, nI_Lle, nI_Leq, nI_eqm, nI_meq, nI_ltm, nI_lem, nI_mlt, nI_mle, lg0, lgl, lgg, lgle, lgge, Int32.not_lt, Int32.not_le, Int64.not_lt, Int64.not_le, not_false_eq_true, not_true_eq_false, Decidable.not_not, ge_iff_le, gt_iff_lt] at q7) <;> omega)
              | exact absurd q7 (by with_reducible assumption)
              | exact absurd (by with_reducible assumption) q7
              | exact absurd (Decidable.not_not.mp q7) (by with_reducible assumption)
              | exact absurd (by with_reducible assumption) (Int32.not_le.mpr q7)
              | exact absurd (by with_reducible assumption) (Int32.not_lt.mpr q7)
          | false =>
            rw [q] at k x18
            refine pm_ent (L := [some (.ref 120)]) rfl (Nat.le_of_ble_eq_true rfl) ?_
            refine pw_blk (mi := mz_191) (b := bz_191_0) rfl rfl ?_
            simp only [bz_191_0, pz_cut_t, pz_cut_f, pz_cut_n, pv_gt, pv_ts, pv_tn, ev_ald0, ev_eld0, ev_ldl1751474544, ev_cv1_11, pz_wi_gc, pz_wi_ga, pz_wi_gn, pz_wi_gl, pz_wi_gr, pz_wi_same, pz_wi_X, pz_wl_gc, pz_wl_ga, pz_wl_gn, pz_wl_gi, pz_wl_gr, pz_wl_same, pz_wl_X, pz_wr_gc, pz_wr_ga, pz_wr_gn, pz_wr_gi, pz_wr_gl, pz_wr_same, pz_wr_X, so_120 hS, e39, x3, x6, x10, x18, bI_f]
            (try simp (disch := omega) only [nI_clamp, pz_in_nI2, pz_in_nI2L, pv_gt, nI_add, nI_addL, nI_Ladd, pk_mul, nI_mulL, nI_Lmul, pk_sub, nI_subL, nI_Lsub, nI_inc, nI_clampL, Nat.add_sub_cancel, pz_wi_else, pz_wl_else, vu_eq, vu_ne, pz_wi_gc, pz_wi_ga, pz_wi_gn, pz_wi_gl, pz_wi_gr, pz_wi_same, pz_wi_X, pz_wl_gc, pz_wl_ga, pz_wl_gn, pz_wl_gi, pz_wl_gr, pz_wl_same, pz_wl_X, pz_wr_gc, pz_wr_ga, pz_wr_gn, pz_wr_gi, pz_wr_gl, pz_wr_same, pz_wr_X, e39, x3, x6, x10, x18, bI_f])
            (try refine po_gP (Nat.le_of_ble_eq_true rfl) ?_)
            refine po_call (by omega) (w 0 _ (by decide +kernel) (by decide) _ _ ?_)
            rw [z0]
            refine pw_blk (mi := mz_191) (b := bz_191_7) rfl rfl ?_
            simp only [bz_191_7, pz_cut_t, pz_cut_f, pz_cut_n, pv_gt, pv_ts, pv_tn, ev_ifeq, pz_wi_gc, pz_wi_ga, pz_wi_gn, pz_wi_gl, pz_wi_gr, pz_wi_same, pz_wi_X, pz_wl_gc, pz_wl_ga, pz_wl_gn, pz_wl_gi, pz_wl_gr, pz_wl_same, pz_wl_X, pz_wr_gc, pz_wr_ga, pz_wr_gn, pz_wr_gi, pz_wr_gl, pz_wr_same, pz_wr_X, e39, x3, x6, x10, x18, bI_f, bI_f]
            (try simp (disch := omega) only [nI_clamp, pz_in_nI2, pz_in_nI2L, pv_gt, nI_add, nI_addL, nI_Ladd, pk_mul, nI_mulL, nI_Lmul, pk_sub, nI_subL, nI_Lsub, nI_inc, nI_clampL, Nat.add_sub_cancel, pz_wi_else, pz_wl_else, vu_eq, vu_ne, pz_wi_gc, pz_wi_ga, pz_wi_gn, pz_wi_gl, pz_wi_gr, pz_wi_same, pz_wi_X, pz_wl_gc, pz_wl_ga, pz_wl_gn, pz_wl_gi, pz_wl_gr, pz_wl_same, pz_wl_X, pz_wr_gc, pz_wr_ga, pz_wr_gn, pz_wr_gi, pz_wr_gl, pz_wr_same, pz_wr_X, e39, x3, x6, x10, x18, bI_f, bI_f])
            refine po_brP (fun q7 => ?_) (fun q7 => ?_)
            · skip
              (try simp (disch := omega) only [nI_ltI, nI_leI, nI_eq, nI_ltL, nI_leL, nI_eqL, nI_Llt, nI_Lle, nI_Leq, nI_eqm, nI_meq, nI_ltm, nI_lem, nI_mlt, nI_mle, lg0, lgl, lgg, lgle, lgge, Int32.not_lt, Int32.not_le, Int64.not_lt, Int64.not_le, not_false_eq_true, not_true_eq_false, Decidable.not_not, ge_iff_le, gt_iff_lt] at q7)
              refine pw_blk (mi := mz_191) (b := bz_191_30) rfl rfl ?_
              simp only [bz_191_30, pz_cut_t, pz_cut_f, pz_cut_n, pv_gt, pv_ts, pv_tn, ev_ald0, ev_eld0, ev_ldl1885434484, ev_cv1_11, pz_wi_gc, pz_wi_ga, pz_wi_gn, pz_wi_gl, pz_wi_gr, pz_wi_same, pz_wi_X, pz_wl_gc, pz_wl_ga, pz_wl_gn, pz_wl_gi, pz_wl_gr, pz_wl_same, pz_wl_X, pz_wr_gc, pz_wr_ga, pz_wr_gn, pz_wr_gi, pz_wr_gl, pz_wr_same, pz_wr_X, so_120 hS, e39, x3, x6, x10, x18, bI_f]
              (try simp (disch := omega) only [nI_clamp, pz_in_nI2, pz_in_nI2L, pv_gt, nI_add, nI_addL, nI_Ladd, pk_mul, nI_mulL, nI_Lmul, pk_sub, nI_subL, nI_Lsub, nI_inc, nI_clampL, Nat.add_sub_cancel, pz_wi_else, pz_wl_else, vu_eq, vu_ne, pz_wi_gc, pz_wi_ga, pz_wi_gn, pz_wi_gl, pz_wi_gr, pz_wi_same, pz_wi_X, pz_wl_gc, pz_wl_ga, pz_wl_gn, pz_wl_gi, pz_wl_gr, pz_wl_same, pz_wl_X, pz_wr_gc, pz_wr_ga, pz_wr_gn, pz_wr_gi, pz_wr_gl, pz_wr_same, pz_wr_X, e39, x3, x6, x10, x18, bI_f])
              (try refine po_gP (Nat.le_of_ble_eq_true rfl) ?_)
              refine po_call (by omega) (w 1 _ (by decide +kernel) (by decide) _ _ ?_)
              rw [z1]
              refine pw_blk (mi := mz_191) (b := bz_191_37) rfl rfl ?_
              simp only [bz_191_37, pz_cut_t, pz_cut_f, pz_cut_n, pv_gt, pv_ts, pv_tn, ev_ifeq, pz_wi_gc, pz_wi_ga, pz_wi_gn, pz_wi_gl, pz_wi_gr, pz_wi_same, pz_wi_X, pz_wl_gc, pz_wl_ga, pz_wl_gn, pz_wl_gi, pz_wl_gr, pz_wl_same, pz_wl_X, pz_wr_gc, pz_wr_ga, pz_wr_gn, pz_wr_gi, pz_wr_gl, pz_wr_same, pz_wr_X, e39, x3, x6, x10, x18, bI_f, bI_f]
              (try simp (disch := omega) only [nI_clamp, pz_in_nI2, pz_in_nI2L, pv_gt, nI_add, nI_addL, nI_Ladd, pk_mul, nI_mulL, nI_Lmul, pk_sub, nI_subL, nI_Lsub, nI_inc, nI_clampL, Nat.add_sub_cancel, pz_wi_else, pz_wl_else, vu_eq, vu_ne, pz_wi_gc, pz_wi_ga, pz_wi_gn, pz_wi_gl, pz_wi_gr, pz_wi_same, pz_wi_X, pz_wl_gc, pz_wl_ga, pz_wl_gn, pz_wl_gi, pz_wl_gr, pz_wl_same, pz_wl_X, pz_wr_gc, pz_wr_ga, pz_wr_gn, pz_wr_gi, pz_wr_gl, pz_wr_same, pz_wr_X, e39, x3, x6, x10, x18, bI_f, bI_f])
              refine po_brP (fun q37 => ?_) (fun q37 => ?_)
              · skip
                (try simp (disch := omega) only [nI_ltI, nI_leI, nI_eq, nI_ltL, nI_leL, nI_eqL, nI_Llt, nI_Lle, nI_Leq, nI_eqm, nI_meq, nI_ltm, nI_lem, nI_mlt, nI_mle, lg0, lgl, lgg, lgle, lgge, Int32.not_lt, Int32.not_le, Int64.not_lt, Int64.not_le, not_false_eq_true, not_true_eq_false, Decidable.not_not, ge_iff_le, gt_iff_lt] at q37)
                refine pw_blk (mi := mz_191) (b := bz_191_59) rfl rfl ?_
                simp only [bz_191_59, pz_cut_t, pz_cut_f, pz_cut_n, pv_gt, pv_ts, pv_tn, ev_ald0, ev_eld0, ev_ldl1886151022, ev_cv1_11, pz_wi_gc, pz_wi_ga, pz_wi_gn, pz_wi_gl, pz_wi_gr, pz_wi_same, pz_wi_X, pz_wl_gc, pz_wl_ga, pz_wl_gn, pz_wl_gi, pz_wl_gr, pz_wl_same, pz_wl_X, pz_wr_gc, pz_wr_ga, pz_wr_gn, pz_wr_gi, pz_wr_gl, pz_wr_same, pz_wr_X, so_120 hS, e39, x3, x6, x10, x18, bI_f]
                (try simp (disch := omega) only [nI_clamp, pz_in_nI2, pz_in_nI2L, pv_gt, nI_add, nI_addL, nI_Ladd, pk_mul, nI_mulL, nI_Lmul, pk_sub, nI_subL, nI_Lsub, nI_inc, nI_clampL, Nat.add_sub_cancel, pz_wi_else, pz_wl_else, vu_eq, vu_ne, pz_wi_gc, pz_wi_ga, pz_wi_gn, pz_wi_gl, pz_wi_gr, pz_wi_same, pz_wi_X, pz_wl_gc, pz_wl_ga, pz_wl_gn, pz_wl_gi, pz_wl_gr, pz_wl_same, pz_wl_X, pz_wr_gc, pz_wr_ga, pz_wr_gn, pz_wr_gi, pz_wr_gl, pz_wr_same, pz_wr_X, e39, x3, x6, x10, x18, bI_f])
                (try refine po_gP (Nat.le_of_ble_eq_true rfl) ?_)
                refine po_call (by omega) (w 13 _ (by decide +kernel) (by decide) _ _ ?_)
                rw [z13]
                refine pw_blk (mi := mz_191) (b := bz_191_66) rfl rfl ?_
                simp only [bz_191_66, pz_cut_t, pz_cut_f, pz_cut_n, pv_gt, pv_ts, pv_tn, ev_ifeq, pz_wi_gc, pz_wi_ga, pz_wi_gn, pz_wi_gl, pz_wi_gr, pz_wi_same, pz_wi_X, pz_wl_gc, pz_wl_ga, pz_wl_gn, pz_wl_gi, pz_wl_gr, pz_wl_same, pz_wl_X, pz_wr_gc, pz_wr_ga, pz_wr_gn, pz_wr_gi, pz_wr_gl, pz_wr_same, pz_wr_X, e39, x3, x6, x10, x18, bI_f, bI_f]
                (try simp (disch := omega) only [nI_clamp, pz_in_nI2, pz_in_nI2L, pv_gt, nI_add, nI_addL, nI_Ladd, pk_mul, nI_mulL, nI_Lmul, pk_sub, nI_subL, nI_Lsub, nI_inc, nI_clampL, Nat.add_sub_cancel, pz_wi_else, pz_wl_else, vu_eq, vu_ne, pz_wi_gc, pz_wi_ga, pz_wi_gn, pz_wi_gl, pz_wi_gr, pz_wi_same, pz_wi_X, pz_wl_gc, pz_wl_ga, pz_wl_gn, pz_wl_gi, pz_wl_gr, pz_wl_same, pz_wl_X, pz_wr_gc, pz_wr_ga, pz_wr_gn, pz_wr_gi, pz_wr_gl, pz_wr_same, pz_wr_X, e39, x3, x6, x10, x18, bI_f, bI_f])
                refine po_brP (fun q66 => ?_) (fun q66 => ?_)
                · skip
                  (try simp (disch := omega) only [nI_ltI, nI_leI, nI_eq, nI_ltL, nI_leL, nI_eqL, nI_Llt, nI_Lle, nI_Leq, nI_eqm, nI_meq, nI_ltm, nI_lem, nI_mlt, nI_mle, lg0, lgl, lgg, lgle, lgge, Int32.not_lt, Int32.not_le, Int64.not_lt, Int64.not_le, not_false_eq_true, not_true_eq_false, Decidable.not_not, ge_iff_le, gt_iff_lt] at q66)
                  refine pw_blk (mi := mz_191) (b := bz_191_89) rfl rfl ?_
                  simp only [bz_191_89, pz_cut_t, pz_cut_f, pz_cut_n, pv_gt, pv_ts, pv_tn, ev_ald0, ev_eld0, ev_ldl7102839, ev_cv1_11, pz_wi_gc, pz_wi_ga, pz_wi_gn, pz_wi_gl, pz_wi_gr, pz_wi_same, pz_wi_X, pz_wl_gc, pz_wl_ga, pz_wl_gn, pz_wl_gi, pz_wl_gr, pz_wl_same, pz_wl_X, pz_wr_gc, pz_wr_ga, pz_wr_gn, pz_wr_gi, pz_wr_gl, pz_wr_same, pz_wr_X, so_120 hS, e39, x3, x6, x10, x18, bI_f]
                  (try simp (disch := omega) only [nI_clamp, pz_in_nI2, pz_in_nI2L, pv_gt, nI_add, nI_addL, nI_Ladd, pk_mul, nI_mulL, nI_Lmul, pk_sub, nI_subL, nI_Lsub, nI_inc, nI_clampL, Nat.add_sub_cancel, pz_wi_else, pz_wl_else, vu_eq, vu_ne, pz_wi_gc, pz_wi_ga, pz_wi_gn, pz_wi_gl, pz_wi_gr, pz_wi_same, pz_wi_X, pz_wl_gc, pz_wl_ga, pz_wl_gn, pz_wl_gi, pz_wl_gr, pz_wl_same, pz_wl_X, pz_wr_gc, pz_wr_ga, pz_wr_gn, pz_wr_gi, pz_wr_gl, pz_wr_same, pz_wr_X, e39, x3, x6, x10, x18, bI_f])
                  (try refine po_gP (Nat.le_of_ble_eq_true rfl) ?_)
                  refine po_call (by omega) (w 6 _ (by decide +kernel) (by decide) _ _ ?_)
                  rw [z6]
                  refine pw_blk (mi := mz_191) (b := bz_191_96) rfl rfl ?_
                  simp only [bz_191_96, pz_cut_t, pz_cut_f, pz_cut_n, pv_gt, pv_ts, pv_tn, ev_ifeq, pz_wi_gc, pz_wi_ga, pz_wi_gn, pz_wi_gl, pz_wi_gr, pz_wi_same, pz_wi_X, pz_wl_gc, pz_wl_ga, pz_wl_gn, pz_wl_gi, pz_wl_gr, pz_wl_same, pz_wl_X, pz_wr_gc, pz_wr_ga, pz_wr_gn, pz_wr_gi, pz_wr_gl, pz_wr_same, pz_wr_X, e39, x3, x6, x10, x18, bI_f, bI_t]
                  (try simp (disch := omega) only [nI_clamp, pz_in_nI2, pz_in_nI2L, pv_gt, nI_add, nI_addL, nI_Ladd, pk_mul, nI_mulL, nI_Lmul, pk_sub, nI_subL, nI_Lsub, nI_inc, nI_clampL, Nat.add_sub_cancel, pz_wi_else, pz_wl_else, vu_eq, vu_ne, pz_wi_gc, pz_wi_ga, pz_wi_gn, pz_wi_gl, pz_wi_gr, pz_wi_same, pz_wi_X, pz_wl_gc, pz_wl_ga, pz_wl_gn, pz_wl_gi, pz_wl_gr, pz_wl_same, pz_wl_X, pz_wr_gc, pz_wr_ga, pz_wr_gn, pz_wr_gi, pz_wr_gl, pz_wr_same, pz_wr_X, e39, x3, x6, x10, x18, bI_f, bI_t])
                  refine po_brP (fun q96 => ?_) (fun q96 => ?_)
                  · first
                    | exact absurd q96 (by decide)
                    | exact absurd trivial q96
                    | exact q96.elim
                    | (exfalso; (try simp (disch := omega) only [nI_ltI, nI_leI, nI_eq, nI_ltL, nI_leL, nI_eqL, nI_Llt, nI_Lle, nI_Leq, nI_eqm, nI_meq, nI_ltm, nI_lem, nI_mlt, nI_mle, lg0, lgl, lgg, lgle, lgge, Int32.not_lt, Int32.not_le, Int64.not_lt, Int64.not_le, not_false_eq_true, not_true_eq_false, Decidable.not_not, ge_iff_le, gt_iff_lt] at q96) <;> omega)
                    | exact absurd q96 (by with_reducible assumption)
                    | exact absurd (by with_reducible assumption) q96
                    | exact absurd (Decidable.not_not.mp q96) (by with_reducible assumption)
                    | exact absurd (by with_reducible assumption) (Int32.not_le.mpr q96)
                    | exact absurd (by with_reducible assumption) (Int32.not_lt.mpr q96)
                  · skip
                    (try simp (disch := omega) only [nI_ltI, nI_leI, nI_eq, nI_ltL, nI_leL, nI_eqL, nI_Llt, nI_Lle, nI_Leq, nI_eqm, nI_meq, nI_ltm, nI_lem, nI_mlt, nI_mle, lg0, lgl, lgg, lgle, lgge, Int32.not_lt, Int32.not_le, Int64.not_lt, Int64.not_le, not_false_eq_true, not_true_eq_false, Decidable.not_not, ge_iff_le, gt_iff_lt] at q96)
                    refine pw_blk (mi := mz_191) (b := bz_191_99) rfl rfl ?_
                    simp only [bz_191_99, pz_cut_t, pz_cut_f, pz_cut_n, pv_gt, pv_ts, pv_tn, ev_ald0, ev_eld0, ev_gf11_2, ev_gf11_0, ea_bald, ea_zald, ev_goto, pz_wi_gc, pz_wi_ga, pz_wi_gn, pz_wi_gl, pz_wi_gr, pz_wi_same, pz_wi_X, pz_wl_gc, pz_wl_ga, pz_wl_gn, pz_wl_gi, pz_wl_gr, pz_wl_same, pz_wl_X, pz_wr_gc, pz_wr_ga, pz_wr_gn, pz_wr_gi, pz_wr_gl, pz_wr_same, pz_wr_X, so_120 hS, sr_120_22 hS, sa_133 hS, sn_133 hS, e39, x3, x6, x10, x18, bI_f, sa_124 hS, sn_124 hS, sa_125 hS, sn_125 hS, sa_126 hS, sn_126 hS]
                    (try simp (disch := omega) only [nI_clamp, pz_in_nI2, pz_in_nI2L, pv_gt, nI_add, nI_addL, nI_Ladd, pk_mul, nI_mulL, nI_Lmul, pk_sub, nI_subL, nI_Lsub, nI_inc, nI_clampL, Nat.add_sub_cancel, pz_wi_else, pz_wl_else, vu_eq, vu_ne, pz_wi_gc, pz_wi_ga, pz_wi_gn, pz_wi_gl, pz_wi_gr, pz_wi_same, pz_wi_X, pz_wl_gc, pz_wl_ga, pz_wl_gn, pz_wl_gi, pz_wl_gr, pz_wl_same, pz_wl_X, pz_wr_gc, pz_wr_ga, pz_wr_gn, pz_wr_gi, pz_wr_gl, pz_wr_same, pz_wr_X, e39, x3, x6, x10, x18, bI_f])
                    (try refine po_gI (by first | exact pz_in_nI (by omega) (by decide) | decide | assumption) ?_)
                    refine po_go ?_
                    refine pw_blk (mi := mz_191) (b := bz_191_136) rfl rfl ?_
                    simp only [bz_191_136, pz_cut_t, pz_cut_f, pz_cut_n, pv_gt, pv_ts, pv_tn, ev_iret1, pz_wi_gc, pz_wi_ga, pz_wi_gn, pz_wi_gl, pz_wi_gr, pz_wi_same, pz_wi_X, pz_wl_gc, pz_wl_ga, pz_wl_gn, pz_wl_gi, pz_wl_gr, pz_wl_same, pz_wl_X, pz_wr_gc, pz_wr_ga, pz_wr_gn, pz_wr_gi, pz_wr_gl, pz_wr_same, pz_wr_X, e39, x3, x6, x10, x18, bI_f]
                    (try simp (disch := omega) only [nI_clamp, pz_in_nI2, pz_in_nI2L, pv_gt, nI_add, nI_addL, nI_Ladd, pk_mul, nI_mulL, nI_Lmul, pk_sub, nI_subL, nI_Lsub, nI_inc, nI_clampL, Nat.add_sub_cancel, pz_wi_else, pz_wl_else, vu_eq, vu_ne, pz_wi_gc, pz_wi_ga, pz_wi_gn, pz_wi_gl, pz_wi_gr, pz_wi_same, pz_wi_X, pz_wl_gc, pz_wl_ga, pz_wl_gn, pz_wl_gi, pz_wl_gr, pz_wl_same, pz_wl_X, pz_wr_gc, pz_wr_ga, pz_wr_gn, pz_wr_gi, pz_wr_gl, pz_wr_same, pz_wr_X, e39, x3, x6, x10, x18, bI_f])
                    (try refine po_gP (by first | decide | assumption) ?_)
                    exact po_ret k
                · first
                  | exact absurd q66 (by decide)
                  | exact absurd trivial q66
                  | exact q66.elim
                  | (exfalso; (try simp (disch := omega) only [nI_ltI, nI_leI, nI_eq, nI_ltL, nI_leL, nI_eqL, nI_Llt, nI_Lle, nI_Leq, nI_eqm, nI_meq, nI_ltm, nI_lem, nI_mlt, nI_mle, lg0, lgl, lgg, lgle, lgge, Int32.not_lt, Int32.not_le, Int64.not_lt, Int64.not_le, not_false_eq_true, not_true_eq_false, Decidable.not_not, ge_iff_le, gt_iff_lt] at q66) <;> omega)
                  | exact absurd q66 (by with_reducible assumption)
                  | exact absurd (by with_reducible assumption) q66
                  | exact absurd (Decidable.not_not.mp q66) (by with_reducible assumption)
                  | exact absurd (by with_reducible assumption) (Int32.not_le.mpr q66)
                  | exact absurd (by with_reducible assumption) (Int32.not_lt.mpr q66)
              · first
                | exact absurd q37 (by decide)
                | exact absurd trivial q37
                | exact q37.elim
                | (exfalso; (try simp (disch := omega) only [nI_ltI, nI_leI, nI_eq, nI_ltL, nI_leL, nI_eqL, nI_Llt, nI_Lle, nI_Leq, nI_eqm, nI_meq, nI_ltm, nI_lem, nI_mlt, nI_mle, lg0, lgl, lgg, lgle, lgge, Int32.not_lt, Int32.not_le, Int64.not_lt, Int64.not_le, not_false_eq_true, not_true_eq_false, Decidable.not_not, ge_iff_le, gt_iff_lt] at q37) <;> omega)
                | exact absurd q37 (by with_reducible assumption)
                | exact absurd (by with_reducible assumption) q37
                | exact absurd (Decidable.not_not.mp q37) (by with_reducible assumption)
                | exact absurd (by with_reducible assumption) (Int32.not_le.mpr q37)
                | exact absurd (by with_reducible assumption) (Int32.not_lt.mpr q37)
            · first
              | exact absurd q7 (by decide)
              | exact absurd trivial q7
              | exact q7.elim
              | (exfalso; (try simp (disch := omega) only [nI_ltI, nI_leI, nI_eq, nI_ltL, nI_leL, nI_eqL, nI_Llt, nI_Lle, nI_Leq, nI_eqm, nI_meq, nI_ltm, nI_lem, nI_mlt, nI_mle, lg0, lgl, lgg, lgle, lgge, Int32.not_lt, Int32.not_le, Int64.not_lt, Int64.not_le, not_false_eq_true, not_true_eq_false, Decidable.not_not, ge_iff_le, gt_iff_lt] at q7) <;> omega)
              | exact absurd q7 (by with_reducible assumption)
              | exact absurd (by with_reducible assumption) q7
              | exact absurd (Decidable.not_not.mp q7) (by with_reducible assumption)
              | exact absurd (by with_reducible assumption) (Int32.not_le.mpr q7)
              | exact absurd (by with_reducible assumption) (Int32.not_lt.mpr q7)
        | false =>
          rw [if_neg (by rw [z6]; decide)] at k
          cases z4 : isWs 4 σ with
          | true =>
            rw [z4] at k
            refine pm_ent (L := [some (.ref 120)]) rfl (Nat.le_of_ble_eq_true rfl) ?_
            refine pw_blk (mi := mz_191) (b := bz_191_0) rfl rfl ?_
            simp only [bz_191_0, pz_cut_t, pz_cut_f, pz_cut_n, pv_gt, pv_ts, pv_tn, ev_ald0, ev_eld0, ev_ldl1751474544, ev_cv1_11, pz_wi_gc, pz_wi_ga, pz_wi_gn, pz_wi_gl, pz_wi_gr, pz_wi_same, pz_wi_X, pz_wl_gc, pz_wl_ga, pz_wl_gn, pz_wl_gi, pz_wl_gr, pz_wl_same, pz_wl_X, pz_wr_gc, pz_wr_ga, pz_wr_gn, pz_wr_gi, pz_wr_gl, pz_wr_same, pz_wr_X, so_120 hS, e39, x3, x6, x10, x18]
            (try simp (disch := omega) only [nI_clamp, pz_in_nI2, pz_in_nI2L, pv_gt, nI_add, nI_addL, nI_Ladd, pk_mul, nI_mulL, nI_Lmul, pk_sub, nI_subL, nI_Lsub, nI_inc, nI_clampL, Nat.add_sub_cancel, pz_wi_else, pz_wl_else, vu_eq, vu_ne, pz_wi_gc, pz_wi_ga, pz_wi_gn, pz_wi_gl, pz_wi_gr, pz_wi_same, pz_wi_X, pz_wl_gc, pz_wl_ga, pz_wl_gn, pz_wl_gi, pz_wl_gr, pz_wl_same, pz_wl_X, pz_wr_gc, pz_wr_ga, pz_wr_gn, pz_wr_gi, pz_wr_gl, pz_wr_same, pz_wr_X, e39, x3, x6, x10, x18])
            (try refine po_gP (Nat.le_of_ble_eq_true rfl) ?_)
            refine po_call (by omega) (w 0 _ (by decide +kernel) (by decide) _ _ ?_)
            rw [z0]
            refine pw_blk (mi := mz_191) (b := bz_191_7) rfl rfl ?_
            simp only [bz_191_7, pz_cut_t, pz_cut_f, pz_cut_n, pv_gt, pv_ts, pv_tn, ev_ifeq, pz_wi_gc, pz_wi_ga, pz_wi_gn, pz_wi_gl, pz_wi_gr, pz_wi_same, pz_wi_X, pz_wl_gc, pz_wl_ga, pz_wl_gn, pz_wl_gi, pz_wl_gr, pz_wl_same, pz_wl_X, pz_wr_gc, pz_wr_ga, pz_wr_gn, pz_wr_gi, pz_wr_gl, pz_wr_same, pz_wr_X, e39, x3, x6, x10, x18, bI_f]
            (try simp (disch := omega) only [nI_clamp, pz_in_nI2, pz_in_nI2L, pv_gt, nI_add, nI_addL, nI_Ladd, pk_mul, nI_mulL, nI_Lmul, pk_sub, nI_subL, nI_Lsub, nI_inc, nI_clampL, Nat.add_sub_cancel, pz_wi_else, pz_wl_else, vu_eq, vu_ne, pz_wi_gc, pz_wi_ga, pz_wi_gn, pz_wi_gl, pz_wi_gr, pz_wi_same, pz_wi_X, pz_wl_gc, pz_wl_ga, pz_wl_gn, pz_wl_gi, pz_wl_gr, pz_wl_same, pz_wl_X, pz_wr_gc, pz_wr_ga, pz_wr_gn, pz_wr_gi, pz_wr_gl, pz_wr_same, pz_wr_X, e39, x3, x6, x10, x18, bI_f])
            refine po_brP (fun q7 => ?_) (fun q7 => ?_)
            · skip
              (try simp (disch := omega) only [nI_ltI, nI_leI, nI_eq, nI_ltL, nI_leL, nI_eqL, nI_Llt, nI_Lle, nI_Leq, nI_eqm, nI_meq, nI_ltm, nI_lem, nI_mlt, nI_mle, lg0, lgl, lgg, lgle, lgge, Int32.not_lt, Int32.not_le, Int64.not_lt, Int64.not_le, not_false_eq_true, not_true_eq_false, Decidable.not_not, ge_iff_le, gt_iff_lt] at q7)
              refine pw_blk (mi := mz_191) (b := bz_191_30) rfl rfl ?_
              simp only [bz_191_30, pz_cut_t, pz_cut_f, pz_cut_n, pv_gt, pv_ts, pv_tn, ev_ald0, ev_eld0, ev_ldl1885434484, ev_cv1_11, pz_wi_gc, pz_wi_ga, pz_wi_gn, pz_wi_gl, pz_wi_gr, pz_wi_same, pz_wi_X, pz_wl_gc, pz_wl_ga, pz_wl_gn, pz_wl_gi, pz_wl_gr, pz_wl_same, pz_wl_X, pz_wr_gc, pz_wr_ga, pz_wr_gn, pz_wr_gi, pz_wr_gl, pz_wr_same, pz_wr_X, so_120 hS, e39, x3, x6, x10, x18]
              (try simp (disch := omega) only [nI_clamp, pz_in_nI2, pz_in_nI2L, pv_gt, nI_add, nI_addL, nI_Ladd, pk_mul, nI_mulL, nI_Lmul, pk_sub, nI_subL, nI_Lsub, nI_inc, nI_clampL, Nat.add_sub_cancel, pz_wi_else, pz_wl_else, vu_eq, vu_ne, pz_wi_gc, pz_wi_ga, pz_wi_gn, pz_wi_gl, pz_wi_gr, pz_wi_same, pz_wi_X, pz_wl_gc, pz_wl_ga, pz_wl_gn, pz_wl_gi, pz_wl_gr, pz_wl_same, pz_wl_X, pz_wr_gc, pz_wr_ga, pz_wr_gn, pz_wr_gi, pz_wr_gl, pz_wr_same, pz_wr_X, e39, x3, x6, x10, x18])
              (try refine po_gP (Nat.le_of_ble_eq_true rfl) ?_)
              refine po_call (by omega) (w 1 _ (by decide +kernel) (by decide) _ _ ?_)
              rw [z1]
              refine pw_blk (mi := mz_191) (b := bz_191_37) rfl rfl ?_
              simp only [bz_191_37, pz_cut_t, pz_cut_f, pz_cut_n, pv_gt, pv_ts, pv_tn, ev_ifeq, pz_wi_gc, pz_wi_ga, pz_wi_gn, pz_wi_gl, pz_wi_gr, pz_wi_same, pz_wi_X, pz_wl_gc, pz_wl_ga, pz_wl_gn, pz_wl_gi, pz_wl_gr, pz_wl_same, pz_wl_X, pz_wr_gc, pz_wr_ga, pz_wr_gn, pz_wr_gi, pz_wr_gl, pz_wr_same, pz_wr_X, e39, x3, x6, x10, x18, bI_f]
              (try simp (disch := omega) only [nI_clamp, pz_in_nI2, pz_in_nI2L, pv_gt, nI_add, nI_addL, nI_Ladd, pk_mul, nI_mulL, nI_Lmul, pk_sub, nI_subL, nI_Lsub, nI_inc, nI_clampL, Nat.add_sub_cancel, pz_wi_else, pz_wl_else, vu_eq, vu_ne, pz_wi_gc, pz_wi_ga, pz_wi_gn, pz_wi_gl, pz_wi_gr, pz_wi_same, pz_wi_X, pz_wl_gc, pz_wl_ga, pz_wl_gn, pz_wl_gi, pz_wl_gr, pz_wl_same, pz_wl_X, pz_wr_gc, pz_wr_ga, pz_wr_gn, pz_wr_gi, pz_wr_gl, pz_wr_same, pz_wr_X, e39, x3, x6, x10, x18, bI_f])
              refine po_brP (fun q37 => ?_) (fun q37 => ?_)
              · skip
                (try simp (disch := omega) only [nI_ltI, nI_leI, nI_eq, nI_ltL, nI_leL, nI_eqL, nI_Llt, nI_Lle, nI_Leq, nI_eqm, nI_meq, nI_ltm, nI_lem, nI_mlt, nI_mle, lg0, lgl, lgg, lgle, lgge, Int32.not_lt, Int32.not_le, Int64.not_lt, Int64.not_le, not_false_eq_true, not_true_eq_false, Decidable.not_not, ge_iff_le, gt_iff_lt] at q37)
                refine pw_blk (mi := mz_191) (b := bz_191_59) rfl rfl ?_
                simp only [bz_191_59, pz_cut_t, pz_cut_f, pz_cut_n, pv_gt, pv_ts, pv_tn, ev_ald0, ev_eld0, ev_ldl1886151022, ev_cv1_11, pz_wi_gc, pz_wi_ga, pz_wi_gn, pz_wi_gl, pz_wi_gr, pz_wi_same, pz_wi_X, pz_wl_gc, pz_wl_ga, pz_wl_gn, pz_wl_gi, pz_wl_gr, pz_wl_same, pz_wl_X, pz_wr_gc, pz_wr_ga, pz_wr_gn, pz_wr_gi, pz_wr_gl, pz_wr_same, pz_wr_X, so_120 hS, e39, x3, x6, x10, x18]
                (try simp (disch := omega) only [nI_clamp, pz_in_nI2, pz_in_nI2L, pv_gt, nI_add, nI_addL, nI_Ladd, pk_mul, nI_mulL, nI_Lmul, pk_sub, nI_subL, nI_Lsub, nI_inc, nI_clampL, Nat.add_sub_cancel, pz_wi_else, pz_wl_else, vu_eq, vu_ne, pz_wi_gc, pz_wi_ga, pz_wi_gn, pz_wi_gl, pz_wi_gr, pz_wi_same, pz_wi_X, pz_wl_gc, pz_wl_ga, pz_wl_gn, pz_wl_gi, pz_wl_gr, pz_wl_same, pz_wl_X, pz_wr_gc, pz_wr_ga, pz_wr_gn, pz_wr_gi, pz_wr_gl, pz_wr_same, pz_wr_X, e39, x3, x6, x10, x18])
                (try refine po_gP (Nat.le_of_ble_eq_true rfl) ?_)
                refine po_call (by omega) (w 13 _ (by decide +kernel) (by decide) _ _ ?_)
                rw [z13]
                refine pw_blk (mi := mz_191) (b := bz_191_66) rfl rfl ?_
                simp only [bz_191_66, pz_cut_t, pz_cut_f, pz_cut_n, pv_gt, pv_ts, pv_tn, ev_ifeq, pz_wi_gc, pz_wi_ga, pz_wi_gn, pz_wi_gl, pz_wi_gr, pz_wi_same, pz_wi_X, pz_wl_gc, pz_wl_ga, pz_wl_gn, pz_wl_gi, pz_wl_gr, pz_wl_same, pz_wl_X, pz_wr_gc, pz_wr_ga, pz_wr_gn, pz_wr_gi, pz_wr_gl, pz_wr_same, pz_wr_X, e39, x3, x6, x10, x18, bI_f]
                (try simp (disch := omega) only [nI_clamp, pz_in_nI2, pz_in_nI2L, pv_gt, nI_add, nI_addL, nI_Ladd, pk_mul, nI_mulL, nI_Lmul, pk_sub, nI_subL, nI_Lsub, nI_inc, nI_clampL, Nat.add_sub_cancel, pz_wi_else, pz_wl_else, vu_eq, vu_ne, pz_wi_gc, pz_wi_ga, pz_wi_gn, pz_wi_gl, pz_wi_gr, pz_wi_same, pz_wi_X, pz_wl_gc, pz_wl_ga, pz_wl_gn, pz_wl_gi, pz_wl_gr, pz_wl_same, pz_wl_X, pz_wr_gc, pz_wr_ga, pz_wr_gn, pz_wr_gi, pz_wr_gl, pz_wr_same, pz_wr_X, e39, x3, x6, x10, x18, bI_f])
                refine po_brP (fun q66 => ?_) (fun q66 => ?_)
                · skip
                  (try simp (disch := omega) only [nI_ltI, nI_leI, nI_eq, nI_ltL, nI_leL, nI_eqL, nI_Llt, nI_Lle, nI_Leq, nI_eqm, nI_meq, nI_ltm, nI_lem, nI_mlt, nI_mle, lg0, lgl, lgg, lgle, lgge, Int32.not_lt, Int32.not_le, Int64.not_lt, Int64.not_le, not_false_eq_true, not_true_eq_false, Decidable.not_not, ge_iff_le, gt_iff_lt] at q66)
                  refine pw_blk (mi := mz_191) (b := bz_191_89) rfl rfl ?_
                  simp only [bz_191_89, pz_cut_t, pz_cut_f, pz_cut_n, pv_gt, pv_ts, pv_tn, ev_ald0, ev_eld0, ev_ldl7102839, ev_cv1_11, pz_wi_gc, pz_wi_ga, pz_wi_gn, pz_wi_gl, pz_wi_gr, pz_wi_same, pz_wi_X, pz_wl_gc, pz_wl_ga, pz_wl_gn, pz_wl_gi, pz_wl_gr, pz_wl_same, pz_wl_X, pz_wr_gc, pz_wr_ga, pz_wr_gn, pz_wr_gi, pz_wr_gl, pz_wr_same, pz_wr_X, so_120 hS, e39, x3, x6, x10, x18]
                  (try simp (disch := omega) only [nI_clamp, pz_in_nI2, pz_in_nI2L, pv_gt, nI_add, nI_addL, nI_Ladd, pk_mul, nI_mulL, nI_Lmul, pk_sub, nI_subL, nI_Lsub, nI_inc, nI_clampL, Nat.add_sub_cancel, pz_wi_else, pz_wl_else, vu_eq, vu_ne, pz_wi_gc, pz_wi_ga, pz_wi_gn, pz_wi_gl, pz_wi_gr, pz_wi_same, pz_wi_X, pz_wl_gc, pz_wl_ga, pz_wl_gn, pz_wl_gi, pz_wl_gr, pz_wl_same, pz_wl_X, pz_wr_gc, pz_wr_ga, pz_wr_gn, pz_wr_gi, pz_wr_gl, pz_wr_same, pz_wr_X, e39, x3, x6, x10, x18])
                  (try refine po_gP (Nat.le_of_ble_eq_true rfl) ?_)
                  refine po_call (by omega) (w 6 _ (by decide +kernel) (by decide) _ _ ?_)
                  rw [z6]
                  refine pw_blk (mi := mz_191) (b := bz_191_96) rfl rfl ?_
                  simp only [bz_191_96, pz_cut_t, pz_cut_f, pz_cut_n, pv_gt, pv_ts, pv_tn, ev_ifeq, pz_wi_gc, pz_wi_ga, pz_wi_gn, pz_wi_gl, pz_wi_gr, pz_wi_same, pz_wi_X, pz_wl_gc, pz_wl_ga, pz_wl_gn, pz_wl_gi, pz_wl_gr, pz_wl_same, pz_wl_X, pz_wr_gc, pz_wr_ga, pz_wr_gn, pz_wr_gi, pz_wr_gl, pz_wr_same, pz_wr_X, e39, x3, x6, x10, x18, bI_f]
                  (try simp (disch := omega) only [nI_clamp, pz_in_nI2, pz_in_nI2L, pv_gt, nI_add, nI_addL, nI_Ladd, pk_mul, nI_mulL, nI_Lmul, pk_sub, nI_subL, nI_Lsub, nI_inc, nI_clampL, Nat.add_sub_cancel, pz_wi_else, pz_wl_else, vu_eq, vu_ne, pz_wi_gc, pz_wi_ga, pz_wi_gn, pz_wi_gl, pz_wi_gr, pz_wi_same, pz_wi_X, pz_wl_gc, pz_wl_ga, pz_wl_gn, pz_wl_gi, pz_wl_gr, pz_wl_same, pz_wl_X, pz_wr_gc, pz_wr_ga, pz_wr_gn, pz_wr_gi, pz_wr_gl, pz_wr_same, pz_wr_X, e39, x3, x6, x10, x18, bI_f])
                  refine po_brP (fun q96 => ?_) (fun q96 => ?_)
                  · skip
                    (try simp (disch := omega) only [nI_ltI, nI_leI, nI_eq, nI_ltL, nI_leL, nI_eqL, nI_Llt, nI_Lle, nI_Leq, nI_eqm, nI_meq, nI_ltm, nI_lem, nI_mlt, nI_mle, lg0, lgl, lgg, lgle, lgge, Int32.not_lt, Int32.not_le, Int64.not_lt, Int64.not_le, not_false_eq_true, not_true_eq_false, Decidable.not_not, ge_iff_le, gt_iff_lt] at q96)
                    refine pw_blk (mi := mz_191) (b := bz_191_111) rfl rfl ?_
                    simp only [bz_191_111, pz_cut_t, pz_cut_f, pz_cut_n, pv_gt, pv_ts, pv_tn, ev_ald0, ev_eld0, ev_ldl1685024626, ev_cv1_11, pz_wi_gc, pz_wi_ga, pz_wi_gn, pz_wi_gl, pz_wi_gr, pz_wi_same, pz_wi_X, pz_wl_gc, pz_wl_ga, pz_wl_gn, pz_wl_gi, pz_wl_gr, pz_wl_same, pz_wl_X, pz_wr_gc, pz_wr_ga, pz_wr_gn, pz_wr_gi, pz_wr_gl, pz_wr_same, pz_wr_X, so_120 hS, e39, x3, x6, x10, x18]
                    (try simp (disch := omega) only [nI_clamp, pz_in_nI2, pz_in_nI2L, pv_gt, nI_add, nI_addL, nI_Ladd, pk_mul, nI_mulL, nI_Lmul, pk_sub, nI_subL, nI_Lsub, nI_inc, nI_clampL, Nat.add_sub_cancel, pz_wi_else, pz_wl_else, vu_eq, vu_ne, pz_wi_gc, pz_wi_ga, pz_wi_gn, pz_wi_gl, pz_wi_gr, pz_wi_same, pz_wi_X, pz_wl_gc, pz_wl_ga, pz_wl_gn, pz_wl_gi, pz_wl_gr, pz_wl_same, pz_wl_X, pz_wr_gc, pz_wr_ga, pz_wr_gn, pz_wr_gi, pz_wr_gl, pz_wr_same, pz_wr_X, e39, x3, x6, x10, x18])
                    (try refine po_gP (Nat.le_of_ble_eq_true rfl) ?_)
                    refine po_call (by omega) (w 4 _ (by decide +kernel) (by decide) _ _ ?_)
                    rw [z4]
                    refine pw_blk (mi := mz_191) (b := bz_191_118) rfl rfl ?_
                    simp only [bz_191_118, pz_cut_t, pz_cut_f, pz_cut_n, pv_gt, pv_ts, pv_tn, ev_ifne, pz_wi_gc, pz_wi_ga, pz_wi_gn, pz_wi_gl, pz_wi_gr, pz_wi_same, pz_wi_X, pz_wl_gc, pz_wl_ga, pz_wl_gn, pz_wl_gi, pz_wl_gr, pz_wl_same, pz_wl_X, pz_wr_gc, pz_wr_ga, pz_wr_gn, pz_wr_gi, pz_wr_gl, pz_wr_same, pz_wr_X, e39, x3, x6, x10, x18, bI_t]
                    (try simp (disch := omega) only [nI_clamp, pz_in_nI2, pz_in_nI2L, pv_gt, nI_add, nI_addL, nI_Ladd, pk_mul, nI_mulL, nI_Lmul, pk_sub, nI_subL, nI_Lsub, nI_inc, nI_clampL, Nat.add_sub_cancel, pz_wi_else, pz_wl_else, vu_eq, vu_ne, pz_wi_gc, pz_wi_ga, pz_wi_gn, pz_wi_gl, pz_wi_gr, pz_wi_same, pz_wi_X, pz_wl_gc, pz_wl_ga, pz_wl_gn, pz_wl_gi, pz_wl_gr, pz_wl_same, pz_wl_X, pz_wr_gc, pz_wr_ga, pz_wr_gn, pz_wr_gi, pz_wr_gl, pz_wr_same, pz_wr_X, e39, x3, x6, x10, x18, bI_t])
                    refine po_brP (fun q118 => ?_) (fun q118 => ?_)
                    · skip
                      (try simp (disch := omega) only [nI_ltI, nI_leI, nI_eq, nI_ltL, nI_leL, nI_eqL, nI_Llt, nI_Lle, nI_Leq, nI_eqm, nI_meq, nI_ltm, nI_lem, nI_mlt, nI_mle, lg0, lgl, lgg, lgle, lgge, Int32.not_lt, Int32.not_le, Int64.not_lt, Int64.not_le, not_false_eq_true, not_true_eq_false, Decidable.not_not, ge_iff_le, gt_iff_lt] at q118)
                      refine pw_blk (mi := mz_191) (b := bz_191_135) rfl rfl ?_
                      simp only [bz_191_135, pz_cut_t, pz_cut_f, pz_cut_n, pv_gt, pv_ts, pv_tn, ev_ic0, ev_nil, pz_wi_gc, pz_wi_ga, pz_wi_gn, pz_wi_gl, pz_wi_gr, pz_wi_same, pz_wi_X, pz_wl_gc, pz_wl_ga, pz_wl_gn, pz_wl_gi, pz_wl_gr, pz_wl_same, pz_wl_X, pz_wr_gc, pz_wr_ga, pz_wr_gn, pz_wr_gi, pz_wr_gl, pz_wr_same, pz_wr_X, e39, x3, x6, x10, x18]
                      (try simp (disch := omega) only [nI_clamp, pz_in_nI2, pz_in_nI2L, pv_gt, nI_add, nI_addL, nI_Ladd, pk_mul, nI_mulL, nI_Lmul, pk_sub, nI_subL, nI_Lsub, nI_inc, nI_clampL, Nat.add_sub_cancel, pz_wi_else, pz_wl_else, vu_eq, vu_ne, pz_wi_gc, pz_wi_ga, pz_wi_gn, pz_wi_gl, pz_wi_gr, pz_wi_same, pz_wi_X, pz_wl_gc, pz_wl_ga, pz_wl_gn, pz_wl_gi, pz_wl_gr, pz_wl_same, pz_wl_X, pz_wr_gc, pz_wr_ga, pz_wr_gn, pz_wr_gi, pz_wr_gl, pz_wr_same, pz_wr_X, e39, x3, x6, x10, x18])
                      refine po_go ?_
                      refine pw_blk (mi := mz_191) (b := bz_191_136) rfl rfl ?_
                      simp only [bz_191_136, pz_cut_t, pz_cut_f, pz_cut_n, pv_gt, pv_ts, pv_tn, ev_iret1, pz_wi_gc, pz_wi_ga, pz_wi_gn, pz_wi_gl, pz_wi_gr, pz_wi_same, pz_wi_X, pz_wl_gc, pz_wl_ga, pz_wl_gn, pz_wl_gi, pz_wl_gr, pz_wl_same, pz_wl_X, pz_wr_gc, pz_wr_ga, pz_wr_gn, pz_wr_gi, pz_wr_gl, pz_wr_same, pz_wr_X, e39, x3, x6, x10, x18]
                      (try simp (disch := omega) only [nI_clamp, pz_in_nI2, pz_in_nI2L, pv_gt, nI_add, nI_addL, nI_Ladd, pk_mul, nI_mulL, nI_Lmul, pk_sub, nI_subL, nI_Lsub, nI_inc, nI_clampL, Nat.add_sub_cancel, pz_wi_else, pz_wl_else, vu_eq, vu_ne, pz_wi_gc, pz_wi_ga, pz_wi_gn, pz_wi_gl, pz_wi_gr, pz_wi_same, pz_wi_X, pz_wl_gc, pz_wl_ga, pz_wl_gn, pz_wl_gi, pz_wl_gr, pz_wl_same, pz_wl_X, pz_wr_gc, pz_wr_ga, pz_wr_gn, pz_wr_gi, pz_wr_gl, pz_wr_same, pz_wr_X, e39, x3, x6, x10, x18])
                      (try refine po_gP (by first | decide | assumption) ?_)
                      exact po_ret k
                    · first
                      | exact absurd q118 (by decide)
                      | exact absurd trivial q118
                      | exact q118.elim
                      | (exfalso; (try simp (disch := omega) only [nI_ltI, nI_leI, nI_eq, nI_ltL, nI_leL, nI_eqL, nI_Llt, nI_Lle, nI_Leq, nI_eqm, nI_meq, nI_ltm, nI_lem, nI_mlt, nI_mle, lg0, lgl, lgg, lgle, lgge, Int32.not_lt, Int32.not_le, Int64.not_lt, Int64.not_le, not_false_eq_true, not_true_eq_false, Decidable.not_not, ge_iff_le, gt_iff_lt] at q118) <;> omega)
                      | exact absurd q118 (by with_reducible assumption)
                      | exact absurd (by with_reducible assumption) q118
                      | exact absurd (Decidable.not_not.mp q118) (by with_reducible assumption)
                      | exact absurd (by with_reducible assumption) (Int32.not_le.mpr q118)
                      | exact absurd (by with_reducible assumption) (Int32.not_lt.mpr q118)
                  · first
                    | exact absurd q96 (by decide)
                    | exact absurd trivial q96
                    | exact q96.elim
                    | (exfalso; (try simp (disch := omega) only [nI_ltI, nI_leI, nI_eq, nI_ltL, nI_leL, nI_eqL, nI_Llt, nI_Lle, nI_Leq, nI_eqm, nI_meq, nI_ltm, nI_lem, nI_mlt, nI_mle, lg0, lgl, lgg, lgle, lgge, Int32.not_lt, Int32.not_le, Int64.not_lt, Int64.not_le, not_false_eq_true, not_true_eq_false, Decidable.not_not, ge_iff_le, gt_iff_lt] at q96) <;> omega)
                    | exact absurd q96 (by with_reducible assumption)
                    | exact absurd (by with_reducible assumption) q96
                    | exact absurd (Decidable.not_not.mp q96) (by with_reducible assumption)
                    | exact absurd (by with_reducible assumption) (Int32.not_le.mpr q96)
                    | exact absurd (by with_reducible assumption) (Int32.not_lt.mpr q96)
                · first
                  | exact absurd q66 (by decide)
                  | exact absurd trivial q66
                  | exact q66.elim
                  | (exfalso; (try simp (disch := omega) only [nI_ltI, nI_leI, nI_eq, nI_ltL, nI_leL, nI_eqL, nI_Llt, nI_Lle, nI_Leq, nI_eqm, nI_meq, nI_ltm, nI_lem, nI_mlt, nI_mle, lg0, lgl, lgg, lgle, lgge, Int32.not_lt, Int32.not_le, Int64.not_lt, Int64.not_le, not_false_eq_true, not_true_eq_false, Decidable.not_not, ge_iff_le, gt_iff_lt] at q66) <;> omega)
                  | exact absurd q66 (by with_reducible assumption)
                  | exact absurd (by with_reducible assumption) q66
                  | exact absurd (Decidable.not_not.mp q66) (by with_reducible assumption)
                  | exact absurd (by with_reducible assumption) (Int32.not_le.mpr q66)
                  | exact absurd (by with_reducible assumption) (Int32.not_lt.mpr q66)
              · first
                | exact absurd q37 (by decide)
                | exact absurd trivial q37
                | exact q37.elim
                | (exfalso; (try simp (disch := omega) only [nI_ltI, nI_leI, nI_eq, nI_ltL, nI_leL, nI_eqL, nI_Llt, nI_Lle, nI_Leq, nI_eqm, nI_meq, nI_ltm, nI_lem, nI_mlt, nI_mle, lg0, lgl, lgg, lgle, lgge, Int32.not_lt, Int32.not_le, Int64.not_lt, Int64.not_le, not_false_eq_true, not_true_eq_false, Decidable.not_not, ge_iff_le, gt_iff_lt] at q37) <;> omega)
                | exact absurd q37 (by with_reducible assumption)
                | exact absurd (by with_reducible assumption) q37
                | exact absurd (Decidable.not_not.mp q37) (by with_reducible assumption)
                | exact absurd (by with_reducible assumption) (Int32.not_le.mpr q37)
                | exact absurd (by with_reducible assumption) (Int32.not_lt.mpr q37)
            · first
              | exact absurd q7 (by decide)
              | exact absurd trivial q7
              | exact q7.elim
              | (exfalso; (try simp (disch := omega) only [nI_ltI, nI_leI, nI_eq, nI_ltL, nI_leL, nI_eqL, nI_Llt, nI_Lle, nI_Leq, nI_eqm, nI_meq, nI_ltm, nI_lem, nI_mlt, nI_mle, lg0, lgl, lgg, lgle, lgge, Int32.not_lt, Int32.not_le, Int64.not_lt, Int64.not_le, not_false_eq_true, not_true_eq_false, Decidable.not_not, ge_iff_le, gt_iff_lt] at q7) <;> omega)
              | exact absurd q7 (by with_reducible assumption)
              | exact absurd (by with_reducible assumption) q7
              | exact absurd (Decidable.not_not.mp q7) (by with_reducible assumption)
              | exact absurd (by with_reducible assumption) (Int32.not_le.mpr q7)
              | exact absurd (by with_reducible assumption) (Int32.not_lt.mpr q7)
          | false =>
            cases z5 : isWs 5 σ with
            | true =>
              rw [z4, z5] at k
              refine pm_ent (L := [some (.ref 120)]) rfl (Nat.le_of_ble_eq_true rfl) ?_
              refine pw_blk (mi := mz_191) (b := bz_191_0) rfl rfl ?_
              simp only [bz_191_0, pz_cut_t, pz_cut_f, pz_cut_n, pv_gt, pv_ts, pv_tn, ev_ald0, ev_eld0, ev_ldl1751474544, ev_cv1_11, pz_wi_gc, pz_wi_ga, pz_wi_gn, pz_wi_gl, pz_wi_gr, pz_wi_same, pz_wi_X, pz_wl_gc, pz_wl_ga, pz_wl_gn, pz_wl_gi, pz_wl_gr, pz_wl_same, pz_wl_X, pz_wr_gc, pz_wr_ga, pz_wr_gn, pz_wr_gi, pz_wr_gl, pz_wr_same, pz_wr_X, so_120 hS, e39, x3, x6, x10, x18]
              (try simp (disch := omega) only [nI_clamp, pz_in_nI2, pz_in_nI2L, pv_gt, nI_add, nI_addL, nI_Ladd, pk_mul, nI_mulL, nI_Lmul, pk_sub, nI_subL, nI_Lsub, nI_inc, nI_clampL, Nat.add_sub_cancel, pz_wi_else, pz_wl_else, vu_eq, vu_ne, pz_wi_gc, pz_wi_ga, pz_wi_gn, pz_wi_gl, pz_wi_gr, pz_wi_same, pz_wi_X, pz_wl_gc, pz_wl_ga, pz_wl_gn, pz_wl_gi, pz_wl_gr, pz_wl_same, pz_wl_X, pz_wr_gc, pz_wr_ga, pz_wr_gn, pz_wr_gi, pz_wr_gl, pz_wr_same, pz_wr_X, e39, x3, x6, x10, x18])
              (try refine po_gP (Nat.le_of_ble_eq_true rfl) ?_)
              refine po_call (by omega) (w 0 _ (by decide +kernel) (by decide) _ _ ?_)
              rw [z0]
              refine pw_blk (mi := mz_191) (b := bz_191_7) rfl rfl ?_
              simp only [bz_191_7, pz_cut_t, pz_cut_f, pz_cut_n, pv_gt, pv_ts, pv_tn, ev_ifeq, pz_wi_gc, pz_wi_ga, pz_wi_gn, pz_wi_gl, pz_wi_gr, pz_wi_same, pz_wi_X, pz_wl_gc, pz_wl_ga, pz_wl_gn, pz_wl_gi, pz_wl_gr, pz_wl_same, pz_wl_X, pz_wr_gc, pz_wr_ga, pz_wr_gn, pz_wr_gi, pz_wr_gl, pz_wr_same, pz_wr_X, e39, x3, x6, x10, x18, bI_f]
              (try simp (disch := omega) only [nI_clamp, pz_in_nI2, pz_in_nI2L, pv_gt, nI_add, nI_addL, nI_Ladd, pk_mul, nI_mulL, nI_Lmul, pk_sub, nI_subL, nI_Lsub, nI_inc, nI_clampL, Nat.add_sub_cancel, pz_wi_else, pz_wl_else, vu_eq, vu_ne, pz_wi_gc, pz_wi_ga, pz_wi_gn, pz_wi_gl, pz_wi_gr, pz_wi_same, pz_wi_X, pz_wl_gc, pz_wl_ga, pz_wl_gn, pz_wl_gi, pz_wl_gr, pz_wl_same, pz_wl_X, pz_wr_gc, pz_wr_ga, pz_wr_gn, pz_wr_gi, pz_wr_gl, pz_wr_same, pz_wr_X, e39, x3, x6, x10, x18, bI_f])
              refine po_brP (fun q7 => ?_) (fun q7 => ?_)
              · skip
                (try simp (disch := omega) only [nI_ltI, nI_leI, nI_eq, nI_ltL, nI_leL, nI_eqL, nI_Llt, nI_Lle, nI_Leq, nI_eqm, nI_meq, nI_ltm, nI_lem, nI_mlt, nI_mle, lg0, lgl, lgg, lgle, lgge, Int32.not_lt, Int32.not_le, Int64.not_lt, Int64.not_le, not_false_eq_true, not_true_eq_false, Decidable.not_not, ge_iff_le, gt_iff_lt] at q7)
                refine pw_blk (mi := mz_191) (b := bz_191_30) rfl rfl ?_
                simp only [bz_191_30, pz_cut_t, pz_cut_f, pz_cut_n, pv_gt, pv_ts, pv_tn, ev_ald0, ev_eld0, ev_ldl1885434484, ev_cv1_11, pz_wi_gc, pz_wi_ga, pz_wi_gn, pz_wi_gl, pz_wi_gr, pz_wi_same, pz_wi_X, pz_wl_gc, pz_wl_ga, pz_wl_gn, pz_wl_gi, pz_wl_gr, pz_wl_same, pz_wl_X, pz_wr_gc, pz_wr_ga, pz_wr_gn, pz_wr_gi, pz_wr_gl, pz_wr_same, pz_wr_X, so_120 hS, e39, x3, x6, x10, x18]
                (try simp (disch := omega) only [nI_clamp, pz_in_nI2, pz_in_nI2L, pv_gt, nI_add, nI_addL, nI_Ladd, pk_mul, nI_mulL, nI_Lmul, pk_sub, nI_subL, nI_Lsub, nI_inc, nI_clampL, Nat.add_sub_cancel, pz_wi_else, pz_wl_else, vu_eq, vu_ne, pz_wi_gc, pz_wi_ga, pz_wi_gn, pz_wi_gl, pz_wi_gr, pz_wi_same, pz_wi_X, pz_wl_gc, pz_wl_ga, pz_wl_gn, pz_wl_gi, pz_wl_gr, pz_wl_same, pz_wl_X, pz_wr_gc, pz_wr_ga, pz_wr_gn, pz_wr_gi, pz_wr_gl, pz_wr_same, pz_wr_X, e39, x3, x6, x10, x18])
                (try refine po_gP (Nat.le_of_ble_eq_true rfl) ?_)
                refine po_call (by omega) (w 1 _ (by decide +kernel) (by decide) _ _ ?_)
                rw [z1]
                refine pw_blk (mi := mz_191) (b := bz_191_37) rfl rfl ?_
                simp only [bz_191_37, pz_cut_t, pz_cut_f, pz_cut_n, pv_gt, pv_ts, pv_tn, ev_ifeq, pz_wi_gc, pz_wi_ga, pz_wi_gn, pz_wi_gl, pz_wi_gr, pz_wi_same, pz_wi_X, pz_wl_gc, pz_wl_ga, pz_wl_gn, pz_wl_gi, pz_wl_gr, pz_wl_same, pz_wl_X, pz_wr_gc, pz_wr_ga, pz_wr_gn, pz_wr_gi, pz_wr_gl, pz_wr_same, pz_wr_X, e39, x3, x6, x10, x18, bI_f]
                (try simp (disch := omega) only [nI_clamp, pz_in_nI2, pz_in_nI2L, pv_gt, nI_add, nI_addL, nI_Ladd, pk_mul, nI_mulL, nI_Lmul, pk_sub, nI_subL, nI_Lsub, nI_inc, nI_clampL, Nat.add_sub_cancel, pz_wi_else, pz_wl_else, vu_eq, vu_ne, pz_wi_gc, pz_wi_ga, pz_wi_gn, pz_wi_gl, pz_wi_gr, pz_wi_same, pz_wi_X, pz_wl_gc, pz_wl_ga, pz_wl_gn, pz_wl_gi, pz_wl_gr, pz_wl_same, pz_wl_X, pz_wr_gc, pz_wr_ga, pz_wr_gn, pz_wr_gi, pz_wr_gl, pz_wr_same, pz_wr_X, e39, x3, x6, x10, x18, bI_f])
                refine po_brP (fun q37 => ?_) (fun q37 => ?_)
                · skip
                  (try simp (disch := omega) only [nI_ltI, nI_leI, nI_eq, nI_ltL, nI_leL, nI_eqL, nI_Llt, nI_Lle, nI_Leq, nI_eqm, nI_meq, nI_ltm, nI_lem, nI_mlt, nI_mle, lg0, lgl, lgg, lgle, lgge, Int32.not_lt, Int32.not_le, Int64.not_lt, Int64.not_le, not_false_eq_true, not_true_eq_false, Decidable.not_not, ge_iff_le, gt_iff_lt] at q37)
                  refine pw_blk (mi := mz_191) (b := bz_191_59) rfl rfl ?_
                  simp only [bz_191_59, pz_cut_t, pz_cut_f, pz_cut_n, pv_gt, pv_ts, pv_tn, ev_ald0, ev_eld0, ev_ldl1886151022, ev_cv1_11, pz_wi_gc, pz_wi_ga, pz_wi_gn, pz_wi_gl, pz_wi_gr, pz_wi_same, pz_wi_X, pz_wl_gc, pz_wl_ga, pz_wl_gn, pz_wl_gi, pz_wl_gr, pz_wl_same, pz_wl_X, pz_wr_gc, pz_wr_ga, pz_wr_gn, pz_wr_gi, pz_wr_gl, pz_wr_same, pz_wr_X, so_120 hS, e39, x3, x6, x10, x18]
                  (try simp (disch := omega) only [nI_clamp, pz_in_nI2, pz_in_nI2L, pv_gt, nI_add, nI_addL, nI_Ladd, pk_mul, nI_mulL, nI_Lmul, pk_sub, nI_subL, nI_Lsub, nI_inc, nI_clampL, Nat.add_sub_cancel, pz_wi_else, pz_wl_else, vu_eq, vu_ne, pz_wi_gc, pz_wi_ga, pz_wi_gn, pz_wi_gl, pz_wi_gr, pz_wi_same, pz_wi_X, pz_wl_gc, pz_wl_ga, pz_wl_gn, pz_wl_gi, pz_wl_gr, pz_wl_same, pz_wl_X, pz_wr_gc, pz_wr_ga, pz_wr_gn, pz_wr_gi, pz_wr_gl, pz_wr_same, pz_wr_X, e39, x3, x6, x10, x18])
                  (try refine po_gP (Nat.le_of_ble_eq_true rfl) ?_)
                  refine po_call (by omega) (w 13 _ (by decide +kernel) (by decide) _ _ ?_)
                  rw [z13]
                  refine pw_blk (mi := mz_191) (b := bz_191_66) rfl rfl ?_
                  simp only [bz_191_66, pz_cut_t, pz_cut_f, pz_cut_n, pv_gt, pv_ts, pv_tn, ev_ifeq, pz_wi_gc, pz_wi_ga, pz_wi_gn, pz_wi_gl, pz_wi_gr, pz_wi_same, pz_wi_X, pz_wl_gc, pz_wl_ga, pz_wl_gn, pz_wl_gi, pz_wl_gr, pz_wl_same, pz_wl_X, pz_wr_gc, pz_wr_ga, pz_wr_gn, pz_wr_gi, pz_wr_gl, pz_wr_same, pz_wr_X, e39, x3, x6, x10, x18, bI_f]
                  (try simp (disch := omega) only [nI_clamp, pz_in_nI2, pz_in_nI2L, pv_gt, nI_add, nI_addL, nI_Ladd, pk_mul, nI_mulL, nI_Lmul, pk_sub, nI_subL, nI_Lsub, nI_inc, nI_clampL, Nat.add_sub_cancel, pz_wi_else, pz_wl_else, vu_eq, vu_ne, pz_wi_gc, pz_wi_ga, pz_wi_gn, pz_wi_gl, pz_wi_gr, pz_wi_same, pz_wi_X, pz_wl_gc, pz_wl_ga, pz_wl_gn, pz_wl_gi, pz_wl_gr, pz_wl_same, pz_wl_X, pz_wr_gc, pz_wr_ga, pz_wr_gn, pz_wr_gi, pz_wr_gl, pz_wr_same, pz_wr_X, e39, x3, x6, x10, x18, bI_f])
                  refine po_brP (fun q66 => ?_) (fun q66 => ?_)
                  · skip
                    (try simp (disch := omega) only [nI_ltI, nI_leI, nI_eq, nI_ltL, nI_leL, nI_eqL, nI_Llt, nI_Lle, nI_Leq, nI_eqm, nI_meq, nI_ltm, nI_lem, nI_mlt, nI_mle, lg0, lgl, lgg, lgle, lgge, Int32.not_lt, Int32.not_le, Int64.not_lt, Int64.not_le, not_false_eq_true, not_true_eq_false, Decidable.not_not, ge_iff_le, gt_iff_lt] at q66)
                    refine pw_blk (mi := mz_191) (b := bz_191_89) rfl rfl ?_
                    simp only [bz_191_89, pz_cut_t, pz_cut_f, pz_cut_n, pv_gt, pv_ts, pv_tn, ev_ald0, ev_eld0, ev_ldl7102839, ev_cv1_11, pz_wi_gc, pz_wi_ga, pz_wi_gn, pz_wi_gl, pz_wi_gr, pz_wi_same, pz_wi_X, pz_wl_gc, pz_wl_ga, pz_wl_gn, pz_wl_gi, pz_wl_gr, pz_wl_same, pz_wl_X, pz_wr_gc, pz_wr_ga, pz_wr_gn, pz_wr_gi, pz_wr_gl, pz_wr_same, pz_wr_X, so_120 hS, e39, x3, x6, x10, x18]
                    (try simp (disch := omega) only [nI_clamp, pz_in_nI2, pz_in_nI2L, pv_gt, nI_add, nI_addL, nI_Ladd, pk_mul, nI_mulL, nI_Lmul, pk_sub, nI_subL, nI_Lsub, nI_inc, nI_clampL, Nat.add_sub_cancel, pz_wi_else, pz_wl_else, vu_eq, vu_ne, pz_wi_gc, pz_wi_ga, pz_wi_gn, pz_wi_gl, pz_wi_gr, pz_wi_same, pz_wi_X, pz_wl_gc, pz_wl_ga, pz_wl_gn, pz_wl_gi, pz_wl_gr, pz_wl_same, pz_wl_X, pz_wr_gc, pz_wr_ga, pz_wr_gn, pz_wr_gi, pz_wr_gl, pz_wr_same, pz_wr_X, e39, x3, x6, x10, x18])
                    (try refine po_gP (Nat.le_of_ble_eq_true rfl) ?_)
                    refine po_call (by omega) (w 6 _ (by decide +kernel) (by decide) _ _ ?_)
                    rw [z6]
                    refine pw_blk (mi := mz_191) (b := bz_191_96) rfl rfl ?_
                    simp only [bz_191_96, pz_cut_t, pz_cut_f, pz_cut_n, pv_gt, pv_ts, pv_tn, ev_ifeq, pz_wi_gc, pz_wi_ga, pz_wi_gn, pz_wi_gl, pz_wi_gr, pz_wi_same, pz_wi_X, pz_wl_gc, pz_wl_ga, pz_wl_gn, pz_wl_gi, pz_wl_gr, pz_wl_same, pz_wl_X, pz_wr_gc, pz_wr_ga, pz_wr_gn, pz_wr_gi, pz_wr_gl, pz_wr_same, pz_wr_X, e39, x3, x6, x10, x18, bI_f]
                    (try simp (disch := omega) only [nI_clamp, pz_in_nI2, pz_in_nI2L, pv_gt, nI_add, nI_addL, nI_Ladd, pk_mul, nI_mulL, nI_Lmul, pk_sub, nI_subL, nI_Lsub, nI_inc, nI_clampL, Nat.add_sub_cancel, pz_wi_else, pz_wl_else, vu_eq, vu_ne, pz_wi_gc, pz_wi_ga, pz_wi_gn, pz_wi_gl, pz_wi_gr, pz_wi_same, pz_wi_X, pz_wl_gc, pz_wl_ga, pz_wl_gn, pz_wl_gi, pz_wl_gr, pz_wl_same, pz_wl_X, pz_wr_gc, pz_wr_ga, pz_wr_gn, pz_wr_gi, pz_wr_gl, pz_wr_same, pz_wr_X, e39, x3, x6, x10, x18, bI_f])
                    refine po_brP (fun q96 => ?_) (fun q96 => ?_)
                    · skip
                      (try simp (disch := omega) only [nI_ltI, nI_leI, nI_eq, nI_ltL, nI_leL, nI_eqL, nI_Llt, nI_Lle, nI_Leq, nI_eqm, nI_meq, nI_ltm, nI_lem, nI_mlt, nI_mle, lg0, lgl, lgg, lgle, lgge, Int32.not_lt, Int32.not_le, Int64.not_lt, Int64.not_le, not_false_eq_true, not_true_eq_false, Decidable.not_not, ge_iff_le, gt_iff_lt] at q96)
                      refine pw_blk (mi := mz_191) (b := bz_191_111) rfl rfl ?_
                      simp only [bz_191_111, pz_cut_t, pz_cut_f, pz_cut_n, pv_gt, pv_ts, pv_tn, ev_ald0, ev_eld0, ev_ldl1685024626, ev_cv1_11, pz_wi_gc, pz_wi_ga, pz_wi_gn, pz_wi_gl, pz_wi_gr, pz_wi_same, pz_wi_X, pz_wl_gc, pz_wl_ga, pz_wl_gn, pz_wl_gi, pz_wl_gr, pz_wl_same, pz_wl_X, pz_wr_gc, pz_wr_ga, pz_wr_gn, pz_wr_gi, pz_wr_gl, pz_wr_same, pz_wr_X, so_120 hS, e39, x3, x6, x10, x18]
                      (try simp (disch := omega) only [nI_clamp, pz_in_nI2, pz_in_nI2L, pv_gt, nI_add, nI_addL, nI_Ladd, pk_mul, nI_mulL, nI_Lmul, pk_sub, nI_subL, nI_Lsub, nI_inc, nI_clampL, Nat.add_sub_cancel, pz_wi_else, pz_wl_else, vu_eq, vu_ne, pz_wi_gc, pz_wi_ga, pz_wi_gn, pz_wi_gl, pz_wi_gr, pz_wi_same, pz_wi_X, pz_wl_gc, pz_wl_ga, pz_wl_gn, pz_wl_gi, pz_wl_gr, pz_wl_same, pz_wl_X, pz_wr_gc, pz_wr_ga, pz_wr_gn, pz_wr_gi, pz_wr_gl, pz_wr_same, pz_wr_X, e39, x3, x6, x10, x18])
                      (try refine po_gP (Nat.le_of_ble_eq_true rfl) ?_)
                      refine po_call (by omega) (w 4 _ (by decide +kernel) (by decide) _ _ ?_)
                      rw [z4]
                      refine pw_blk (mi := mz_191) (b := bz_191_118) rfl rfl ?_
                      simp only [bz_191_118, pz_cut_t, pz_cut_f, pz_cut_n, pv_gt, pv_ts, pv_tn, ev_ifne, pz_wi_gc, pz_wi_ga, pz_wi_gn, pz_wi_gl, pz_wi_gr, pz_wi_same, pz_wi_X, pz_wl_gc, pz_wl_ga, pz_wl_gn, pz_wl_gi, pz_wl_gr, pz_wl_same, pz_wl_X, pz_wr_gc, pz_wr_ga, pz_wr_gn, pz_wr_gi, pz_wr_gl, pz_wr_same, pz_wr_X, e39, x3, x6, x10, x18, bI_f]
                      (try simp (disch := omega) only [nI_clamp, pz_in_nI2, pz_in_nI2L, pv_gt, nI_add, nI_addL, nI_Ladd, pk_mul, nI_mulL, nI_Lmul, pk_sub, nI_subL, nI_Lsub, nI_inc, nI_clampL, Nat.add_sub_cancel, pz_wi_else, pz_wl_else, vu_eq, vu_ne, pz_wi_gc, pz_wi_ga, pz_wi_gn, pz_wi_gl, pz_wi_gr, pz_wi_same, pz_wi_X, pz_wl_gc, pz_wl_ga, pz_wl_gn, pz_wl_gi, pz_wl_gr, pz_wl_same, pz_wl_X, pz_wr_gc, pz_wr_ga, pz_wr_gn, pz_wr_gi, pz_wr_gl, pz_wr_same, pz_wr_X, e39, x3, x6, x10, x18, bI_f])
                      refine po_brP (fun q118 => ?_) (fun q118 => ?_)
                      · first
                        | exact absurd q118 (by decide)
                        | exact absurd trivial q118
                        | exact q118.elim
                        | (exfalso; (try simp (disch := omega) only [nI_ltI, nI_leI, nI_eq, nI_ltL, nI_leL, nI_eqL, nI_Llt, nI_Lle, nI_Leq, nI_eqm, nI_meq, nI_ltm, nI_lem, nI_mlt, nI_mle, lg0, lgl, lgg, lgle, lgge, Int32.not_lt, Int32.not_le, Int64.not_lt, Int64.not_le, not_false_eq_true, not_true_eq_false, Decidable.not_not, ge_iff_le, gt_iff_lt] at q118) <;> omega)
                        | exact absurd q118 (by with_reducible assumption)
                        | exact absurd (by with_reducible assumption) q118
                        | exact absurd (Decidable.not_not.mp q118) (by with_reducible assumption)
                        | exact absurd (by with_reducible assumption) (Int32.not_le.mpr q118)
                        | exact absurd (by with_reducible assumption) (Int32.not_lt.mpr q118)
                      · skip
                        (try simp (disch := omega) only [nI_ltI, nI_leI, nI_eq, nI_ltL, nI_leL, nI_eqL, nI_Llt, nI_Lle, nI_Leq, nI_eqm, nI_meq, nI_ltm, nI_lem, nI_mlt, nI_mle, lg0, lgl, lgg, lgle, lgge, Int32.not_lt, Int32.not_le, Int64.not_lt, Int64.not_le, not_false_eq_true, not_true_eq_false, Decidable.not_not, ge_iff_le, gt_iff_lt] at q118)
                        refine pw_blk (mi := mz_191) (b := bz_191_121) rfl rfl ?_
                        simp only [bz_191_121, pz_cut_t, pz_cut_f, pz_cut_n, pv_gt, pv_ts, pv_tn, ev_ald0, ev_eld0, ev_ldl1835102827, ev_cv1_11, pz_wi_gc, pz_wi_ga, pz_wi_gn, pz_wi_gl, pz_wi_gr, pz_wi_same, pz_wi_X, pz_wl_gc, pz_wl_ga, pz_wl_gn, pz_wl_gi, pz_wl_gr, pz_wl_same, pz_wl_X, pz_wr_gc, pz_wr_ga, pz_wr_gn, pz_wr_gi, pz_wr_gl, pz_wr_same, pz_wr_X, so_120 hS, e39, x3, x6, x10, x18]
                        (try simp (disch := omega) only [nI_clamp, pz_in_nI2, pz_in_nI2L, pv_gt, nI_add, nI_addL, nI_Ladd, pk_mul, nI_mulL, nI_Lmul, pk_sub, nI_subL, nI_Lsub, nI_inc, nI_clampL, Nat.add_sub_cancel, pz_wi_else, pz_wl_else, vu_eq, vu_ne, pz_wi_gc, pz_wi_ga, pz_wi_gn, pz_wi_gl, pz_wi_gr, pz_wi_same, pz_wi_X, pz_wl_gc, pz_wl_ga, pz_wl_gn, pz_wl_gi, pz_wl_gr, pz_wl_same, pz_wl_X, pz_wr_gc, pz_wr_ga, pz_wr_gn, pz_wr_gi, pz_wr_gl, pz_wr_same, pz_wr_X, e39, x3, x6, x10, x18])
                        (try refine po_gP (Nat.le_of_ble_eq_true rfl) ?_)
                        refine po_call (by omega) (w 5 _ (by decide +kernel) (by decide) _ _ ?_)
                        rw [z5]
                        refine pw_blk (mi := mz_191) (b := bz_191_128) rfl rfl ?_
                        simp only [bz_191_128, pz_cut_t, pz_cut_f, pz_cut_n, pv_gt, pv_ts, pv_tn, ev_ifne, pz_wi_gc, pz_wi_ga, pz_wi_gn, pz_wi_gl, pz_wi_gr, pz_wi_same, pz_wi_X, pz_wl_gc, pz_wl_ga, pz_wl_gn, pz_wl_gi, pz_wl_gr, pz_wl_same, pz_wl_X, pz_wr_gc, pz_wr_ga, pz_wr_gn, pz_wr_gi, pz_wr_gl, pz_wr_same, pz_wr_X, e39, x3, x6, x10, x18, bI_t]
                        (try simp (disch := omega) only [nI_clamp, pz_in_nI2, pz_in_nI2L, pv_gt, nI_add, nI_addL, nI_Ladd, pk_mul, nI_mulL, nI_Lmul, pk_sub, nI_subL, nI_Lsub, nI_inc, nI_clampL, Nat.add_sub_cancel, pz_wi_else, pz_wl_else, vu_eq, vu_ne, pz_wi_gc, pz_wi_ga, pz_wi_gn, pz_wi_gl, pz_wi_gr, pz_wi_same, pz_wi_X, pz_wl_gc, pz_wl_ga, pz_wl_gn, pz_wl_gi, pz_wl_gr, pz_wl_same, pz_wl_X, pz_wr_gc, pz_wr_ga, pz_wr_gn, pz_wr_gi, pz_wr_gl, pz_wr_same, pz_wr_X, e39, x3, x6, x10, x18, bI_t])
                        refine po_brP (fun q128 => ?_) (fun q128 => ?_)
                        · skip
                          (try simp (disch := omega) only [nI_ltI, nI_leI, nI_eq, nI_ltL, nI_leL, nI_eqL, nI_Llt, nI_Lle, nI_Leq, nI_eqm, nI_meq, nI_ltm, nI_lem, nI_mlt, nI_mle, lg0, lgl, lgg, lgle, lgge, Int32.not_lt, Int32.not_le, Int64.not_lt, Int64.not_le, not_false_eq_true, not_true_eq_false, Decidable.not_not, ge_iff_le, gt_iff_lt] at q128)
                          refine pw_blk (mi := mz_191) (b := bz_191_135) rfl rfl ?_
                          simp only [bz_191_135, pz_cut_t, pz_cut_f, pz_cut_n, pv_gt, pv_ts, pv_tn, ev_ic0, ev_nil, pz_wi_gc, pz_wi_ga, pz_wi_gn, pz_wi_gl, pz_wi_gr, pz_wi_same, pz_wi_X, pz_wl_gc, pz_wl_ga, pz_wl_gn, pz_wl_gi, pz_wl_gr, pz_wl_same, pz_wl_X, pz_wr_gc, pz_wr_ga, pz_wr_gn, pz_wr_gi, pz_wr_gl, pz_wr_same, pz_wr_X, e39, x3, x6, x10, x18]
                          (try simp (disch := omega) only [nI_clamp, pz_in_nI2, pz_in_nI2L, pv_gt, nI_add, nI_addL, nI_Ladd, pk_mul, nI_mulL, nI_Lmul, pk_sub, nI_subL, nI_Lsub, nI_inc, nI_clampL, Nat.add_sub_cancel, pz_wi_else, pz_wl_else, vu_eq, vu_ne, pz_wi_gc, pz_wi_ga, pz_wi_gn, pz_wi_gl, pz_wi_gr, pz_wi_same, pz_wi_X, pz_wl_gc, pz_wl_ga, pz_wl_gn, pz_wl_gi, pz_wl_gr, pz_wl_same, pz_wl_X, pz_wr_gc, pz_wr_ga, pz_wr_gn, pz_wr_gi, pz_wr_gl, pz_wr_same, pz_wr_X, e39, x3, x6, x10, x18])
                          refine po_go ?_
                          refine pw_blk (mi := mz_191) (b := bz_191_136) rfl rfl ?_
                          simp only [bz_191_136, pz_cut_t, pz_cut_f, pz_cut_n, pv_gt, pv_ts, pv_tn, ev_iret1, pz_wi_gc, pz_wi_ga, pz_wi_gn, pz_wi_gl, pz_wi_gr, pz_wi_same, pz_wi_X, pz_wl_gc, pz_wl_ga, pz_wl_gn, pz_wl_gi, pz_wl_gr, pz_wl_same, pz_wl_X, pz_wr_gc, pz_wr_ga, pz_wr_gn, pz_wr_gi, pz_wr_gl, pz_wr_same, pz_wr_X, e39, x3, x6, x10, x18]
                          (try simp (disch := omega) only [nI_clamp, pz_in_nI2, pz_in_nI2L, pv_gt, nI_add, nI_addL, nI_Ladd, pk_mul, nI_mulL, nI_Lmul, pk_sub, nI_subL, nI_Lsub, nI_inc, nI_clampL, Nat.add_sub_cancel, pz_wi_else, pz_wl_else, vu_eq, vu_ne, pz_wi_gc, pz_wi_ga, pz_wi_gn, pz_wi_gl, pz_wi_gr, pz_wi_same, pz_wi_X, pz_wl_gc, pz_wl_ga, pz_wl_gn, pz_wl_gi, pz_wl_gr, pz_wl_same, pz_wl_X, pz_wr_gc, pz_wr_ga, pz_wr_gn, pz_wr_gi, pz_wr_gl, pz_wr_same, pz_wr_X, e39, x3, x6, x10, x18])
                          (try refine po_gP (by first | decide | assumption) ?_)
                          exact po_ret k
                        · first
                          | exact absurd q128 (by decide)
                          | exact absurd trivial q128
                          | exact q128.elim
                          | (exfalso; (try simp (disch := omega) only [nI_ltI, nI_leI, nI_eq, nI_ltL, nI_leL, nI_eqL, nI_Llt, nI_Lle, nI_Leq, nI_eqm, nI_meq, nI_ltm, nI_lem, nI_mlt, nI_mle, lg0, lgl, lgg, lgle, lgge, Int32.not_lt, Int32.not_le, Int64.not_lt, Int64.not_le, not_false_eq_true, not_true_eq_false, Decidable.not_not, ge_iff_le, gt_iff_lt] at q128) <;> omega)
                          | exact absurd q128 (by with_reducible assumption)
                          | exact absurd (by with_reducible assumption) q128
                          | exact absurd (Decidable.not_not.mp q128) (by with_reducible assumption)
                          | exact absurd (by with_reducible assumption) (Int32.not_le.mpr q128)
                          | exact absurd (by with_reducible assumption) (Int32.not_lt.mpr q128)
                    · first
                      | exact absurd q96 (by decide)
                      | exact absurd trivial q96
                      | exact q96.elim
                      | (exfalso; (try simp (disch := omega) only [nI_ltI, nI_leI, nI_eq, nI_ltL, nI_leL, nI_eqL, nI_Llt, nI_Lle, nI_Leq, nI_eqm, nI_meq, nI_ltm, nI_lem, nI_mlt, nI_mle, lg0, lgl, lgg, lgle, lgge, Int32.not_lt, Int32.not_le, Int64.not_lt, Int64.not_le, not_false_eq_true, not_true_eq_false, Decidable.not_not, ge_iff_le, gt_iff_lt] at q96) <;> omega)
                      | exact absurd q96 (by with_reducible assumption)
                      | exact absurd (by with_reducible assumption) q96
                      | exact absurd (Decidable.not_not.mp q96) (by with_reducible assumption)
                      | exact absurd (by with_reducible assumption) (Int32.not_le.mpr q96)
                      | exact absurd (by with_reducible assumption) (Int32.not_lt.mpr q96)
                  · first
                    | exact absurd q66 (by decide)
                    | exact absurd trivial q66
                    | exact q66.elim
                    | (exfalso; (try simp (disch := omega) only [nI_ltI, nI_leI, nI_eq, nI_ltL, nI_leL, nI_eqL, nI_Llt, nI_Lle, nI_Leq, nI_eqm, nI_meq, nI_ltm, nI_lem, nI_mlt, nI_mle, lg0, lgl, lgg, lgle, lgge, Int32.not_lt, Int32.not_le, Int64.not_lt, Int64.not_le, not_false_eq_true, not_true_eq_false, Decidable.not_not, ge_iff_le, gt_iff_lt] at q66) <;> omega)
                    | exact absurd q66 (by with_reducible assumption)
                    | exact absurd (by with_reducible assumption) q66
                    | exact absurd (Decidable.not_not.mp q66) (by with_reducible assumption)
                    | exact absurd (by with_reducible assumption) (Int32.not_le.mpr q66)
                    | exact absurd (by with_reducible assumption) (Int32.not_lt.mpr q66)
                · first
                  | exact absurd q37 (by decide)
                  | exact absurd trivial q37
                  | exact q37.elim
                  | (exfalso; (try simp (disch := omega) only [nI_ltI, nI_leI, nI_eq, nI_ltL, nI_leL, nI_eqL, nI_Llt, nI_Lle, nI_Leq, nI_eqm, nI_meq, nI_ltm, nI_lem, nI_mlt, nI_mle, lg0, lgl, lgg, lgle, lgge, Int32.not_lt, Int32.not_le, Int64.not_lt, Int64.not_le, not_false_eq_true, not_true_eq_false, Decidable.not_not, ge_iff_le, gt_iff_lt] at q37) <;> omega)
                  | exact absurd q37 (by with_reducible assumption)
                  | exact absurd (by with_reducible assumption) q37
                  | exact absurd (Decidable.not_not.mp q37) (by with_reducible assumption)
                  | exact absurd (by with_reducible assumption) (Int32.not_le.mpr q37)
                  | exact absurd (by with_reducible assumption) (Int32.not_lt.mpr q37)
              · first
                | exact absurd q7 (by decide)
                | exact absurd trivial q7
                | exact q7.elim
                | (exfalso; (try simp (disch := omega) only [nI_ltI, nI_leI, nI_eq, nI_ltL, nI_leL, nI_eqL, nI_Llt, nI_Lle, nI_Leq, nI_eqm, nI_meq, nI_ltm, nI_lem, nI_mlt, nI_mle, lg0, lgl, lgg, lgle, lgge, Int32.not_lt, Int32.not_le, Int64.not_lt, Int64.not_le, not_false_eq_true, not_true_eq_false, Decidable.not_not, ge_iff_le, gt_iff_lt] at q7) <;> omega)
                | exact absurd q7 (by with_reducible assumption)
                | exact absurd (by with_reducible assumption) q7
                | exact absurd (Decidable.not_not.mp q7) (by with_reducible assumption)
                | exact absurd (by with_reducible assumption) (Int32.not_le.mpr q7)
                | exact absurd (by with_reducible assumption) (Int32.not_lt.mpr q7)
            | false =>
              rw [z4, z5] at k
              refine pm_ent (L := [some (.ref 120)]) rfl (Nat.le_of_ble_eq_true rfl) ?_
              refine pw_blk (mi := mz_191) (b := bz_191_0) rfl rfl ?_
              simp only [bz_191_0, pz_cut_t, pz_cut_f, pz_cut_n, pv_gt, pv_ts, pv_tn, ev_ald0, ev_eld0, ev_ldl1751474544, ev_cv1_11, pz_wi_gc, pz_wi_ga, pz_wi_gn, pz_wi_gl, pz_wi_gr, pz_wi_same, pz_wi_X, pz_wl_gc, pz_wl_ga, pz_wl_gn, pz_wl_gi, pz_wl_gr, pz_wl_same, pz_wl_X, pz_wr_gc, pz_wr_ga, pz_wr_gn, pz_wr_gi, pz_wr_gl, pz_wr_same, pz_wr_X, so_120 hS, e39, x3, x6, x10, x18]
              (try simp (disch := omega) only [nI_clamp, pz_in_nI2, pz_in_nI2L, pv_gt, nI_add, nI_addL, nI_Ladd, pk_mul, nI_mulL, nI_Lmul, pk_sub, nI_subL, nI_Lsub, nI_inc, nI_clampL, Nat.add_sub_cancel, pz_wi_else, pz_wl_else, vu_eq, vu_ne, pz_wi_gc, pz_wi_ga, pz_wi_gn, pz_wi_gl, pz_wi_gr, pz_wi_same, pz_wi_X, pz_wl_gc, pz_wl_ga, pz_wl_gn, pz_wl_gi, pz_wl_gr, pz_wl_same, pz_wl_X, pz_wr_gc, pz_wr_ga, pz_wr_gn, pz_wr_gi, pz_wr_gl, pz_wr_same, pz_wr_X, e39, x3, x6, x10, x18])
              (try refine po_gP (Nat.le_of_ble_eq_true rfl) ?_)
              refine po_call (by omega) (w 0 _ (by decide +kernel) (by decide) _ _ ?_)
              rw [z0]
              refine pw_blk (mi := mz_191) (b := bz_191_7) rfl rfl ?_
              simp only [bz_191_7, pz_cut_t, pz_cut_f, pz_cut_n, pv_gt, pv_ts, pv_tn, ev_ifeq, pz_wi_gc, pz_wi_ga, pz_wi_gn, pz_wi_gl, pz_wi_gr, pz_wi_same, pz_wi_X, pz_wl_gc, pz_wl_ga, pz_wl_gn, pz_wl_gi, pz_wl_gr, pz_wl_same, pz_wl_X, pz_wr_gc, pz_wr_ga, pz_wr_gn, pz_wr_gi, pz_wr_gl, pz_wr_same, pz_wr_X, e39, x3, x6, x10, x18, bI_f]
              (try simp (disch := omega) only [nI_clamp, pz_in_nI2, pz_in_nI2L, pv_gt, nI_add, nI_addL, nI_Ladd, pk_mul, nI_mulL, nI_Lmul, pk_sub, nI_subL, nI_Lsub, nI_inc, nI_clampL, Nat.add_sub_cancel, pz_wi_else, pz_wl_else, vu_eq, vu_ne, pz_wi_gc, pz_wi_ga, pz_wi_gn, pz_wi_gl, pz_wi_gr, pz_wi_same, pz_wi_X, pz_wl_gc, pz_wl_ga, pz_wl_gn, pz_wl_gi, pz_wl_gr, pz_wl_same, pz_wl_X, pz_wr_gc, pz_wr_ga, pz_wr_gn, pz_wr_gi, pz_wr_gl, pz_wr_same, pz_wr_X, e39, x3, x6, x10, x18, bI_f])
              refine po_brP (fun q7 => ?_) (fun q7 => ?_)
              · skip
                (try simp (disch := omega) only [nI_ltI, nI_leI, nI_eq, nI_ltL, nI_leL, nI_eqL, nI_Llt, nI_Lle, nI_Leq, nI_eqm, nI_meq, nI_ltm, nI_lem, nI_mlt, nI_mle, lg0, lgl, lgg, lgle, lgge, Int32.not_lt, Int32.not_le, Int64.not_lt, Int64.not_le, not_false_eq_true, not_true_eq_false, Decidable.not_not, ge_iff_le, gt_iff_lt] at q7)
                refine pw_blk (mi := mz_191) (b := bz_191_30) rfl rfl ?_
                simp only [bz_191_30, pz_cut_t, pz_cut_f, pz_cut_n, pv_gt, pv_ts, pv_tn, ev_ald0, ev_eld0, ev_ldl1885434484, ev_cv1_11, pz_wi_gc, pz_wi_ga, pz_wi_gn, pz_wi_gl, pz_wi_gr, pz_wi_same, pz_wi_X, pz_wl_gc, pz_wl_ga, pz_wl_gn, pz_wl_gi, pz_wl_gr, pz_wl_same, pz_wl_X, pz_wr_gc, pz_wr_ga, pz_wr_gn, pz_wr_gi, pz_wr_gl, pz_wr_same, pz_wr_X, so_120 hS, e39, x3, x6, x10, x18]
                (try simp (disch := omega) only [nI_clamp, pz_in_nI2, pz_in_nI2L, pv_gt, nI_add, nI_addL, nI_Ladd, pk_mul, nI_mulL, nI_Lmul, pk_sub, nI_subL, nI_Lsub, nI_inc, nI_clampL, Nat.add_sub_cancel, pz_wi_else, pz_wl_else, vu_eq, vu_ne, pz_wi_gc, pz_wi_ga, pz_wi_gn, pz_wi_gl, pz_wi_gr, pz_wi_same, pz_wi_X, pz_wl_gc, pz_wl_ga, pz_wl_gn, pz_wl_gi, pz_wl_gr, pz_wl_same, pz_wl_X, pz_wr_gc, pz_wr_ga, pz_wr_gn, pz_wr_gi, pz_wr_gl, pz_wr_same, pz_wr_X, e39, x3, x6, x10, x18])
                (try refine po_gP (Nat.le_of_ble_eq_true rfl) ?_)
                refine po_call (by omega) (w 1 _ (by decide +kernel) (by decide) _ _ ?_)
                rw [z1]
                refine pw_blk (mi := mz_191) (b := bz_191_37) rfl rfl ?_
                simp only [bz_191_37, pz_cut_t, pz_cut_f, pz_cut_n, pv_gt, pv_ts, pv_tn, ev_ifeq, pz_wi_gc, pz_wi_ga, pz_wi_gn, pz_wi_gl, pz_wi_gr, pz_wi_same, pz_wi_X, pz_wl_gc, pz_wl_ga, pz_wl_gn, pz_wl_gi, pz_wl_gr, pz_wl_same, pz_wl_X, pz_wr_gc, pz_wr_ga, pz_wr_gn, pz_wr_gi, pz_wr_gl, pz_wr_same, pz_wr_X, e39, x3, x6, x10, x18, bI_f]
                (try simp (disch := omega) only [nI_clamp, pz_in_nI2, pz_in_nI2L, pv_gt, nI_add, nI_addL, nI_Ladd, pk_mul, nI_mulL, nI_Lmul, pk_sub, nI_subL, nI_Lsub, nI_inc, nI_clampL, Nat.add_sub_cancel, pz_wi_else, pz_wl_else, vu_eq, vu_ne, pz_wi_gc, pz_wi_ga, pz_wi_gn, pz_wi_gl, pz_wi_gr, pz_wi_same, pz_wi_X, pz_wl_gc, pz_wl_ga, pz_wl_gn, pz_wl_gi, pz_wl_gr, pz_wl_same, pz_wl_X, pz_wr_gc, pz_wr_ga, pz_wr_gn, pz_wr_gi, pz_wr_gl, pz_wr_same, pz_wr_X, e39, x3, x6, x10, x18, bI_f])
                refine po_brP (fun q37 => ?_) (fun q37 => ?_)
                · skip
                  (try simp (disch := omega) only [nI_ltI, nI_leI, nI_eq, nI_ltL, nI_leL, nI_eqL, nI_Llt, nI_Lle, nI_Leq, nI_eqm, nI_meq, nI_ltm, nI_lem, nI_mlt, nI_mle, lg0, lgl, lgg, lgle, lgge, Int32.not_lt, Int32.not_le, Int64.not_lt, Int64.not_le, not_false_eq_true, not_true_eq_false, Decidable.not_not, ge_iff_le, gt_iff_lt] at q37)
                  refine pw_blk (mi := mz_191) (b := bz_191_59) rfl rfl ?_
                  simp only [bz_191_59, pz_cut_t, pz_cut_f, pz_cut_n, pv_gt, pv_ts, pv_tn, ev_ald0, ev_eld0, ev_ldl1886151022, ev_cv1_11, pz_wi_gc, pz_wi_ga, pz_wi_gn, pz_wi_gl, pz_wi_gr, pz_wi_same, pz_wi_X, pz_wl_gc, pz_wl_ga, pz_wl_gn, pz_wl_gi, pz_wl_gr, pz_wl_same, pz_wl_X, pz_wr_gc, pz_wr_ga, pz_wr_gn, pz_wr_gi, pz_wr_gl, pz_wr_same, pz_wr_X, so_120 hS, e39, x3, x6, x10, x18]
                  (try simp (disch := omega) only [nI_clamp, pz_in_nI2, pz_in_nI2L, pv_gt, nI_add, nI_addL, nI_Ladd, pk_mul, nI_mulL, nI_Lmul, pk_sub, nI_subL, nI_Lsub, nI_inc, nI_clampL, Nat.add_sub_cancel, pz_wi_else, pz_wl_else, vu_eq, vu_ne, pz_wi_gc, pz_wi_ga, pz_wi_gn, pz_wi_gl, pz_wi_gr, pz_wi_same, pz_wi_X, pz_wl_gc, pz_wl_ga, pz_wl_gn, pz_wl_gi, pz_wl_gr, pz_wl_same, pz_wl_X, pz_wr_gc, pz_wr_ga, pz_wr_gn, pz_wr_gi, pz_wr_gl, pz_wr_same, pz_wr_X, e39, x3, x6, x10, x18])
                  (try refine po_gP (Nat.le_of_ble_eq_true rfl) ?_)
                  refine po_call (by omega) (w 13 _ (by decide +kernel) (by decide) _ _ ?_)
                  rw [z13]
                  refine pw_blk (mi := mz_191) (b := bz_191_66) rfl rfl ?_
                  simp only [bz_191_66, pz_cut_t, pz_cut_f, pz_cut_n, pv_gt, pv_ts, pv_tn, ev_ifeq, pz_wi_gc, pz_wi_ga, pz_wi_gn, pz_wi_gl, pz_wi_gr, pz_wi_same, pz_wi_X, pz_wl_gc, pz_wl_ga, pz_wl_gn, pz_wl_gi, pz_wl_gr, pz_wl_same, pz_wl_X, pz_wr_gc, pz_wr_ga, pz_wr_gn, pz_wr_gi, pz_wr_gl, pz_wr_same, pz_wr_X, e39, x3, x6, x10, x18, bI_f]
                  (try simp (disch := omega) only [nI_clamp, pz_in_nI2, pz_in_nI2L, pv_gt, nI_add, nI_addL, nI_Ladd, pk_mul, nI_mulL, nI_Lmul, pk_sub, nI_subL, nI_Lsub, nI_inc, nI_clampL, Nat.add_sub_cancel, pz_wi_else, pz_wl_else, vu_eq, vu_ne, pz_wi_gc, pz_wi_ga, pz_wi_gn, pz_wi_gl, pz_wi_gr, pz_wi_same, pz_wi_X, pz_wl_gc, pz_wl_ga, pz_wl_gn, pz_wl_gi, pz_wl_gr, pz_wl_same, pz_wl_X, pz_wr_gc, pz_wr_ga, pz_wr_gn, pz_wr_gi, pz_wr_gl, pz_wr_same, pz_wr_X, e39, x3, x6, x10, x18, bI_f])
                  refine po_brP (fun q66 => ?_) (fun q66 => ?_)
                  · skip
                    (try simp (disch := omega) only [nI_ltI, nI_leI, nI_eq, nI_ltL, nI_leL, nI_eqL, nI_Llt, nI_Lle, nI_Leq, nI_eqm, nI_meq, nI_ltm, nI_lem, nI_mlt, nI_mle, lg0, lgl, lgg, lgle, lgge, Int32.not_lt, Int32.not_le, Int64.not_lt, Int64.not_le, not_false_eq_true, not_true_eq_false, Decidable.not_not, ge_iff_le, gt_iff_lt] at q66)
                    refine pw_blk (mi := mz_191) (b := bz_191_89) rfl rfl ?_
                    simp only [bz_191_89, pz_cut_t, pz_cut_f, pz_cut_n, pv_gt, pv_ts, pv_tn, ev_ald0, ev_eld0, ev_ldl7102839, ev_cv1_11, pz_wi_gc, pz_wi_ga, pz_wi_gn, pz_wi_gl, pz_wi_gr, pz_wi_same, pz_wi_X, pz_wl_gc, pz_wl_ga, pz_wl_gn, pz_wl_gi, pz_wl_gr, pz_wl_same, pz_wl_X, pz_wr_gc, pz_wr_ga, pz_wr_gn, pz_wr_gi, pz_wr_gl, pz_wr_same, pz_wr_X, so_120 hS, e39, x3, x6, x10, x18]
                    (try simp (disch := omega) only [nI_clamp, pz_in_nI2, pz_in_nI2L, pv_gt, nI_add, nI_addL, nI_Ladd, pk_mul, nI_mulL, nI_Lmul, pk_sub, nI_subL, nI_Lsub, nI_inc, nI_clampL, Nat.add_sub_cancel, pz_wi_else, pz_wl_else, vu_eq, vu_ne, pz_wi_gc, pz_wi_ga, pz_wi_gn, pz_wi_gl, pz_wi_gr, pz_wi_same, pz_wi_X, pz_wl_gc, pz_wl_ga, pz_wl_gn, pz_wl_gi, pz_wl_gr, pz_wl_same, pz_wl_X, pz_wr_gc, pz_wr_ga, pz_wr_gn, pz_wr_gi, pz_wr_gl, pz_wr_same, pz_wr_X, e39, x3, x6, x10, x18])
                    (try refine po_gP (Nat.le_of_ble_eq_true rfl) ?_)
                    refine po_call (by omega) (w 6 _ (by decide +kernel) (by decide) _ _ ?_)
                    rw [z6]
                    refine pw_blk (mi := mz_191) (b := bz_191_96) rfl rfl ?_
                    simp only [bz_191_96, pz_cut_t, pz_cut_f, pz_cut_n, pv_gt, pv_ts, pv_tn, ev_ifeq, pz_wi_gc, pz_wi_ga, pz_wi_gn, pz_wi_gl, pz_wi_gr, pz_wi_same, pz_wi_X, pz_wl_gc, pz_wl_ga, pz_wl_gn, pz_wl_gi, pz_wl_gr, pz_wl_same, pz_wl_X, pz_wr_gc, pz_wr_ga, pz_wr_gn, pz_wr_gi, pz_wr_gl, pz_wr_same, pz_wr_X, e39, x3, x6, x10, x18, bI_f]
                    (try simp (disch := omega) only [nI_clamp, pz_in_nI2, pz_in_nI2L, pv_gt, nI_add, nI_addL, nI_Ladd, pk_mul, nI_mulL, nI_Lmul, pk_sub, nI_subL, nI_Lsub, nI_inc, nI_clampL, Nat.add_sub_cancel, pz_wi_else, pz_wl_else, vu_eq, vu_ne, pz_wi_gc, pz_wi_ga, pz_wi_gn, pz_wi_gl, pz_wi_gr, pz_wi_same, pz_wi_X, pz_wl_gc, pz_wl_ga, pz_wl_gn, pz_wl_gi, pz_wl_gr, pz_wl_same, pz_wl_X, pz_wr_gc, pz_wr_ga, pz_wr_gn, pz_wr_gi, pz_wr_gl, pz_wr_same, pz_wr_X, e39, x3, x6, x10, x18, bI_f])
                    refine po_brP (fun q96 => ?_) (fun q96 => ?_)
                    · skip
                      (try simp (disch := omega) only [nI_ltI, nI_leI, nI_eq, nI_ltL, nI_leL, nI_eqL, nI_Llt, nI_Lle, nI_Leq, nI_eqm, nI_meq, nI_ltm, nI_lem, nI_mlt, nI_mle, lg0, lgl, lgg, lgle, lgge, Int32.not_lt, Int32.not_le, Int64.not_lt, Int64.not_le, not_false_eq_true, not_true_eq_false, Decidable.not_not, ge_iff_le, gt_iff_lt] at q96)
                      refine pw_blk (mi := mz_191) (b := bz_191_111) rfl rfl ?_
                      simp only [bz_191_111, pz_cut_t, pz_cut_f, pz_cut_n, pv_gt, pv_ts, pv_tn, ev_ald0, ev_eld0, ev_ldl1685024626, ev_cv1_11, pz_wi_gc, pz_wi_ga, pz_wi_gn, pz_wi_gl, pz_wi_gr, pz_wi_same, pz_wi_X, pz_wl_gc, pz_wl_ga, pz_wl_gn, pz_wl_gi, pz_wl_gr, pz_wl_same, pz_wl_X, pz_wr_gc, pz_wr_ga, pz_wr_gn, pz_wr_gi, pz_wr_gl, pz_wr_same, pz_wr_X, so_120 hS, e39, x3, x6, x10, x18]
                      (try simp (disch := omega) only [nI_clamp, pz_in_nI2, pz_in_nI2L, pv_gt, nI_add, nI_addL, nI_Ladd, pk_mul, nI_mulL, nI_Lmul, pk_sub, nI_subL, nI_Lsub, nI_inc, nI_clampL, Nat.add_sub_cancel, pz_wi_else, pz_wl_else, vu_eq, vu_ne, pz_wi_gc, pz_wi_ga, pz_wi_gn, pz_wi_gl, pz_wi_gr, pz_wi_same, pz_wi_X, pz_wl_gc, pz_wl_ga, pz_wl_gn, pz_wl_gi, pz_wl_gr, pz_wl_same, pz_wl_X, pz_wr_gc, pz_wr_ga, pz_wr_gn, pz_wr_gi, pz_wr_gl, pz_wr_same, pz_wr_X, e39, x3, x6, x10, x18])
                      (try refine po_gP (Nat.le_of_ble_eq_true rfl) ?_)
                      refine po_call (by omega) (w 4 _ (by decide +kernel) (by decide) _ _ ?_)
                      rw [z4]
                      refine pw_blk (mi := mz_191) (b := bz_191_118) rfl rfl ?_
                      simp only [bz_191_118, pz_cut_t, pz_cut_f, pz_cut_n, pv_gt, pv_ts, pv_tn, ev_ifne, pz_wi_gc, pz_wi_ga, pz_wi_gn, pz_wi_gl, pz_wi_gr, pz_wi_same, pz_wi_X, pz_wl_gc, pz_wl_ga, pz_wl_gn, pz_wl_gi, pz_wl_gr, pz_wl_same, pz_wl_X, pz_wr_gc, pz_wr_ga, pz_wr_gn, pz_wr_gi, pz_wr_gl, pz_wr_same, pz_wr_X, e39, x3, x6, x10, x18, bI_f]
                      (try simp (disch := omega) only [nI_clamp, pz_in_nI2, pz_in_nI2L, pv_gt, nI_add, nI_addL, nI_Ladd, pk_mul, nI_mulL, nI_Lmul, pk_sub, nI_subL, nI_Lsub, nI_inc, nI_clampL, Nat.add_sub_cancel, pz_wi_else, pz_wl_else, vu_eq, vu_ne, pz_wi_gc, pz_wi_ga, pz_wi_gn, pz_wi_gl, pz_wi_gr, pz_wi_same, pz_wi_X, pz_wl_gc, pz_wl_ga, pz_wl_gn, pz_wl_gi, pz_wl_gr, pz_wl_same, pz_wl_X, pz_wr_gc, pz_wr_ga, pz_wr_gn, pz_wr_gi, pz_wr_gl, pz_wr_same, pz_wr_X, e39, x3, x6, x10, x18, bI_f])
                      refine po_brP (fun q118 => ?_) (fun q118 => ?_)
                      · first
                        | exact absurd q118 (by decide)
                        | exact absurd trivial q118
                        | exact q118.elim
                        | (exfalso; (try simp (disch := omega) only [nI_ltI, nI_leI, nI_eq, nI_ltL, nI_leL, nI_eqL, nI_Llt, nI_Lle, nI_Leq, nI_eqm, nI_meq, nI_ltm, nI_lem, nI_mlt, nI_mle, lg0, lgl, lgg, lgle, lgge, Int32.not_lt, Int32.not_le, Int64.not_lt, Int64.not_le, not_false_eq_true, not_true_eq_false, Decidable.not_not, ge_iff_le, gt_iff_lt] at q118) <;> omega)
                        | exact absurd q118 (by with_reducible assumption)
                        | exact absurd (by with_reducible assumption) q118
                        | exact absurd (Decidable.not_not.mp q118) (by with_reducible assumption)
                        | exact absurd (by with_reducible assumption) (Int32.not_le.mpr q118)
                        | exact absurd (by with_reducible assumption) (Int32.not_lt.mpr q118)
                      · skip
                        (try simp (disch := omega) only [nI_ltI, nI_leI, nI_eq, nI_ltL, nI_leL, nI_eqL, nI_Llt, nI_Lle, nI_Leq, nI_eqm, nI_meq, nI_ltm, nI_lem, nI_mlt, nI_mle, lg0, lgl, lgg, lgle, lgge, Int32.not_lt, Int32.not_le, Int64.not_lt, Int64.not_le, not_false_eq_true, not_true_eq_false, Decidable.not_not, ge_iff_le, gt_iff_lt] at q118)
                        refine pw_blk (mi := mz_191) (b := bz_191_121) rfl rfl ?_
                        simp only [bz_191_121, pz_cut_t, pz_cut_f, pz_cut_n, pv_gt, pv_ts, pv_tn, ev_ald0, ev_eld0, ev_ldl1835102827, ev_cv1_11, pz_wi_gc, pz_wi_ga, pz_wi_gn, pz_wi_gl, pz_wi_gr, pz_wi_same, pz_wi_X, pz_wl_gc, pz_wl_ga, pz_wl_gn, pz_wl_gi, pz_wl_gr, pz_wl_same, pz_wl_X, pz_wr_gc, pz_wr_ga, pz_wr_gn, pz_wr_gi, pz_wr_gl, pz_wr_same, pz_wr_X, so_120 hS, e39, x3, x6, x10, x18]
                        (try simp (disch := omega) only [nI_clamp, pz_in_nI2, pz_in_nI2L, pv_gt, nI_add, nI_addL, nI_Ladd, pk_mul, nI_mulL, nI_Lmul, pk_sub, nI_subL, nI_Lsub, nI_inc, nI_clampL, Nat.add_sub_cancel, pz_wi_else, pz_wl_else, vu_eq, vu_ne, pz_wi_gc, pz_wi_ga, pz_wi_gn, pz_wi_gl, pz_wi_gr, pz_wi_same, pz_wi_X, pz_wl_gc, pz_wl_ga, pz_wl_gn, pz_wl_gi, pz_wl_gr, pz_wl_same, pz_wl_X, pz_wr_gc, pz_wr_ga, pz_wr_gn, pz_wr_gi, pz_wr_gl, pz_wr_same, pz_wr_X, e39, x3, x6, x10, x18])
                        (try refine po_gP (Nat.le_of_ble_eq_true rfl) ?_)
                        refine po_call (by omega) (w 5 _ (by decide +kernel) (by decide) _ _ ?_)
                        rw [z5]
                        refine pw_blk (mi := mz_191) (b := bz_191_128) rfl rfl ?_
                        simp only [bz_191_128, pz_cut_t, pz_cut_f, pz_cut_n, pv_gt, pv_ts, pv_tn, ev_ifne, pz_wi_gc, pz_wi_ga, pz_wi_gn, pz_wi_gl, pz_wi_gr, pz_wi_same, pz_wi_X, pz_wl_gc, pz_wl_ga, pz_wl_gn, pz_wl_gi, pz_wl_gr, pz_wl_same, pz_wl_X, pz_wr_gc, pz_wr_ga, pz_wr_gn, pz_wr_gi, pz_wr_gl, pz_wr_same, pz_wr_X, e39, x3, x6, x10, x18, bI_f]
                        (try simp (disch := omega) only [nI_clamp, pz_in_nI2, pz_in_nI2L, pv_gt, nI_add, nI_addL, nI_Ladd, pk_mul, nI_mulL, nI_Lmul, pk_sub, nI_subL, nI_Lsub, nI_inc, nI_clampL, Nat.add_sub_cancel, pz_wi_else, pz_wl_else, vu_eq, vu_ne, pz_wi_gc, pz_wi_ga, pz_wi_gn, pz_wi_gl, pz_wi_gr, pz_wi_same, pz_wi_X, pz_wl_gc, pz_wl_ga, pz_wl_gn, pz_wl_gi, pz_wl_gr, pz_wl_same, pz_wl_X, pz_wr_gc, pz_wr_ga, pz_wr_gn, pz_wr_gi, pz_wr_gl, pz_wr_same, pz_wr_X, e39, x3, x6, x10, x18, bI_f])
                        refine po_brP (fun q128 => ?_) (fun q128 => ?_)
                        · first
                          | exact absurd q128 (by decide)
                          | exact absurd trivial q128
                          | exact q128.elim
                          | (exfalso; (try simp (disch := omega) only [nI_ltI, nI_leI, nI_eq, nI_ltL, nI_leL, nI_eqL, nI_Llt, nI_Lle, nI_Leq, nI_eqm, nI_meq, nI_ltm, nI_lem, nI_mlt, nI_mle, lg0, lgl, lgg, lgle, lgge, Int32.not_lt, Int32.not_le, Int64.not_lt, Int64.not_le, not_false_eq_true, not_true_eq_false, Decidable.not_not, ge_iff_le, gt_iff_lt] at q128) <;> omega)
                          | exact absurd q128 (by with_reducible assumption)
                          | exact absurd (by with_reducible assumption) q128
                          | exact absurd (Decidable.not_not.mp q128) (by with_reducible assumption)
                          | exact absurd (by with_reducible assumption) (Int32.not_le.mpr q128)
                          | exact absurd (by with_reducible assumption) (Int32.not_lt.mpr q128)
                        · skip
                          (try simp (disch := omega) only [nI_ltI, nI_leI, nI_eq, nI_ltL, nI_leL, nI_eqL, nI_Llt, nI_Lle, nI_Leq, nI_eqm, nI_meq, nI_ltm, nI_lem, nI_mlt, nI_mle, lg0, lgl, lgg, lgle, lgge, Int32.not_lt, Int32.not_le, Int64.not_lt, Int64.not_le, not_false_eq_true, not_true_eq_false, Decidable.not_not, ge_iff_le, gt_iff_lt] at q128)
                          refine pw_blk (mi := mz_191) (b := bz_191_131) rfl rfl ?_
                          simp only [bz_191_131, pz_cut_t, pz_cut_f, pz_cut_n, pv_gt, pv_ts, pv_tn, ev_ic1, ev_goto, pz_wi_gc, pz_wi_ga, pz_wi_gn, pz_wi_gl, pz_wi_gr, pz_wi_same, pz_wi_X, pz_wl_gc, pz_wl_ga, pz_wl_gn, pz_wl_gi, pz_wl_gr, pz_wl_same, pz_wl_X, pz_wr_gc, pz_wr_ga, pz_wr_gn, pz_wr_gi, pz_wr_gl, pz_wr_same, pz_wr_X, e39, x3, x6, x10, x18]
                          (try simp (disch := omega) only [nI_clamp, pz_in_nI2, pz_in_nI2L, pv_gt, nI_add, nI_addL, nI_Ladd, pk_mul, nI_mulL, nI_Lmul, pk_sub, nI_subL, nI_Lsub, nI_inc, nI_clampL, Nat.add_sub_cancel, pz_wi_else, pz_wl_else, vu_eq, vu_ne, pz_wi_gc, pz_wi_ga, pz_wi_gn, pz_wi_gl, pz_wi_gr, pz_wi_same, pz_wi_X, pz_wl_gc, pz_wl_ga, pz_wl_gn, pz_wl_gi, pz_wl_gr, pz_wl_same, pz_wl_X, pz_wr_gc, pz_wr_ga, pz_wr_gn, pz_wr_gi, pz_wr_gl, pz_wr_same, pz_wr_X, e39, x3, x6, x10, x18])
                          refine po_go ?_
                          refine pw_blk (mi := mz_191) (b := bz_191_136) rfl rfl ?_
                          simp only [bz_191_136, pz_cut_t, pz_cut_f, pz_cut_n, pv_gt, pv_ts, pv_tn, ev_iret1, pz_wi_gc, pz_wi_ga, pz_wi_gn, pz_wi_gl, pz_wi_gr, pz_wi_same, pz_wi_X, pz_wl_gc, pz_wl_ga, pz_wl_gn, pz_wl_gi, pz_wl_gr, pz_wl_same, pz_wl_X, pz_wr_gc, pz_wr_ga, pz_wr_gn, pz_wr_gi, pz_wr_gl, pz_wr_same, pz_wr_X, e39, x3, x6, x10, x18]
                          (try simp (disch := omega) only [nI_clamp, pz_in_nI2, pz_in_nI2L, pv_gt, nI_add, nI_addL, nI_Ladd, pk_mul, nI_mulL, nI_Lmul, pk_sub, nI_subL, nI_Lsub, nI_inc, nI_clampL, Nat.add_sub_cancel, pz_wi_else, pz_wl_else, vu_eq, vu_ne, pz_wi_gc, pz_wi_ga, pz_wi_gn, pz_wi_gl, pz_wi_gr, pz_wi_same, pz_wi_X, pz_wl_gc, pz_wl_ga, pz_wl_gn, pz_wl_gi, pz_wl_gr, pz_wl_same, pz_wl_X, pz_wr_gc, pz_wr_ga, pz_wr_gn, pz_wr_gi, pz_wr_gl, pz_wr_same, pz_wr_X, e39, x3, x6, x10, x18])
                          (try refine po_gP (by first | decide | assumption) ?_)
                          exact po_ret k
                    · first
                      | exact absurd q96 (by decide)
                      | exact absurd trivial q96
                      | exact q96.elim
                      | (exfalso; (try simp (disch := omega) only [nI_ltI, nI_leI, nI_eq, nI_ltL, nI_leL, nI_eqL, nI_Llt, nI_Lle, nI_Leq, nI_eqm, nI_meq, nI_ltm, nI_lem, nI_mlt, nI_mle, lg0, lgl, lgg, lgle, lgge, Int32.not_lt, Int32.not_le, Int64.not_lt, Int64.not_le, not_false_eq_true, not_true_eq_false, Decidable.not_not, ge_iff_le, gt_iff_lt] at q96) <;> omega)
                      | exact absurd q96 (by with_reducible assumption)
                      | exact absurd (by with_reducible assumption) q96
                      | exact absurd (Decidable.not_not.mp q96) (by with_reducible assumption)
                      | exact absurd (by with_reducible assumption) (Int32.not_le.mpr q96)
                      | exact absurd (by with_reducible assumption) (Int32.not_lt.mpr q96)
                  · first
                    | exact absurd q66 (by decide)
                    | exact absurd trivial q66
                    | exact q66.elim
                    | (exfalso; (try simp (disch := omega) only [nI_ltI, nI_leI, nI_eq, nI_ltL, nI_leL, nI_eqL, nI_Llt, nI_Lle, nI_Leq, nI_eqm, nI_meq, nI_ltm, nI_lem, nI_mlt, nI_mle, lg0, lgl, lgg, lgle, lgge, Int32.not_lt, Int32.not_le, Int64.not_lt, Int64.not_le, not_false_eq_true, not_true_eq_false, Decidable.not_not, ge_iff_le, gt_iff_lt] at q66) <;> omega)
                    | exact absurd q66 (by with_reducible assumption)
                    | exact absurd (by with_reducible assumption) q66
                    | exact absurd (Decidable.not_not.mp q66) (by with_reducible assumption)
                    | exact absurd (by with_reducible assumption) (Int32.not_le.mpr q66)
                    | exact absurd (by with_reducible assumption) (Int32.not_lt.mpr q66)
                · first
                  | exact absurd q37 (by decide)
                  | exact absurd trivial q37
                  | exact q37.elim
                  | (exfalso; (try simp (disch := omega) only [nI_ltI, nI_leI, nI_eq, nI_ltL, nI_leL, nI_eqL, nI_Llt, nI_Lle, nI_Leq, nI_eqm, nI_meq, nI_ltm, nI_lem, nI_mlt, nI_mle, lg0, lgl, lgg, lgle, lgge, Int32.not_lt, Int32.not_le, Int64.not_lt, Int64.not_le, not_false_eq_true, not_true_eq_false, Decidable.not_not, ge_iff_le, gt_iff_lt] at q37) <;> omega)
                  | exact absurd q37 (by with_reducible assumption)
                  | exact absurd (by with_reducible assumption) q37
                  | exact absurd (Decidable.not_not.mp q37) (by with_reducible assumption)
                  | exact absurd (by with_reducible assumption) (Int32.not_le.mpr q37)
                  | exact absurd (by with_reducible assumption) (Int32.not_lt.mpr q37)
              · first
                | exact absurd q7 (by decide)
                | exact absurd trivial q7
                | exact q7.elim
                | (exfalso; (try simp (disch := omega) only [nI_ltI, nI_leI, nI_eq, nI_ltL, nI_leL, nI_eqL, nI_Llt, nI_Lle, nI_Leq, nI_eqm, nI_meq, nI_ltm, nI_lem, nI_mlt, nI_mle, lg0, lgl, lgg, lgle, lgge, Int32.not_lt, Int32.not_le, Int64.not_lt, Int64.not_le, not_false_eq_true, not_true_eq_false, Decidable.not_not, ge_iff_le, gt_iff_lt] at q7) <;> omega)
                | exact absurd q7 (by with_reducible assumption)
                | exact absurd (by with_reducible assumption) q7
                | exact absurd (Decidable.not_not.mp q7) (by with_reducible assumption)
                | exact absurd (by with_reducible assumption) (Int32.not_le.mpr q7)
                | exact absurd (by with_reducible assumption) (Int32.not_lt.mpr q7)
theorem isWs_n {σ : Sg} {w : Nat} (h : ∀ t, σ = .inr t → ¬ t.1 = 3) : isWs w σ = false := by
  cases σ with
  | inl f => rfl
  | inr t =>
    unfold isWs
    simp [h t rfl]
theorem line_n {σ : Sg} {c : Sc} (h : ∀ t, σ = .inr t → ¬ t.1 = 3) : lineS ru T L σ c = (flF 2 σ, c) := by
  unfold lineS
  rw [isWs_n h, isWs_n h, isWs_n h, isWs_n h, isWs_n h, isWs_n h]
  rfl
theorem line_full {t : Tk} {c : Sc} (h : fulB c (.inr t) = true) : (lineS ru T L (.inr t) c).1 = flF 2 (.inr t) := by
  unfold fulB at h
  unfold lineS
  by_cases z0 : isWs 0 (.inr t) = true
  · rw [if_pos z0] at h ⊢
    unfold heapS
    have h' := of_decide_eq_true h
    rw [if_neg (fun y => absurd y.1 (by omega))]
    show bgF ru T L c.H 8 c.hw (.inr t) = _
    unfold bgF
    rw [if_neg (by omega)]
  · rw [if_neg z0] at h ⊢
    by_cases z1 : isWs 1 (.inr t) = true
    · rw [if_pos z1] at h ⊢
      unfold partS
      have h' := of_decide_eq_true h
      rw [if_neg (fun y => absurd y.1 (by omega))]
      show bgF ru T L c.P 4 c.pw (.inr t) = _
      unfold bgF
      rw [if_neg (by omega)]
    · rw [if_neg z1] at h ⊢
      by_cases z13 : isWs 13 (.inr t) = true
      · have e : t.2.1 = 13 := by
          unfold isWs at z13
          simp at z13
          exact z13.2
        rw [if_pos z13] at h
        have n4 : ¬ isWs 4 (.inr t) = true := by unfold isWs; simp [e]
        have n5 : ¬ isWs 5 (.inr t) = true := by unfold isWs; simp [e]
        have n6 : ¬ isWs 6 (.inr t) = true := by unfold isWs; simp [e]
        rw [if_neg n4, if_neg n5, if_neg n6, if_pos z13]
        unfold planS
        have h' := of_decide_eq_true h
        rw [if_neg (fun y => absurd y.1 (by omega))]
        show bgF ru T L c.N 6 c.nw (.inr t) = _
        unfold bgF
        rw [if_neg (by omega)]
      · rw [if_neg z13] at h
        by_cases z6 : isWs 6 (.inr t) = true
        · have e : t.2.1 = 6 := by
            unfold isWs at z6
            simp at z6
            exact z6.2
          rw [if_pos z6] at h
          have n4 : ¬ isWs 4 (.inr t) = true := by unfold isWs; simp [e]
          have n5 : ¬ isWs 5 (.inr t) = true := by unfold isWs; simp [e]
          rw [if_neg n4, if_neg n5, if_pos z6]
          unfold lawS
          rw [if_pos h]
        · rw [if_neg z6] at h
          simp at h
          rw [if_neg (by rw [h.1]; decide), if_neg (by rw [h.2]; decide), if_neg z6, if_neg z13]
theorem r_readLine (hd : 24 ≤ d) {σ : Sg} {c : Sc} (hb : b ≤ 1) (e39 : gi M 120 39 = nI b) (z : gi M 120 4 = 0) (s : rSt M ru T L σ) (o : okS c) (x : rsc M b c) (k : ∀ M', bfr M M' b → rSt M' ru T L (lineS ru T L σ c).1 → (isG (lineS ru T L σ c).1 = true → rsc M' b (lineS ru T L σ c).2) → Q (none, M')) : pm d 106 [.ref 120] M Q := by
  have hS := s.1.1
  obtain ⟨o1, o2, o3, o4, -⟩ := o.1
  by_cases hw : ∃ t, σ = .inr t ∧ t.1 = 3
  · obtain ⟨t, rfl, t3⟩ := hw
    obtain ⟨xx, hO, e4, e5, ⟨e6, e7, e8, e10, e9⟩, tp⟩ := id s
    have e8' : gi M 120 8 = 3 := by rw [e8, t3]; rfl
    cases zf : fulB c (.inr t) with
    | true =>
      have el := line_full (ru := ru) (T := T) (L := L) zf
      rw [el] at k
      refine pm_ent (L := [some (.ref 120), none, none]) rfl (Nat.le_of_ble_eq_true rfl) ?_
      refine pw_blk (mi := mz_106) (b := bz_106_0) rfl rfl ?_
      simp only [bz_106_0, pz_cut_t, pz_cut_f, pz_cut_n, pv_gt, pv_ts, pv_tn, ev_ald0, ev_eld0, ev_gf11_1, ev_lst1n, ev_lst1i, ev_lst1r, ev_lst1e, ev_lst1l, ev_gf11_0, ev_ic3, ev_ic_ne, pz_wi_gc, pz_wi_ga, pz_wi_gn, pz_wi_gl, pz_wi_gr, pz_wi_same, pz_wi_X, pz_wl_gc, pz_wl_ga, pz_wl_gn, pz_wl_gi, pz_wl_gr, pz_wl_same, pz_wl_X, pz_wr_gc, pz_wr_ga, pz_wr_gn, pz_wr_gi, pz_wr_gl, pz_wr_same, pz_wr_X, so_120 hS, e8']
      (try simp (disch := omega) only [nI_clamp, pz_in_nI2, pz_in_nI2L, pv_gt, nI_add, nI_addL, nI_Ladd, pk_mul, nI_mulL, nI_Lmul, pk_sub, nI_subL, nI_Lsub, nI_inc, nI_clampL, Nat.add_sub_cancel, pz_wi_else, pz_wl_else, vu_eq, vu_ne, pz_wi_gc, pz_wi_ga, pz_wi_gn, pz_wi_gl, pz_wi_gr, pz_wi_same, pz_wi_X, pz_wl_gc, pz_wl_ga, pz_wl_gn, pz_wl_gi, pz_wl_gr, pz_wl_same, pz_wl_X, pz_wr_gc, pz_wr_ga, pz_wr_gn, pz_wr_gi, pz_wr_gl, pz_wr_same, pz_wr_X, e8'])
      refine po_brP (fun q0 => ?_) (fun q0 => ?_)
      · first
        | exact absurd q0 (by decide)
        | exact absurd trivial q0
        | exact q0.elim
        | (exfalso; (try simp (disch := omega) only [nI_ltI, nI_leI, nI_eq, nI_ltL, nI_leL, nI_eqL, nI_Llt, nI_Lle, nI_Leq, nI_eqm, nI_meq, nI_ltm, nI_lem, nI_mlt, nI_mle, lg0, lgl, lgg, lgle, lgge, Int32.not_lt, Int32.not_le, Int64.not_lt, Int64.not_le, not_false_eq_true, not_true_eq_false, Decidable.not_not, ge_iff_le, gt_iff_lt] at q0) <;> omega)
        | exact absurd q0 (by with_reducible assumption)
        | exact absurd (by with_reducible assumption) q0
        | exact absurd (Decidable.not_not.mp q0) (by with_reducible assumption)
        | exact absurd (by with_reducible assumption) (Int32.not_le.mpr q0)
        | exact absurd (by with_reducible assumption) (Int32.not_lt.mpr q0)
      · skip
        (try simp (disch := omega) only [nI_ltI, nI_leI, nI_eq, nI_ltL, nI_leL, nI_eqL, nI_Llt, nI_Lle, nI_Leq, nI_eqm, nI_meq, nI_ltm, nI_lem, nI_mlt, nI_mle, lg0, lgl, lgg, lgle, lgge, Int32.not_lt, Int32.not_le, Int64.not_lt, Int64.not_le, not_false_eq_true, not_true_eq_false, Decidable.not_not, ge_iff_le, gt_iff_lt] at q0)
        refine pw_blk (mi := mz_106) (b := bz_106_13) rfl rfl ?_
        simp only [bz_106_13, pz_cut_t, pz_cut_f, pz_cut_n, pv_gt, pv_ts, pv_tn, ev_ald0, ev_eld0, ev_cv0_11, pz_wi_gc, pz_wi_ga, pz_wi_gn, pz_wi_gl, pz_wi_gr, pz_wi_same, pz_wi_X, pz_wl_gc, pz_wl_ga, pz_wl_gn, pz_wl_gi, pz_wl_gr, pz_wl_same, pz_wl_X, pz_wr_gc, pz_wr_ga, pz_wr_gn, pz_wr_gi, pz_wr_gl, pz_wr_same, pz_wr_X, so_120 hS, e8']
        (try simp (disch := omega) only [nI_clamp, pz_in_nI2, pz_in_nI2L, pv_gt, nI_add, nI_addL, nI_Ladd, pk_mul, nI_mulL, nI_Lmul, pk_sub, nI_subL, nI_Lsub, nI_inc, nI_clampL, Nat.add_sub_cancel, pz_wi_else, pz_wl_else, vu_eq, vu_ne, pz_wi_gc, pz_wi_ga, pz_wi_gn, pz_wi_gl, pz_wi_gr, pz_wi_same, pz_wi_X, pz_wl_gc, pz_wl_ga, pz_wl_gn, pz_wl_gi, pz_wl_gr, pz_wl_same, pz_wl_X, pz_wr_gc, pz_wr_ga, pz_wr_gn, pz_wr_gi, pz_wr_gl, pz_wr_same, pz_wr_X, e8'])
        (try refine po_gP (Nat.le_of_ble_eq_true rfl) ?_)
        refine po_call (by omega) (r_isFull (by omega) hb e39 z s o x ?_)
        rw [zf]
        refine pw_blk (mi := mz_106) (b := bz_106_17) rfl rfl ?_
        simp only [bz_106_17, pz_cut_t, pz_cut_f, pz_cut_n, pv_gt, pv_ts, pv_tn, ev_ifeq, pz_wi_gc, pz_wi_ga, pz_wi_gn, pz_wi_gl, pz_wi_gr, pz_wi_same, pz_wi_X, pz_wl_gc, pz_wl_ga, pz_wl_gn, pz_wl_gi, pz_wl_gr, pz_wl_same, pz_wl_X, pz_wr_gc, pz_wr_ga, pz_wr_gn, pz_wr_gi, pz_wr_gl, pz_wr_same, pz_wr_X, e8', bI_t]
        (try simp (disch := omega) only [nI_clamp, pz_in_nI2, pz_in_nI2L, pv_gt, nI_add, nI_addL, nI_Ladd, pk_mul, nI_mulL, nI_Lmul, pk_sub, nI_subL, nI_Lsub, nI_inc, nI_clampL, Nat.add_sub_cancel, pz_wi_else, pz_wl_else, vu_eq, vu_ne, pz_wi_gc, pz_wi_ga, pz_wi_gn, pz_wi_gl, pz_wi_gr, pz_wi_same, pz_wi_X, pz_wl_gc, pz_wl_ga, pz_wl_gn, pz_wl_gi, pz_wl_gr, pz_wl_same, pz_wl_X, pz_wr_gc, pz_wr_ga, pz_wr_gn, pz_wr_gi, pz_wr_gl, pz_wr_same, pz_wr_X, e8', bI_t])
        refine po_brP (fun q17 => ?_) (fun q17 => ?_)
        · first
          | exact absurd q17 (by decide)
          | exact absurd trivial q17
          | exact q17.elim
          | (exfalso; (try simp (disch := omega) only [nI_ltI, nI_leI, nI_eq, nI_ltL, nI_leL, nI_eqL, nI_Llt, nI_Lle, nI_Leq, nI_eqm, nI_meq, nI_ltm, nI_lem, nI_mlt, nI_mle, lg0, lgl, lgg, lgle, lgge, Int32.not_lt, Int32.not_le, Int64.not_lt, Int64.not_le, not_false_eq_true, not_true_eq_false, Decidable.not_not, ge_iff_le, gt_iff_lt] at q17) <;> omega)
          | exact absurd q17 (by with_reducible assumption)
          | exact absurd (by with_reducible assumption) q17
          | exact absurd (Decidable.not_not.mp q17) (by with_reducible assumption)
          | exact absurd (by with_reducible assumption) (Int32.not_le.mpr q17)
          | exact absurd (by with_reducible assumption) (Int32.not_lt.mpr q17)
        · skip
          (try simp (disch := omega) only [nI_ltI, nI_leI, nI_eq, nI_ltL, nI_leL, nI_eqL, nI_Llt, nI_Lle, nI_Leq, nI_eqm, nI_meq, nI_ltm, nI_lem, nI_mlt, nI_mle, lg0, lgl, lgg, lgle, lgge, Int32.not_lt, Int32.not_le, Int64.not_lt, Int64.not_le, not_false_eq_true, not_true_eq_false, Decidable.not_not, ge_iff_le, gt_iff_lt] at q17)
          refine pw_blk (mi := mz_106) (b := bz_106_20) rfl rfl ?_
          simp only [bz_106_20, pz_cut_t, pz_cut_f, pz_cut_n, pv_gt, pv_ts, pv_tn, ev_ald0, ev_eld0, ev_cv0_11, pz_wi_gc, pz_wi_ga, pz_wi_gn, pz_wi_gl, pz_wi_gr, pz_wi_same, pz_wi_X, pz_wl_gc, pz_wl_ga, pz_wl_gn, pz_wl_gi, pz_wl_gr, pz_wl_same, pz_wl_X, pz_wr_gc, pz_wr_ga, pz_wr_gn, pz_wr_gi, pz_wr_gl, pz_wr_same, pz_wr_X, so_120 hS, e8']
          (try simp (disch := omega) only [nI_clamp, pz_in_nI2, pz_in_nI2L, pv_gt, nI_add, nI_addL, nI_Ladd, pk_mul, nI_mulL, nI_Lmul, pk_sub, nI_subL, nI_Lsub, nI_inc, nI_clampL, Nat.add_sub_cancel, pz_wi_else, pz_wl_else, vu_eq, vu_ne, pz_wi_gc, pz_wi_ga, pz_wi_gn, pz_wi_gl, pz_wi_gr, pz_wi_same, pz_wi_X, pz_wl_gc, pz_wl_ga, pz_wl_gn, pz_wl_gi, pz_wl_gr, pz_wl_same, pz_wl_X, pz_wr_gc, pz_wr_ga, pz_wr_gn, pz_wr_gi, pz_wr_gl, pz_wr_same, pz_wr_X, e8'])
          (try refine po_gP (Nat.le_of_ble_eq_true rfl) ?_)
          refine po_call (by omega) (r_misplaced (by omega) s (fun M1 r1 s1 n4 => ?_))
          have hS1 := s1.1.1
          refine pw_blk (mi := mz_106) (b := bz_106_24) rfl rfl ?_
          simp only [bz_106_24, pz_cut_t, pz_cut_f, pz_cut_n, pv_gt, pv_ts, pv_tn, ev_ald0, ev_eld0, ev_cv0_11, pz_wi_gc, pz_wi_ga, pz_wi_gn, pz_wi_gl, pz_wi_gr, pz_wi_same, pz_wi_X, pz_wl_gc, pz_wl_ga, pz_wl_gn, pz_wl_gi, pz_wl_gr, pz_wl_same, pz_wl_X, pz_wr_gc, pz_wr_ga, pz_wr_gn, pz_wr_gi, pz_wr_gl, pz_wr_same, pz_wr_X, so_120 hS, e8', so_120 hS1]
          (try simp (disch := omega) only [nI_clamp, pz_in_nI2, pz_in_nI2L, pv_gt, nI_add, nI_addL, nI_Ladd, pk_mul, nI_mulL, nI_Lmul, pk_sub, nI_subL, nI_Lsub, nI_inc, nI_clampL, Nat.add_sub_cancel, pz_wi_else, pz_wl_else, vu_eq, vu_ne, pz_wi_gc, pz_wi_ga, pz_wi_gn, pz_wi_gl, pz_wi_gr, pz_wi_same, pz_wi_X, pz_wl_gc, pz_wl_ga, pz_wl_gn, pz_wl_gi, pz_wl_gr, pz_wl_same, pz_wl_X, pz_wr_gc, pz_wr_ga, pz_wr_gn, pz_wr_gi, pz_wr_gl, pz_wr_same, pz_wr_X, e8', so_120 hS1])
          (try refine po_gP (Nat.le_of_ble_eq_true rfl) ?_)
          refine po_call (by omega) (r_isGd hS1 (fun y => absurd y n4) (fun _ => ?_))
          refine pw_blk (mi := mz_106) (b := bz_106_28) rfl rfl ?_
          simp only [bz_106_28, pz_cut_t, pz_cut_f, pz_cut_n, pv_gt, pv_ts, pv_tn, ev_ifne, pz_wi_gc, pz_wi_ga, pz_wi_gn, pz_wi_gl, pz_wi_gr, pz_wi_same, pz_wi_X, pz_wl_gc, pz_wl_ga, pz_wl_gn, pz_wl_gi, pz_wl_gr, pz_wl_same, pz_wl_X, pz_wr_gc, pz_wr_ga, pz_wr_gn, pz_wr_gi, pz_wr_gl, pz_wr_same, pz_wr_X, e8']
          (try simp (disch := omega) only [nI_clamp, pz_in_nI2, pz_in_nI2L, pv_gt, nI_add, nI_addL, nI_Ladd, pk_mul, nI_mulL, nI_Lmul, pk_sub, nI_subL, nI_Lsub, nI_inc, nI_clampL, Nat.add_sub_cancel, pz_wi_else, pz_wl_else, vu_eq, vu_ne, pz_wi_gc, pz_wi_ga, pz_wi_gn, pz_wi_gl, pz_wi_gr, pz_wi_same, pz_wi_X, pz_wl_gc, pz_wl_ga, pz_wl_gn, pz_wl_gi, pz_wl_gr, pz_wl_same, pz_wl_X, pz_wr_gc, pz_wr_ga, pz_wr_gn, pz_wr_gi, pz_wr_gl, pz_wr_same, pz_wr_X, e8'])
          refine po_brP (fun q28 => ?_) (fun q28 => ?_)
          · first
            | exact absurd q28 (by decide)
            | exact absurd trivial q28
            | exact q28.elim
            | (exfalso; (try simp (disch := omega) only [nI_ltI, nI_leI, nI_eq, nI_ltL, nI_leL, nI_eqL, nI_Llt, nI_Lle, nI_Leq, nI_eqm, nI_meq, nI_ltm, nI_lem, nI_mlt, nI_mle, lg0, lgl, lgg, lgle, lgge, Int32.not_lt, Int32.not_le, Int64.not_lt, Int64.not_le, not_false_eq_true, not_true_eq_false, Decidable.not_not, ge_iff_le, gt_iff_lt] at q28) <;> omega)
            | exact absurd q28 (by with_reducible assumption)
            | exact absurd (by with_reducible assumption) q28
            | exact absurd (Decidable.not_not.mp q28) (by with_reducible assumption)
            | exact absurd (by with_reducible assumption) (Int32.not_le.mpr q28)
            | exact absurd (by with_reducible assumption) (Int32.not_lt.mpr q28)
          · skip
            (try simp (disch := omega) only [nI_ltI, nI_leI, nI_eq, nI_ltL, nI_leL, nI_eqL, nI_Llt, nI_Lle, nI_Leq, nI_eqm, nI_meq, nI_ltm, nI_lem, nI_mlt, nI_mle, lg0, lgl, lgg, lgle, lgge, Int32.not_lt, Int32.not_le, Int64.not_lt, Int64.not_le, not_false_eq_true, not_true_eq_false, Decidable.not_not, ge_iff_le, gt_iff_lt] at q28)
            refine pw_blk (mi := mz_106) (b := bz_106_31) rfl rfl ?_
            simp only [bz_106_31, pz_cut_t, pz_cut_f, pz_cut_n, pv_gt, pv_ts, pv_tn, ev_ret, pz_wi_gc, pz_wi_ga, pz_wi_gn, pz_wi_gl, pz_wi_gr, pz_wi_same, pz_wi_X, pz_wl_gc, pz_wl_ga, pz_wl_gn, pz_wl_gi, pz_wl_gr, pz_wl_same, pz_wl_X, pz_wr_gc, pz_wr_ga, pz_wr_gn, pz_wr_gi, pz_wr_gl, pz_wr_same, pz_wr_X, e8']
            (try simp (disch := omega) only [nI_clamp, pz_in_nI2, pz_in_nI2L, pv_gt, nI_add, nI_addL, nI_Ladd, pk_mul, nI_mulL, nI_Lmul, pk_sub, nI_subL, nI_Lsub, nI_inc, nI_clampL, Nat.add_sub_cancel, pz_wi_else, pz_wl_else, vu_eq, vu_ne, pz_wi_gc, pz_wi_ga, pz_wi_gn, pz_wi_gl, pz_wi_gr, pz_wi_same, pz_wi_X, pz_wl_gc, pz_wl_ga, pz_wl_gn, pz_wl_gi, pz_wl_gr, pz_wl_same, pz_wl_X, pz_wr_gc, pz_wr_ga, pz_wr_gn, pz_wr_gi, pz_wr_gl, pz_wr_same, pz_wr_X, e8'])
            exact po_ret (k M1 (bfr.of r1) s1 (fun y => by rw [flF_G] at y; cases y))
    | false =>
      have g10 := e10 (Or.inr t3)
      have hv26 := hO.1.2.2.2.2.1 t3
      have kwv := tp.1 t3
      rw [← kwv] at g10
      -- behind the line's own part: the sign
      have fin : ∀ W M' τ c', bfr M M' b → rSt M' ru T L τ → (isG τ = true → rsc M' b c') → (lineS ru T L (.inr t) c).1 = tsF ru T L 59 τ → (isG (lineS ru T L (.inr t) c).1 = true → (lineS ru T L (.inr t) c).2 = c') → pw d 106 (117, [some (.ref 120), W, none], [], M') Q := by
        intro W M' τ c' f' s' x' el1 el2
        have hS' := s'.1.1
        rw [el1] at k el2
        apply pw_cut (mi := mz_106) (b := bz_106_117) (L' := [some (.ref 120), none, none]) rfl rfl
        · skip
          refine pw_blk (mi := mz_106) (b := bz_106_117) rfl rfl ?_
          simp only [bz_106_117, pz_cut_t, pz_cut_f, pz_cut_n, pv_gt, pv_ts, pv_tn, ev_ald0, ev_eld0, ev_bp59, ev_cv1_11, pz_wi_gc, pz_wi_ga, pz_wi_gn, pz_wi_gl, pz_wi_gr, pz_wi_same, pz_wi_X, pz_wl_gc, pz_wl_ga, pz_wl_gn, pz_wl_gi, pz_wl_gr, pz_wl_same, pz_wl_X, pz_wr_gc, pz_wr_ga, pz_wr_gn, pz_wr_gi, pz_wr_gl, pz_wr_same, pz_wr_X, so_120 hS']
          (try simp (disch := omega) only [nI_clamp, pz_in_nI2, pz_in_nI2L, pv_gt, nI_add, nI_addL, nI_Ladd, pk_mul, nI_mulL, nI_Lmul, pk_sub, nI_subL, nI_Lsub, nI_inc, nI_clampL, Nat.add_sub_cancel, pz_wi_else, pz_wl_else, vu_eq, vu_ne, pz_wi_gc, pz_wi_ga, pz_wi_gn, pz_wi_gl, pz_wi_gr, pz_wi_same, pz_wi_X, pz_wl_gc, pz_wl_ga, pz_wl_gn, pz_wl_gi, pz_wl_gr, pz_wl_same, pz_wl_X, pz_wr_gc, pz_wr_ga, pz_wr_gn, pz_wr_gi, pz_wr_gl, pz_wr_same, pz_wr_X])
          (try refine po_gP (Nat.le_of_ble_eq_true rfl) ?_)
          refine po_call (by omega) (r_is (c := 59) (by omega) (by decide) s' (fun q hq => ?_))
          refine pw_blk (mi := mz_106) (b := bz_106_124) rfl rfl ?_
          simp only [bz_106_124, pz_cut_t, pz_cut_f, pz_cut_n, pv_gt, pv_ts, pv_tn, ev_cv1_11, pz_wi_gc, pz_wi_ga, pz_wi_gn, pz_wi_gl, pz_wi_gr, pz_wi_same, pz_wi_X, pz_wl_gc, pz_wl_ga, pz_wl_gn, pz_wl_gi, pz_wl_gr, pz_wl_same, pz_wl_X, pz_wr_gc, pz_wr_ga, pz_wr_gn, pz_wr_gi, pz_wr_gl, pz_wr_same, pz_wr_X, so_120 hS']
          (try simp (disch := omega) only [nI_clamp, pz_in_nI2, pz_in_nI2L, pv_gt, nI_add, nI_addL, nI_Ladd, pk_mul, nI_mulL, nI_Lmul, pk_sub, nI_subL, nI_Lsub, nI_inc, nI_clampL, Nat.add_sub_cancel, pz_wi_else, pz_wl_else, vu_eq, vu_ne, pz_wi_gc, pz_wi_ga, pz_wi_gn, pz_wi_gl, pz_wi_gr, pz_wi_same, pz_wi_X, pz_wl_gc, pz_wl_ga, pz_wl_gn, pz_wl_gi, pz_wl_gr, pz_wl_same, pz_wl_X, pz_wr_gc, pz_wr_ga, pz_wr_gn, pz_wr_gi, pz_wr_gl, pz_wr_same, pz_wr_X])
          (try refine po_gP (Nat.le_of_ble_eq_true rfl) ?_)
          refine po_call (by omega) (r_must (by omega) s' (fun hq1 hz => by rw [hq hz] at hq1; exact isC_G hq1) (fun M2 r2 s2 => ?_))
          rw [mustC s' hq] at s2
          refine pw_blk (mi := mz_106) (b := bz_106_127) rfl rfl ?_
          simp only [bz_106_127, pz_cut_t, pz_cut_f, pz_cut_n, pv_gt, pv_ts, pv_tn, ev_ret, pz_wi_gc, pz_wi_ga, pz_wi_gn, pz_wi_gl, pz_wi_gr, pz_wi_same, pz_wi_X, pz_wl_gc, pz_wl_ga, pz_wl_gn, pz_wl_gi, pz_wl_gr, pz_wl_same, pz_wl_X, pz_wr_gc, pz_wr_ga, pz_wr_gn, pz_wr_gi, pz_wr_gl, pz_wr_same, pz_wr_X]
          (try simp (disch := omega) only [nI_clamp, pz_in_nI2, pz_in_nI2L, pv_gt, nI_add, nI_addL, nI_Ladd, pk_mul, nI_mulL, nI_Lmul, pk_sub, nI_subL, nI_Lsub, nI_inc, nI_clampL, Nat.add_sub_cancel, pz_wi_else, pz_wl_else, vu_eq, vu_ne, pz_wi_gc, pz_wi_ga, pz_wi_gn, pz_wi_gl, pz_wi_gr, pz_wi_same, pz_wi_X, pz_wl_gc, pz_wl_ga, pz_wl_gn, pz_wl_gi, pz_wl_gr, pz_wl_same, pz_wl_X, pz_wr_gc, pz_wr_ga, pz_wr_gn, pz_wr_gi, pz_wr_gl, pz_wr_same, pz_wr_X])
          exact po_ret (k M2 (f'.tr (bfr.of r2)) s2 (fun y => by rw [el2 y]; exact (x' (isC_G (tsF_G y))).r r2))
        · rfl
      by_cases hv0 : t.2.1 = 0
      · have hx : c.H < 8 := by
          unfold fulB isWs at zf
          simp [t3, hv0] at zf
          omega
        have el : lineS ru T L (.inr t) c = heapS ru T L (.inr t) c := by
          unfold lineS isWs
          simp [t3, hv0]
        have eq : (heapS ru T L (.inr t) c).1 = tsF ru T L 59 (rhS ru T L (nxF ru T L (.inr t)) c).1 ∧ (isG (heapS ru T L (.inr t) c).1 = true → (heapS ru T L (.inr t) c).2 = (rhS ru T L (nxF ru T L (.inr t)) c).2) := heap_eq hx
        rw [← el] at eq
        rw [hv0] at g10
        have hK : p8 (wds.getD 0 []) = (1751474544 : Int64) := by decide +kernel
        have n1 : ¬ p8 (wds.getD 0 []) = (1885434484 : Int64) := by decide +kernel
        have n4 : ¬ p8 (wds.getD 0 []) = (1685024626 : Int64) := by decide +kernel
        have n5 : ¬ p8 (wds.getD 0 []) = (1835102827 : Int64) := by decide +kernel
        have n6 : ¬ p8 (wds.getD 0 []) = (7102839 : Int64) := by decide +kernel
        have n13 : ¬ p8 (wds.getD 0 []) = (1886151022 : Int64) := by decide +kernel
        generalize p8 (wds.getD 0 []) = W at g10 hK n1 n4 n5 n6 n13
        refine pm_ent (L := [some (.ref 120), none, none]) rfl (Nat.le_of_ble_eq_true rfl) ?_
        refine pw_blk (mi := mz_106) (b := bz_106_0) rfl rfl ?_
        simp only [bz_106_0, pz_cut_t, pz_cut_f, pz_cut_n, pv_gt, pv_ts, pv_tn, ev_ald0, ev_eld0, ev_gf11_1, ev_lst1n, ev_lst1i, ev_lst1r, ev_lst1e, ev_lst1l, ev_gf11_0, ev_ic3, ev_ic_ne, pz_wi_gc, pz_wi_ga, pz_wi_gn, pz_wi_gl, pz_wi_gr, pz_wi_same, pz_wi_X, pz_wl_gc, pz_wl_ga, pz_wl_gn, pz_wl_gi, pz_wl_gr, pz_wl_same, pz_wl_X, pz_wr_gc, pz_wr_ga, pz_wr_gn, pz_wr_gi, pz_wr_gl, pz_wr_same, pz_wr_X, so_120 hS, e8', g10]
        (try simp (disch := omega) only [nI_clamp, pz_in_nI2, pz_in_nI2L, pv_gt, nI_add, nI_addL, nI_Ladd, pk_mul, nI_mulL, nI_Lmul, pk_sub, nI_subL, nI_Lsub, nI_inc, nI_clampL, Nat.add_sub_cancel, pz_wi_else, pz_wl_else, vu_eq, vu_ne, pz_wi_gc, pz_wi_ga, pz_wi_gn, pz_wi_gl, pz_wi_gr, pz_wi_same, pz_wi_X, pz_wl_gc, pz_wl_ga, pz_wl_gn, pz_wl_gi, pz_wl_gr, pz_wl_same, pz_wl_X, pz_wr_gc, pz_wr_ga, pz_wr_gn, pz_wr_gi, pz_wr_gl, pz_wr_same, pz_wr_X, e8', g10])
        refine po_brP (fun q0 => ?_) (fun q0 => ?_)
        · first
          | exact absurd q0 (by decide)
          | exact absurd trivial q0
          | exact q0.elim
          | (exfalso; (try simp (disch := omega) only [nI_ltI, nI_leI, nI_eq, nI_ltL, nI_leL, nI_eqL, nI_Llt, nI_Lle, nI_Leq, nI_eqm, nI_meq, nI_ltm, nI_lem, nI_mlt, nI_mle, lg0, lgl, lgg, lgle, lgge, Int32.not_lt, Int32.not_le, Int64.not_lt, Int64.not_le, not_false_eq_true, not_true_eq_false, Decidable.not_not, ge_iff_le, gt_iff_lt] at q0) <;> omega)
          | exact absurd q0 (by with_reducible assumption)
          | exact absurd (by with_reducible assumption) q0
          | exact absurd (Decidable.not_not.mp q0) (by with_reducible assumption)
          | exact absurd (by with_reducible assumption) (Int32.not_le.mpr q0)
          | exact absurd (by with_reducible assumption) (Int32.not_lt.mpr q0)
        · skip
          (try simp (disch := omega) only [nI_ltI, nI_leI, nI_eq, nI_ltL, nI_leL, nI_eqL, nI_Llt, nI_Lle, nI_Leq, nI_eqm, nI_meq, nI_ltm, nI_lem, nI_mlt, nI_mle, lg0, lgl, lgg, lgle, lgge, Int32.not_lt, Int32.not_le, Int64.not_lt, Int64.not_le, not_false_eq_true, not_true_eq_false, Decidable.not_not, ge_iff_le, gt_iff_lt] at q0)
          refine pw_blk (mi := mz_106) (b := bz_106_13) rfl rfl ?_
          simp only [bz_106_13, pz_cut_t, pz_cut_f, pz_cut_n, pv_gt, pv_ts, pv_tn, ev_ald0, ev_eld0, ev_cv0_11, pz_wi_gc, pz_wi_ga, pz_wi_gn, pz_wi_gl, pz_wi_gr, pz_wi_same, pz_wi_X, pz_wl_gc, pz_wl_ga, pz_wl_gn, pz_wl_gi, pz_wl_gr, pz_wl_same, pz_wl_X, pz_wr_gc, pz_wr_ga, pz_wr_gn, pz_wr_gi, pz_wr_gl, pz_wr_same, pz_wr_X, so_120 hS, e8', g10]
          (try simp (disch := omega) only [nI_clamp, pz_in_nI2, pz_in_nI2L, pv_gt, nI_add, nI_addL, nI_Ladd, pk_mul, nI_mulL, nI_Lmul, pk_sub, nI_subL, nI_Lsub, nI_inc, nI_clampL, Nat.add_sub_cancel, pz_wi_else, pz_wl_else, vu_eq, vu_ne, pz_wi_gc, pz_wi_ga, pz_wi_gn, pz_wi_gl, pz_wi_gr, pz_wi_same, pz_wi_X, pz_wl_gc, pz_wl_ga, pz_wl_gn, pz_wl_gi, pz_wl_gr, pz_wl_same, pz_wl_X, pz_wr_gc, pz_wr_ga, pz_wr_gn, pz_wr_gi, pz_wr_gl, pz_wr_same, pz_wr_X, e8', g10])
          (try refine po_gP (Nat.le_of_ble_eq_true rfl) ?_)
          refine po_call (by omega) (r_isFull (by omega) hb e39 z s o x ?_)
          rw [zf]
          refine pw_blk (mi := mz_106) (b := bz_106_17) rfl rfl ?_
          simp only [bz_106_17, pz_cut_t, pz_cut_f, pz_cut_n, pv_gt, pv_ts, pv_tn, ev_ifeq, pz_wi_gc, pz_wi_ga, pz_wi_gn, pz_wi_gl, pz_wi_gr, pz_wi_same, pz_wi_X, pz_wl_gc, pz_wl_ga, pz_wl_gn, pz_wl_gi, pz_wl_gr, pz_wl_same, pz_wl_X, pz_wr_gc, pz_wr_ga, pz_wr_gn, pz_wr_gi, pz_wr_gl, pz_wr_same, pz_wr_X, e8', g10, bI_f]
          (try simp (disch := omega) only [nI_clamp, pz_in_nI2, pz_in_nI2L, pv_gt, nI_add, nI_addL, nI_Ladd, pk_mul, nI_mulL, nI_Lmul, pk_sub, nI_subL, nI_Lsub, nI_inc, nI_clampL, Nat.add_sub_cancel, pz_wi_else, pz_wl_else, vu_eq, vu_ne, pz_wi_gc, pz_wi_ga, pz_wi_gn, pz_wi_gl, pz_wi_gr, pz_wi_same, pz_wi_X, pz_wl_gc, pz_wl_ga, pz_wl_gn, pz_wl_gi, pz_wl_gr, pz_wl_same, pz_wl_X, pz_wr_gc, pz_wr_ga, pz_wr_gn, pz_wr_gi, pz_wr_gl, pz_wr_same, pz_wr_X, e8', g10, bI_f])
          refine po_brP (fun q17 => ?_) (fun q17 => ?_)
          · skip
            (try simp (disch := omega) only [nI_ltI, nI_leI, nI_eq, nI_ltL, nI_leL, nI_eqL, nI_Llt, nI_Lle, nI_Leq, nI_eqm, nI_meq, nI_ltm, nI_lem, nI_mlt, nI_mle, lg0, lgl, lgg, lgle, lgge, Int32.not_lt, Int32.not_le, Int64.not_lt, Int64.not_le, not_false_eq_true, not_true_eq_false, Decidable.not_not, ge_iff_le, gt_iff_lt] at q17)
            refine pw_blk (mi := mz_106) (b := bz_106_24) rfl rfl ?_
            simp only [bz_106_24, pz_cut_t, pz_cut_f, pz_cut_n, pv_gt, pv_ts, pv_tn, ev_ald0, ev_eld0, ev_cv0_11, pz_wi_gc, pz_wi_ga, pz_wi_gn, pz_wi_gl, pz_wi_gr, pz_wi_same, pz_wi_X, pz_wl_gc, pz_wl_ga, pz_wl_gn, pz_wl_gi, pz_wl_gr, pz_wl_same, pz_wl_X, pz_wr_gc, pz_wr_ga, pz_wr_gn, pz_wr_gi, pz_wr_gl, pz_wr_same, pz_wr_X, so_120 hS, e8', g10]
            (try simp (disch := omega) only [nI_clamp, pz_in_nI2, pz_in_nI2L, pv_gt, nI_add, nI_addL, nI_Ladd, pk_mul, nI_mulL, nI_Lmul, pk_sub, nI_subL, nI_Lsub, nI_inc, nI_clampL, Nat.add_sub_cancel, pz_wi_else, pz_wl_else, vu_eq, vu_ne, pz_wi_gc, pz_wi_ga, pz_wi_gn, pz_wi_gl, pz_wi_gr, pz_wi_same, pz_wi_X, pz_wl_gc, pz_wl_ga, pz_wl_gn, pz_wl_gi, pz_wl_gr, pz_wl_same, pz_wl_X, pz_wr_gc, pz_wr_ga, pz_wr_gn, pz_wr_gi, pz_wr_gl, pz_wr_same, pz_wr_X, e8', g10])
            (try refine po_gP (Nat.le_of_ble_eq_true rfl) ?_)
            refine po_call (by omega) (r_isGd hS (fun _ => ?_) (fun y => absurd z y))
            refine pw_blk (mi := mz_106) (b := bz_106_28) rfl rfl ?_
            simp only [bz_106_28, pz_cut_t, pz_cut_f, pz_cut_n, pv_gt, pv_ts, pv_tn, ev_ifne, pz_wi_gc, pz_wi_ga, pz_wi_gn, pz_wi_gl, pz_wi_gr, pz_wi_same, pz_wi_X, pz_wl_gc, pz_wl_ga, pz_wl_gn, pz_wl_gi, pz_wl_gr, pz_wl_same, pz_wl_X, pz_wr_gc, pz_wr_ga, pz_wr_gn, pz_wr_gi, pz_wr_gl, pz_wr_same, pz_wr_X, e8', g10]
            (try simp (disch := omega) only [nI_clamp, pz_in_nI2, pz_in_nI2L, pv_gt, nI_add, nI_addL, nI_Ladd, pk_mul, nI_mulL, nI_Lmul, pk_sub, nI_subL, nI_Lsub, nI_inc, nI_clampL, Nat.add_sub_cancel, pz_wi_else, pz_wl_else, vu_eq, vu_ne, pz_wi_gc, pz_wi_ga, pz_wi_gn, pz_wi_gl, pz_wi_gr, pz_wi_same, pz_wi_X, pz_wl_gc, pz_wl_ga, pz_wl_gn, pz_wl_gi, pz_wl_gr, pz_wl_same, pz_wl_X, pz_wr_gc, pz_wr_ga, pz_wr_gn, pz_wr_gi, pz_wr_gl, pz_wr_same, pz_wr_X, e8', g10])
            refine po_brP (fun q28 => ?_) (fun q28 => ?_)
            · skip
              (try simp (disch := omega) only [nI_ltI, nI_leI, nI_eq, nI_ltL, nI_leL, nI_eqL, nI_Llt, nI_Lle, nI_Leq, nI_eqm, nI_meq, nI_ltm, nI_lem, nI_mlt, nI_mle, lg0, lgl, lgg, lgle, lgge, Int32.not_lt, Int32.not_le, Int64.not_lt, Int64.not_le, not_false_eq_true, not_true_eq_false, Decidable.not_not, ge_iff_le, gt_iff_lt] at q28)
              refine pw_blk (mi := mz_106) (b := bz_106_32) rfl rfl ?_
              simp only [bz_106_32, pz_cut_t, pz_cut_f, pz_cut_n, pv_gt, pv_ts, pv_tn, ev_ald0, ev_eld0, ev_cv0_11, pz_wi_gc, pz_wi_ga, pz_wi_gn, pz_wi_gl, pz_wi_gr, pz_wi_same, pz_wi_X, pz_wl_gc, pz_wl_ga, pz_wl_gn, pz_wl_gi, pz_wl_gr, pz_wl_same, pz_wl_X, pz_wr_gc, pz_wr_ga, pz_wr_gn, pz_wr_gi, pz_wr_gl, pz_wr_same, pz_wr_X, so_120 hS, e8', g10]
              (try simp (disch := omega) only [nI_clamp, pz_in_nI2, pz_in_nI2L, pv_gt, nI_add, nI_addL, nI_Ladd, pk_mul, nI_mulL, nI_Lmul, pk_sub, nI_subL, nI_Lsub, nI_inc, nI_clampL, Nat.add_sub_cancel, pz_wi_else, pz_wl_else, vu_eq, vu_ne, pz_wi_gc, pz_wi_ga, pz_wi_gn, pz_wi_gl, pz_wi_gr, pz_wi_same, pz_wi_X, pz_wl_gc, pz_wl_ga, pz_wl_gn, pz_wl_gi, pz_wl_gr, pz_wl_same, pz_wl_X, pz_wr_gc, pz_wr_ga, pz_wr_gn, pz_wr_gi, pz_wr_gl, pz_wr_same, pz_wr_X, e8', g10])
              (try refine po_gP (Nat.le_of_ble_eq_true rfl) ?_)
              refine po_call (by omega) (r_go (by omega) s (fun M1 r1 s1 g4 _ => ?_))
              have hS1 := s1.1.1
              have f39 : gi M1 120 39 = nI b := by rw [r1.2 39 (by decide) (by decide) (by decide) (by decide) (by decide) (by decide)]; exact e39
              refine pw_blk (mi := mz_106) (b := bz_106_36) rfl rfl ?_
              simp only [bz_106_36, pz_cut_t, pz_cut_f, pz_cut_n, pv_gt, pv_ts, pv_tn, ev_lld1, ev_ldl1751474544, ev_lcmp, ev_ifne, pz_wi_gc, pz_wi_ga, pz_wi_gn, pz_wi_gl, pz_wi_gr, pz_wi_same, pz_wi_X, pz_wl_gc, pz_wl_ga, pz_wl_gn, pz_wl_gi, pz_wl_gr, pz_wl_same, pz_wl_X, pz_wr_gc, pz_wr_ga, pz_wr_gn, pz_wr_gi, pz_wr_gl, pz_wr_same, pz_wr_X, e8', g10]
              (try simp (disch := omega) only [nI_clamp, pz_in_nI2, pz_in_nI2L, pv_gt, nI_add, nI_addL, nI_Ladd, pk_mul, nI_mulL, nI_Lmul, pk_sub, nI_subL, nI_Lsub, nI_inc, nI_clampL, Nat.add_sub_cancel, pz_wi_else, pz_wl_else, vu_eq, vu_ne, pz_wi_gc, pz_wi_ga, pz_wi_gn, pz_wi_gl, pz_wi_gr, pz_wi_same, pz_wi_X, pz_wl_gc, pz_wl_ga, pz_wl_gn, pz_wl_gi, pz_wl_gr, pz_wl_same, pz_wl_X, pz_wr_gc, pz_wr_ga, pz_wr_gn, pz_wr_gi, pz_wr_gl, pz_wr_same, pz_wr_X, e8', g10])
              refine po_brP (fun q36 => ?_) (fun q36 => ?_)
              · exact absurd ((lg0 _ _).mpr hK) q36
              · first
                | exact absurd q36 (by decide)
                | exact absurd trivial q36
                | exact q36.elim
                | (exfalso; (try simp (disch := omega) only [nI_ltI, nI_leI, nI_eq, nI_ltL, nI_leL, nI_eqL, nI_Llt, nI_Lle, nI_Leq, nI_eqm, nI_meq, nI_ltm, nI_lem, nI_mlt, nI_mle, lg0, lgl, lgg, lgle, lgge, Int32.not_lt, Int32.not_le, Int64.not_lt, Int64.not_le, not_false_eq_true, not_true_eq_false, Decidable.not_not, ge_iff_le, gt_iff_lt] at q36) <;> omega)
                | exact absurd q36 (by with_reducible assumption)
                | exact absurd (by with_reducible assumption) q36
                | exact absurd (Decidable.not_not.mp q36) (by with_reducible assumption)
                | exact absurd (by with_reducible assumption) (Int32.not_le.mpr q36)
                | exact absurd (by with_reducible assumption) (Int32.not_lt.mpr q36)
                | skip
                  (try simp (disch := omega) only [nI_ltI, nI_leI, nI_eq, nI_ltL, nI_leL, nI_eqL, nI_Llt, nI_Lle, nI_Leq, nI_eqm, nI_meq, nI_ltm, nI_lem, nI_mlt, nI_mle, lg0, lgl, lgg, lgle, lgge, Int32.not_lt, Int32.not_le, Int64.not_lt, Int64.not_le, not_false_eq_true, not_true_eq_false, Decidable.not_not, ge_iff_le, gt_iff_lt] at q36)
                  refine pw_blk (mi := mz_106) (b := bz_106_44) rfl rfl ?_
                  simp only [bz_106_44, pz_cut_t, pz_cut_f, pz_cut_n, pv_gt, pv_ts, pv_tn, ev_ald0, ev_eld0, ev_cv0_11, pz_wi_gc, pz_wi_ga, pz_wi_gn, pz_wi_gl, pz_wi_gr, pz_wi_same, pz_wi_X, pz_wl_gc, pz_wl_ga, pz_wl_gn, pz_wl_gi, pz_wl_gr, pz_wl_same, pz_wl_X, pz_wr_gc, pz_wr_ga, pz_wr_gn, pz_wr_gi, pz_wr_gl, pz_wr_same, pz_wr_X, so_120 hS, e8', g10, so_120 hS1]
                  (try simp (disch := omega) only [nI_clamp, pz_in_nI2, pz_in_nI2L, pv_gt, nI_add, nI_addL, nI_Ladd, pk_mul, nI_mulL, nI_Lmul, pk_sub, nI_subL, nI_Lsub, nI_inc, nI_clampL, Nat.add_sub_cancel, pz_wi_else, pz_wl_else, vu_eq, vu_ne, pz_wi_gc, pz_wi_ga, pz_wi_gn, pz_wi_gl, pz_wi_gr, pz_wi_same, pz_wi_X, pz_wl_gc, pz_wl_ga, pz_wl_gn, pz_wl_gi, pz_wl_gr, pz_wl_same, pz_wl_X, pz_wr_gc, pz_wr_ga, pz_wr_gn, pz_wr_gi, pz_wr_gl, pz_wr_same, pz_wr_X, e8', g10, so_120 hS1])
                  (try refine po_gP (Nat.le_of_ble_eq_true rfl) ?_)
                  refine po_call (by omega) (r_readHeap (by omega) hb f39 s1 o hx (x.r r1) (fun M2 f2 s2 x2 => ?_))
                  refine pw_blk (mi := mz_106) (b := bz_106_48) rfl rfl ?_
                  simp only [bz_106_48, pz_cut_t, pz_cut_f, pz_cut_n, pv_gt, pv_ts, pv_tn, ev_lld1, ev_ldl1885434484, ev_lcmp, ev_ifne, pz_wi_gc, pz_wi_ga, pz_wi_gn, pz_wi_gl, pz_wi_gr, pz_wi_same, pz_wi_X, pz_wl_gc, pz_wl_ga, pz_wl_gn, pz_wl_gi, pz_wl_gr, pz_wl_same, pz_wl_X, pz_wr_gc, pz_wr_ga, pz_wr_gn, pz_wr_gi, pz_wr_gl, pz_wr_same, pz_wr_X, e8', g10]
                  (try simp (disch := omega) only [nI_clamp, pz_in_nI2, pz_in_nI2L, pv_gt, nI_add, nI_addL, nI_Ladd, pk_mul, nI_mulL, nI_Lmul, pk_sub, nI_subL, nI_Lsub, nI_inc, nI_clampL, Nat.add_sub_cancel, pz_wi_else, pz_wl_else, vu_eq, vu_ne, pz_wi_gc, pz_wi_ga, pz_wi_gn, pz_wi_gl, pz_wi_gr, pz_wi_same, pz_wi_X, pz_wl_gc, pz_wl_ga, pz_wl_gn, pz_wl_gi, pz_wl_gr, pz_wl_same, pz_wl_X, pz_wr_gc, pz_wr_ga, pz_wr_gn, pz_wr_gi, pz_wr_gl, pz_wr_same, pz_wr_X, e8', g10])
                  refine po_brP (fun q48 => ?_) (fun q48 => ?_)
                  · first
                    | exact absurd q48 (by decide)
                    | exact absurd trivial q48
                    | exact q48.elim
                    | (exfalso; (try simp (disch := omega) only [nI_ltI, nI_leI, nI_eq, nI_ltL, nI_leL, nI_eqL, nI_Llt, nI_Lle, nI_Leq, nI_eqm, nI_meq, nI_ltm, nI_lem, nI_mlt, nI_mle, lg0, lgl, lgg, lgle, lgge, Int32.not_lt, Int32.not_le, Int64.not_lt, Int64.not_le, not_false_eq_true, not_true_eq_false, Decidable.not_not, ge_iff_le, gt_iff_lt] at q48) <;> omega)
                    | exact absurd q48 (by with_reducible assumption)
                    | exact absurd (by with_reducible assumption) q48
                    | exact absurd (Decidable.not_not.mp q48) (by with_reducible assumption)
                    | exact absurd (by with_reducible assumption) (Int32.not_le.mpr q48)
                    | exact absurd (by with_reducible assumption) (Int32.not_lt.mpr q48)
                    | skip
                      (try simp (disch := omega) only [nI_ltI, nI_leI, nI_eq, nI_ltL, nI_leL, nI_eqL, nI_Llt, nI_Lle, nI_Leq, nI_eqm, nI_meq, nI_ltm, nI_lem, nI_mlt, nI_mle, lg0, lgl, lgg, lgle, lgge, Int32.not_lt, Int32.not_le, Int64.not_lt, Int64.not_le, not_false_eq_true, not_true_eq_false, Decidable.not_not, ge_iff_le, gt_iff_lt] at q48)
                      refine pw_blk (mi := mz_106) (b := bz_106_60) rfl rfl ?_
                      simp only [bz_106_60, pz_cut_t, pz_cut_f, pz_cut_n, pv_gt, pv_ts, pv_tn, ev_lld1, ev_ldl1685024626, ev_lcmp, ev_ifeq, pz_wi_gc, pz_wi_ga, pz_wi_gn, pz_wi_gl, pz_wi_gr, pz_wi_same, pz_wi_X, pz_wl_gc, pz_wl_ga, pz_wl_gn, pz_wl_gi, pz_wl_gr, pz_wl_same, pz_wl_X, pz_wr_gc, pz_wr_ga, pz_wr_gn, pz_wr_gi, pz_wr_gl, pz_wr_same, pz_wr_X, e8', g10]
                      (try simp (disch := omega) only [nI_clamp, pz_in_nI2, pz_in_nI2L, pv_gt, nI_add, nI_addL, nI_Ladd, pk_mul, nI_mulL, nI_Lmul, pk_sub, nI_subL, nI_Lsub, nI_inc, nI_clampL, Nat.add_sub_cancel, pz_wi_else, pz_wl_else, vu_eq, vu_ne, pz_wi_gc, pz_wi_ga, pz_wi_gn, pz_wi_gl, pz_wi_gr, pz_wi_same, pz_wi_X, pz_wl_gc, pz_wl_ga, pz_wl_gn, pz_wl_gi, pz_wl_gr, pz_wl_same, pz_wl_X, pz_wr_gc, pz_wr_ga, pz_wr_gn, pz_wr_gi, pz_wr_gl, pz_wr_same, pz_wr_X, e8', g10])
                      refine po_brP (fun q60 => ?_) (fun q60 => ?_)
                      · exact absurd ((lg0 _ _).mp q60) n4
                      · first
                        | exact absurd q60 (by decide)
                        | exact absurd trivial q60
                        | exact q60.elim
                        | (exfalso; (try simp (disch := omega) only [nI_ltI, nI_leI, nI_eq, nI_ltL, nI_leL, nI_eqL, nI_Llt, nI_Lle, nI_Leq, nI_eqm, nI_meq, nI_ltm, nI_lem, nI_mlt, nI_mle, lg0, lgl, lgg, lgle, lgge, Int32.not_lt, Int32.not_le, Int64.not_lt, Int64.not_le, not_false_eq_true, not_true_eq_false, Decidable.not_not, ge_iff_le, gt_iff_lt] at q60) <;> omega)
                        | exact absurd q60 (by with_reducible assumption)
                        | exact absurd (by with_reducible assumption) q60
                        | exact absurd (Decidable.not_not.mp q60) (by with_reducible assumption)
                        | exact absurd (by with_reducible assumption) (Int32.not_le.mpr q60)
                        | exact absurd (by with_reducible assumption) (Int32.not_lt.mpr q60)
                        | skip
                          (try simp (disch := omega) only [nI_ltI, nI_leI, nI_eq, nI_ltL, nI_leL, nI_eqL, nI_Llt, nI_Lle, nI_Leq, nI_eqm, nI_meq, nI_ltm, nI_lem, nI_mlt, nI_mle, lg0, lgl, lgg, lgle, lgge, Int32.not_lt, Int32.not_le, Int64.not_lt, Int64.not_le, not_false_eq_true, not_true_eq_false, Decidable.not_not, ge_iff_le, gt_iff_lt] at q60)
                          refine pw_blk (mi := mz_106) (b := bz_106_68) rfl rfl ?_
                          simp only [bz_106_68, pz_cut_t, pz_cut_f, pz_cut_n, pv_gt, pv_ts, pv_tn, ev_lld1, ev_ldl1835102827, ev_lcmp, ev_ifne, pz_wi_gc, pz_wi_ga, pz_wi_gn, pz_wi_gl, pz_wi_gr, pz_wi_same, pz_wi_X, pz_wl_gc, pz_wl_ga, pz_wl_gn, pz_wl_gi, pz_wl_gr, pz_wl_same, pz_wl_X, pz_wr_gc, pz_wr_ga, pz_wr_gn, pz_wr_gi, pz_wr_gl, pz_wr_same, pz_wr_X, e8', g10]
                          (try simp (disch := omega) only [nI_clamp, pz_in_nI2, pz_in_nI2L, pv_gt, nI_add, nI_addL, nI_Ladd, pk_mul, nI_mulL, nI_Lmul, pk_sub, nI_subL, nI_Lsub, nI_inc, nI_clampL, Nat.add_sub_cancel, pz_wi_else, pz_wl_else, vu_eq, vu_ne, pz_wi_gc, pz_wi_ga, pz_wi_gn, pz_wi_gl, pz_wi_gr, pz_wi_same, pz_wi_X, pz_wl_gc, pz_wl_ga, pz_wl_gn, pz_wl_gi, pz_wl_gr, pz_wl_same, pz_wl_X, pz_wr_gc, pz_wr_ga, pz_wr_gn, pz_wr_gi, pz_wr_gl, pz_wr_same, pz_wr_X, e8', g10])
                          refine po_brP (fun q68 => ?_) (fun q68 => ?_)
                          · first
                            | exact absurd q68 (by decide)
                            | exact absurd trivial q68
                            | exact q68.elim
                            | (exfalso; (try simp (disch := omega) only [nI_ltI, nI_leI, nI_eq, nI_ltL, nI_leL, nI_eqL, nI_Llt, nI_Lle, nI_Leq, nI_eqm, nI_meq, nI_ltm, nI_lem, nI_mlt, nI_mle, lg0, lgl, lgg, lgle, lgge, Int32.not_lt, Int32.not_le, Int64.not_lt, Int64.not_le, not_false_eq_true, not_true_eq_false, Decidable.not_not, ge_iff_le, gt_iff_lt] at q68) <;> omega)
                            | exact absurd q68 (by with_reducible assumption)
                            | exact absurd (by with_reducible assumption) q68
                            | exact absurd (Decidable.not_not.mp q68) (by with_reducible assumption)
                            | exact absurd (by with_reducible assumption) (Int32.not_le.mpr q68)
                            | exact absurd (by with_reducible assumption) (Int32.not_lt.mpr q68)
                            | skip
                              (try simp (disch := omega) only [nI_ltI, nI_leI, nI_eq, nI_ltL, nI_leL, nI_eqL, nI_Llt, nI_Lle, nI_Leq, nI_eqm, nI_meq, nI_ltm, nI_lem, nI_mlt, nI_mle, lg0, lgl, lgg, lgle, lgge, Int32.not_lt, Int32.not_le, Int64.not_lt, Int64.not_le, not_false_eq_true, not_true_eq_false, Decidable.not_not, ge_iff_le, gt_iff_lt] at q68)
                              refine pw_blk (mi := mz_106) (b := bz_106_93) rfl rfl ?_
                              simp only [bz_106_93, pz_cut_t, pz_cut_f, pz_cut_n, pv_gt, pv_ts, pv_tn, ev_lld1, ev_ldl7102839, ev_lcmp, ev_ifne, pz_wi_gc, pz_wi_ga, pz_wi_gn, pz_wi_gl, pz_wi_gr, pz_wi_same, pz_wi_X, pz_wl_gc, pz_wl_ga, pz_wl_gn, pz_wl_gi, pz_wl_gr, pz_wl_same, pz_wl_X, pz_wr_gc, pz_wr_ga, pz_wr_gn, pz_wr_gi, pz_wr_gl, pz_wr_same, pz_wr_X, e8', g10]
                              (try simp (disch := omega) only [nI_clamp, pz_in_nI2, pz_in_nI2L, pv_gt, nI_add, nI_addL, nI_Ladd, pk_mul, nI_mulL, nI_Lmul, pk_sub, nI_subL, nI_Lsub, nI_inc, nI_clampL, Nat.add_sub_cancel, pz_wi_else, pz_wl_else, vu_eq, vu_ne, pz_wi_gc, pz_wi_ga, pz_wi_gn, pz_wi_gl, pz_wi_gr, pz_wi_same, pz_wi_X, pz_wl_gc, pz_wl_ga, pz_wl_gn, pz_wl_gi, pz_wl_gr, pz_wl_same, pz_wl_X, pz_wr_gc, pz_wr_ga, pz_wr_gn, pz_wr_gi, pz_wr_gl, pz_wr_same, pz_wr_X, e8', g10])
                              refine po_brP (fun q93 => ?_) (fun q93 => ?_)
                              · first
                                | exact absurd q93 (by decide)
                                | exact absurd trivial q93
                                | exact q93.elim
                                | (exfalso; (try simp (disch := omega) only [nI_ltI, nI_leI, nI_eq, nI_ltL, nI_leL, nI_eqL, nI_Llt, nI_Lle, nI_Leq, nI_eqm, nI_meq, nI_ltm, nI_lem, nI_mlt, nI_mle, lg0, lgl, lgg, lgle, lgge, Int32.not_lt, Int32.not_le, Int64.not_lt, Int64.not_le, not_false_eq_true, not_true_eq_false, Decidable.not_not, ge_iff_le, gt_iff_lt] at q93) <;> omega)
                                | exact absurd q93 (by with_reducible assumption)
                                | exact absurd (by with_reducible assumption) q93
                                | exact absurd (Decidable.not_not.mp q93) (by with_reducible assumption)
                                | exact absurd (by with_reducible assumption) (Int32.not_le.mpr q93)
                                | exact absurd (by with_reducible assumption) (Int32.not_lt.mpr q93)
                                | skip
                                  (try simp (disch := omega) only [nI_ltI, nI_leI, nI_eq, nI_ltL, nI_leL, nI_eqL, nI_Llt, nI_Lle, nI_Leq, nI_eqm, nI_meq, nI_ltm, nI_lem, nI_mlt, nI_mle, lg0, lgl, lgg, lgle, lgge, Int32.not_lt, Int32.not_le, Int64.not_lt, Int64.not_le, not_false_eq_true, not_true_eq_false, Decidable.not_not, ge_iff_le, gt_iff_lt] at q93)
                                  refine pw_blk (mi := mz_106) (b := bz_106_105) rfl rfl ?_
                                  simp only [bz_106_105, pz_cut_t, pz_cut_f, pz_cut_n, pv_gt, pv_ts, pv_tn, ev_lld1, ev_ldl1886151022, ev_lcmp, ev_ifne, pz_wi_gc, pz_wi_ga, pz_wi_gn, pz_wi_gl, pz_wi_gr, pz_wi_same, pz_wi_X, pz_wl_gc, pz_wl_ga, pz_wl_gn, pz_wl_gi, pz_wl_gr, pz_wl_same, pz_wl_X, pz_wr_gc, pz_wr_ga, pz_wr_gn, pz_wr_gi, pz_wr_gl, pz_wr_same, pz_wr_X, e8', g10]
                                  (try simp (disch := omega) only [nI_clamp, pz_in_nI2, pz_in_nI2L, pv_gt, nI_add, nI_addL, nI_Ladd, pk_mul, nI_mulL, nI_Lmul, pk_sub, nI_subL, nI_Lsub, nI_inc, nI_clampL, Nat.add_sub_cancel, pz_wi_else, pz_wl_else, vu_eq, vu_ne, pz_wi_gc, pz_wi_ga, pz_wi_gn, pz_wi_gl, pz_wi_gr, pz_wi_same, pz_wi_X, pz_wl_gc, pz_wl_ga, pz_wl_gn, pz_wl_gi, pz_wl_gr, pz_wl_same, pz_wl_X, pz_wr_gc, pz_wr_ga, pz_wr_gn, pz_wr_gi, pz_wr_gl, pz_wr_same, pz_wr_X, e8', g10])
                                  refine po_brP (fun q105 => ?_) (fun q105 => ?_)
                                  · first
                                    | exact absurd q105 (by decide)
                                    | exact absurd trivial q105
                                    | exact q105.elim
                                    | (exfalso; (try simp (disch := omega) only [nI_ltI, nI_leI, nI_eq, nI_ltL, nI_leL, nI_eqL, nI_Llt, nI_Lle, nI_Leq, nI_eqm, nI_meq, nI_ltm, nI_lem, nI_mlt, nI_mle, lg0, lgl, lgg, lgle, lgge, Int32.not_lt, Int32.not_le, Int64.not_lt, Int64.not_le, not_false_eq_true, not_true_eq_false, Decidable.not_not, ge_iff_le, gt_iff_lt] at q105) <;> omega)
                                    | exact absurd q105 (by with_reducible assumption)
                                    | exact absurd (by with_reducible assumption) q105
                                    | exact absurd (Decidable.not_not.mp q105) (by with_reducible assumption)
                                    | exact absurd (by with_reducible assumption) (Int32.not_le.mpr q105)
                                    | exact absurd (by with_reducible assumption) (Int32.not_lt.mpr q105)
                                    | skip
                                      (try simp (disch := omega) only [nI_ltI, nI_leI, nI_eq, nI_ltL, nI_leL, nI_eqL, nI_Llt, nI_Lle, nI_Leq, nI_eqm, nI_meq, nI_ltm, nI_lem, nI_mlt, nI_mle, lg0, lgl, lgg, lgle, lgge, Int32.not_lt, Int32.not_le, Int64.not_lt, Int64.not_le, not_false_eq_true, not_true_eq_false, Decidable.not_not, ge_iff_le, gt_iff_lt] at q105)
                                      exact fin _ M2 _ _ ((bfr.of r1).tr f2) s2 x2 eq.1 eq.2
                                  · exact absurd ((lg0 _ _).mp (Decidable.not_not.mp q105)) n13
                              · exact absurd ((lg0 _ _).mp (Decidable.not_not.mp q93)) n6
                          · exact absurd ((lg0 _ _).mp (Decidable.not_not.mp q68)) n5
                  · exact absurd ((lg0 _ _).mp (Decidable.not_not.mp q48)) n1
            · first
              | exact absurd q28 (by decide)
              | exact absurd trivial q28
              | exact q28.elim
              | (exfalso; (try simp (disch := omega) only [nI_ltI, nI_leI, nI_eq, nI_ltL, nI_leL, nI_eqL, nI_Llt, nI_Lle, nI_Leq, nI_eqm, nI_meq, nI_ltm, nI_lem, nI_mlt, nI_mle, lg0, lgl, lgg, lgle, lgge, Int32.not_lt, Int32.not_le, Int64.not_lt, Int64.not_le, not_false_eq_true, not_true_eq_false, Decidable.not_not, ge_iff_le, gt_iff_lt] at q28) <;> omega)
              | exact absurd q28 (by with_reducible assumption)
              | exact absurd (by with_reducible assumption) q28
              | exact absurd (Decidable.not_not.mp q28) (by with_reducible assumption)
              | exact absurd (by with_reducible assumption) (Int32.not_le.mpr q28)
              | exact absurd (by with_reducible assumption) (Int32.not_lt.mpr q28)
          · first
            | exact absurd q17 (by decide)
            | exact absurd trivial q17
            | exact q17.elim
            | (exfalso; (try simp (disch := omega) only [nI_ltI, nI_leI, nI_eq, nI_ltL, nI_leL, nI_eqL, nI_Llt, nI_Lle, nI_Leq, nI_eqm, nI_meq, nI_ltm, nI_lem, nI_mlt, nI_mle, lg0, lgl, lgg, lgle, lgge, Int32.not_lt, Int32.not_le, Int64.not_lt, Int64.not_le, not_false_eq_true, not_true_eq_false, Decidable.not_not, ge_iff_le, gt_iff_lt] at q17) <;> omega)
            | exact absurd q17 (by with_reducible assumption)
            | exact absurd (by with_reducible assumption) q17
            | exact absurd (Decidable.not_not.mp q17) (by with_reducible assumption)
            | exact absurd (by with_reducible assumption) (Int32.not_le.mpr q17)
            | exact absurd (by with_reducible assumption) (Int32.not_lt.mpr q17)
      by_cases hv1 : t.2.1 = 1
      · have hx : c.P < 4 := by
          unfold fulB isWs at zf
          simp [t3, hv1] at zf
          omega
        have el : lineS ru T L (.inr t) c = partS ru T L (.inr t) c := by
          unfold lineS isWs
          simp [t3, hv1]
        have eq : (partS ru T L (.inr t) c).1 = tsF ru T L 59 (rpS ru T L (nxF ru T L (.inr t)) c).1 ∧ (isG (partS ru T L (.inr t) c).1 = true → (partS ru T L (.inr t) c).2 = (rpS ru T L (nxF ru T L (.inr t)) c).2) := part_eq hx
        rw [← el] at eq
        rw [hv1] at g10
        have hK : p8 (wds.getD 1 []) = (1885434484 : Int64) := by decide +kernel
        have n0 : ¬ p8 (wds.getD 1 []) = (1751474544 : Int64) := by decide +kernel
        have n4 : ¬ p8 (wds.getD 1 []) = (1685024626 : Int64) := by decide +kernel
        have n5 : ¬ p8 (wds.getD 1 []) = (1835102827 : Int64) := by decide +kernel
        have n6 : ¬ p8 (wds.getD 1 []) = (7102839 : Int64) := by decide +kernel
        have n13 : ¬ p8 (wds.getD 1 []) = (1886151022 : Int64) := by decide +kernel
        generalize p8 (wds.getD 1 []) = W at g10 hK n0 n4 n5 n6 n13
        refine pm_ent (L := [some (.ref 120), none, none]) rfl (Nat.le_of_ble_eq_true rfl) ?_
        refine pw_blk (mi := mz_106) (b := bz_106_0) rfl rfl ?_
        simp only [bz_106_0, pz_cut_t, pz_cut_f, pz_cut_n, pv_gt, pv_ts, pv_tn, ev_ald0, ev_eld0, ev_gf11_1, ev_lst1n, ev_lst1i, ev_lst1r, ev_lst1e, ev_lst1l, ev_gf11_0, ev_ic3, ev_ic_ne, pz_wi_gc, pz_wi_ga, pz_wi_gn, pz_wi_gl, pz_wi_gr, pz_wi_same, pz_wi_X, pz_wl_gc, pz_wl_ga, pz_wl_gn, pz_wl_gi, pz_wl_gr, pz_wl_same, pz_wl_X, pz_wr_gc, pz_wr_ga, pz_wr_gn, pz_wr_gi, pz_wr_gl, pz_wr_same, pz_wr_X, so_120 hS, e8', g10]
        (try simp (disch := omega) only [nI_clamp, pz_in_nI2, pz_in_nI2L, pv_gt, nI_add, nI_addL, nI_Ladd, pk_mul, nI_mulL, nI_Lmul, pk_sub, nI_subL, nI_Lsub, nI_inc, nI_clampL, Nat.add_sub_cancel, pz_wi_else, pz_wl_else, vu_eq, vu_ne, pz_wi_gc, pz_wi_ga, pz_wi_gn, pz_wi_gl, pz_wi_gr, pz_wi_same, pz_wi_X, pz_wl_gc, pz_wl_ga, pz_wl_gn, pz_wl_gi, pz_wl_gr, pz_wl_same, pz_wl_X, pz_wr_gc, pz_wr_ga, pz_wr_gn, pz_wr_gi, pz_wr_gl, pz_wr_same, pz_wr_X, e8', g10])
        refine po_brP (fun q0 => ?_) (fun q0 => ?_)
        · first
          | exact absurd q0 (by decide)
          | exact absurd trivial q0
          | exact q0.elim
          | (exfalso; (try simp (disch := omega) only [nI_ltI, nI_leI, nI_eq, nI_ltL, nI_leL, nI_eqL, nI_Llt, nI_Lle, nI_Leq, nI_eqm, nI_meq, nI_ltm, nI_lem, nI_mlt, nI_mle, lg0, lgl, lgg, lgle, lgge, Int32.not_lt, Int32.not_le, Int64.not_lt, Int64.not_le, not_false_eq_true, not_true_eq_false, Decidable.not_not, ge_iff_le, gt_iff_lt] at q0) <;> omega)
          | exact absurd q0 (by with_reducible assumption)
          | exact absurd (by with_reducible assumption) q0
          | exact absurd (Decidable.not_not.mp q0) (by with_reducible assumption)
          | exact absurd (by with_reducible assumption) (Int32.not_le.mpr q0)
          | exact absurd (by with_reducible assumption) (Int32.not_lt.mpr q0)
        · skip
          (try simp (disch := omega) only [nI_ltI, nI_leI, nI_eq, nI_ltL, nI_leL, nI_eqL, nI_Llt, nI_Lle, nI_Leq, nI_eqm, nI_meq, nI_ltm, nI_lem, nI_mlt, nI_mle, lg0, lgl, lgg, lgle, lgge, Int32.not_lt, Int32.not_le, Int64.not_lt, Int64.not_le, not_false_eq_true, not_true_eq_false, Decidable.not_not, ge_iff_le, gt_iff_lt] at q0)
          refine pw_blk (mi := mz_106) (b := bz_106_13) rfl rfl ?_
          simp only [bz_106_13, pz_cut_t, pz_cut_f, pz_cut_n, pv_gt, pv_ts, pv_tn, ev_ald0, ev_eld0, ev_cv0_11, pz_wi_gc, pz_wi_ga, pz_wi_gn, pz_wi_gl, pz_wi_gr, pz_wi_same, pz_wi_X, pz_wl_gc, pz_wl_ga, pz_wl_gn, pz_wl_gi, pz_wl_gr, pz_wl_same, pz_wl_X, pz_wr_gc, pz_wr_ga, pz_wr_gn, pz_wr_gi, pz_wr_gl, pz_wr_same, pz_wr_X, so_120 hS, e8', g10]
          (try simp (disch := omega) only [nI_clamp, pz_in_nI2, pz_in_nI2L, pv_gt, nI_add, nI_addL, nI_Ladd, pk_mul, nI_mulL, nI_Lmul, pk_sub, nI_subL, nI_Lsub, nI_inc, nI_clampL, Nat.add_sub_cancel, pz_wi_else, pz_wl_else, vu_eq, vu_ne, pz_wi_gc, pz_wi_ga, pz_wi_gn, pz_wi_gl, pz_wi_gr, pz_wi_same, pz_wi_X, pz_wl_gc, pz_wl_ga, pz_wl_gn, pz_wl_gi, pz_wl_gr, pz_wl_same, pz_wl_X, pz_wr_gc, pz_wr_ga, pz_wr_gn, pz_wr_gi, pz_wr_gl, pz_wr_same, pz_wr_X, e8', g10])
          (try refine po_gP (Nat.le_of_ble_eq_true rfl) ?_)
          refine po_call (by omega) (r_isFull (by omega) hb e39 z s o x ?_)
          rw [zf]
          refine pw_blk (mi := mz_106) (b := bz_106_17) rfl rfl ?_
          simp only [bz_106_17, pz_cut_t, pz_cut_f, pz_cut_n, pv_gt, pv_ts, pv_tn, ev_ifeq, pz_wi_gc, pz_wi_ga, pz_wi_gn, pz_wi_gl, pz_wi_gr, pz_wi_same, pz_wi_X, pz_wl_gc, pz_wl_ga, pz_wl_gn, pz_wl_gi, pz_wl_gr, pz_wl_same, pz_wl_X, pz_wr_gc, pz_wr_ga, pz_wr_gn, pz_wr_gi, pz_wr_gl, pz_wr_same, pz_wr_X, e8', g10, bI_f]
          (try simp (disch := omega) only [nI_clamp, pz_in_nI2, pz_in_nI2L, pv_gt, nI_add, nI_addL, nI_Ladd, pk_mul, nI_mulL, nI_Lmul, pk_sub, nI_subL, nI_Lsub, nI_inc, nI_clampL, Nat.add_sub_cancel, pz_wi_else, pz_wl_else, vu_eq, vu_ne, pz_wi_gc, pz_wi_ga, pz_wi_gn, pz_wi_gl, pz_wi_gr, pz_wi_same, pz_wi_X, pz_wl_gc, pz_wl_ga, pz_wl_gn, pz_wl_gi, pz_wl_gr, pz_wl_same, pz_wl_X, pz_wr_gc, pz_wr_ga, pz_wr_gn, pz_wr_gi, pz_wr_gl, pz_wr_same, pz_wr_X, e8', g10, bI_f])
          refine po_brP (fun q17 => ?_) (fun q17 => ?_)
          · skip
            (try simp (disch := omega) only [nI_ltI, nI_leI, nI_eq, nI_ltL, nI_leL, nI_eqL, nI_Llt, nI_Lle, nI_Leq, nI_eqm, nI_meq, nI_ltm, nI_lem, nI_mlt, nI_mle, lg0, lgl, lgg, lgle, lgge, Int32.not_lt, Int32.not_le, Int64.not_lt, Int64.not_le, not_false_eq_true, not_true_eq_false, Decidable.not_not, ge_iff_le, gt_iff_lt] at q17)
            refine pw_blk (mi := mz_106) (b := bz_106_24) rfl rfl ?_
            simp only [bz_106_24, pz_cut_t, pz_cut_f, pz_cut_n, pv_gt, pv_ts, pv_tn, ev_ald0, ev_eld0, ev_cv0_11, pz_wi_gc, pz_wi_ga, pz_wi_gn, pz_wi_gl, pz_wi_gr, pz_wi_same, pz_wi_X, pz_wl_gc, pz_wl_ga, pz_wl_gn, pz_wl_gi, pz_wl_gr, pz_wl_same, pz_wl_X, pz_wr_gc, pz_wr_ga, pz_wr_gn, pz_wr_gi, pz_wr_gl, pz_wr_same, pz_wr_X, so_120 hS, e8', g10]
            (try simp (disch := omega) only [nI_clamp, pz_in_nI2, pz_in_nI2L, pv_gt, nI_add, nI_addL, nI_Ladd, pk_mul, nI_mulL, nI_Lmul, pk_sub, nI_subL, nI_Lsub, nI_inc, nI_clampL, Nat.add_sub_cancel, pz_wi_else, pz_wl_else, vu_eq, vu_ne, pz_wi_gc, pz_wi_ga, pz_wi_gn, pz_wi_gl, pz_wi_gr, pz_wi_same, pz_wi_X, pz_wl_gc, pz_wl_ga, pz_wl_gn, pz_wl_gi, pz_wl_gr, pz_wl_same, pz_wl_X, pz_wr_gc, pz_wr_ga, pz_wr_gn, pz_wr_gi, pz_wr_gl, pz_wr_same, pz_wr_X, e8', g10])
            (try refine po_gP (Nat.le_of_ble_eq_true rfl) ?_)
            refine po_call (by omega) (r_isGd hS (fun _ => ?_) (fun y => absurd z y))
            refine pw_blk (mi := mz_106) (b := bz_106_28) rfl rfl ?_
            simp only [bz_106_28, pz_cut_t, pz_cut_f, pz_cut_n, pv_gt, pv_ts, pv_tn, ev_ifne, pz_wi_gc, pz_wi_ga, pz_wi_gn, pz_wi_gl, pz_wi_gr, pz_wi_same, pz_wi_X, pz_wl_gc, pz_wl_ga, pz_wl_gn, pz_wl_gi, pz_wl_gr, pz_wl_same, pz_wl_X, pz_wr_gc, pz_wr_ga, pz_wr_gn, pz_wr_gi, pz_wr_gl, pz_wr_same, pz_wr_X, e8', g10]
            (try simp (disch := omega) only [nI_clamp, pz_in_nI2, pz_in_nI2L, pv_gt, nI_add, nI_addL, nI_Ladd, pk_mul, nI_mulL, nI_Lmul, pk_sub, nI_subL, nI_Lsub, nI_inc, nI_clampL, Nat.add_sub_cancel, pz_wi_else, pz_wl_else, vu_eq, vu_ne, pz_wi_gc, pz_wi_ga, pz_wi_gn, pz_wi_gl, pz_wi_gr, pz_wi_same, pz_wi_X, pz_wl_gc, pz_wl_ga, pz_wl_gn, pz_wl_gi, pz_wl_gr, pz_wl_same, pz_wl_X, pz_wr_gc, pz_wr_ga, pz_wr_gn, pz_wr_gi, pz_wr_gl, pz_wr_same, pz_wr_X, e8', g10])
            refine po_brP (fun q28 => ?_) (fun q28 => ?_)
            · skip
              (try simp (disch := omega) only [nI_ltI, nI_leI, nI_eq, nI_ltL, nI_leL, nI_eqL, nI_Llt, nI_Lle, nI_Leq, nI_eqm, nI_meq, nI_ltm, nI_lem, nI_mlt, nI_mle, lg0, lgl, lgg, lgle, lgge, Int32.not_lt, Int32.not_le, Int64.not_lt, Int64.not_le, not_false_eq_true, not_true_eq_false, Decidable.not_not, ge_iff_le, gt_iff_lt] at q28)
              refine pw_blk (mi := mz_106) (b := bz_106_32) rfl rfl ?_
              simp only [bz_106_32, pz_cut_t, pz_cut_f, pz_cut_n, pv_gt, pv_ts, pv_tn, ev_ald0, ev_eld0, ev_cv0_11, pz_wi_gc, pz_wi_ga, pz_wi_gn, pz_wi_gl, pz_wi_gr, pz_wi_same, pz_wi_X, pz_wl_gc, pz_wl_ga, pz_wl_gn, pz_wl_gi, pz_wl_gr, pz_wl_same, pz_wl_X, pz_wr_gc, pz_wr_ga, pz_wr_gn, pz_wr_gi, pz_wr_gl, pz_wr_same, pz_wr_X, so_120 hS, e8', g10]
              (try simp (disch := omega) only [nI_clamp, pz_in_nI2, pz_in_nI2L, pv_gt, nI_add, nI_addL, nI_Ladd, pk_mul, nI_mulL, nI_Lmul, pk_sub, nI_subL, nI_Lsub, nI_inc, nI_clampL, Nat.add_sub_cancel, pz_wi_else, pz_wl_else, vu_eq, vu_ne, pz_wi_gc, pz_wi_ga, pz_wi_gn, pz_wi_gl, pz_wi_gr, pz_wi_same, pz_wi_X, pz_wl_gc, pz_wl_ga, pz_wl_gn, pz_wl_gi, pz_wl_gr, pz_wl_same, pz_wl_X, pz_wr_gc, pz_wr_ga, pz_wr_gn, pz_wr_gi, pz_wr_gl, pz_wr_same, pz_wr_X, e8', g10])
              (try refine po_gP (Nat.le_of_ble_eq_true rfl) ?_)
              refine po_call (by omega) (r_go (by omega) s (fun M1 r1 s1 g4 _ => ?_))
              have hS1 := s1.1.1
              have f39 : gi M1 120 39 = nI b := by rw [r1.2 39 (by decide) (by decide) (by decide) (by decide) (by decide) (by decide)]; exact e39
              refine pw_blk (mi := mz_106) (b := bz_106_36) rfl rfl ?_
              simp only [bz_106_36, pz_cut_t, pz_cut_f, pz_cut_n, pv_gt, pv_ts, pv_tn, ev_lld1, ev_ldl1751474544, ev_lcmp, ev_ifne, pz_wi_gc, pz_wi_ga, pz_wi_gn, pz_wi_gl, pz_wi_gr, pz_wi_same, pz_wi_X, pz_wl_gc, pz_wl_ga, pz_wl_gn, pz_wl_gi, pz_wl_gr, pz_wl_same, pz_wl_X, pz_wr_gc, pz_wr_ga, pz_wr_gn, pz_wr_gi, pz_wr_gl, pz_wr_same, pz_wr_X, e8', g10]
              (try simp (disch := omega) only [nI_clamp, pz_in_nI2, pz_in_nI2L, pv_gt, nI_add, nI_addL, nI_Ladd, pk_mul, nI_mulL, nI_Lmul, pk_sub, nI_subL, nI_Lsub, nI_inc, nI_clampL, Nat.add_sub_cancel, pz_wi_else, pz_wl_else, vu_eq, vu_ne, pz_wi_gc, pz_wi_ga, pz_wi_gn, pz_wi_gl, pz_wi_gr, pz_wi_same, pz_wi_X, pz_wl_gc, pz_wl_ga, pz_wl_gn, pz_wl_gi, pz_wl_gr, pz_wl_same, pz_wl_X, pz_wr_gc, pz_wr_ga, pz_wr_gn, pz_wr_gi, pz_wr_gl, pz_wr_same, pz_wr_X, e8', g10])
              refine po_brP (fun q36 => ?_) (fun q36 => ?_)
              · first
                | exact absurd q36 (by decide)
                | exact absurd trivial q36
                | exact q36.elim
                | (exfalso; (try simp (disch := omega) only [nI_ltI, nI_leI, nI_eq, nI_ltL, nI_leL, nI_eqL, nI_Llt, nI_Lle, nI_Leq, nI_eqm, nI_meq, nI_ltm, nI_lem, nI_mlt, nI_mle, lg0, lgl, lgg, lgle, lgge, Int32.not_lt, Int32.not_le, Int64.not_lt, Int64.not_le, not_false_eq_true, not_true_eq_false, Decidable.not_not, ge_iff_le, gt_iff_lt] at q36) <;> omega)
                | exact absurd q36 (by with_reducible assumption)
                | exact absurd (by with_reducible assumption) q36
                | exact absurd (Decidable.not_not.mp q36) (by with_reducible assumption)
                | exact absurd (by with_reducible assumption) (Int32.not_le.mpr q36)
                | exact absurd (by with_reducible assumption) (Int32.not_lt.mpr q36)
                | skip
                  (try simp (disch := omega) only [nI_ltI, nI_leI, nI_eq, nI_ltL, nI_leL, nI_eqL, nI_Llt, nI_Lle, nI_Leq, nI_eqm, nI_meq, nI_ltm, nI_lem, nI_mlt, nI_mle, lg0, lgl, lgg, lgle, lgge, Int32.not_lt, Int32.not_le, Int64.not_lt, Int64.not_le, not_false_eq_true, not_true_eq_false, Decidable.not_not, ge_iff_le, gt_iff_lt] at q36)
                  refine pw_blk (mi := mz_106) (b := bz_106_48) rfl rfl ?_
                  simp only [bz_106_48, pz_cut_t, pz_cut_f, pz_cut_n, pv_gt, pv_ts, pv_tn, ev_lld1, ev_ldl1885434484, ev_lcmp, ev_ifne, pz_wi_gc, pz_wi_ga, pz_wi_gn, pz_wi_gl, pz_wi_gr, pz_wi_same, pz_wi_X, pz_wl_gc, pz_wl_ga, pz_wl_gn, pz_wl_gi, pz_wl_gr, pz_wl_same, pz_wl_X, pz_wr_gc, pz_wr_ga, pz_wr_gn, pz_wr_gi, pz_wr_gl, pz_wr_same, pz_wr_X, e8', g10]
                  (try simp (disch := omega) only [nI_clamp, pz_in_nI2, pz_in_nI2L, pv_gt, nI_add, nI_addL, nI_Ladd, pk_mul, nI_mulL, nI_Lmul, pk_sub, nI_subL, nI_Lsub, nI_inc, nI_clampL, Nat.add_sub_cancel, pz_wi_else, pz_wl_else, vu_eq, vu_ne, pz_wi_gc, pz_wi_ga, pz_wi_gn, pz_wi_gl, pz_wi_gr, pz_wi_same, pz_wi_X, pz_wl_gc, pz_wl_ga, pz_wl_gn, pz_wl_gi, pz_wl_gr, pz_wl_same, pz_wl_X, pz_wr_gc, pz_wr_ga, pz_wr_gn, pz_wr_gi, pz_wr_gl, pz_wr_same, pz_wr_X, e8', g10])
                  refine po_brP (fun q48 => ?_) (fun q48 => ?_)
                  · exact absurd ((lg0 _ _).mpr hK) q48
                  · first
                    | exact absurd q48 (by decide)
                    | exact absurd trivial q48
                    | exact q48.elim
                    | (exfalso; (try simp (disch := omega) only [nI_ltI, nI_leI, nI_eq, nI_ltL, nI_leL, nI_eqL, nI_Llt, nI_Lle, nI_Leq, nI_eqm, nI_meq, nI_ltm, nI_lem, nI_mlt, nI_mle, lg0, lgl, lgg, lgle, lgge, Int32.not_lt, Int32.not_le, Int64.not_lt, Int64.not_le, not_false_eq_true, not_true_eq_false, Decidable.not_not, ge_iff_le, gt_iff_lt] at q48) <;> omega)
                    | exact absurd q48 (by with_reducible assumption)
                    | exact absurd (by with_reducible assumption) q48
                    | exact absurd (Decidable.not_not.mp q48) (by with_reducible assumption)
                    | exact absurd (by with_reducible assumption) (Int32.not_le.mpr q48)
                    | exact absurd (by with_reducible assumption) (Int32.not_lt.mpr q48)
                    | skip
                      (try simp (disch := omega) only [nI_ltI, nI_leI, nI_eq, nI_ltL, nI_leL, nI_eqL, nI_Llt, nI_Lle, nI_Leq, nI_eqm, nI_meq, nI_ltm, nI_lem, nI_mlt, nI_mle, lg0, lgl, lgg, lgle, lgge, Int32.not_lt, Int32.not_le, Int64.not_lt, Int64.not_le, not_false_eq_true, not_true_eq_false, Decidable.not_not, ge_iff_le, gt_iff_lt] at q48)
                      refine pw_blk (mi := mz_106) (b := bz_106_56) rfl rfl ?_
                      simp only [bz_106_56, pz_cut_t, pz_cut_f, pz_cut_n, pv_gt, pv_ts, pv_tn, ev_ald0, ev_eld0, ev_cv0_11, pz_wi_gc, pz_wi_ga, pz_wi_gn, pz_wi_gl, pz_wi_gr, pz_wi_same, pz_wi_X, pz_wl_gc, pz_wl_ga, pz_wl_gn, pz_wl_gi, pz_wl_gr, pz_wl_same, pz_wl_X, pz_wr_gc, pz_wr_ga, pz_wr_gn, pz_wr_gi, pz_wr_gl, pz_wr_same, pz_wr_X, so_120 hS, e8', g10, so_120 hS1]
                      (try simp (disch := omega) only [nI_clamp, pz_in_nI2, pz_in_nI2L, pv_gt, nI_add, nI_addL, nI_Ladd, pk_mul, nI_mulL, nI_Lmul, pk_sub, nI_subL, nI_Lsub, nI_inc, nI_clampL, Nat.add_sub_cancel, pz_wi_else, pz_wl_else, vu_eq, vu_ne, pz_wi_gc, pz_wi_ga, pz_wi_gn, pz_wi_gl, pz_wi_gr, pz_wi_same, pz_wi_X, pz_wl_gc, pz_wl_ga, pz_wl_gn, pz_wl_gi, pz_wl_gr, pz_wl_same, pz_wl_X, pz_wr_gc, pz_wr_ga, pz_wr_gn, pz_wr_gi, pz_wr_gl, pz_wr_same, pz_wr_X, e8', g10, so_120 hS1])
                      (try refine po_gP (Nat.le_of_ble_eq_true rfl) ?_)
                      refine po_call (by omega) (r_readPart (by omega) hb f39 s1 o hx (x.r r1) (fun M2 f2 s2 x2 => ?_))
                      refine pw_blk (mi := mz_106) (b := bz_106_60) rfl rfl ?_
                      simp only [bz_106_60, pz_cut_t, pz_cut_f, pz_cut_n, pv_gt, pv_ts, pv_tn, ev_lld1, ev_ldl1685024626, ev_lcmp, ev_ifeq, pz_wi_gc, pz_wi_ga, pz_wi_gn, pz_wi_gl, pz_wi_gr, pz_wi_same, pz_wi_X, pz_wl_gc, pz_wl_ga, pz_wl_gn, pz_wl_gi, pz_wl_gr, pz_wl_same, pz_wl_X, pz_wr_gc, pz_wr_ga, pz_wr_gn, pz_wr_gi, pz_wr_gl, pz_wr_same, pz_wr_X, e8', g10]
                      (try simp (disch := omega) only [nI_clamp, pz_in_nI2, pz_in_nI2L, pv_gt, nI_add, nI_addL, nI_Ladd, pk_mul, nI_mulL, nI_Lmul, pk_sub, nI_subL, nI_Lsub, nI_inc, nI_clampL, Nat.add_sub_cancel, pz_wi_else, pz_wl_else, vu_eq, vu_ne, pz_wi_gc, pz_wi_ga, pz_wi_gn, pz_wi_gl, pz_wi_gr, pz_wi_same, pz_wi_X, pz_wl_gc, pz_wl_ga, pz_wl_gn, pz_wl_gi, pz_wl_gr, pz_wl_same, pz_wl_X, pz_wr_gc, pz_wr_ga, pz_wr_gn, pz_wr_gi, pz_wr_gl, pz_wr_same, pz_wr_X, e8', g10])
                      refine po_brP (fun q60 => ?_) (fun q60 => ?_)
                      · exact absurd ((lg0 _ _).mp q60) n4
                      · first
                        | exact absurd q60 (by decide)
                        | exact absurd trivial q60
                        | exact q60.elim
                        | (exfalso; (try simp (disch := omega) only [nI_ltI, nI_leI, nI_eq, nI_ltL, nI_leL, nI_eqL, nI_Llt, nI_Lle, nI_Leq, nI_eqm, nI_meq, nI_ltm, nI_lem, nI_mlt, nI_mle, lg0, lgl, lgg, lgle, lgge, Int32.not_lt, Int32.not_le, Int64.not_lt, Int64.not_le, not_false_eq_true, not_true_eq_false, Decidable.not_not, ge_iff_le, gt_iff_lt] at q60) <;> omega)
                        | exact absurd q60 (by with_reducible assumption)
                        | exact absurd (by with_reducible assumption) q60
                        | exact absurd (Decidable.not_not.mp q60) (by with_reducible assumption)
                        | exact absurd (by with_reducible assumption) (Int32.not_le.mpr q60)
                        | exact absurd (by with_reducible assumption) (Int32.not_lt.mpr q60)
                        | skip
                          (try simp (disch := omega) only [nI_ltI, nI_leI, nI_eq, nI_ltL, nI_leL, nI_eqL, nI_Llt, nI_Lle, nI_Leq, nI_eqm, nI_meq, nI_ltm, nI_lem, nI_mlt, nI_mle, lg0, lgl, lgg, lgle, lgge, Int32.not_lt, Int32.not_le, Int64.not_lt, Int64.not_le, not_false_eq_true, not_true_eq_false, Decidable.not_not, ge_iff_le, gt_iff_lt] at q60)
                          refine pw_blk (mi := mz_106) (b := bz_106_68) rfl rfl ?_
                          simp only [bz_106_68, pz_cut_t, pz_cut_f, pz_cut_n, pv_gt, pv_ts, pv_tn, ev_lld1, ev_ldl1835102827, ev_lcmp, ev_ifne, pz_wi_gc, pz_wi_ga, pz_wi_gn, pz_wi_gl, pz_wi_gr, pz_wi_same, pz_wi_X, pz_wl_gc, pz_wl_ga, pz_wl_gn, pz_wl_gi, pz_wl_gr, pz_wl_same, pz_wl_X, pz_wr_gc, pz_wr_ga, pz_wr_gn, pz_wr_gi, pz_wr_gl, pz_wr_same, pz_wr_X, e8', g10]
                          (try simp (disch := omega) only [nI_clamp, pz_in_nI2, pz_in_nI2L, pv_gt, nI_add, nI_addL, nI_Ladd, pk_mul, nI_mulL, nI_Lmul, pk_sub, nI_subL, nI_Lsub, nI_inc, nI_clampL, Nat.add_sub_cancel, pz_wi_else, pz_wl_else, vu_eq, vu_ne, pz_wi_gc, pz_wi_ga, pz_wi_gn, pz_wi_gl, pz_wi_gr, pz_wi_same, pz_wi_X, pz_wl_gc, pz_wl_ga, pz_wl_gn, pz_wl_gi, pz_wl_gr, pz_wl_same, pz_wl_X, pz_wr_gc, pz_wr_ga, pz_wr_gn, pz_wr_gi, pz_wr_gl, pz_wr_same, pz_wr_X, e8', g10])
                          refine po_brP (fun q68 => ?_) (fun q68 => ?_)
                          · first
                            | exact absurd q68 (by decide)
                            | exact absurd trivial q68
                            | exact q68.elim
                            | (exfalso; (try simp (disch := omega) only [nI_ltI, nI_leI, nI_eq, nI_ltL, nI_leL, nI_eqL, nI_Llt, nI_Lle, nI_Leq, nI_eqm, nI_meq, nI_ltm, nI_lem, nI_mlt, nI_mle, lg0, lgl, lgg, lgle, lgge, Int32.not_lt, Int32.not_le, Int64.not_lt, Int64.not_le, not_false_eq_true, not_true_eq_false, Decidable.not_not, ge_iff_le, gt_iff_lt] at q68) <;> omega)
                            | exact absurd q68 (by with_reducible assumption)
                            | exact absurd (by with_reducible assumption) q68
                            | exact absurd (Decidable.not_not.mp q68) (by with_reducible assumption)
                            | exact absurd (by with_reducible assumption) (Int32.not_le.mpr q68)
                            | exact absurd (by with_reducible assumption) (Int32.not_lt.mpr q68)
                            | skip
                              (try simp (disch := omega) only [nI_ltI, nI_leI, nI_eq, nI_ltL, nI_leL, nI_eqL, nI_Llt, nI_Lle, nI_Leq, nI_eqm, nI_meq, nI_ltm, nI_lem, nI_mlt, nI_mle, lg0, lgl, lgg, lgle, lgge, Int32.not_lt, Int32.not_le, Int64.not_lt, Int64.not_le, not_false_eq_true, not_true_eq_false, Decidable.not_not, ge_iff_le, gt_iff_lt] at q68)
                              refine pw_blk (mi := mz_106) (b := bz_106_93) rfl rfl ?_
                              simp only [bz_106_93, pz_cut_t, pz_cut_f, pz_cut_n, pv_gt, pv_ts, pv_tn, ev_lld1, ev_ldl7102839, ev_lcmp, ev_ifne, pz_wi_gc, pz_wi_ga, pz_wi_gn, pz_wi_gl, pz_wi_gr, pz_wi_same, pz_wi_X, pz_wl_gc, pz_wl_ga, pz_wl_gn, pz_wl_gi, pz_wl_gr, pz_wl_same, pz_wl_X, pz_wr_gc, pz_wr_ga, pz_wr_gn, pz_wr_gi, pz_wr_gl, pz_wr_same, pz_wr_X, e8', g10]
                              (try simp (disch := omega) only [nI_clamp, pz_in_nI2, pz_in_nI2L, pv_gt, nI_add, nI_addL, nI_Ladd, pk_mul, nI_mulL, nI_Lmul, pk_sub, nI_subL, nI_Lsub, nI_inc, nI_clampL, Nat.add_sub_cancel, pz_wi_else, pz_wl_else, vu_eq, vu_ne, pz_wi_gc, pz_wi_ga, pz_wi_gn, pz_wi_gl, pz_wi_gr, pz_wi_same, pz_wi_X, pz_wl_gc, pz_wl_ga, pz_wl_gn, pz_wl_gi, pz_wl_gr, pz_wl_same, pz_wl_X, pz_wr_gc, pz_wr_ga, pz_wr_gn, pz_wr_gi, pz_wr_gl, pz_wr_same, pz_wr_X, e8', g10])
                              refine po_brP (fun q93 => ?_) (fun q93 => ?_)
                              · first
                                | exact absurd q93 (by decide)
                                | exact absurd trivial q93
                                | exact q93.elim
                                | (exfalso; (try simp (disch := omega) only [nI_ltI, nI_leI, nI_eq, nI_ltL, nI_leL, nI_eqL, nI_Llt, nI_Lle, nI_Leq, nI_eqm, nI_meq, nI_ltm, nI_lem, nI_mlt, nI_mle, lg0, lgl, lgg, lgle, lgge, Int32.not_lt, Int32.not_le, Int64.not_lt, Int64.not_le, not_false_eq_true, not_true_eq_false, Decidable.not_not, ge_iff_le, gt_iff_lt] at q93) <;> omega)
                                | exact absurd q93 (by with_reducible assumption)
                                | exact absurd (by with_reducible assumption) q93
                                | exact absurd (Decidable.not_not.mp q93) (by with_reducible assumption)
                                | exact absurd (by with_reducible assumption) (Int32.not_le.mpr q93)
                                | exact absurd (by with_reducible assumption) (Int32.not_lt.mpr q93)
                                | skip
                                  (try simp (disch := omega) only [nI_ltI, nI_leI, nI_eq, nI_ltL, nI_leL, nI_eqL, nI_Llt, nI_Lle, nI_Leq, nI_eqm, nI_meq, nI_ltm, nI_lem, nI_mlt, nI_mle, lg0, lgl, lgg, lgle, lgge, Int32.not_lt, Int32.not_le, Int64.not_lt, Int64.not_le, not_false_eq_true, not_true_eq_false, Decidable.not_not, ge_iff_le, gt_iff_lt] at q93)
                                  refine pw_blk (mi := mz_106) (b := bz_106_105) rfl rfl ?_
                                  simp only [bz_106_105, pz_cut_t, pz_cut_f, pz_cut_n, pv_gt, pv_ts, pv_tn, ev_lld1, ev_ldl1886151022, ev_lcmp, ev_ifne, pz_wi_gc, pz_wi_ga, pz_wi_gn, pz_wi_gl, pz_wi_gr, pz_wi_same, pz_wi_X, pz_wl_gc, pz_wl_ga, pz_wl_gn, pz_wl_gi, pz_wl_gr, pz_wl_same, pz_wl_X, pz_wr_gc, pz_wr_ga, pz_wr_gn, pz_wr_gi, pz_wr_gl, pz_wr_same, pz_wr_X, e8', g10]
                                  (try simp (disch := omega) only [nI_clamp, pz_in_nI2, pz_in_nI2L, pv_gt, nI_add, nI_addL, nI_Ladd, pk_mul, nI_mulL, nI_Lmul, pk_sub, nI_subL, nI_Lsub, nI_inc, nI_clampL, Nat.add_sub_cancel, pz_wi_else, pz_wl_else, vu_eq, vu_ne, pz_wi_gc, pz_wi_ga, pz_wi_gn, pz_wi_gl, pz_wi_gr, pz_wi_same, pz_wi_X, pz_wl_gc, pz_wl_ga, pz_wl_gn, pz_wl_gi, pz_wl_gr, pz_wl_same, pz_wl_X, pz_wr_gc, pz_wr_ga, pz_wr_gn, pz_wr_gi, pz_wr_gl, pz_wr_same, pz_wr_X, e8', g10])
                                  refine po_brP (fun q105 => ?_) (fun q105 => ?_)
                                  · first
                                    | exact absurd q105 (by decide)
                                    | exact absurd trivial q105
                                    | exact q105.elim
                                    | (exfalso; (try simp (disch := omega) only [nI_ltI, nI_leI, nI_eq, nI_ltL, nI_leL, nI_eqL, nI_Llt, nI_Lle, nI_Leq, nI_eqm, nI_meq, nI_ltm, nI_lem, nI_mlt, nI_mle, lg0, lgl, lgg, lgle, lgge, Int32.not_lt, Int32.not_le, Int64.not_lt, Int64.not_le, not_false_eq_true, not_true_eq_false, Decidable.not_not, ge_iff_le, gt_iff_lt] at q105) <;> omega)
                                    | exact absurd q105 (by with_reducible assumption)
                                    | exact absurd (by with_reducible assumption) q105
                                    | exact absurd (Decidable.not_not.mp q105) (by with_reducible assumption)
                                    | exact absurd (by with_reducible assumption) (Int32.not_le.mpr q105)
                                    | exact absurd (by with_reducible assumption) (Int32.not_lt.mpr q105)
                                    | skip
                                      (try simp (disch := omega) only [nI_ltI, nI_leI, nI_eq, nI_ltL, nI_leL, nI_eqL, nI_Llt, nI_Lle, nI_Leq, nI_eqm, nI_meq, nI_ltm, nI_lem, nI_mlt, nI_mle, lg0, lgl, lgg, lgle, lgge, Int32.not_lt, Int32.not_le, Int64.not_lt, Int64.not_le, not_false_eq_true, not_true_eq_false, Decidable.not_not, ge_iff_le, gt_iff_lt] at q105)
                                      exact fin _ M2 _ _ ((bfr.of r1).tr f2) s2 x2 eq.1 eq.2
                                  · exact absurd ((lg0 _ _).mp (Decidable.not_not.mp q105)) n13
                              · exact absurd ((lg0 _ _).mp (Decidable.not_not.mp q93)) n6
                          · exact absurd ((lg0 _ _).mp (Decidable.not_not.mp q68)) n5
              · exact absurd ((lg0 _ _).mp (Decidable.not_not.mp q36)) n0
            · first
              | exact absurd q28 (by decide)
              | exact absurd trivial q28
              | exact q28.elim
              | (exfalso; (try simp (disch := omega) only [nI_ltI, nI_leI, nI_eq, nI_ltL, nI_leL, nI_eqL, nI_Llt, nI_Lle, nI_Leq, nI_eqm, nI_meq, nI_ltm, nI_lem, nI_mlt, nI_mle, lg0, lgl, lgg, lgle, lgge, Int32.not_lt, Int32.not_le, Int64.not_lt, Int64.not_le, not_false_eq_true, not_true_eq_false, Decidable.not_not, ge_iff_le, gt_iff_lt] at q28) <;> omega)
              | exact absurd q28 (by with_reducible assumption)
              | exact absurd (by with_reducible assumption) q28
              | exact absurd (Decidable.not_not.mp q28) (by with_reducible assumption)
              | exact absurd (by with_reducible assumption) (Int32.not_le.mpr q28)
              | exact absurd (by with_reducible assumption) (Int32.not_lt.mpr q28)
          · first
            | exact absurd q17 (by decide)
            | exact absurd trivial q17
            | exact q17.elim
            | (exfalso; (try simp (disch := omega) only [nI_ltI, nI_leI, nI_eq, nI_ltL, nI_leL, nI_eqL, nI_Llt, nI_Lle, nI_Leq, nI_eqm, nI_meq, nI_ltm, nI_lem, nI_mlt, nI_mle, lg0, lgl, lgg, lgle, lgge, Int32.not_lt, Int32.not_le, Int64.not_lt, Int64.not_le, not_false_eq_true, not_true_eq_false, Decidable.not_not, ge_iff_le, gt_iff_lt] at q17) <;> omega)
            | exact absurd q17 (by with_reducible assumption)
            | exact absurd (by with_reducible assumption) q17
            | exact absurd (Decidable.not_not.mp q17) (by with_reducible assumption)
            | exact absurd (by with_reducible assumption) (Int32.not_le.mpr q17)
            | exact absurd (by with_reducible assumption) (Int32.not_lt.mpr q17)
      by_cases hv4 : t.2.1 = 4
      · have hx : True := by
          trivial
        have el : lineS ru T L (.inr t) c = (wbF ru T L c.B c.D (.inr t), c.door (nuV (nxF ru T L (.inr t)))) := by
          unfold lineS isWs
          simp [t3, hv4]
        have eq : ((wbF ru T L c.B c.D (.inr t), c.door (nuV (nxF ru T L (.inr t))))).1 = tsF ru T L 59 (rsF ru T L c.B c.D (nxF ru T L (.inr t))) ∧ (isG ((wbF ru T L c.B c.D (.inr t), c.door (nuV (nxF ru T L (.inr t))))).1 = true → ((wbF ru T L c.B c.D (.inr t), c.door (nuV (nxF ru T L (.inr t))))).2 = (c.door (nuV (nxF ru T L (.inr t))))) := ⟨spot_eq, fun _ => rfl⟩
        rw [← el] at eq
        rw [hv4] at g10
        have hK : p8 (wds.getD 4 []) = (1685024626 : Int64) := by decide +kernel
        have n0 : ¬ p8 (wds.getD 4 []) = (1751474544 : Int64) := by decide +kernel
        have n1 : ¬ p8 (wds.getD 4 []) = (1885434484 : Int64) := by decide +kernel
        have n5 : ¬ p8 (wds.getD 4 []) = (1835102827 : Int64) := by decide +kernel
        have n6 : ¬ p8 (wds.getD 4 []) = (7102839 : Int64) := by decide +kernel
        have n13 : ¬ p8 (wds.getD 4 []) = (1886151022 : Int64) := by decide +kernel
        generalize p8 (wds.getD 4 []) = W at g10 hK n0 n1 n5 n6 n13
        refine pm_ent (L := [some (.ref 120), none, none]) rfl (Nat.le_of_ble_eq_true rfl) ?_
        refine pw_blk (mi := mz_106) (b := bz_106_0) rfl rfl ?_
        simp only [bz_106_0, pz_cut_t, pz_cut_f, pz_cut_n, pv_gt, pv_ts, pv_tn, ev_ald0, ev_eld0, ev_gf11_1, ev_lst1n, ev_lst1i, ev_lst1r, ev_lst1e, ev_lst1l, ev_gf11_0, ev_ic3, ev_ic_ne, pz_wi_gc, pz_wi_ga, pz_wi_gn, pz_wi_gl, pz_wi_gr, pz_wi_same, pz_wi_X, pz_wl_gc, pz_wl_ga, pz_wl_gn, pz_wl_gi, pz_wl_gr, pz_wl_same, pz_wl_X, pz_wr_gc, pz_wr_ga, pz_wr_gn, pz_wr_gi, pz_wr_gl, pz_wr_same, pz_wr_X, so_120 hS, e8', g10]
        (try simp (disch := omega) only [nI_clamp, pz_in_nI2, pz_in_nI2L, pv_gt, nI_add, nI_addL, nI_Ladd, pk_mul, nI_mulL, nI_Lmul, pk_sub, nI_subL, nI_Lsub, nI_inc, nI_clampL, Nat.add_sub_cancel, pz_wi_else, pz_wl_else, vu_eq, vu_ne, pz_wi_gc, pz_wi_ga, pz_wi_gn, pz_wi_gl, pz_wi_gr, pz_wi_same, pz_wi_X, pz_wl_gc, pz_wl_ga, pz_wl_gn, pz_wl_gi, pz_wl_gr, pz_wl_same, pz_wl_X, pz_wr_gc, pz_wr_ga, pz_wr_gn, pz_wr_gi, pz_wr_gl, pz_wr_same, pz_wr_X, e8', g10])
        refine po_brP (fun q0 => ?_) (fun q0 => ?_)
        · first
          | exact absurd q0 (by decide)
          | exact absurd trivial q0
          | exact q0.elim
          | (exfalso; (try simp (disch := omega) only [nI_ltI, nI_leI, nI_eq, nI_ltL, nI_leL, nI_eqL, nI_Llt, nI_Lle, nI_Leq, nI_eqm, nI_meq, nI_ltm, nI_lem, nI_mlt, nI_mle, lg0, lgl, lgg, lgle, lgge, Int32.not_lt, Int32.not_le, Int64.not_lt, Int64.not_le, not_false_eq_true, not_true_eq_false, Decidable.not_not, ge_iff_le, gt_iff_lt] at q0) <;> omega)
          | exact absurd q0 (by with_reducible assumption)
          | exact absurd (by with_reducible assumption) q0
          | exact absurd (Decidable.not_not.mp q0) (by with_reducible assumption)
          | exact absurd (by with_reducible assumption) (Int32.not_le.mpr q0)
          | exact absurd (by with_reducible assumption) (Int32.not_lt.mpr q0)
        · skip
          (try simp (disch := omega) only [nI_ltI, nI_leI, nI_eq, nI_ltL, nI_leL, nI_eqL, nI_Llt, nI_Lle, nI_Leq, nI_eqm, nI_meq, nI_ltm, nI_lem, nI_mlt, nI_mle, lg0, lgl, lgg, lgle, lgge, Int32.not_lt, Int32.not_le, Int64.not_lt, Int64.not_le, not_false_eq_true, not_true_eq_false, Decidable.not_not, ge_iff_le, gt_iff_lt] at q0)
          refine pw_blk (mi := mz_106) (b := bz_106_13) rfl rfl ?_
          simp only [bz_106_13, pz_cut_t, pz_cut_f, pz_cut_n, pv_gt, pv_ts, pv_tn, ev_ald0, ev_eld0, ev_cv0_11, pz_wi_gc, pz_wi_ga, pz_wi_gn, pz_wi_gl, pz_wi_gr, pz_wi_same, pz_wi_X, pz_wl_gc, pz_wl_ga, pz_wl_gn, pz_wl_gi, pz_wl_gr, pz_wl_same, pz_wl_X, pz_wr_gc, pz_wr_ga, pz_wr_gn, pz_wr_gi, pz_wr_gl, pz_wr_same, pz_wr_X, so_120 hS, e8', g10]
          (try simp (disch := omega) only [nI_clamp, pz_in_nI2, pz_in_nI2L, pv_gt, nI_add, nI_addL, nI_Ladd, pk_mul, nI_mulL, nI_Lmul, pk_sub, nI_subL, nI_Lsub, nI_inc, nI_clampL, Nat.add_sub_cancel, pz_wi_else, pz_wl_else, vu_eq, vu_ne, pz_wi_gc, pz_wi_ga, pz_wi_gn, pz_wi_gl, pz_wi_gr, pz_wi_same, pz_wi_X, pz_wl_gc, pz_wl_ga, pz_wl_gn, pz_wl_gi, pz_wl_gr, pz_wl_same, pz_wl_X, pz_wr_gc, pz_wr_ga, pz_wr_gn, pz_wr_gi, pz_wr_gl, pz_wr_same, pz_wr_X, e8', g10])
          (try refine po_gP (Nat.le_of_ble_eq_true rfl) ?_)
          refine po_call (by omega) (r_isFull (by omega) hb e39 z s o x ?_)
          rw [zf]
          refine pw_blk (mi := mz_106) (b := bz_106_17) rfl rfl ?_
          simp only [bz_106_17, pz_cut_t, pz_cut_f, pz_cut_n, pv_gt, pv_ts, pv_tn, ev_ifeq, pz_wi_gc, pz_wi_ga, pz_wi_gn, pz_wi_gl, pz_wi_gr, pz_wi_same, pz_wi_X, pz_wl_gc, pz_wl_ga, pz_wl_gn, pz_wl_gi, pz_wl_gr, pz_wl_same, pz_wl_X, pz_wr_gc, pz_wr_ga, pz_wr_gn, pz_wr_gi, pz_wr_gl, pz_wr_same, pz_wr_X, e8', g10, bI_f]
          (try simp (disch := omega) only [nI_clamp, pz_in_nI2, pz_in_nI2L, pv_gt, nI_add, nI_addL, nI_Ladd, pk_mul, nI_mulL, nI_Lmul, pk_sub, nI_subL, nI_Lsub, nI_inc, nI_clampL, Nat.add_sub_cancel, pz_wi_else, pz_wl_else, vu_eq, vu_ne, pz_wi_gc, pz_wi_ga, pz_wi_gn, pz_wi_gl, pz_wi_gr, pz_wi_same, pz_wi_X, pz_wl_gc, pz_wl_ga, pz_wl_gn, pz_wl_gi, pz_wl_gr, pz_wl_same, pz_wl_X, pz_wr_gc, pz_wr_ga, pz_wr_gn, pz_wr_gi, pz_wr_gl, pz_wr_same, pz_wr_X, e8', g10, bI_f])
          refine po_brP (fun q17 => ?_) (fun q17 => ?_)
          · skip
            (try simp (disch := omega) only [nI_ltI, nI_leI, nI_eq, nI_ltL, nI_leL, nI_eqL, nI_Llt, nI_Lle, nI_Leq, nI_eqm, nI_meq, nI_ltm, nI_lem, nI_mlt, nI_mle, lg0, lgl, lgg, lgle, lgge, Int32.not_lt, Int32.not_le, Int64.not_lt, Int64.not_le, not_false_eq_true, not_true_eq_false, Decidable.not_not, ge_iff_le, gt_iff_lt] at q17)
            refine pw_blk (mi := mz_106) (b := bz_106_24) rfl rfl ?_
            simp only [bz_106_24, pz_cut_t, pz_cut_f, pz_cut_n, pv_gt, pv_ts, pv_tn, ev_ald0, ev_eld0, ev_cv0_11, pz_wi_gc, pz_wi_ga, pz_wi_gn, pz_wi_gl, pz_wi_gr, pz_wi_same, pz_wi_X, pz_wl_gc, pz_wl_ga, pz_wl_gn, pz_wl_gi, pz_wl_gr, pz_wl_same, pz_wl_X, pz_wr_gc, pz_wr_ga, pz_wr_gn, pz_wr_gi, pz_wr_gl, pz_wr_same, pz_wr_X, so_120 hS, e8', g10]
            (try simp (disch := omega) only [nI_clamp, pz_in_nI2, pz_in_nI2L, pv_gt, nI_add, nI_addL, nI_Ladd, pk_mul, nI_mulL, nI_Lmul, pk_sub, nI_subL, nI_Lsub, nI_inc, nI_clampL, Nat.add_sub_cancel, pz_wi_else, pz_wl_else, vu_eq, vu_ne, pz_wi_gc, pz_wi_ga, pz_wi_gn, pz_wi_gl, pz_wi_gr, pz_wi_same, pz_wi_X, pz_wl_gc, pz_wl_ga, pz_wl_gn, pz_wl_gi, pz_wl_gr, pz_wl_same, pz_wl_X, pz_wr_gc, pz_wr_ga, pz_wr_gn, pz_wr_gi, pz_wr_gl, pz_wr_same, pz_wr_X, e8', g10])
            (try refine po_gP (Nat.le_of_ble_eq_true rfl) ?_)
            refine po_call (by omega) (r_isGd hS (fun _ => ?_) (fun y => absurd z y))
            refine pw_blk (mi := mz_106) (b := bz_106_28) rfl rfl ?_
            simp only [bz_106_28, pz_cut_t, pz_cut_f, pz_cut_n, pv_gt, pv_ts, pv_tn, ev_ifne, pz_wi_gc, pz_wi_ga, pz_wi_gn, pz_wi_gl, pz_wi_gr, pz_wi_same, pz_wi_X, pz_wl_gc, pz_wl_ga, pz_wl_gn, pz_wl_gi, pz_wl_gr, pz_wl_same, pz_wl_X, pz_wr_gc, pz_wr_ga, pz_wr_gn, pz_wr_gi, pz_wr_gl, pz_wr_same, pz_wr_X, e8', g10]
            (try simp (disch := omega) only [nI_clamp, pz_in_nI2, pz_in_nI2L, pv_gt, nI_add, nI_addL, nI_Ladd, pk_mul, nI_mulL, nI_Lmul, pk_sub, nI_subL, nI_Lsub, nI_inc, nI_clampL, Nat.add_sub_cancel, pz_wi_else, pz_wl_else, vu_eq, vu_ne, pz_wi_gc, pz_wi_ga, pz_wi_gn, pz_wi_gl, pz_wi_gr, pz_wi_same, pz_wi_X, pz_wl_gc, pz_wl_ga, pz_wl_gn, pz_wl_gi, pz_wl_gr, pz_wl_same, pz_wl_X, pz_wr_gc, pz_wr_ga, pz_wr_gn, pz_wr_gi, pz_wr_gl, pz_wr_same, pz_wr_X, e8', g10])
            refine po_brP (fun q28 => ?_) (fun q28 => ?_)
            · skip
              (try simp (disch := omega) only [nI_ltI, nI_leI, nI_eq, nI_ltL, nI_leL, nI_eqL, nI_Llt, nI_Lle, nI_Leq, nI_eqm, nI_meq, nI_ltm, nI_lem, nI_mlt, nI_mle, lg0, lgl, lgg, lgle, lgge, Int32.not_lt, Int32.not_le, Int64.not_lt, Int64.not_le, not_false_eq_true, not_true_eq_false, Decidable.not_not, ge_iff_le, gt_iff_lt] at q28)
              refine pw_blk (mi := mz_106) (b := bz_106_32) rfl rfl ?_
              simp only [bz_106_32, pz_cut_t, pz_cut_f, pz_cut_n, pv_gt, pv_ts, pv_tn, ev_ald0, ev_eld0, ev_cv0_11, pz_wi_gc, pz_wi_ga, pz_wi_gn, pz_wi_gl, pz_wi_gr, pz_wi_same, pz_wi_X, pz_wl_gc, pz_wl_ga, pz_wl_gn, pz_wl_gi, pz_wl_gr, pz_wl_same, pz_wl_X, pz_wr_gc, pz_wr_ga, pz_wr_gn, pz_wr_gi, pz_wr_gl, pz_wr_same, pz_wr_X, so_120 hS, e8', g10]
              (try simp (disch := omega) only [nI_clamp, pz_in_nI2, pz_in_nI2L, pv_gt, nI_add, nI_addL, nI_Ladd, pk_mul, nI_mulL, nI_Lmul, pk_sub, nI_subL, nI_Lsub, nI_inc, nI_clampL, Nat.add_sub_cancel, pz_wi_else, pz_wl_else, vu_eq, vu_ne, pz_wi_gc, pz_wi_ga, pz_wi_gn, pz_wi_gl, pz_wi_gr, pz_wi_same, pz_wi_X, pz_wl_gc, pz_wl_ga, pz_wl_gn, pz_wl_gi, pz_wl_gr, pz_wl_same, pz_wl_X, pz_wr_gc, pz_wr_ga, pz_wr_gn, pz_wr_gi, pz_wr_gl, pz_wr_same, pz_wr_X, e8', g10])
              (try refine po_gP (Nat.le_of_ble_eq_true rfl) ?_)
              refine po_call (by omega) (r_go (by omega) s (fun M1 r1 s1 g4 _ => ?_))
              have hS1 := s1.1.1
              have f39 : gi M1 120 39 = nI b := by rw [r1.2 39 (by decide) (by decide) (by decide) (by decide) (by decide) (by decide)]; exact e39
              refine pw_blk (mi := mz_106) (b := bz_106_36) rfl rfl ?_
              simp only [bz_106_36, pz_cut_t, pz_cut_f, pz_cut_n, pv_gt, pv_ts, pv_tn, ev_lld1, ev_ldl1751474544, ev_lcmp, ev_ifne, pz_wi_gc, pz_wi_ga, pz_wi_gn, pz_wi_gl, pz_wi_gr, pz_wi_same, pz_wi_X, pz_wl_gc, pz_wl_ga, pz_wl_gn, pz_wl_gi, pz_wl_gr, pz_wl_same, pz_wl_X, pz_wr_gc, pz_wr_ga, pz_wr_gn, pz_wr_gi, pz_wr_gl, pz_wr_same, pz_wr_X, e8', g10]
              (try simp (disch := omega) only [nI_clamp, pz_in_nI2, pz_in_nI2L, pv_gt, nI_add, nI_addL, nI_Ladd, pk_mul, nI_mulL, nI_Lmul, pk_sub, nI_subL, nI_Lsub, nI_inc, nI_clampL, Nat.add_sub_cancel, pz_wi_else, pz_wl_else, vu_eq, vu_ne, pz_wi_gc, pz_wi_ga, pz_wi_gn, pz_wi_gl, pz_wi_gr, pz_wi_same, pz_wi_X, pz_wl_gc, pz_wl_ga, pz_wl_gn, pz_wl_gi, pz_wl_gr, pz_wl_same, pz_wl_X, pz_wr_gc, pz_wr_ga, pz_wr_gn, pz_wr_gi, pz_wr_gl, pz_wr_same, pz_wr_X, e8', g10])
              refine po_brP (fun q36 => ?_) (fun q36 => ?_)
              · first
                | exact absurd q36 (by decide)
                | exact absurd trivial q36
                | exact q36.elim
                | (exfalso; (try simp (disch := omega) only [nI_ltI, nI_leI, nI_eq, nI_ltL, nI_leL, nI_eqL, nI_Llt, nI_Lle, nI_Leq, nI_eqm, nI_meq, nI_ltm, nI_lem, nI_mlt, nI_mle, lg0, lgl, lgg, lgle, lgge, Int32.not_lt, Int32.not_le, Int64.not_lt, Int64.not_le, not_false_eq_true, not_true_eq_false, Decidable.not_not, ge_iff_le, gt_iff_lt] at q36) <;> omega)
                | exact absurd q36 (by with_reducible assumption)
                | exact absurd (by with_reducible assumption) q36
                | exact absurd (Decidable.not_not.mp q36) (by with_reducible assumption)
                | exact absurd (by with_reducible assumption) (Int32.not_le.mpr q36)
                | exact absurd (by with_reducible assumption) (Int32.not_lt.mpr q36)
                | skip
                  (try simp (disch := omega) only [nI_ltI, nI_leI, nI_eq, nI_ltL, nI_leL, nI_eqL, nI_Llt, nI_Lle, nI_Leq, nI_eqm, nI_meq, nI_ltm, nI_lem, nI_mlt, nI_mle, lg0, lgl, lgg, lgle, lgge, Int32.not_lt, Int32.not_le, Int64.not_lt, Int64.not_le, not_false_eq_true, not_true_eq_false, Decidable.not_not, ge_iff_le, gt_iff_lt] at q36)
                  refine pw_blk (mi := mz_106) (b := bz_106_48) rfl rfl ?_
                  simp only [bz_106_48, pz_cut_t, pz_cut_f, pz_cut_n, pv_gt, pv_ts, pv_tn, ev_lld1, ev_ldl1885434484, ev_lcmp, ev_ifne, pz_wi_gc, pz_wi_ga, pz_wi_gn, pz_wi_gl, pz_wi_gr, pz_wi_same, pz_wi_X, pz_wl_gc, pz_wl_ga, pz_wl_gn, pz_wl_gi, pz_wl_gr, pz_wl_same, pz_wl_X, pz_wr_gc, pz_wr_ga, pz_wr_gn, pz_wr_gi, pz_wr_gl, pz_wr_same, pz_wr_X, e8', g10]
                  (try simp (disch := omega) only [nI_clamp, pz_in_nI2, pz_in_nI2L, pv_gt, nI_add, nI_addL, nI_Ladd, pk_mul, nI_mulL, nI_Lmul, pk_sub, nI_subL, nI_Lsub, nI_inc, nI_clampL, Nat.add_sub_cancel, pz_wi_else, pz_wl_else, vu_eq, vu_ne, pz_wi_gc, pz_wi_ga, pz_wi_gn, pz_wi_gl, pz_wi_gr, pz_wi_same, pz_wi_X, pz_wl_gc, pz_wl_ga, pz_wl_gn, pz_wl_gi, pz_wl_gr, pz_wl_same, pz_wl_X, pz_wr_gc, pz_wr_ga, pz_wr_gn, pz_wr_gi, pz_wr_gl, pz_wr_same, pz_wr_X, e8', g10])
                  refine po_brP (fun q48 => ?_) (fun q48 => ?_)
                  · first
                    | exact absurd q48 (by decide)
                    | exact absurd trivial q48
                    | exact q48.elim
                    | (exfalso; (try simp (disch := omega) only [nI_ltI, nI_leI, nI_eq, nI_ltL, nI_leL, nI_eqL, nI_Llt, nI_Lle, nI_Leq, nI_eqm, nI_meq, nI_ltm, nI_lem, nI_mlt, nI_mle, lg0, lgl, lgg, lgle, lgge, Int32.not_lt, Int32.not_le, Int64.not_lt, Int64.not_le, not_false_eq_true, not_true_eq_false, Decidable.not_not, ge_iff_le, gt_iff_lt] at q48) <;> omega)
                    | exact absurd q48 (by with_reducible assumption)
                    | exact absurd (by with_reducible assumption) q48
                    | exact absurd (Decidable.not_not.mp q48) (by with_reducible assumption)
                    | exact absurd (by with_reducible assumption) (Int32.not_le.mpr q48)
                    | exact absurd (by with_reducible assumption) (Int32.not_lt.mpr q48)
                    | skip
                      (try simp (disch := omega) only [nI_ltI, nI_leI, nI_eq, nI_ltL, nI_leL, nI_eqL, nI_Llt, nI_Lle, nI_Leq, nI_eqm, nI_meq, nI_ltm, nI_lem, nI_mlt, nI_mle, lg0, lgl, lgg, lgle, lgge, Int32.not_lt, Int32.not_le, Int64.not_lt, Int64.not_le, not_false_eq_true, not_true_eq_false, Decidable.not_not, ge_iff_le, gt_iff_lt] at q48)
                      refine pw_blk (mi := mz_106) (b := bz_106_60) rfl rfl ?_
                      simp only [bz_106_60, pz_cut_t, pz_cut_f, pz_cut_n, pv_gt, pv_ts, pv_tn, ev_lld1, ev_ldl1685024626, ev_lcmp, ev_ifeq, pz_wi_gc, pz_wi_ga, pz_wi_gn, pz_wi_gl, pz_wi_gr, pz_wi_same, pz_wi_X, pz_wl_gc, pz_wl_ga, pz_wl_gn, pz_wl_gi, pz_wl_gr, pz_wl_same, pz_wl_X, pz_wr_gc, pz_wr_ga, pz_wr_gn, pz_wr_gi, pz_wr_gl, pz_wr_same, pz_wr_X, e8', g10]
                      (try simp (disch := omega) only [nI_clamp, pz_in_nI2, pz_in_nI2L, pv_gt, nI_add, nI_addL, nI_Ladd, pk_mul, nI_mulL, nI_Lmul, pk_sub, nI_subL, nI_Lsub, nI_inc, nI_clampL, Nat.add_sub_cancel, pz_wi_else, pz_wl_else, vu_eq, vu_ne, pz_wi_gc, pz_wi_ga, pz_wi_gn, pz_wi_gl, pz_wi_gr, pz_wi_same, pz_wi_X, pz_wl_gc, pz_wl_ga, pz_wl_gn, pz_wl_gi, pz_wl_gr, pz_wl_same, pz_wl_X, pz_wr_gc, pz_wr_ga, pz_wr_gn, pz_wr_gi, pz_wr_gl, pz_wr_same, pz_wr_X, e8', g10])
                      refine po_brP (fun q60 => ?_) (fun q60 => ?_)
                      · first
                        | exact absurd q60 (by decide)
                        | exact absurd trivial q60
                        | exact q60.elim
                        | (exfalso; (try simp (disch := omega) only [nI_ltI, nI_leI, nI_eq, nI_ltL, nI_leL, nI_eqL, nI_Llt, nI_Lle, nI_Leq, nI_eqm, nI_meq, nI_ltm, nI_lem, nI_mlt, nI_mle, lg0, lgl, lgg, lgle, lgge, Int32.not_lt, Int32.not_le, Int64.not_lt, Int64.not_le, not_false_eq_true, not_true_eq_false, Decidable.not_not, ge_iff_le, gt_iff_lt] at q60) <;> omega)
                        | exact absurd q60 (by with_reducible assumption)
                        | exact absurd (by with_reducible assumption) q60
                        | exact absurd (Decidable.not_not.mp q60) (by with_reducible assumption)
                        | exact absurd (by with_reducible assumption) (Int32.not_le.mpr q60)
                        | exact absurd (by with_reducible assumption) (Int32.not_lt.mpr q60)
                        | skip
                          (try simp (disch := omega) only [nI_ltI, nI_leI, nI_eq, nI_ltL, nI_leL, nI_eqL, nI_Llt, nI_Lle, nI_Leq, nI_eqm, nI_meq, nI_ltm, nI_lem, nI_mlt, nI_mle, lg0, lgl, lgg, lgle, lgge, Int32.not_lt, Int32.not_le, Int64.not_lt, Int64.not_le, not_false_eq_true, not_true_eq_false, Decidable.not_not, ge_iff_le, gt_iff_lt] at q60)
                          refine pw_blk (mi := mz_106) (b := bz_106_76) rfl rfl ?_
                          simp only [bz_106_76, pz_cut_t, pz_cut_f, pz_cut_n, pv_gt, pv_ts, pv_tn, ev_ald0, ev_eld0, ev_lld1, ev_ldl1685024626, ev_lcmp, ev_ifne, pz_wi_gc, pz_wi_ga, pz_wi_gn, pz_wi_gl, pz_wi_gr, pz_wi_same, pz_wi_X, pz_wl_gc, pz_wl_ga, pz_wl_gn, pz_wl_gi, pz_wl_gr, pz_wl_same, pz_wl_X, pz_wr_gc, pz_wr_ga, pz_wr_gn, pz_wr_gi, pz_wr_gl, pz_wr_same, pz_wr_X, e8', g10, so_120 hS1]
                          (try simp (disch := omega) only [nI_clamp, pz_in_nI2, pz_in_nI2L, pv_gt, nI_add, nI_addL, nI_Ladd, pk_mul, nI_mulL, nI_Lmul, pk_sub, nI_subL, nI_Lsub, nI_inc, nI_clampL, Nat.add_sub_cancel, pz_wi_else, pz_wl_else, vu_eq, vu_ne, pz_wi_gc, pz_wi_ga, pz_wi_gn, pz_wi_gl, pz_wi_gr, pz_wi_same, pz_wi_X, pz_wl_gc, pz_wl_ga, pz_wl_gn, pz_wl_gi, pz_wl_gr, pz_wl_same, pz_wl_X, pz_wr_gc, pz_wr_ga, pz_wr_gn, pz_wr_gi, pz_wr_gl, pz_wr_same, pz_wr_X, e8', g10, so_120 hS1])
                          refine po_brP (fun q76 => ?_) (fun q76 => ?_)
                          · exact absurd ((lg0 _ _).mpr hK) q76
                          · first
                            | exact absurd q76 (by decide)
                            | exact absurd trivial q76
                            | exact q76.elim
                            | (exfalso; (try simp (disch := omega) only [nI_ltI, nI_leI, nI_eq, nI_ltL, nI_leL, nI_eqL, nI_Llt, nI_Lle, nI_Leq, nI_eqm, nI_meq, nI_ltm, nI_lem, nI_mlt, nI_mle, lg0, lgl, lgg, lgle, lgge, Int32.not_lt, Int32.not_le, Int64.not_lt, Int64.not_le, not_false_eq_true, not_true_eq_false, Decidable.not_not, ge_iff_le, gt_iff_lt] at q76) <;> omega)
                            | exact absurd q76 (by with_reducible assumption)
                            | exact absurd (by with_reducible assumption) q76
                            | exact absurd (Decidable.not_not.mp q76) (by with_reducible assumption)
                            | exact absurd (by with_reducible assumption) (Int32.not_le.mpr q76)
                            | exact absurd (by with_reducible assumption) (Int32.not_lt.mpr q76)
                            | skip
                              (try simp (disch := omega) only [nI_ltI, nI_leI, nI_eq, nI_ltL, nI_leL, nI_eqL, nI_Llt, nI_Lle, nI_Leq, nI_eqm, nI_meq, nI_ltm, nI_lem, nI_mlt, nI_mle, lg0, lgl, lgg, lgle, lgge, Int32.not_lt, Int32.not_le, Int64.not_lt, Int64.not_le, not_false_eq_true, not_true_eq_false, Decidable.not_not, ge_iff_le, gt_iff_lt] at q76)
                              refine pw_blk (mi := mz_106) (b := bz_106_85) rfl rfl ?_
                              simp only [bz_106_85, pz_cut_t, pz_cut_f, pz_cut_n, pv_gt, pv_ts, pv_tn, ev_ic1, ev_goto, pz_wi_gc, pz_wi_ga, pz_wi_gn, pz_wi_gl, pz_wi_gr, pz_wi_same, pz_wi_X, pz_wl_gc, pz_wl_ga, pz_wl_gn, pz_wl_gi, pz_wl_gr, pz_wl_same, pz_wl_X, pz_wr_gc, pz_wr_ga, pz_wr_gn, pz_wr_gi, pz_wr_gl, pz_wr_same, pz_wr_X, e8', g10]
                              (try simp (disch := omega) only [nI_clamp, pz_in_nI2, pz_in_nI2L, pv_gt, nI_add, nI_addL, nI_Ladd, pk_mul, nI_mulL, nI_Lmul, pk_sub, nI_subL, nI_Lsub, nI_inc, nI_clampL, Nat.add_sub_cancel, pz_wi_else, pz_wl_else, vu_eq, vu_ne, pz_wi_gc, pz_wi_ga, pz_wi_gn, pz_wi_gl, pz_wi_gr, pz_wi_same, pz_wi_X, pz_wl_gc, pz_wl_ga, pz_wl_gn, pz_wl_gi, pz_wl_gr, pz_wl_same, pz_wl_X, pz_wr_gc, pz_wr_ga, pz_wr_gn, pz_wr_gi, pz_wr_gl, pz_wr_same, pz_wr_X, e8', g10])
                              refine po_go ?_
                              refine pw_blk (mi := mz_106) (b := bz_106_90) rfl rfl ?_
                              simp only [bz_106_90, pz_cut_t, pz_cut_f, pz_cut_n, pv_gt, pv_ts, pv_tn, ev_cv1_11, pz_wi_gc, pz_wi_ga, pz_wi_gn, pz_wi_gl, pz_wi_gr, pz_wi_same, pz_wi_X, pz_wl_gc, pz_wl_ga, pz_wl_gn, pz_wl_gi, pz_wl_gr, pz_wl_same, pz_wl_X, pz_wr_gc, pz_wr_ga, pz_wr_gn, pz_wr_gi, pz_wr_gl, pz_wr_same, pz_wr_X, so_120 hS, e8', g10, so_120 hS1]
                              (try simp (disch := omega) only [nI_clamp, pz_in_nI2, pz_in_nI2L, pv_gt, nI_add, nI_addL, nI_Ladd, pk_mul, nI_mulL, nI_Lmul, pk_sub, nI_subL, nI_Lsub, nI_inc, nI_clampL, Nat.add_sub_cancel, pz_wi_else, pz_wl_else, vu_eq, vu_ne, pz_wi_gc, pz_wi_ga, pz_wi_gn, pz_wi_gl, pz_wi_gr, pz_wi_same, pz_wi_X, pz_wl_gc, pz_wl_ga, pz_wl_gn, pz_wl_gi, pz_wl_gr, pz_wl_same, pz_wl_X, pz_wr_gc, pz_wr_ga, pz_wr_gn, pz_wr_gi, pz_wr_gl, pz_wr_same, pz_wr_X, e8', g10, so_120 hS1])
                              (try refine po_gP (Nat.le_of_ble_eq_true rfl) ?_)
                              refine po_call (by omega) (r_readSpot_door (by omega) hb f39 g4 s1 o (x.r r1) (fun M2 f2 s2 x2 => ?_))
                              refine pw_blk (mi := mz_106) (b := bz_106_93) rfl rfl ?_
                              simp only [bz_106_93, pz_cut_t, pz_cut_f, pz_cut_n, pv_gt, pv_ts, pv_tn, ev_lld1, ev_ldl7102839, ev_lcmp, ev_ifne, pz_wi_gc, pz_wi_ga, pz_wi_gn, pz_wi_gl, pz_wi_gr, pz_wi_same, pz_wi_X, pz_wl_gc, pz_wl_ga, pz_wl_gn, pz_wl_gi, pz_wl_gr, pz_wl_same, pz_wl_X, pz_wr_gc, pz_wr_ga, pz_wr_gn, pz_wr_gi, pz_wr_gl, pz_wr_same, pz_wr_X, e8', g10]
                              (try simp (disch := omega) only [nI_clamp, pz_in_nI2, pz_in_nI2L, pv_gt, nI_add, nI_addL, nI_Ladd, pk_mul, nI_mulL, nI_Lmul, pk_sub, nI_subL, nI_Lsub, nI_inc, nI_clampL, Nat.add_sub_cancel, pz_wi_else, pz_wl_else, vu_eq, vu_ne, pz_wi_gc, pz_wi_ga, pz_wi_gn, pz_wi_gl, pz_wi_gr, pz_wi_same, pz_wi_X, pz_wl_gc, pz_wl_ga, pz_wl_gn, pz_wl_gi, pz_wl_gr, pz_wl_same, pz_wl_X, pz_wr_gc, pz_wr_ga, pz_wr_gn, pz_wr_gi, pz_wr_gl, pz_wr_same, pz_wr_X, e8', g10])
                              refine po_brP (fun q93 => ?_) (fun q93 => ?_)
                              · first
                                | exact absurd q93 (by decide)
                                | exact absurd trivial q93
                                | exact q93.elim
                                | (exfalso; (try simp (disch := omega) only [nI_ltI, nI_leI, nI_eq, nI_ltL, nI_leL, nI_eqL, nI_Llt, nI_Lle, nI_Leq, nI_eqm, nI_meq, nI_ltm, nI_lem, nI_mlt, nI_mle, lg0, lgl, lgg, lgle, lgge, Int32.not_lt, Int32.not_le, Int64.not_lt, Int64.not_le, not_false_eq_true, not_true_eq_false, Decidable.not_not, ge_iff_le, gt_iff_lt] at q93) <;> omega)
                                | exact absurd q93 (by with_reducible assumption)
                                | exact absurd (by with_reducible assumption) q93
                                | exact absurd (Decidable.not_not.mp q93) (by with_reducible assumption)
                                | exact absurd (by with_reducible assumption) (Int32.not_le.mpr q93)
                                | exact absurd (by with_reducible assumption) (Int32.not_lt.mpr q93)
                                | skip
                                  (try simp (disch := omega) only [nI_ltI, nI_leI, nI_eq, nI_ltL, nI_leL, nI_eqL, nI_Llt, nI_Lle, nI_Leq, nI_eqm, nI_meq, nI_ltm, nI_lem, nI_mlt, nI_mle, lg0, lgl, lgg, lgle, lgge, Int32.not_lt, Int32.not_le, Int64.not_lt, Int64.not_le, not_false_eq_true, not_true_eq_false, Decidable.not_not, ge_iff_le, gt_iff_lt] at q93)
                                  refine pw_blk (mi := mz_106) (b := bz_106_105) rfl rfl ?_
                                  simp only [bz_106_105, pz_cut_t, pz_cut_f, pz_cut_n, pv_gt, pv_ts, pv_tn, ev_lld1, ev_ldl1886151022, ev_lcmp, ev_ifne, pz_wi_gc, pz_wi_ga, pz_wi_gn, pz_wi_gl, pz_wi_gr, pz_wi_same, pz_wi_X, pz_wl_gc, pz_wl_ga, pz_wl_gn, pz_wl_gi, pz_wl_gr, pz_wl_same, pz_wl_X, pz_wr_gc, pz_wr_ga, pz_wr_gn, pz_wr_gi, pz_wr_gl, pz_wr_same, pz_wr_X, e8', g10]
                                  (try simp (disch := omega) only [nI_clamp, pz_in_nI2, pz_in_nI2L, pv_gt, nI_add, nI_addL, nI_Ladd, pk_mul, nI_mulL, nI_Lmul, pk_sub, nI_subL, nI_Lsub, nI_inc, nI_clampL, Nat.add_sub_cancel, pz_wi_else, pz_wl_else, vu_eq, vu_ne, pz_wi_gc, pz_wi_ga, pz_wi_gn, pz_wi_gl, pz_wi_gr, pz_wi_same, pz_wi_X, pz_wl_gc, pz_wl_ga, pz_wl_gn, pz_wl_gi, pz_wl_gr, pz_wl_same, pz_wl_X, pz_wr_gc, pz_wr_ga, pz_wr_gn, pz_wr_gi, pz_wr_gl, pz_wr_same, pz_wr_X, e8', g10])
                                  refine po_brP (fun q105 => ?_) (fun q105 => ?_)
                                  · first
                                    | exact absurd q105 (by decide)
                                    | exact absurd trivial q105
                                    | exact q105.elim
                                    | (exfalso; (try simp (disch := omega) only [nI_ltI, nI_leI, nI_eq, nI_ltL, nI_leL, nI_eqL, nI_Llt, nI_Lle, nI_Leq, nI_eqm, nI_meq, nI_ltm, nI_lem, nI_mlt, nI_mle, lg0, lgl, lgg, lgle, lgge, Int32.not_lt, Int32.not_le, Int64.not_lt, Int64.not_le, not_false_eq_true, not_true_eq_false, Decidable.not_not, ge_iff_le, gt_iff_lt] at q105) <;> omega)
                                    | exact absurd q105 (by with_reducible assumption)
                                    | exact absurd (by with_reducible assumption) q105
                                    | exact absurd (Decidable.not_not.mp q105) (by with_reducible assumption)
                                    | exact absurd (by with_reducible assumption) (Int32.not_le.mpr q105)
                                    | exact absurd (by with_reducible assumption) (Int32.not_lt.mpr q105)
                                    | skip
                                      (try simp (disch := omega) only [nI_ltI, nI_leI, nI_eq, nI_ltL, nI_leL, nI_eqL, nI_Llt, nI_Lle, nI_Leq, nI_eqm, nI_meq, nI_ltm, nI_lem, nI_mlt, nI_mle, lg0, lgl, lgg, lgle, lgge, Int32.not_lt, Int32.not_le, Int64.not_lt, Int64.not_le, not_false_eq_true, not_true_eq_false, Decidable.not_not, ge_iff_le, gt_iff_lt] at q105)
                                      exact fin _ M2 _ _ ((bfr.of r1).tr f2) s2 x2 eq.1 eq.2
                                  · exact absurd ((lg0 _ _).mp (Decidable.not_not.mp q105)) n13
                              · exact absurd ((lg0 _ _).mp (Decidable.not_not.mp q93)) n6
                      · exact absurd ((lg0 _ _).mpr hK) q60
                  · exact absurd ((lg0 _ _).mp (Decidable.not_not.mp q48)) n1
              · exact absurd ((lg0 _ _).mp (Decidable.not_not.mp q36)) n0
            · first
              | exact absurd q28 (by decide)
              | exact absurd trivial q28
              | exact q28.elim
              | (exfalso; (try simp (disch := omega) only [nI_ltI, nI_leI, nI_eq, nI_ltL, nI_leL, nI_eqL, nI_Llt, nI_Lle, nI_Leq, nI_eqm, nI_meq, nI_ltm, nI_lem, nI_mlt, nI_mle, lg0, lgl, lgg, lgle, lgge, Int32.not_lt, Int32.not_le, Int64.not_lt, Int64.not_le, not_false_eq_true, not_true_eq_false, Decidable.not_not, ge_iff_le, gt_iff_lt] at q28) <;> omega)
              | exact absurd q28 (by with_reducible assumption)
              | exact absurd (by with_reducible assumption) q28
              | exact absurd (Decidable.not_not.mp q28) (by with_reducible assumption)
              | exact absurd (by with_reducible assumption) (Int32.not_le.mpr q28)
              | exact absurd (by with_reducible assumption) (Int32.not_lt.mpr q28)
          · first
            | exact absurd q17 (by decide)
            | exact absurd trivial q17
            | exact q17.elim
            | (exfalso; (try simp (disch := omega) only [nI_ltI, nI_leI, nI_eq, nI_ltL, nI_leL, nI_eqL, nI_Llt, nI_Lle, nI_Leq, nI_eqm, nI_meq, nI_ltm, nI_lem, nI_mlt, nI_mle, lg0, lgl, lgg, lgle, lgge, Int32.not_lt, Int32.not_le, Int64.not_lt, Int64.not_le, not_false_eq_true, not_true_eq_false, Decidable.not_not, ge_iff_le, gt_iff_lt] at q17) <;> omega)
            | exact absurd q17 (by with_reducible assumption)
            | exact absurd (by with_reducible assumption) q17
            | exact absurd (Decidable.not_not.mp q17) (by with_reducible assumption)
            | exact absurd (by with_reducible assumption) (Int32.not_le.mpr q17)
            | exact absurd (by with_reducible assumption) (Int32.not_lt.mpr q17)
      by_cases hv5 : t.2.1 = 5
      · have hx : True := by
          trivial
        have el : lineS ru T L (.inr t) c = (wbF ru T L c.B c.E (.inr t), c.mark (nuV (nxF ru T L (.inr t)))) := by
          unfold lineS isWs
          simp [t3, hv5]
        have eq : ((wbF ru T L c.B c.E (.inr t), c.mark (nuV (nxF ru T L (.inr t))))).1 = tsF ru T L 59 (rsF ru T L c.B c.E (nxF ru T L (.inr t))) ∧ (isG ((wbF ru T L c.B c.E (.inr t), c.mark (nuV (nxF ru T L (.inr t))))).1 = true → ((wbF ru T L c.B c.E (.inr t), c.mark (nuV (nxF ru T L (.inr t))))).2 = (c.mark (nuV (nxF ru T L (.inr t))))) := ⟨spot_eq, fun _ => rfl⟩
        rw [← el] at eq
        rw [hv5] at g10
        have hK : p8 (wds.getD 5 []) = (1835102827 : Int64) := by decide +kernel
        have n0 : ¬ p8 (wds.getD 5 []) = (1751474544 : Int64) := by decide +kernel
        have n1 : ¬ p8 (wds.getD 5 []) = (1885434484 : Int64) := by decide +kernel
        have n4 : ¬ p8 (wds.getD 5 []) = (1685024626 : Int64) := by decide +kernel
        have n6 : ¬ p8 (wds.getD 5 []) = (7102839 : Int64) := by decide +kernel
        have n13 : ¬ p8 (wds.getD 5 []) = (1886151022 : Int64) := by decide +kernel
        generalize p8 (wds.getD 5 []) = W at g10 hK n0 n1 n4 n6 n13
        refine pm_ent (L := [some (.ref 120), none, none]) rfl (Nat.le_of_ble_eq_true rfl) ?_
        refine pw_blk (mi := mz_106) (b := bz_106_0) rfl rfl ?_
        simp only [bz_106_0, pz_cut_t, pz_cut_f, pz_cut_n, pv_gt, pv_ts, pv_tn, ev_ald0, ev_eld0, ev_gf11_1, ev_lst1n, ev_lst1i, ev_lst1r, ev_lst1e, ev_lst1l, ev_gf11_0, ev_ic3, ev_ic_ne, pz_wi_gc, pz_wi_ga, pz_wi_gn, pz_wi_gl, pz_wi_gr, pz_wi_same, pz_wi_X, pz_wl_gc, pz_wl_ga, pz_wl_gn, pz_wl_gi, pz_wl_gr, pz_wl_same, pz_wl_X, pz_wr_gc, pz_wr_ga, pz_wr_gn, pz_wr_gi, pz_wr_gl, pz_wr_same, pz_wr_X, so_120 hS, e8', g10]
        (try simp (disch := omega) only [nI_clamp, pz_in_nI2, pz_in_nI2L, pv_gt, nI_add, nI_addL, nI_Ladd, pk_mul, nI_mulL, nI_Lmul, pk_sub, nI_subL, nI_Lsub, nI_inc, nI_clampL, Nat.add_sub_cancel, pz_wi_else, pz_wl_else, vu_eq, vu_ne, pz_wi_gc, pz_wi_ga, pz_wi_gn, pz_wi_gl, pz_wi_gr, pz_wi_same, pz_wi_X, pz_wl_gc, pz_wl_ga, pz_wl_gn, pz_wl_gi, pz_wl_gr, pz_wl_same, pz_wl_X, pz_wr_gc, pz_wr_ga, pz_wr_gn, pz_wr_gi, pz_wr_gl, pz_wr_same, pz_wr_X, e8', g10])
        refine po_brP (fun q0 => ?_) (fun q0 => ?_)
        · first
          | exact absurd q0 (by decide)
          | exact absurd trivial q0
          | exact q0.elim
          | (exfalso; (try simp (disch := omega) only [nI_ltI, nI_leI, nI_eq, nI_ltL, nI_leL, nI_eqL, nI_Llt, nI_Lle, nI_Leq, nI_eqm, nI_meq, nI_ltm, nI_lem, nI_mlt, nI_mle, lg0, lgl, lgg, lgle, lgge, Int32.not_lt, Int32.not_le, Int64.not_lt, Int64.not_le, not_false_eq_true, not_true_eq_false, Decidable.not_not, ge_iff_le, gt_iff_lt] at q0) <;> omega)
          | exact absurd q0 (by with_reducible assumption)
          | exact absurd (by with_reducible assumption) q0
          | exact absurd (Decidable.not_not.mp q0) (by with_reducible assumption)
          | exact absurd (by with_reducible assumption) (Int32.not_le.mpr q0)
          | exact absurd (by with_reducible assumption) (Int32.not_lt.mpr q0)
        · skip
          (try simp (disch := omega) only [nI_ltI, nI_leI, nI_eq, nI_ltL, nI_leL, nI_eqL, nI_Llt, nI_Lle, nI_Leq, nI_eqm, nI_meq, nI_ltm, nI_lem, nI_mlt, nI_mle, lg0, lgl, lgg, lgle, lgge, Int32.not_lt, Int32.not_le, Int64.not_lt, Int64.not_le, not_false_eq_true, not_true_eq_false, Decidable.not_not, ge_iff_le, gt_iff_lt] at q0)
          refine pw_blk (mi := mz_106) (b := bz_106_13) rfl rfl ?_
          simp only [bz_106_13, pz_cut_t, pz_cut_f, pz_cut_n, pv_gt, pv_ts, pv_tn, ev_ald0, ev_eld0, ev_cv0_11, pz_wi_gc, pz_wi_ga, pz_wi_gn, pz_wi_gl, pz_wi_gr, pz_wi_same, pz_wi_X, pz_wl_gc, pz_wl_ga, pz_wl_gn, pz_wl_gi, pz_wl_gr, pz_wl_same, pz_wl_X, pz_wr_gc, pz_wr_ga, pz_wr_gn, pz_wr_gi, pz_wr_gl, pz_wr_same, pz_wr_X, so_120 hS, e8', g10]
          (try simp (disch := omega) only [nI_clamp, pz_in_nI2, pz_in_nI2L, pv_gt, nI_add, nI_addL, nI_Ladd, pk_mul, nI_mulL, nI_Lmul, pk_sub, nI_subL, nI_Lsub, nI_inc, nI_clampL, Nat.add_sub_cancel, pz_wi_else, pz_wl_else, vu_eq, vu_ne, pz_wi_gc, pz_wi_ga, pz_wi_gn, pz_wi_gl, pz_wi_gr, pz_wi_same, pz_wi_X, pz_wl_gc, pz_wl_ga, pz_wl_gn, pz_wl_gi, pz_wl_gr, pz_wl_same, pz_wl_X, pz_wr_gc, pz_wr_ga, pz_wr_gn, pz_wr_gi, pz_wr_gl, pz_wr_same, pz_wr_X, e8', g10])
          (try refine po_gP (Nat.le_of_ble_eq_true rfl) ?_)
          refine po_call (by omega) (r_isFull (by omega) hb e39 z s o x ?_)
          rw [zf]
          refine pw_blk (mi := mz_106) (b := bz_106_17) rfl rfl ?_
          simp only [bz_106_17, pz_cut_t, pz_cut_f, pz_cut_n, pv_gt, pv_ts, pv_tn, ev_ifeq, pz_wi_gc, pz_wi_ga, pz_wi_gn, pz_wi_gl, pz_wi_gr, pz_wi_same, pz_wi_X, pz_wl_gc, pz_wl_ga, pz_wl_gn, pz_wl_gi, pz_wl_gr, pz_wl_same, pz_wl_X, pz_wr_gc, pz_wr_ga, pz_wr_gn, pz_wr_gi, pz_wr_gl, pz_wr_same, pz_wr_X, e8', g10, bI_f]
          (try simp (disch := omega) only [nI_clamp, pz_in_nI2, pz_in_nI2L, pv_gt, nI_add, nI_addL, nI_Ladd, pk_mul, nI_mulL, nI_Lmul, pk_sub, nI_subL, nI_Lsub, nI_inc, nI_clampL, Nat.add_sub_cancel, pz_wi_else, pz_wl_else, vu_eq, vu_ne, pz_wi_gc, pz_wi_ga, pz_wi_gn, pz_wi_gl, pz_wi_gr, pz_wi_same, pz_wi_X, pz_wl_gc, pz_wl_ga, pz_wl_gn, pz_wl_gi, pz_wl_gr, pz_wl_same, pz_wl_X, pz_wr_gc, pz_wr_ga, pz_wr_gn, pz_wr_gi, pz_wr_gl, pz_wr_same, pz_wr_X, e8', g10, bI_f])
          refine po_brP (fun q17 => ?_) (fun q17 => ?_)
          · skip
            (try simp (disch := omega) only [nI_ltI, nI_leI, nI_eq, nI_ltL, nI_leL, nI_eqL, nI_Llt, nI_Lle, nI_Leq, nI_eqm, nI_meq, nI_ltm, nI_lem, nI_mlt, nI_mle, lg0, lgl, lgg, lgle, lgge, Int32.not_lt, Int32.not_le, Int64.not_lt, Int64.not_le, not_false_eq_true, not_true_eq_false, Decidable.not_not, ge_iff_le, gt_iff_lt] at q17)
            refine pw_blk (mi := mz_106) (b := bz_106_24) rfl rfl ?_
            simp only [bz_106_24, pz_cut_t, pz_cut_f, pz_cut_n, pv_gt, pv_ts, pv_tn, ev_ald0, ev_eld0, ev_cv0_11, pz_wi_gc, pz_wi_ga, pz_wi_gn, pz_wi_gl, pz_wi_gr, pz_wi_same, pz_wi_X, pz_wl_gc, pz_wl_ga, pz_wl_gn, pz_wl_gi, pz_wl_gr, pz_wl_same, pz_wl_X, pz_wr_gc, pz_wr_ga, pz_wr_gn, pz_wr_gi, pz_wr_gl, pz_wr_same, pz_wr_X, so_120 hS, e8', g10]
            (try simp (disch := omega) only [nI_clamp, pz_in_nI2, pz_in_nI2L, pv_gt, nI_add, nI_addL, nI_Ladd, pk_mul, nI_mulL, nI_Lmul, pk_sub, nI_subL, nI_Lsub, nI_inc, nI_clampL, Nat.add_sub_cancel, pz_wi_else, pz_wl_else, vu_eq, vu_ne, pz_wi_gc, pz_wi_ga, pz_wi_gn, pz_wi_gl, pz_wi_gr, pz_wi_same, pz_wi_X, pz_wl_gc, pz_wl_ga, pz_wl_gn, pz_wl_gi, pz_wl_gr, pz_wl_same, pz_wl_X, pz_wr_gc, pz_wr_ga, pz_wr_gn, pz_wr_gi, pz_wr_gl, pz_wr_same, pz_wr_X, e8', g10])
            (try refine po_gP (Nat.le_of_ble_eq_true rfl) ?_)
            refine po_call (by omega) (r_isGd hS (fun _ => ?_) (fun y => absurd z y))
            refine pw_blk (mi := mz_106) (b := bz_106_28) rfl rfl ?_
            simp only [bz_106_28, pz_cut_t, pz_cut_f, pz_cut_n, pv_gt, pv_ts, pv_tn, ev_ifne, pz_wi_gc, pz_wi_ga, pz_wi_gn, pz_wi_gl, pz_wi_gr, pz_wi_same, pz_wi_X, pz_wl_gc, pz_wl_ga, pz_wl_gn, pz_wl_gi, pz_wl_gr, pz_wl_same, pz_wl_X, pz_wr_gc, pz_wr_ga, pz_wr_gn, pz_wr_gi, pz_wr_gl, pz_wr_same, pz_wr_X, e8', g10]
            (try simp (disch := omega) only [nI_clamp, pz_in_nI2, pz_in_nI2L, pv_gt, nI_add, nI_addL, nI_Ladd, pk_mul, nI_mulL, nI_Lmul, pk_sub, nI_subL, nI_Lsub, nI_inc, nI_clampL, Nat.add_sub_cancel, pz_wi_else, pz_wl_else, vu_eq, vu_ne, pz_wi_gc, pz_wi_ga, pz_wi_gn, pz_wi_gl, pz_wi_gr, pz_wi_same, pz_wi_X, pz_wl_gc, pz_wl_ga, pz_wl_gn, pz_wl_gi, pz_wl_gr, pz_wl_same, pz_wl_X, pz_wr_gc, pz_wr_ga, pz_wr_gn, pz_wr_gi, pz_wr_gl, pz_wr_same, pz_wr_X, e8', g10])
            refine po_brP (fun q28 => ?_) (fun q28 => ?_)
            · skip
              (try simp (disch := omega) only [nI_ltI, nI_leI, nI_eq, nI_ltL, nI_leL, nI_eqL, nI_Llt, nI_Lle, nI_Leq, nI_eqm, nI_meq, nI_ltm, nI_lem, nI_mlt, nI_mle, lg0, lgl, lgg, lgle, lgge, Int32.not_lt, Int32.not_le, Int64.not_lt, Int64.not_le, not_false_eq_true, not_true_eq_false, Decidable.not_not, ge_iff_le, gt_iff_lt] at q28)
              refine pw_blk (mi := mz_106) (b := bz_106_32) rfl rfl ?_
              simp only [bz_106_32, pz_cut_t, pz_cut_f, pz_cut_n, pv_gt, pv_ts, pv_tn, ev_ald0, ev_eld0, ev_cv0_11, pz_wi_gc, pz_wi_ga, pz_wi_gn, pz_wi_gl, pz_wi_gr, pz_wi_same, pz_wi_X, pz_wl_gc, pz_wl_ga, pz_wl_gn, pz_wl_gi, pz_wl_gr, pz_wl_same, pz_wl_X, pz_wr_gc, pz_wr_ga, pz_wr_gn, pz_wr_gi, pz_wr_gl, pz_wr_same, pz_wr_X, so_120 hS, e8', g10]
              (try simp (disch := omega) only [nI_clamp, pz_in_nI2, pz_in_nI2L, pv_gt, nI_add, nI_addL, nI_Ladd, pk_mul, nI_mulL, nI_Lmul, pk_sub, nI_subL, nI_Lsub, nI_inc, nI_clampL, Nat.add_sub_cancel, pz_wi_else, pz_wl_else, vu_eq, vu_ne, pz_wi_gc, pz_wi_ga, pz_wi_gn, pz_wi_gl, pz_wi_gr, pz_wi_same, pz_wi_X, pz_wl_gc, pz_wl_ga, pz_wl_gn, pz_wl_gi, pz_wl_gr, pz_wl_same, pz_wl_X, pz_wr_gc, pz_wr_ga, pz_wr_gn, pz_wr_gi, pz_wr_gl, pz_wr_same, pz_wr_X, e8', g10])
              (try refine po_gP (Nat.le_of_ble_eq_true rfl) ?_)
              refine po_call (by omega) (r_go (by omega) s (fun M1 r1 s1 g4 _ => ?_))
              have hS1 := s1.1.1
              have f39 : gi M1 120 39 = nI b := by rw [r1.2 39 (by decide) (by decide) (by decide) (by decide) (by decide) (by decide)]; exact e39
              refine pw_blk (mi := mz_106) (b := bz_106_36) rfl rfl ?_
              simp only [bz_106_36, pz_cut_t, pz_cut_f, pz_cut_n, pv_gt, pv_ts, pv_tn, ev_lld1, ev_ldl1751474544, ev_lcmp, ev_ifne, pz_wi_gc, pz_wi_ga, pz_wi_gn, pz_wi_gl, pz_wi_gr, pz_wi_same, pz_wi_X, pz_wl_gc, pz_wl_ga, pz_wl_gn, pz_wl_gi, pz_wl_gr, pz_wl_same, pz_wl_X, pz_wr_gc, pz_wr_ga, pz_wr_gn, pz_wr_gi, pz_wr_gl, pz_wr_same, pz_wr_X, e8', g10]
              (try simp (disch := omega) only [nI_clamp, pz_in_nI2, pz_in_nI2L, pv_gt, nI_add, nI_addL, nI_Ladd, pk_mul, nI_mulL, nI_Lmul, pk_sub, nI_subL, nI_Lsub, nI_inc, nI_clampL, Nat.add_sub_cancel, pz_wi_else, pz_wl_else, vu_eq, vu_ne, pz_wi_gc, pz_wi_ga, pz_wi_gn, pz_wi_gl, pz_wi_gr, pz_wi_same, pz_wi_X, pz_wl_gc, pz_wl_ga, pz_wl_gn, pz_wl_gi, pz_wl_gr, pz_wl_same, pz_wl_X, pz_wr_gc, pz_wr_ga, pz_wr_gn, pz_wr_gi, pz_wr_gl, pz_wr_same, pz_wr_X, e8', g10])
              refine po_brP (fun q36 => ?_) (fun q36 => ?_)
              · first
                | exact absurd q36 (by decide)
                | exact absurd trivial q36
                | exact q36.elim
                | (exfalso; (try simp (disch := omega) only [nI_ltI, nI_leI, nI_eq, nI_ltL, nI_leL, nI_eqL, nI_Llt, nI_Lle, nI_Leq, nI_eqm, nI_meq, nI_ltm, nI_lem, nI_mlt, nI_mle, lg0, lgl, lgg, lgle, lgge, Int32.not_lt, Int32.not_le, Int64.not_lt, Int64.not_le, not_false_eq_true, not_true_eq_false, Decidable.not_not, ge_iff_le, gt_iff_lt] at q36) <;> omega)
                | exact absurd q36 (by with_reducible assumption)
                | exact absurd (by with_reducible assumption) q36
                | exact absurd (Decidable.not_not.mp q36) (by with_reducible assumption)
                | exact absurd (by with_reducible assumption) (Int32.not_le.mpr q36)
                | exact absurd (by with_reducible assumption) (Int32.not_lt.mpr q36)
                | skip
                  (try simp (disch := omega) only [nI_ltI, nI_leI, nI_eq, nI_ltL, nI_leL, nI_eqL, nI_Llt, nI_Lle, nI_Leq, nI_eqm, nI_meq, nI_ltm, nI_lem, nI_mlt, nI_mle, lg0, lgl, lgg, lgle, lgge, Int32.not_lt, Int32.not_le, Int64.not_lt, Int64.not_le, not_false_eq_true, not_true_eq_false, Decidable.not_not, ge_iff_le, gt_iff_lt] at q36)
                  refine pw_blk (mi := mz_106) (b := bz_106_48) rfl rfl ?_
                  simp only [bz_106_48, pz_cut_t, pz_cut_f, pz_cut_n, pv_gt, pv_ts, pv_tn, ev_lld1, ev_ldl1885434484, ev_lcmp, ev_ifne, pz_wi_gc, pz_wi_ga, pz_wi_gn, pz_wi_gl, pz_wi_gr, pz_wi_same, pz_wi_X, pz_wl_gc, pz_wl_ga, pz_wl_gn, pz_wl_gi, pz_wl_gr, pz_wl_same, pz_wl_X, pz_wr_gc, pz_wr_ga, pz_wr_gn, pz_wr_gi, pz_wr_gl, pz_wr_same, pz_wr_X, e8', g10]
                  (try simp (disch := omega) only [nI_clamp, pz_in_nI2, pz_in_nI2L, pv_gt, nI_add, nI_addL, nI_Ladd, pk_mul, nI_mulL, nI_Lmul, pk_sub, nI_subL, nI_Lsub, nI_inc, nI_clampL, Nat.add_sub_cancel, pz_wi_else, pz_wl_else, vu_eq, vu_ne, pz_wi_gc, pz_wi_ga, pz_wi_gn, pz_wi_gl, pz_wi_gr, pz_wi_same, pz_wi_X, pz_wl_gc, pz_wl_ga, pz_wl_gn, pz_wl_gi, pz_wl_gr, pz_wl_same, pz_wl_X, pz_wr_gc, pz_wr_ga, pz_wr_gn, pz_wr_gi, pz_wr_gl, pz_wr_same, pz_wr_X, e8', g10])
                  refine po_brP (fun q48 => ?_) (fun q48 => ?_)
                  · first
                    | exact absurd q48 (by decide)
                    | exact absurd trivial q48
                    | exact q48.elim
                    | (exfalso; (try simp (disch := omega) only [nI_ltI, nI_leI, nI_eq, nI_ltL, nI_leL, nI_eqL, nI_Llt, nI_Lle, nI_Leq, nI_eqm, nI_meq, nI_ltm, nI_lem, nI_mlt, nI_mle, lg0, lgl, lgg, lgle, lgge, Int32.not_lt, Int32.not_le, Int64.not_lt, Int64.not_le, not_false_eq_true, not_true_eq_false, Decidable.not_not, ge_iff_le, gt_iff_lt] at q48) <;> omega)
                    | exact absurd q48 (by with_reducible assumption)
                    | exact absurd (by with_reducible assumption) q48
                    | exact absurd (Decidable.not_not.mp q48) (by with_reducible assumption)
                    | exact absurd (by with_reducible assumption) (Int32.not_le.mpr q48)
                    | exact absurd (by with_reducible assumption) (Int32.not_lt.mpr q48)
                    | skip
                      (try simp (disch := omega) only [nI_ltI, nI_leI, nI_eq, nI_ltL, nI_leL, nI_eqL, nI_Llt, nI_Lle, nI_Leq, nI_eqm, nI_meq, nI_ltm, nI_lem, nI_mlt, nI_mle, lg0, lgl, lgg, lgle, lgge, Int32.not_lt, Int32.not_le, Int64.not_lt, Int64.not_le, not_false_eq_true, not_true_eq_false, Decidable.not_not, ge_iff_le, gt_iff_lt] at q48)
                      refine pw_blk (mi := mz_106) (b := bz_106_60) rfl rfl ?_
                      simp only [bz_106_60, pz_cut_t, pz_cut_f, pz_cut_n, pv_gt, pv_ts, pv_tn, ev_lld1, ev_ldl1685024626, ev_lcmp, ev_ifeq, pz_wi_gc, pz_wi_ga, pz_wi_gn, pz_wi_gl, pz_wi_gr, pz_wi_same, pz_wi_X, pz_wl_gc, pz_wl_ga, pz_wl_gn, pz_wl_gi, pz_wl_gr, pz_wl_same, pz_wl_X, pz_wr_gc, pz_wr_ga, pz_wr_gn, pz_wr_gi, pz_wr_gl, pz_wr_same, pz_wr_X, e8', g10]
                      (try simp (disch := omega) only [nI_clamp, pz_in_nI2, pz_in_nI2L, pv_gt, nI_add, nI_addL, nI_Ladd, pk_mul, nI_mulL, nI_Lmul, pk_sub, nI_subL, nI_Lsub, nI_inc, nI_clampL, Nat.add_sub_cancel, pz_wi_else, pz_wl_else, vu_eq, vu_ne, pz_wi_gc, pz_wi_ga, pz_wi_gn, pz_wi_gl, pz_wi_gr, pz_wi_same, pz_wi_X, pz_wl_gc, pz_wl_ga, pz_wl_gn, pz_wl_gi, pz_wl_gr, pz_wl_same, pz_wl_X, pz_wr_gc, pz_wr_ga, pz_wr_gn, pz_wr_gi, pz_wr_gl, pz_wr_same, pz_wr_X, e8', g10])
                      refine po_brP (fun q60 => ?_) (fun q60 => ?_)
                      · exact absurd ((lg0 _ _).mp q60) n4
                      · first
                        | exact absurd q60 (by decide)
                        | exact absurd trivial q60
                        | exact q60.elim
                        | (exfalso; (try simp (disch := omega) only [nI_ltI, nI_leI, nI_eq, nI_ltL, nI_leL, nI_eqL, nI_Llt, nI_Lle, nI_Leq, nI_eqm, nI_meq, nI_ltm, nI_lem, nI_mlt, nI_mle, lg0, lgl, lgg, lgle, lgge, Int32.not_lt, Int32.not_le, Int64.not_lt, Int64.not_le, not_false_eq_true, not_true_eq_false, Decidable.not_not, ge_iff_le, gt_iff_lt] at q60) <;> omega)
                        | exact absurd q60 (by with_reducible assumption)
                        | exact absurd (by with_reducible assumption) q60
                        | exact absurd (Decidable.not_not.mp q60) (by with_reducible assumption)
                        | exact absurd (by with_reducible assumption) (Int32.not_le.mpr q60)
                        | exact absurd (by with_reducible assumption) (Int32.not_lt.mpr q60)
                        | skip
                          (try simp (disch := omega) only [nI_ltI, nI_leI, nI_eq, nI_ltL, nI_leL, nI_eqL, nI_Llt, nI_Lle, nI_Leq, nI_eqm, nI_meq, nI_ltm, nI_lem, nI_mlt, nI_mle, lg0, lgl, lgg, lgle, lgge, Int32.not_lt, Int32.not_le, Int64.not_lt, Int64.not_le, not_false_eq_true, not_true_eq_false, Decidable.not_not, ge_iff_le, gt_iff_lt] at q60)
                          refine pw_blk (mi := mz_106) (b := bz_106_68) rfl rfl ?_
                          simp only [bz_106_68, pz_cut_t, pz_cut_f, pz_cut_n, pv_gt, pv_ts, pv_tn, ev_lld1, ev_ldl1835102827, ev_lcmp, ev_ifne, pz_wi_gc, pz_wi_ga, pz_wi_gn, pz_wi_gl, pz_wi_gr, pz_wi_same, pz_wi_X, pz_wl_gc, pz_wl_ga, pz_wl_gn, pz_wl_gi, pz_wl_gr, pz_wl_same, pz_wl_X, pz_wr_gc, pz_wr_ga, pz_wr_gn, pz_wr_gi, pz_wr_gl, pz_wr_same, pz_wr_X, e8', g10]
                          (try simp (disch := omega) only [nI_clamp, pz_in_nI2, pz_in_nI2L, pv_gt, nI_add, nI_addL, nI_Ladd, pk_mul, nI_mulL, nI_Lmul, pk_sub, nI_subL, nI_Lsub, nI_inc, nI_clampL, Nat.add_sub_cancel, pz_wi_else, pz_wl_else, vu_eq, vu_ne, pz_wi_gc, pz_wi_ga, pz_wi_gn, pz_wi_gl, pz_wi_gr, pz_wi_same, pz_wi_X, pz_wl_gc, pz_wl_ga, pz_wl_gn, pz_wl_gi, pz_wl_gr, pz_wl_same, pz_wl_X, pz_wr_gc, pz_wr_ga, pz_wr_gn, pz_wr_gi, pz_wr_gl, pz_wr_same, pz_wr_X, e8', g10])
                          refine po_brP (fun q68 => ?_) (fun q68 => ?_)
                          · exact absurd ((lg0 _ _).mpr hK) q68
                          · first
                            | exact absurd q68 (by decide)
                            | exact absurd trivial q68
                            | exact q68.elim
                            | (exfalso; (try simp (disch := omega) only [nI_ltI, nI_leI, nI_eq, nI_ltL, nI_leL, nI_eqL, nI_Llt, nI_Lle, nI_Leq, nI_eqm, nI_meq, nI_ltm, nI_lem, nI_mlt, nI_mle, lg0, lgl, lgg, lgle, lgge, Int32.not_lt, Int32.not_le, Int64.not_lt, Int64.not_le, not_false_eq_true, not_true_eq_false, Decidable.not_not, ge_iff_le, gt_iff_lt] at q68) <;> omega)
                            | exact absurd q68 (by with_reducible assumption)
                            | exact absurd (by with_reducible assumption) q68
                            | exact absurd (Decidable.not_not.mp q68) (by with_reducible assumption)
                            | exact absurd (by with_reducible assumption) (Int32.not_le.mpr q68)
                            | exact absurd (by with_reducible assumption) (Int32.not_lt.mpr q68)
                            | skip
                              (try simp (disch := omega) only [nI_ltI, nI_leI, nI_eq, nI_ltL, nI_leL, nI_eqL, nI_Llt, nI_Lle, nI_Leq, nI_eqm, nI_meq, nI_ltm, nI_lem, nI_mlt, nI_mle, lg0, lgl, lgg, lgle, lgge, Int32.not_lt, Int32.not_le, Int64.not_lt, Int64.not_le, not_false_eq_true, not_true_eq_false, Decidable.not_not, ge_iff_le, gt_iff_lt] at q68)
                              refine pw_blk (mi := mz_106) (b := bz_106_76) rfl rfl ?_
                              simp only [bz_106_76, pz_cut_t, pz_cut_f, pz_cut_n, pv_gt, pv_ts, pv_tn, ev_ald0, ev_eld0, ev_lld1, ev_ldl1685024626, ev_lcmp, ev_ifne, pz_wi_gc, pz_wi_ga, pz_wi_gn, pz_wi_gl, pz_wi_gr, pz_wi_same, pz_wi_X, pz_wl_gc, pz_wl_ga, pz_wl_gn, pz_wl_gi, pz_wl_gr, pz_wl_same, pz_wl_X, pz_wr_gc, pz_wr_ga, pz_wr_gn, pz_wr_gi, pz_wr_gl, pz_wr_same, pz_wr_X, e8', g10, so_120 hS1]
                              (try simp (disch := omega) only [nI_clamp, pz_in_nI2, pz_in_nI2L, pv_gt, nI_add, nI_addL, nI_Ladd, pk_mul, nI_mulL, nI_Lmul, pk_sub, nI_subL, nI_Lsub, nI_inc, nI_clampL, Nat.add_sub_cancel, pz_wi_else, pz_wl_else, vu_eq, vu_ne, pz_wi_gc, pz_wi_ga, pz_wi_gn, pz_wi_gl, pz_wi_gr, pz_wi_same, pz_wi_X, pz_wl_gc, pz_wl_ga, pz_wl_gn, pz_wl_gi, pz_wl_gr, pz_wl_same, pz_wl_X, pz_wr_gc, pz_wr_ga, pz_wr_gn, pz_wr_gi, pz_wr_gl, pz_wr_same, pz_wr_X, e8', g10, so_120 hS1])
                              refine po_brP (fun q76 => ?_) (fun q76 => ?_)
                              · first
                                | exact absurd q76 (by decide)
                                | exact absurd trivial q76
                                | exact q76.elim
                                | (exfalso; (try simp (disch := omega) only [nI_ltI, nI_leI, nI_eq, nI_ltL, nI_leL, nI_eqL, nI_Llt, nI_Lle, nI_Leq, nI_eqm, nI_meq, nI_ltm, nI_lem, nI_mlt, nI_mle, lg0, lgl, lgg, lgle, lgge, Int32.not_lt, Int32.not_le, Int64.not_lt, Int64.not_le, not_false_eq_true, not_true_eq_false, Decidable.not_not, ge_iff_le, gt_iff_lt] at q76) <;> omega)
                                | exact absurd q76 (by with_reducible assumption)
                                | exact absurd (by with_reducible assumption) q76
                                | exact absurd (Decidable.not_not.mp q76) (by with_reducible assumption)
                                | exact absurd (by with_reducible assumption) (Int32.not_le.mpr q76)
                                | exact absurd (by with_reducible assumption) (Int32.not_lt.mpr q76)
                                | skip
                                  (try simp (disch := omega) only [nI_ltI, nI_leI, nI_eq, nI_ltL, nI_leL, nI_eqL, nI_Llt, nI_Lle, nI_Leq, nI_eqm, nI_meq, nI_ltm, nI_lem, nI_mlt, nI_mle, lg0, lgl, lgg, lgle, lgge, Int32.not_lt, Int32.not_le, Int64.not_lt, Int64.not_le, not_false_eq_true, not_true_eq_false, Decidable.not_not, ge_iff_le, gt_iff_lt] at q76)
                                  refine pw_blk (mi := mz_106) (b := bz_106_89) rfl rfl ?_
                                  simp only [bz_106_89, pz_cut_t, pz_cut_f, pz_cut_n, pv_gt, pv_ts, pv_tn, ev_ic0, ev_nil, pz_wi_gc, pz_wi_ga, pz_wi_gn, pz_wi_gl, pz_wi_gr, pz_wi_same, pz_wi_X, pz_wl_gc, pz_wl_ga, pz_wl_gn, pz_wl_gi, pz_wl_gr, pz_wl_same, pz_wl_X, pz_wr_gc, pz_wr_ga, pz_wr_gn, pz_wr_gi, pz_wr_gl, pz_wr_same, pz_wr_X, e8', g10]
                                  (try simp (disch := omega) only [nI_clamp, pz_in_nI2, pz_in_nI2L, pv_gt, nI_add, nI_addL, nI_Ladd, pk_mul, nI_mulL, nI_Lmul, pk_sub, nI_subL, nI_Lsub, nI_inc, nI_clampL, Nat.add_sub_cancel, pz_wi_else, pz_wl_else, vu_eq, vu_ne, pz_wi_gc, pz_wi_ga, pz_wi_gn, pz_wi_gl, pz_wi_gr, pz_wi_same, pz_wi_X, pz_wl_gc, pz_wl_ga, pz_wl_gn, pz_wl_gi, pz_wl_gr, pz_wl_same, pz_wl_X, pz_wr_gc, pz_wr_ga, pz_wr_gn, pz_wr_gi, pz_wr_gl, pz_wr_same, pz_wr_X, e8', g10])
                                  refine po_go ?_
                                  refine pw_blk (mi := mz_106) (b := bz_106_90) rfl rfl ?_
                                  simp only [bz_106_90, pz_cut_t, pz_cut_f, pz_cut_n, pv_gt, pv_ts, pv_tn, ev_cv1_11, pz_wi_gc, pz_wi_ga, pz_wi_gn, pz_wi_gl, pz_wi_gr, pz_wi_same, pz_wi_X, pz_wl_gc, pz_wl_ga, pz_wl_gn, pz_wl_gi, pz_wl_gr, pz_wl_same, pz_wl_X, pz_wr_gc, pz_wr_ga, pz_wr_gn, pz_wr_gi, pz_wr_gl, pz_wr_same, pz_wr_X, so_120 hS, e8', g10, so_120 hS1]
                                  (try simp (disch := omega) only [nI_clamp, pz_in_nI2, pz_in_nI2L, pv_gt, nI_add, nI_addL, nI_Ladd, pk_mul, nI_mulL, nI_Lmul, pk_sub, nI_subL, nI_Lsub, nI_inc, nI_clampL, Nat.add_sub_cancel, pz_wi_else, pz_wl_else, vu_eq, vu_ne, pz_wi_gc, pz_wi_ga, pz_wi_gn, pz_wi_gl, pz_wi_gr, pz_wi_same, pz_wi_X, pz_wl_gc, pz_wl_ga, pz_wl_gn, pz_wl_gi, pz_wl_gr, pz_wl_same, pz_wl_X, pz_wr_gc, pz_wr_ga, pz_wr_gn, pz_wr_gi, pz_wr_gl, pz_wr_same, pz_wr_X, e8', g10, so_120 hS1])
                                  (try refine po_gP (Nat.le_of_ble_eq_true rfl) ?_)
                                  refine po_call (by omega) (r_readSpot_mark (by omega) hb f39 g4 s1 o (x.r r1) (fun M2 f2 s2 x2 => ?_))
                                  refine pw_blk (mi := mz_106) (b := bz_106_93) rfl rfl ?_
                                  simp only [bz_106_93, pz_cut_t, pz_cut_f, pz_cut_n, pv_gt, pv_ts, pv_tn, ev_lld1, ev_ldl7102839, ev_lcmp, ev_ifne, pz_wi_gc, pz_wi_ga, pz_wi_gn, pz_wi_gl, pz_wi_gr, pz_wi_same, pz_wi_X, pz_wl_gc, pz_wl_ga, pz_wl_gn, pz_wl_gi, pz_wl_gr, pz_wl_same, pz_wl_X, pz_wr_gc, pz_wr_ga, pz_wr_gn, pz_wr_gi, pz_wr_gl, pz_wr_same, pz_wr_X, e8', g10]
                                  (try simp (disch := omega) only [nI_clamp, pz_in_nI2, pz_in_nI2L, pv_gt, nI_add, nI_addL, nI_Ladd, pk_mul, nI_mulL, nI_Lmul, pk_sub, nI_subL, nI_Lsub, nI_inc, nI_clampL, Nat.add_sub_cancel, pz_wi_else, pz_wl_else, vu_eq, vu_ne, pz_wi_gc, pz_wi_ga, pz_wi_gn, pz_wi_gl, pz_wi_gr, pz_wi_same, pz_wi_X, pz_wl_gc, pz_wl_ga, pz_wl_gn, pz_wl_gi, pz_wl_gr, pz_wl_same, pz_wl_X, pz_wr_gc, pz_wr_ga, pz_wr_gn, pz_wr_gi, pz_wr_gl, pz_wr_same, pz_wr_X, e8', g10])
                                  refine po_brP (fun q93 => ?_) (fun q93 => ?_)
                                  · first
                                    | exact absurd q93 (by decide)
                                    | exact absurd trivial q93
                                    | exact q93.elim
                                    | (exfalso; (try simp (disch := omega) only [nI_ltI, nI_leI, nI_eq, nI_ltL, nI_leL, nI_eqL, nI_Llt, nI_Lle, nI_Leq, nI_eqm, nI_meq, nI_ltm, nI_lem, nI_mlt, nI_mle, lg0, lgl, lgg, lgle, lgge, Int32.not_lt, Int32.not_le, Int64.not_lt, Int64.not_le, not_false_eq_true, not_true_eq_false, Decidable.not_not, ge_iff_le, gt_iff_lt] at q93) <;> omega)
                                    | exact absurd q93 (by with_reducible assumption)
                                    | exact absurd (by with_reducible assumption) q93
                                    | exact absurd (Decidable.not_not.mp q93) (by with_reducible assumption)
                                    | exact absurd (by with_reducible assumption) (Int32.not_le.mpr q93)
                                    | exact absurd (by with_reducible assumption) (Int32.not_lt.mpr q93)
                                    | skip
                                      (try simp (disch := omega) only [nI_ltI, nI_leI, nI_eq, nI_ltL, nI_leL, nI_eqL, nI_Llt, nI_Lle, nI_Leq, nI_eqm, nI_meq, nI_ltm, nI_lem, nI_mlt, nI_mle, lg0, lgl, lgg, lgle, lgge, Int32.not_lt, Int32.not_le, Int64.not_lt, Int64.not_le, not_false_eq_true, not_true_eq_false, Decidable.not_not, ge_iff_le, gt_iff_lt] at q93)
                                      refine pw_blk (mi := mz_106) (b := bz_106_105) rfl rfl ?_
                                      simp only [bz_106_105, pz_cut_t, pz_cut_f, pz_cut_n, pv_gt, pv_ts, pv_tn, ev_lld1, ev_ldl1886151022, ev_lcmp, ev_ifne, pz_wi_gc, pz_wi_ga, pz_wi_gn, pz_wi_gl, pz_wi_gr, pz_wi_same, pz_wi_X, pz_wl_gc, pz_wl_ga, pz_wl_gn, pz_wl_gi, pz_wl_gr, pz_wl_same, pz_wl_X, pz_wr_gc, pz_wr_ga, pz_wr_gn, pz_wr_gi, pz_wr_gl, pz_wr_same, pz_wr_X, e8', g10]
                                      (try simp (disch := omega) only [nI_clamp, pz_in_nI2, pz_in_nI2L, pv_gt, nI_add, nI_addL, nI_Ladd, pk_mul, nI_mulL, nI_Lmul, pk_sub, nI_subL, nI_Lsub, nI_inc, nI_clampL, Nat.add_sub_cancel, pz_wi_else, pz_wl_else, vu_eq, vu_ne, pz_wi_gc, pz_wi_ga, pz_wi_gn, pz_wi_gl, pz_wi_gr, pz_wi_same, pz_wi_X, pz_wl_gc, pz_wl_ga, pz_wl_gn, pz_wl_gi, pz_wl_gr, pz_wl_same, pz_wl_X, pz_wr_gc, pz_wr_ga, pz_wr_gn, pz_wr_gi, pz_wr_gl, pz_wr_same, pz_wr_X, e8', g10])
                                      refine po_brP (fun q105 => ?_) (fun q105 => ?_)
                                      · first
                                        | exact absurd q105 (by decide)
                                        | exact absurd trivial q105
                                        | exact q105.elim
                                        | (exfalso; (try simp (disch := omega) only [nI_ltI, nI_leI, nI_eq, nI_ltL, nI_leL, nI_eqL, nI_Llt, nI_Lle, nI_Leq, nI_eqm, nI_meq, nI_ltm, nI_lem, nI_mlt, nI_mle, lg0, lgl, lgg, lgle, lgge, Int32.not_lt, Int32.not_le, Int64.not_lt, Int64.not_le, not_false_eq_true, not_true_eq_false, Decidable.not_not, ge_iff_le, gt_iff_lt] at q105) <;> omega)
                                        | exact absurd q105 (by with_reducible assumption)
                                        | exact absurd (by with_reducible assumption) q105
                                        | exact absurd (Decidable.not_not.mp q105) (by with_reducible assumption)
                                        | exact absurd (by with_reducible assumption) (Int32.not_le.mpr q105)
                                        | exact absurd (by with_reducible assumption) (Int32.not_lt.mpr q105)
                                        | skip
                                          (try simp (disch := omega) only [nI_ltI, nI_leI, nI_eq, nI_ltL, nI_leL, nI_eqL, nI_Llt, nI_Lle, nI_Leq, nI_eqm, nI_meq, nI_ltm, nI_lem, nI_mlt, nI_mle, lg0, lgl, lgg, lgle, lgge, Int32.not_lt, Int32.not_le, Int64.not_lt, Int64.not_le, not_false_eq_true, not_true_eq_false, Decidable.not_not, ge_iff_le, gt_iff_lt] at q105)
                                          exact fin _ M2 _ _ ((bfr.of r1).tr f2) s2 x2 eq.1 eq.2
                                      · exact absurd ((lg0 _ _).mp (Decidable.not_not.mp q105)) n13
                                  · exact absurd ((lg0 _ _).mp (Decidable.not_not.mp q93)) n6
                              · exact absurd ((lg0 _ _).mp (Decidable.not_not.mp q76)) n4
                  · exact absurd ((lg0 _ _).mp (Decidable.not_not.mp q48)) n1
              · exact absurd ((lg0 _ _).mp (Decidable.not_not.mp q36)) n0
            · first
              | exact absurd q28 (by decide)
              | exact absurd trivial q28
              | exact q28.elim
              | (exfalso; (try simp (disch := omega) only [nI_ltI, nI_leI, nI_eq, nI_ltL, nI_leL, nI_eqL, nI_Llt, nI_Lle, nI_Leq, nI_eqm, nI_meq, nI_ltm, nI_lem, nI_mlt, nI_mle, lg0, lgl, lgg, lgle, lgge, Int32.not_lt, Int32.not_le, Int64.not_lt, Int64.not_le, not_false_eq_true, not_true_eq_false, Decidable.not_not, ge_iff_le, gt_iff_lt] at q28) <;> omega)
              | exact absurd q28 (by with_reducible assumption)
              | exact absurd (by with_reducible assumption) q28
              | exact absurd (Decidable.not_not.mp q28) (by with_reducible assumption)
              | exact absurd (by with_reducible assumption) (Int32.not_le.mpr q28)
              | exact absurd (by with_reducible assumption) (Int32.not_lt.mpr q28)
          · first
            | exact absurd q17 (by decide)
            | exact absurd trivial q17
            | exact q17.elim
            | (exfalso; (try simp (disch := omega) only [nI_ltI, nI_leI, nI_eq, nI_ltL, nI_leL, nI_eqL, nI_Llt, nI_Lle, nI_Leq, nI_eqm, nI_meq, nI_ltm, nI_lem, nI_mlt, nI_mle, lg0, lgl, lgg, lgle, lgge, Int32.not_lt, Int32.not_le, Int64.not_lt, Int64.not_le, not_false_eq_true, not_true_eq_false, Decidable.not_not, ge_iff_le, gt_iff_lt] at q17) <;> omega)
            | exact absurd q17 (by with_reducible assumption)
            | exact absurd (by with_reducible assumption) q17
            | exact absurd (Decidable.not_not.mp q17) (by with_reducible assumption)
            | exact absurd (by with_reducible assumption) (Int32.not_le.mpr q17)
            | exact absurd (by with_reducible assumption) (Int32.not_lt.mpr q17)
      by_cases hv6 : t.2.1 = 6
      · have hx : c.lt = false := by
          unfold fulB isWs at zf
          simp [t3, hv6] at zf
          exact zf
        have el : lineS ru T L (.inr t) c = lawS ru T L (.inr t) c := by
          unfold lineS isWs
          simp [t3, hv6]
        have eq : (lawS ru T L (.inr t) c).1 = tsF ru T L 59 (rlL ru T L 6 0 (nxF ru T L (.inr t)) c.told).1 ∧ (isG (lawS ru T L (.inr t) c).1 = true → (lawS ru T L (.inr t) c).2 = (rlL ru T L 6 0 (nxF ru T L (.inr t)) c.told).2) := lawS_eq hx
        rw [← el] at eq
        rw [hv6] at g10
        have hK : p8 (wds.getD 6 []) = (7102839 : Int64) := by decide +kernel
        have n0 : ¬ p8 (wds.getD 6 []) = (1751474544 : Int64) := by decide +kernel
        have n1 : ¬ p8 (wds.getD 6 []) = (1885434484 : Int64) := by decide +kernel
        have n4 : ¬ p8 (wds.getD 6 []) = (1685024626 : Int64) := by decide +kernel
        have n5 : ¬ p8 (wds.getD 6 []) = (1835102827 : Int64) := by decide +kernel
        have n13 : ¬ p8 (wds.getD 6 []) = (1886151022 : Int64) := by decide +kernel
        generalize p8 (wds.getD 6 []) = W at g10 hK n0 n1 n4 n5 n13
        refine pm_ent (L := [some (.ref 120), none, none]) rfl (Nat.le_of_ble_eq_true rfl) ?_
        refine pw_blk (mi := mz_106) (b := bz_106_0) rfl rfl ?_
        simp only [bz_106_0, pz_cut_t, pz_cut_f, pz_cut_n, pv_gt, pv_ts, pv_tn, ev_ald0, ev_eld0, ev_gf11_1, ev_lst1n, ev_lst1i, ev_lst1r, ev_lst1e, ev_lst1l, ev_gf11_0, ev_ic3, ev_ic_ne, pz_wi_gc, pz_wi_ga, pz_wi_gn, pz_wi_gl, pz_wi_gr, pz_wi_same, pz_wi_X, pz_wl_gc, pz_wl_ga, pz_wl_gn, pz_wl_gi, pz_wl_gr, pz_wl_same, pz_wl_X, pz_wr_gc, pz_wr_ga, pz_wr_gn, pz_wr_gi, pz_wr_gl, pz_wr_same, pz_wr_X, so_120 hS, e8', g10]
        (try simp (disch := omega) only [nI_clamp, pz_in_nI2, pz_in_nI2L, pv_gt, nI_add, nI_addL, nI_Ladd, pk_mul, nI_mulL, nI_Lmul, pk_sub, nI_subL, nI_Lsub, nI_inc, nI_clampL, Nat.add_sub_cancel, pz_wi_else, pz_wl_else, vu_eq, vu_ne, pz_wi_gc, pz_wi_ga, pz_wi_gn, pz_wi_gl, pz_wi_gr, pz_wi_same, pz_wi_X, pz_wl_gc, pz_wl_ga, pz_wl_gn, pz_wl_gi, pz_wl_gr, pz_wl_same, pz_wl_X, pz_wr_gc, pz_wr_ga, pz_wr_gn, pz_wr_gi, pz_wr_gl, pz_wr_same, pz_wr_X, e8', g10])
        refine po_brP (fun q0 => ?_) (fun q0 => ?_)
        · first
          | exact absurd q0 (by decide)
          | exact absurd trivial q0
          | exact q0.elim
          | (exfalso; (try simp (disch := omega) only [nI_ltI, nI_leI, nI_eq, nI_ltL, nI_leL, nI_eqL, nI_Llt, nI_Lle, nI_Leq, nI_eqm, nI_meq, nI_ltm, nI_lem, nI_mlt, nI_mle, lg0, lgl, lgg, lgle, lgge, Int32.not_lt, Int32.not_le, Int64.not_lt, Int64.not_le, not_false_eq_true, not_true_eq_false, Decidable.not_not, ge_iff_le, gt_iff_lt] at q0) <;> omega)
          | exact absurd q0 (by with_reducible assumption)
          | exact absurd (by with_reducible assumption) q0
          | exact absurd (Decidable.not_not.mp q0) (by with_reducible assumption)
          | exact absurd (by with_reducible assumption) (Int32.not_le.mpr q0)
          | exact absurd (by with_reducible assumption) (Int32.not_lt.mpr q0)
        · skip
          (try simp (disch := omega) only [nI_ltI, nI_leI, nI_eq, nI_ltL, nI_leL, nI_eqL, nI_Llt, nI_Lle, nI_Leq, nI_eqm, nI_meq, nI_ltm, nI_lem, nI_mlt, nI_mle, lg0, lgl, lgg, lgle, lgge, Int32.not_lt, Int32.not_le, Int64.not_lt, Int64.not_le, not_false_eq_true, not_true_eq_false, Decidable.not_not, ge_iff_le, gt_iff_lt] at q0)
          refine pw_blk (mi := mz_106) (b := bz_106_13) rfl rfl ?_
          simp only [bz_106_13, pz_cut_t, pz_cut_f, pz_cut_n, pv_gt, pv_ts, pv_tn, ev_ald0, ev_eld0, ev_cv0_11, pz_wi_gc, pz_wi_ga, pz_wi_gn, pz_wi_gl, pz_wi_gr, pz_wi_same, pz_wi_X, pz_wl_gc, pz_wl_ga, pz_wl_gn, pz_wl_gi, pz_wl_gr, pz_wl_same, pz_wl_X, pz_wr_gc, pz_wr_ga, pz_wr_gn, pz_wr_gi, pz_wr_gl, pz_wr_same, pz_wr_X, so_120 hS, e8', g10]
          (try simp (disch := omega) only [nI_clamp, pz_in_nI2, pz_in_nI2L, pv_gt, nI_add, nI_addL, nI_Ladd, pk_mul, nI_mulL, nI_Lmul, pk_sub, nI_subL, nI_Lsub, nI_inc, nI_clampL, Nat.add_sub_cancel, pz_wi_else, pz_wl_else, vu_eq, vu_ne, pz_wi_gc, pz_wi_ga, pz_wi_gn, pz_wi_gl, pz_wi_gr, pz_wi_same, pz_wi_X, pz_wl_gc, pz_wl_ga, pz_wl_gn, pz_wl_gi, pz_wl_gr, pz_wl_same, pz_wl_X, pz_wr_gc, pz_wr_ga, pz_wr_gn, pz_wr_gi, pz_wr_gl, pz_wr_same, pz_wr_X, e8', g10])
          (try refine po_gP (Nat.le_of_ble_eq_true rfl) ?_)
          refine po_call (by omega) (r_isFull (by omega) hb e39 z s o x ?_)
          rw [zf]
          refine pw_blk (mi := mz_106) (b := bz_106_17) rfl rfl ?_
          simp only [bz_106_17, pz_cut_t, pz_cut_f, pz_cut_n, pv_gt, pv_ts, pv_tn, ev_ifeq, pz_wi_gc, pz_wi_ga, pz_wi_gn, pz_wi_gl, pz_wi_gr, pz_wi_same, pz_wi_X, pz_wl_gc, pz_wl_ga, pz_wl_gn, pz_wl_gi, pz_wl_gr, pz_wl_same, pz_wl_X, pz_wr_gc, pz_wr_ga, pz_wr_gn, pz_wr_gi, pz_wr_gl, pz_wr_same, pz_wr_X, e8', g10, bI_f]
          (try simp (disch := omega) only [nI_clamp, pz_in_nI2, pz_in_nI2L, pv_gt, nI_add, nI_addL, nI_Ladd, pk_mul, nI_mulL, nI_Lmul, pk_sub, nI_subL, nI_Lsub, nI_inc, nI_clampL, Nat.add_sub_cancel, pz_wi_else, pz_wl_else, vu_eq, vu_ne, pz_wi_gc, pz_wi_ga, pz_wi_gn, pz_wi_gl, pz_wi_gr, pz_wi_same, pz_wi_X, pz_wl_gc, pz_wl_ga, pz_wl_gn, pz_wl_gi, pz_wl_gr, pz_wl_same, pz_wl_X, pz_wr_gc, pz_wr_ga, pz_wr_gn, pz_wr_gi, pz_wr_gl, pz_wr_same, pz_wr_X, e8', g10, bI_f])
          refine po_brP (fun q17 => ?_) (fun q17 => ?_)
          · skip
            (try simp (disch := omega) only [nI_ltI, nI_leI, nI_eq, nI_ltL, nI_leL, nI_eqL, nI_Llt, nI_Lle, nI_Leq, nI_eqm, nI_meq, nI_ltm, nI_lem, nI_mlt, nI_mle, lg0, lgl, lgg, lgle, lgge, Int32.not_lt, Int32.not_le, Int64.not_lt, Int64.not_le, not_false_eq_true, not_true_eq_false, Decidable.not_not, ge_iff_le, gt_iff_lt] at q17)
            refine pw_blk (mi := mz_106) (b := bz_106_24) rfl rfl ?_
            simp only [bz_106_24, pz_cut_t, pz_cut_f, pz_cut_n, pv_gt, pv_ts, pv_tn, ev_ald0, ev_eld0, ev_cv0_11, pz_wi_gc, pz_wi_ga, pz_wi_gn, pz_wi_gl, pz_wi_gr, pz_wi_same, pz_wi_X, pz_wl_gc, pz_wl_ga, pz_wl_gn, pz_wl_gi, pz_wl_gr, pz_wl_same, pz_wl_X, pz_wr_gc, pz_wr_ga, pz_wr_gn, pz_wr_gi, pz_wr_gl, pz_wr_same, pz_wr_X, so_120 hS, e8', g10]
            (try simp (disch := omega) only [nI_clamp, pz_in_nI2, pz_in_nI2L, pv_gt, nI_add, nI_addL, nI_Ladd, pk_mul, nI_mulL, nI_Lmul, pk_sub, nI_subL, nI_Lsub, nI_inc, nI_clampL, Nat.add_sub_cancel, pz_wi_else, pz_wl_else, vu_eq, vu_ne, pz_wi_gc, pz_wi_ga, pz_wi_gn, pz_wi_gl, pz_wi_gr, pz_wi_same, pz_wi_X, pz_wl_gc, pz_wl_ga, pz_wl_gn, pz_wl_gi, pz_wl_gr, pz_wl_same, pz_wl_X, pz_wr_gc, pz_wr_ga, pz_wr_gn, pz_wr_gi, pz_wr_gl, pz_wr_same, pz_wr_X, e8', g10])
            (try refine po_gP (Nat.le_of_ble_eq_true rfl) ?_)
            refine po_call (by omega) (r_isGd hS (fun _ => ?_) (fun y => absurd z y))
            refine pw_blk (mi := mz_106) (b := bz_106_28) rfl rfl ?_
            simp only [bz_106_28, pz_cut_t, pz_cut_f, pz_cut_n, pv_gt, pv_ts, pv_tn, ev_ifne, pz_wi_gc, pz_wi_ga, pz_wi_gn, pz_wi_gl, pz_wi_gr, pz_wi_same, pz_wi_X, pz_wl_gc, pz_wl_ga, pz_wl_gn, pz_wl_gi, pz_wl_gr, pz_wl_same, pz_wl_X, pz_wr_gc, pz_wr_ga, pz_wr_gn, pz_wr_gi, pz_wr_gl, pz_wr_same, pz_wr_X, e8', g10]
            (try simp (disch := omega) only [nI_clamp, pz_in_nI2, pz_in_nI2L, pv_gt, nI_add, nI_addL, nI_Ladd, pk_mul, nI_mulL, nI_Lmul, pk_sub, nI_subL, nI_Lsub, nI_inc, nI_clampL, Nat.add_sub_cancel, pz_wi_else, pz_wl_else, vu_eq, vu_ne, pz_wi_gc, pz_wi_ga, pz_wi_gn, pz_wi_gl, pz_wi_gr, pz_wi_same, pz_wi_X, pz_wl_gc, pz_wl_ga, pz_wl_gn, pz_wl_gi, pz_wl_gr, pz_wl_same, pz_wl_X, pz_wr_gc, pz_wr_ga, pz_wr_gn, pz_wr_gi, pz_wr_gl, pz_wr_same, pz_wr_X, e8', g10])
            refine po_brP (fun q28 => ?_) (fun q28 => ?_)
            · skip
              (try simp (disch := omega) only [nI_ltI, nI_leI, nI_eq, nI_ltL, nI_leL, nI_eqL, nI_Llt, nI_Lle, nI_Leq, nI_eqm, nI_meq, nI_ltm, nI_lem, nI_mlt, nI_mle, lg0, lgl, lgg, lgle, lgge, Int32.not_lt, Int32.not_le, Int64.not_lt, Int64.not_le, not_false_eq_true, not_true_eq_false, Decidable.not_not, ge_iff_le, gt_iff_lt] at q28)
              refine pw_blk (mi := mz_106) (b := bz_106_32) rfl rfl ?_
              simp only [bz_106_32, pz_cut_t, pz_cut_f, pz_cut_n, pv_gt, pv_ts, pv_tn, ev_ald0, ev_eld0, ev_cv0_11, pz_wi_gc, pz_wi_ga, pz_wi_gn, pz_wi_gl, pz_wi_gr, pz_wi_same, pz_wi_X, pz_wl_gc, pz_wl_ga, pz_wl_gn, pz_wl_gi, pz_wl_gr, pz_wl_same, pz_wl_X, pz_wr_gc, pz_wr_ga, pz_wr_gn, pz_wr_gi, pz_wr_gl, pz_wr_same, pz_wr_X, so_120 hS, e8', g10]
              (try simp (disch := omega) only [nI_clamp, pz_in_nI2, pz_in_nI2L, pv_gt, nI_add, nI_addL, nI_Ladd, pk_mul, nI_mulL, nI_Lmul, pk_sub, nI_subL, nI_Lsub, nI_inc, nI_clampL, Nat.add_sub_cancel, pz_wi_else, pz_wl_else, vu_eq, vu_ne, pz_wi_gc, pz_wi_ga, pz_wi_gn, pz_wi_gl, pz_wi_gr, pz_wi_same, pz_wi_X, pz_wl_gc, pz_wl_ga, pz_wl_gn, pz_wl_gi, pz_wl_gr, pz_wl_same, pz_wl_X, pz_wr_gc, pz_wr_ga, pz_wr_gn, pz_wr_gi, pz_wr_gl, pz_wr_same, pz_wr_X, e8', g10])
              (try refine po_gP (Nat.le_of_ble_eq_true rfl) ?_)
              refine po_call (by omega) (r_go (by omega) s (fun M1 r1 s1 g4 _ => ?_))
              have hS1 := s1.1.1
              have f39 : gi M1 120 39 = nI b := by rw [r1.2 39 (by decide) (by decide) (by decide) (by decide) (by decide) (by decide)]; exact e39
              refine pw_blk (mi := mz_106) (b := bz_106_36) rfl rfl ?_
              simp only [bz_106_36, pz_cut_t, pz_cut_f, pz_cut_n, pv_gt, pv_ts, pv_tn, ev_lld1, ev_ldl1751474544, ev_lcmp, ev_ifne, pz_wi_gc, pz_wi_ga, pz_wi_gn, pz_wi_gl, pz_wi_gr, pz_wi_same, pz_wi_X, pz_wl_gc, pz_wl_ga, pz_wl_gn, pz_wl_gi, pz_wl_gr, pz_wl_same, pz_wl_X, pz_wr_gc, pz_wr_ga, pz_wr_gn, pz_wr_gi, pz_wr_gl, pz_wr_same, pz_wr_X, e8', g10]
              (try simp (disch := omega) only [nI_clamp, pz_in_nI2, pz_in_nI2L, pv_gt, nI_add, nI_addL, nI_Ladd, pk_mul, nI_mulL, nI_Lmul, pk_sub, nI_subL, nI_Lsub, nI_inc, nI_clampL, Nat.add_sub_cancel, pz_wi_else, pz_wl_else, vu_eq, vu_ne, pz_wi_gc, pz_wi_ga, pz_wi_gn, pz_wi_gl, pz_wi_gr, pz_wi_same, pz_wi_X, pz_wl_gc, pz_wl_ga, pz_wl_gn, pz_wl_gi, pz_wl_gr, pz_wl_same, pz_wl_X, pz_wr_gc, pz_wr_ga, pz_wr_gn, pz_wr_gi, pz_wr_gl, pz_wr_same, pz_wr_X, e8', g10])
              refine po_brP (fun q36 => ?_) (fun q36 => ?_)
              · first
                | exact absurd q36 (by decide)
                | exact absurd trivial q36
                | exact q36.elim
                | (exfalso; (try simp (disch := omega) only [nI_ltI, nI_leI, nI_eq, nI_ltL, nI_leL, nI_eqL, nI_Llt, nI_Lle, nI_Leq, nI_eqm, nI_meq, nI_ltm, nI_lem, nI_mlt, nI_mle, lg0, lgl, lgg, lgle, lgge, Int32.not_lt, Int32.not_le, Int64.not_lt, Int64.not_le, not_false_eq_true, not_true_eq_false, Decidable.not_not, ge_iff_le, gt_iff_lt] at q36) <;> omega)
                | exact absurd q36 (by with_reducible assumption)
                | exact absurd (by with_reducible assumption) q36
                | exact absurd (Decidable.not_not.mp q36) (by with_reducible assumption)
                | exact absurd (by with_reducible assumption) (Int32.not_le.mpr q36)
                | exact absurd (by with_reducible assumption) (Int32.not_lt.mpr q36)
                | skip
                  (try simp (disch := omega) only [nI_ltI, nI_leI, nI_eq, nI_ltL, nI_leL, nI_eqL, nI_Llt, nI_Lle, nI_Leq, nI_eqm, nI_meq, nI_ltm, nI_lem, nI_mlt, nI_mle, lg0, lgl, lgg, lgle, lgge, Int32.not_lt, Int32.not_le, Int64.not_lt, Int64.not_le, not_false_eq_true, not_true_eq_false, Decidable.not_not, ge_iff_le, gt_iff_lt] at q36)
                  refine pw_blk (mi := mz_106) (b := bz_106_48) rfl rfl ?_
                  simp only [bz_106_48, pz_cut_t, pz_cut_f, pz_cut_n, pv_gt, pv_ts, pv_tn, ev_lld1, ev_ldl1885434484, ev_lcmp, ev_ifne, pz_wi_gc, pz_wi_ga, pz_wi_gn, pz_wi_gl, pz_wi_gr, pz_wi_same, pz_wi_X, pz_wl_gc, pz_wl_ga, pz_wl_gn, pz_wl_gi, pz_wl_gr, pz_wl_same, pz_wl_X, pz_wr_gc, pz_wr_ga, pz_wr_gn, pz_wr_gi, pz_wr_gl, pz_wr_same, pz_wr_X, e8', g10]
                  (try simp (disch := omega) only [nI_clamp, pz_in_nI2, pz_in_nI2L, pv_gt, nI_add, nI_addL, nI_Ladd, pk_mul, nI_mulL, nI_Lmul, pk_sub, nI_subL, nI_Lsub, nI_inc, nI_clampL, Nat.add_sub_cancel, pz_wi_else, pz_wl_else, vu_eq, vu_ne, pz_wi_gc, pz_wi_ga, pz_wi_gn, pz_wi_gl, pz_wi_gr, pz_wi_same, pz_wi_X, pz_wl_gc, pz_wl_ga, pz_wl_gn, pz_wl_gi, pz_wl_gr, pz_wl_same, pz_wl_X, pz_wr_gc, pz_wr_ga, pz_wr_gn, pz_wr_gi, pz_wr_gl, pz_wr_same, pz_wr_X, e8', g10])
                  refine po_brP (fun q48 => ?_) (fun q48 => ?_)
                  · first
                    | exact absurd q48 (by decide)
                    | exact absurd trivial q48
                    | exact q48.elim
                    | (exfalso; (try simp (disch := omega) only [nI_ltI, nI_leI, nI_eq, nI_ltL, nI_leL, nI_eqL, nI_Llt, nI_Lle, nI_Leq, nI_eqm, nI_meq, nI_ltm, nI_lem, nI_mlt, nI_mle, lg0, lgl, lgg, lgle, lgge, Int32.not_lt, Int32.not_le, Int64.not_lt, Int64.not_le, not_false_eq_true, not_true_eq_false, Decidable.not_not, ge_iff_le, gt_iff_lt] at q48) <;> omega)
                    | exact absurd q48 (by with_reducible assumption)
                    | exact absurd (by with_reducible assumption) q48
                    | exact absurd (Decidable.not_not.mp q48) (by with_reducible assumption)
                    | exact absurd (by with_reducible assumption) (Int32.not_le.mpr q48)
                    | exact absurd (by with_reducible assumption) (Int32.not_lt.mpr q48)
                    | skip
                      (try simp (disch := omega) only [nI_ltI, nI_leI, nI_eq, nI_ltL, nI_leL, nI_eqL, nI_Llt, nI_Lle, nI_Leq, nI_eqm, nI_meq, nI_ltm, nI_lem, nI_mlt, nI_mle, lg0, lgl, lgg, lgle, lgge, Int32.not_lt, Int32.not_le, Int64.not_lt, Int64.not_le, not_false_eq_true, not_true_eq_false, Decidable.not_not, ge_iff_le, gt_iff_lt] at q48)
                      refine pw_blk (mi := mz_106) (b := bz_106_60) rfl rfl ?_
                      simp only [bz_106_60, pz_cut_t, pz_cut_f, pz_cut_n, pv_gt, pv_ts, pv_tn, ev_lld1, ev_ldl1685024626, ev_lcmp, ev_ifeq, pz_wi_gc, pz_wi_ga, pz_wi_gn, pz_wi_gl, pz_wi_gr, pz_wi_same, pz_wi_X, pz_wl_gc, pz_wl_ga, pz_wl_gn, pz_wl_gi, pz_wl_gr, pz_wl_same, pz_wl_X, pz_wr_gc, pz_wr_ga, pz_wr_gn, pz_wr_gi, pz_wr_gl, pz_wr_same, pz_wr_X, e8', g10]
                      (try simp (disch := omega) only [nI_clamp, pz_in_nI2, pz_in_nI2L, pv_gt, nI_add, nI_addL, nI_Ladd, pk_mul, nI_mulL, nI_Lmul, pk_sub, nI_subL, nI_Lsub, nI_inc, nI_clampL, Nat.add_sub_cancel, pz_wi_else, pz_wl_else, vu_eq, vu_ne, pz_wi_gc, pz_wi_ga, pz_wi_gn, pz_wi_gl, pz_wi_gr, pz_wi_same, pz_wi_X, pz_wl_gc, pz_wl_ga, pz_wl_gn, pz_wl_gi, pz_wl_gr, pz_wl_same, pz_wl_X, pz_wr_gc, pz_wr_ga, pz_wr_gn, pz_wr_gi, pz_wr_gl, pz_wr_same, pz_wr_X, e8', g10])
                      refine po_brP (fun q60 => ?_) (fun q60 => ?_)
                      · exact absurd ((lg0 _ _).mp q60) n4
                      · first
                        | exact absurd q60 (by decide)
                        | exact absurd trivial q60
                        | exact q60.elim
                        | (exfalso; (try simp (disch := omega) only [nI_ltI, nI_leI, nI_eq, nI_ltL, nI_leL, nI_eqL, nI_Llt, nI_Lle, nI_Leq, nI_eqm, nI_meq, nI_ltm, nI_lem, nI_mlt, nI_mle, lg0, lgl, lgg, lgle, lgge, Int32.not_lt, Int32.not_le, Int64.not_lt, Int64.not_le, not_false_eq_true, not_true_eq_false, Decidable.not_not, ge_iff_le, gt_iff_lt] at q60) <;> omega)
                        | exact absurd q60 (by with_reducible assumption)
                        | exact absurd (by with_reducible assumption) q60
                        | exact absurd (Decidable.not_not.mp q60) (by with_reducible assumption)
                        | exact absurd (by with_reducible assumption) (Int32.not_le.mpr q60)
                        | exact absurd (by with_reducible assumption) (Int32.not_lt.mpr q60)
                        | skip
                          (try simp (disch := omega) only [nI_ltI, nI_leI, nI_eq, nI_ltL, nI_leL, nI_eqL, nI_Llt, nI_Lle, nI_Leq, nI_eqm, nI_meq, nI_ltm, nI_lem, nI_mlt, nI_mle, lg0, lgl, lgg, lgle, lgge, Int32.not_lt, Int32.not_le, Int64.not_lt, Int64.not_le, not_false_eq_true, not_true_eq_false, Decidable.not_not, ge_iff_le, gt_iff_lt] at q60)
                          refine pw_blk (mi := mz_106) (b := bz_106_68) rfl rfl ?_
                          simp only [bz_106_68, pz_cut_t, pz_cut_f, pz_cut_n, pv_gt, pv_ts, pv_tn, ev_lld1, ev_ldl1835102827, ev_lcmp, ev_ifne, pz_wi_gc, pz_wi_ga, pz_wi_gn, pz_wi_gl, pz_wi_gr, pz_wi_same, pz_wi_X, pz_wl_gc, pz_wl_ga, pz_wl_gn, pz_wl_gi, pz_wl_gr, pz_wl_same, pz_wl_X, pz_wr_gc, pz_wr_ga, pz_wr_gn, pz_wr_gi, pz_wr_gl, pz_wr_same, pz_wr_X, e8', g10]
                          (try simp (disch := omega) only [nI_clamp, pz_in_nI2, pz_in_nI2L, pv_gt, nI_add, nI_addL, nI_Ladd, pk_mul, nI_mulL, nI_Lmul, pk_sub, nI_subL, nI_Lsub, nI_inc, nI_clampL, Nat.add_sub_cancel, pz_wi_else, pz_wl_else, vu_eq, vu_ne, pz_wi_gc, pz_wi_ga, pz_wi_gn, pz_wi_gl, pz_wi_gr, pz_wi_same, pz_wi_X, pz_wl_gc, pz_wl_ga, pz_wl_gn, pz_wl_gi, pz_wl_gr, pz_wl_same, pz_wl_X, pz_wr_gc, pz_wr_ga, pz_wr_gn, pz_wr_gi, pz_wr_gl, pz_wr_same, pz_wr_X, e8', g10])
                          refine po_brP (fun q68 => ?_) (fun q68 => ?_)
                          · first
                            | exact absurd q68 (by decide)
                            | exact absurd trivial q68
                            | exact q68.elim
                            | (exfalso; (try simp (disch := omega) only [nI_ltI, nI_leI, nI_eq, nI_ltL, nI_leL, nI_eqL, nI_Llt, nI_Lle, nI_Leq, nI_eqm, nI_meq, nI_ltm, nI_lem, nI_mlt, nI_mle, lg0, lgl, lgg, lgle, lgge, Int32.not_lt, Int32.not_le, Int64.not_lt, Int64.not_le, not_false_eq_true, not_true_eq_false, Decidable.not_not, ge_iff_le, gt_iff_lt] at q68) <;> omega)
                            | exact absurd q68 (by with_reducible assumption)
                            | exact absurd (by with_reducible assumption) q68
                            | exact absurd (Decidable.not_not.mp q68) (by with_reducible assumption)
                            | exact absurd (by with_reducible assumption) (Int32.not_le.mpr q68)
                            | exact absurd (by with_reducible assumption) (Int32.not_lt.mpr q68)
                            | skip
                              (try simp (disch := omega) only [nI_ltI, nI_leI, nI_eq, nI_ltL, nI_leL, nI_eqL, nI_Llt, nI_Lle, nI_Leq, nI_eqm, nI_meq, nI_ltm, nI_lem, nI_mlt, nI_mle, lg0, lgl, lgg, lgle, lgge, Int32.not_lt, Int32.not_le, Int64.not_lt, Int64.not_le, not_false_eq_true, not_true_eq_false, Decidable.not_not, ge_iff_le, gt_iff_lt] at q68)
                              refine pw_blk (mi := mz_106) (b := bz_106_93) rfl rfl ?_
                              simp only [bz_106_93, pz_cut_t, pz_cut_f, pz_cut_n, pv_gt, pv_ts, pv_tn, ev_lld1, ev_ldl7102839, ev_lcmp, ev_ifne, pz_wi_gc, pz_wi_ga, pz_wi_gn, pz_wi_gl, pz_wi_gr, pz_wi_same, pz_wi_X, pz_wl_gc, pz_wl_ga, pz_wl_gn, pz_wl_gi, pz_wl_gr, pz_wl_same, pz_wl_X, pz_wr_gc, pz_wr_ga, pz_wr_gn, pz_wr_gi, pz_wr_gl, pz_wr_same, pz_wr_X, e8', g10]
                              (try simp (disch := omega) only [nI_clamp, pz_in_nI2, pz_in_nI2L, pv_gt, nI_add, nI_addL, nI_Ladd, pk_mul, nI_mulL, nI_Lmul, pk_sub, nI_subL, nI_Lsub, nI_inc, nI_clampL, Nat.add_sub_cancel, pz_wi_else, pz_wl_else, vu_eq, vu_ne, pz_wi_gc, pz_wi_ga, pz_wi_gn, pz_wi_gl, pz_wi_gr, pz_wi_same, pz_wi_X, pz_wl_gc, pz_wl_ga, pz_wl_gn, pz_wl_gi, pz_wl_gr, pz_wl_same, pz_wl_X, pz_wr_gc, pz_wr_ga, pz_wr_gn, pz_wr_gi, pz_wr_gl, pz_wr_same, pz_wr_X, e8', g10])
                              refine po_brP (fun q93 => ?_) (fun q93 => ?_)
                              · exact absurd ((lg0 _ _).mpr hK) q93
                              · first
                                | exact absurd q93 (by decide)
                                | exact absurd trivial q93
                                | exact q93.elim
                                | (exfalso; (try simp (disch := omega) only [nI_ltI, nI_leI, nI_eq, nI_ltL, nI_leL, nI_eqL, nI_Llt, nI_Lle, nI_Leq, nI_eqm, nI_meq, nI_ltm, nI_lem, nI_mlt, nI_mle, lg0, lgl, lgg, lgle, lgge, Int32.not_lt, Int32.not_le, Int64.not_lt, Int64.not_le, not_false_eq_true, not_true_eq_false, Decidable.not_not, ge_iff_le, gt_iff_lt] at q93) <;> omega)
                                | exact absurd q93 (by with_reducible assumption)
                                | exact absurd (by with_reducible assumption) q93
                                | exact absurd (Decidable.not_not.mp q93) (by with_reducible assumption)
                                | exact absurd (by with_reducible assumption) (Int32.not_le.mpr q93)
                                | exact absurd (by with_reducible assumption) (Int32.not_lt.mpr q93)
                                | skip
                                  (try simp (disch := omega) only [nI_ltI, nI_leI, nI_eq, nI_ltL, nI_leL, nI_eqL, nI_Llt, nI_Lle, nI_Leq, nI_eqm, nI_meq, nI_ltm, nI_lem, nI_mlt, nI_mle, lg0, lgl, lgg, lgle, lgge, Int32.not_lt, Int32.not_le, Int64.not_lt, Int64.not_le, not_false_eq_true, not_true_eq_false, Decidable.not_not, ge_iff_le, gt_iff_lt] at q93)
                                  refine pw_blk (mi := mz_106) (b := bz_106_101) rfl rfl ?_
                                  simp only [bz_106_101, pz_cut_t, pz_cut_f, pz_cut_n, pv_gt, pv_ts, pv_tn, ev_ald0, ev_eld0, ev_cv0_11, pz_wi_gc, pz_wi_ga, pz_wi_gn, pz_wi_gl, pz_wi_gr, pz_wi_same, pz_wi_X, pz_wl_gc, pz_wl_ga, pz_wl_gn, pz_wl_gi, pz_wl_gr, pz_wl_same, pz_wl_X, pz_wr_gc, pz_wr_ga, pz_wr_gn, pz_wr_gi, pz_wr_gl, pz_wr_same, pz_wr_X, so_120 hS, e8', g10, so_120 hS1]
                                  (try simp (disch := omega) only [nI_clamp, pz_in_nI2, pz_in_nI2L, pv_gt, nI_add, nI_addL, nI_Ladd, pk_mul, nI_mulL, nI_Lmul, pk_sub, nI_subL, nI_Lsub, nI_inc, nI_clampL, Nat.add_sub_cancel, pz_wi_else, pz_wl_else, vu_eq, vu_ne, pz_wi_gc, pz_wi_ga, pz_wi_gn, pz_wi_gl, pz_wi_gr, pz_wi_same, pz_wi_X, pz_wl_gc, pz_wl_ga, pz_wl_gn, pz_wl_gi, pz_wl_gr, pz_wl_same, pz_wl_X, pz_wr_gc, pz_wr_ga, pz_wr_gn, pz_wr_gi, pz_wr_gl, pz_wr_same, pz_wr_X, e8', g10, so_120 hS1])
                                  (try refine po_gP (Nat.le_of_ble_eq_true rfl) ?_)
                                  refine po_call (by omega) (r_readLaw (by omega) hb f39 s1 (x.r r1) (fun M2 f2 s2 x2 => ?_))
                                  refine pw_blk (mi := mz_106) (b := bz_106_105) rfl rfl ?_
                                  simp only [bz_106_105, pz_cut_t, pz_cut_f, pz_cut_n, pv_gt, pv_ts, pv_tn, ev_lld1, ev_ldl1886151022, ev_lcmp, ev_ifne, pz_wi_gc, pz_wi_ga, pz_wi_gn, pz_wi_gl, pz_wi_gr, pz_wi_same, pz_wi_X, pz_wl_gc, pz_wl_ga, pz_wl_gn, pz_wl_gi, pz_wl_gr, pz_wl_same, pz_wl_X, pz_wr_gc, pz_wr_ga, pz_wr_gn, pz_wr_gi, pz_wr_gl, pz_wr_same, pz_wr_X, e8', g10]
                                  (try simp (disch := omega) only [nI_clamp, pz_in_nI2, pz_in_nI2L, pv_gt, nI_add, nI_addL, nI_Ladd, pk_mul, nI_mulL, nI_Lmul, pk_sub, nI_subL, nI_Lsub, nI_inc, nI_clampL, Nat.add_sub_cancel, pz_wi_else, pz_wl_else, vu_eq, vu_ne, pz_wi_gc, pz_wi_ga, pz_wi_gn, pz_wi_gl, pz_wi_gr, pz_wi_same, pz_wi_X, pz_wl_gc, pz_wl_ga, pz_wl_gn, pz_wl_gi, pz_wl_gr, pz_wl_same, pz_wl_X, pz_wr_gc, pz_wr_ga, pz_wr_gn, pz_wr_gi, pz_wr_gl, pz_wr_same, pz_wr_X, e8', g10])
                                  refine po_brP (fun q105 => ?_) (fun q105 => ?_)
                                  · first
                                    | exact absurd q105 (by decide)
                                    | exact absurd trivial q105
                                    | exact q105.elim
                                    | (exfalso; (try simp (disch := omega) only [nI_ltI, nI_leI, nI_eq, nI_ltL, nI_leL, nI_eqL, nI_Llt, nI_Lle, nI_Leq, nI_eqm, nI_meq, nI_ltm, nI_lem, nI_mlt, nI_mle, lg0, lgl, lgg, lgle, lgge, Int32.not_lt, Int32.not_le, Int64.not_lt, Int64.not_le, not_false_eq_true, not_true_eq_false, Decidable.not_not, ge_iff_le, gt_iff_lt] at q105) <;> omega)
                                    | exact absurd q105 (by with_reducible assumption)
                                    | exact absurd (by with_reducible assumption) q105
                                    | exact absurd (Decidable.not_not.mp q105) (by with_reducible assumption)
                                    | exact absurd (by with_reducible assumption) (Int32.not_le.mpr q105)
                                    | exact absurd (by with_reducible assumption) (Int32.not_lt.mpr q105)
                                    | skip
                                      (try simp (disch := omega) only [nI_ltI, nI_leI, nI_eq, nI_ltL, nI_leL, nI_eqL, nI_Llt, nI_Lle, nI_Leq, nI_eqm, nI_meq, nI_ltm, nI_lem, nI_mlt, nI_mle, lg0, lgl, lgg, lgle, lgge, Int32.not_lt, Int32.not_le, Int64.not_lt, Int64.not_le, not_false_eq_true, not_true_eq_false, Decidable.not_not, ge_iff_le, gt_iff_lt] at q105)
                                      exact fin _ M2 _ _ ((bfr.of r1).tr f2) s2 x2 eq.1 eq.2
                                  · exact absurd ((lg0 _ _).mp (Decidable.not_not.mp q105)) n13
                          · exact absurd ((lg0 _ _).mp (Decidable.not_not.mp q68)) n5
                  · exact absurd ((lg0 _ _).mp (Decidable.not_not.mp q48)) n1
              · exact absurd ((lg0 _ _).mp (Decidable.not_not.mp q36)) n0
            · first
              | exact absurd q28 (by decide)
              | exact absurd trivial q28
              | exact q28.elim
              | (exfalso; (try simp (disch := omega) only [nI_ltI, nI_leI, nI_eq, nI_ltL, nI_leL, nI_eqL, nI_Llt, nI_Lle, nI_Leq, nI_eqm, nI_meq, nI_ltm, nI_lem, nI_mlt, nI_mle, lg0, lgl, lgg, lgle, lgge, Int32.not_lt, Int32.not_le, Int64.not_lt, Int64.not_le, not_false_eq_true, not_true_eq_false, Decidable.not_not, ge_iff_le, gt_iff_lt] at q28) <;> omega)
              | exact absurd q28 (by with_reducible assumption)
              | exact absurd (by with_reducible assumption) q28
              | exact absurd (Decidable.not_not.mp q28) (by with_reducible assumption)
              | exact absurd (by with_reducible assumption) (Int32.not_le.mpr q28)
              | exact absurd (by with_reducible assumption) (Int32.not_lt.mpr q28)
          · first
            | exact absurd q17 (by decide)
            | exact absurd trivial q17
            | exact q17.elim
            | (exfalso; (try simp (disch := omega) only [nI_ltI, nI_leI, nI_eq, nI_ltL, nI_leL, nI_eqL, nI_Llt, nI_Lle, nI_Leq, nI_eqm, nI_meq, nI_ltm, nI_lem, nI_mlt, nI_mle, lg0, lgl, lgg, lgle, lgge, Int32.not_lt, Int32.not_le, Int64.not_lt, Int64.not_le, not_false_eq_true, not_true_eq_false, Decidable.not_not, ge_iff_le, gt_iff_lt] at q17) <;> omega)
            | exact absurd q17 (by with_reducible assumption)
            | exact absurd (by with_reducible assumption) q17
            | exact absurd (Decidable.not_not.mp q17) (by with_reducible assumption)
            | exact absurd (by with_reducible assumption) (Int32.not_le.mpr q17)
            | exact absurd (by with_reducible assumption) (Int32.not_lt.mpr q17)
      by_cases hv13 : t.2.1 = 13
      · have hx : c.N < 6 := by
          unfold fulB isWs at zf
          simp [t3, hv13] at zf
          omega
        have el : lineS ru T L (.inr t) c = planS ru T L (.inr t) c := by
          unfold lineS isWs
          simp [t3, hv13]
        have eq : (planS ru T L (.inr t) c).1 = tsF ru T L 59 (rnS ru T L (nxF ru T L (.inr t)) c).1 ∧ (isG (planS ru T L (.inr t) c).1 = true → (planS ru T L (.inr t) c).2 = (rnS ru T L (nxF ru T L (.inr t)) c).2) := plan_eq hx
        rw [← el] at eq
        rw [hv13] at g10
        have hK : p8 (wds.getD 13 []) = (1886151022 : Int64) := by decide +kernel
        have n0 : ¬ p8 (wds.getD 13 []) = (1751474544 : Int64) := by decide +kernel
        have n1 : ¬ p8 (wds.getD 13 []) = (1885434484 : Int64) := by decide +kernel
        have n4 : ¬ p8 (wds.getD 13 []) = (1685024626 : Int64) := by decide +kernel
        have n5 : ¬ p8 (wds.getD 13 []) = (1835102827 : Int64) := by decide +kernel
        have n6 : ¬ p8 (wds.getD 13 []) = (7102839 : Int64) := by decide +kernel
        generalize p8 (wds.getD 13 []) = W at g10 hK n0 n1 n4 n5 n6
        refine pm_ent (L := [some (.ref 120), none, none]) rfl (Nat.le_of_ble_eq_true rfl) ?_
        refine pw_blk (mi := mz_106) (b := bz_106_0) rfl rfl ?_
        simp only [bz_106_0, pz_cut_t, pz_cut_f, pz_cut_n, pv_gt, pv_ts, pv_tn, ev_ald0, ev_eld0, ev_gf11_1, ev_lst1n, ev_lst1i, ev_lst1r, ev_lst1e, ev_lst1l, ev_gf11_0, ev_ic3, ev_ic_ne, pz_wi_gc, pz_wi_ga, pz_wi_gn, pz_wi_gl, pz_wi_gr, pz_wi_same, pz_wi_X, pz_wl_gc, pz_wl_ga, pz_wl_gn, pz_wl_gi, pz_wl_gr, pz_wl_same, pz_wl_X, pz_wr_gc, pz_wr_ga, pz_wr_gn, pz_wr_gi, pz_wr_gl, pz_wr_same, pz_wr_X, so_120 hS, e8', g10]
        (try simp (disch := omega) only [nI_clamp, pz_in_nI2, pz_in_nI2L, pv_gt, nI_add, nI_addL, nI_Ladd, pk_mul, nI_mulL, nI_Lmul, pk_sub, nI_subL, nI_Lsub, nI_inc, nI_clampL, Nat.add_sub_cancel, pz_wi_else, pz_wl_else, vu_eq, vu_ne, pz_wi_gc, pz_wi_ga, pz_wi_gn, pz_wi_gl, pz_wi_gr, pz_wi_same, pz_wi_X, pz_wl_gc, pz_wl_ga, pz_wl_gn, pz_wl_gi, pz_wl_gr, pz_wl_same, pz_wl_X, pz_wr_gc, pz_wr_ga, pz_wr_gn, pz_wr_gi, pz_wr_gl, pz_wr_same, pz_wr_X, e8', g10])
        refine po_brP (fun q0 => ?_) (fun q0 => ?_)
        · first
          | exact absurd q0 (by decide)
          | exact absurd trivial q0
          | exact q0.elim
          | (exfalso; (try simp (disch := omega) only [nI_ltI, nI_leI, nI_eq, nI_ltL, nI_leL, nI_eqL, nI_Llt, nI_Lle, nI_Leq, nI_eqm, nI_meq, nI_ltm, nI_lem, nI_mlt, nI_mle, lg0, lgl, lgg, lgle, lgge, Int32.not_lt, Int32.not_le, Int64.not_lt, Int64.not_le, not_false_eq_true, not_true_eq_false, Decidable.not_not, ge_iff_le, gt_iff_lt] at q0) <;> omega)
          | exact absurd q0 (by with_reducible assumption)
          | exact absurd (by with_reducible assumption) q0
          | exact absurd (Decidable.not_not.mp q0) (by with_reducible assumption)
          | exact absurd (by with_reducible assumption) (Int32.not_le.mpr q0)
          | exact absurd (by with_reducible assumption) (Int32.not_lt.mpr q0)
        · skip
          (try simp (disch := omega) only [nI_ltI, nI_leI, nI_eq, nI_ltL, nI_leL, nI_eqL, nI_Llt, nI_Lle, nI_Leq, nI_eqm, nI_meq, nI_ltm, nI_lem, nI_mlt, nI_mle, lg0, lgl, lgg, lgle, lgge, Int32.not_lt, Int32.not_le, Int64.not_lt, Int64.not_le, not_false_eq_true, not_true_eq_false, Decidable.not_not, ge_iff_le, gt_iff_lt] at q0)
          refine pw_blk (mi := mz_106) (b := bz_106_13) rfl rfl ?_
          simp only [bz_106_13, pz_cut_t, pz_cut_f, pz_cut_n, pv_gt, pv_ts, pv_tn, ev_ald0, ev_eld0, ev_cv0_11, pz_wi_gc, pz_wi_ga, pz_wi_gn, pz_wi_gl, pz_wi_gr, pz_wi_same, pz_wi_X, pz_wl_gc, pz_wl_ga, pz_wl_gn, pz_wl_gi, pz_wl_gr, pz_wl_same, pz_wl_X, pz_wr_gc, pz_wr_ga, pz_wr_gn, pz_wr_gi, pz_wr_gl, pz_wr_same, pz_wr_X, so_120 hS, e8', g10]
          (try simp (disch := omega) only [nI_clamp, pz_in_nI2, pz_in_nI2L, pv_gt, nI_add, nI_addL, nI_Ladd, pk_mul, nI_mulL, nI_Lmul, pk_sub, nI_subL, nI_Lsub, nI_inc, nI_clampL, Nat.add_sub_cancel, pz_wi_else, pz_wl_else, vu_eq, vu_ne, pz_wi_gc, pz_wi_ga, pz_wi_gn, pz_wi_gl, pz_wi_gr, pz_wi_same, pz_wi_X, pz_wl_gc, pz_wl_ga, pz_wl_gn, pz_wl_gi, pz_wl_gr, pz_wl_same, pz_wl_X, pz_wr_gc, pz_wr_ga, pz_wr_gn, pz_wr_gi, pz_wr_gl, pz_wr_same, pz_wr_X, e8', g10])
          (try refine po_gP (Nat.le_of_ble_eq_true rfl) ?_)
          refine po_call (by omega) (r_isFull (by omega) hb e39 z s o x ?_)
          rw [zf]
          refine pw_blk (mi := mz_106) (b := bz_106_17) rfl rfl ?_
          simp only [bz_106_17, pz_cut_t, pz_cut_f, pz_cut_n, pv_gt, pv_ts, pv_tn, ev_ifeq, pz_wi_gc, pz_wi_ga, pz_wi_gn, pz_wi_gl, pz_wi_gr, pz_wi_same, pz_wi_X, pz_wl_gc, pz_wl_ga, pz_wl_gn, pz_wl_gi, pz_wl_gr, pz_wl_same, pz_wl_X, pz_wr_gc, pz_wr_ga, pz_wr_gn, pz_wr_gi, pz_wr_gl, pz_wr_same, pz_wr_X, e8', g10, bI_f]
          (try simp (disch := omega) only [nI_clamp, pz_in_nI2, pz_in_nI2L, pv_gt, nI_add, nI_addL, nI_Ladd, pk_mul, nI_mulL, nI_Lmul, pk_sub, nI_subL, nI_Lsub, nI_inc, nI_clampL, Nat.add_sub_cancel, pz_wi_else, pz_wl_else, vu_eq, vu_ne, pz_wi_gc, pz_wi_ga, pz_wi_gn, pz_wi_gl, pz_wi_gr, pz_wi_same, pz_wi_X, pz_wl_gc, pz_wl_ga, pz_wl_gn, pz_wl_gi, pz_wl_gr, pz_wl_same, pz_wl_X, pz_wr_gc, pz_wr_ga, pz_wr_gn, pz_wr_gi, pz_wr_gl, pz_wr_same, pz_wr_X, e8', g10, bI_f])
          refine po_brP (fun q17 => ?_) (fun q17 => ?_)
          · skip
            (try simp (disch := omega) only [nI_ltI, nI_leI, nI_eq, nI_ltL, nI_leL, nI_eqL, nI_Llt, nI_Lle, nI_Leq, nI_eqm, nI_meq, nI_ltm, nI_lem, nI_mlt, nI_mle, lg0, lgl, lgg, lgle, lgge, Int32.not_lt, Int32.not_le, Int64.not_lt, Int64.not_le, not_false_eq_true, not_true_eq_false, Decidable.not_not, ge_iff_le, gt_iff_lt] at q17)
            refine pw_blk (mi := mz_106) (b := bz_106_24) rfl rfl ?_
            simp only [bz_106_24, pz_cut_t, pz_cut_f, pz_cut_n, pv_gt, pv_ts, pv_tn, ev_ald0, ev_eld0, ev_cv0_11, pz_wi_gc, pz_wi_ga, pz_wi_gn, pz_wi_gl, pz_wi_gr, pz_wi_same, pz_wi_X, pz_wl_gc, pz_wl_ga, pz_wl_gn, pz_wl_gi, pz_wl_gr, pz_wl_same, pz_wl_X, pz_wr_gc, pz_wr_ga, pz_wr_gn, pz_wr_gi, pz_wr_gl, pz_wr_same, pz_wr_X, so_120 hS, e8', g10]
            (try simp (disch := omega) only [nI_clamp, pz_in_nI2, pz_in_nI2L, pv_gt, nI_add, nI_addL, nI_Ladd, pk_mul, nI_mulL, nI_Lmul, pk_sub, nI_subL, nI_Lsub, nI_inc, nI_clampL, Nat.add_sub_cancel, pz_wi_else, pz_wl_else, vu_eq, vu_ne, pz_wi_gc, pz_wi_ga, pz_wi_gn, pz_wi_gl, pz_wi_gr, pz_wi_same, pz_wi_X, pz_wl_gc, pz_wl_ga, pz_wl_gn, pz_wl_gi, pz_wl_gr, pz_wl_same, pz_wl_X, pz_wr_gc, pz_wr_ga, pz_wr_gn, pz_wr_gi, pz_wr_gl, pz_wr_same, pz_wr_X, e8', g10])
            (try refine po_gP (Nat.le_of_ble_eq_true rfl) ?_)
            refine po_call (by omega) (r_isGd hS (fun _ => ?_) (fun y => absurd z y))
            refine pw_blk (mi := mz_106) (b := bz_106_28) rfl rfl ?_
            simp only [bz_106_28, pz_cut_t, pz_cut_f, pz_cut_n, pv_gt, pv_ts, pv_tn, ev_ifne, pz_wi_gc, pz_wi_ga, pz_wi_gn, pz_wi_gl, pz_wi_gr, pz_wi_same, pz_wi_X, pz_wl_gc, pz_wl_ga, pz_wl_gn, pz_wl_gi, pz_wl_gr, pz_wl_same, pz_wl_X, pz_wr_gc, pz_wr_ga, pz_wr_gn, pz_wr_gi, pz_wr_gl, pz_wr_same, pz_wr_X, e8', g10]
            (try simp (disch := omega) only [nI_clamp, pz_in_nI2, pz_in_nI2L, pv_gt, nI_add, nI_addL, nI_Ladd, pk_mul, nI_mulL, nI_Lmul, pk_sub, nI_subL, nI_Lsub, nI_inc, nI_clampL, Nat.add_sub_cancel, pz_wi_else, pz_wl_else, vu_eq, vu_ne, pz_wi_gc, pz_wi_ga, pz_wi_gn, pz_wi_gl, pz_wi_gr, pz_wi_same, pz_wi_X, pz_wl_gc, pz_wl_ga, pz_wl_gn, pz_wl_gi, pz_wl_gr, pz_wl_same, pz_wl_X, pz_wr_gc, pz_wr_ga, pz_wr_gn, pz_wr_gi, pz_wr_gl, pz_wr_same, pz_wr_X, e8', g10])
            refine po_brP (fun q28 => ?_) (fun q28 => ?_)
            · skip
              (try simp (disch := omega) only [nI_ltI, nI_leI, nI_eq, nI_ltL, nI_leL, nI_eqL, nI_Llt, nI_Lle, nI_Leq, nI_eqm, nI_meq, nI_ltm, nI_lem, nI_mlt, nI_mle, lg0, lgl, lgg, lgle, lgge, Int32.not_lt, Int32.not_le, Int64.not_lt, Int64.not_le, not_false_eq_true, not_true_eq_false, Decidable.not_not, ge_iff_le, gt_iff_lt] at q28)
              refine pw_blk (mi := mz_106) (b := bz_106_32) rfl rfl ?_
              simp only [bz_106_32, pz_cut_t, pz_cut_f, pz_cut_n, pv_gt, pv_ts, pv_tn, ev_ald0, ev_eld0, ev_cv0_11, pz_wi_gc, pz_wi_ga, pz_wi_gn, pz_wi_gl, pz_wi_gr, pz_wi_same, pz_wi_X, pz_wl_gc, pz_wl_ga, pz_wl_gn, pz_wl_gi, pz_wl_gr, pz_wl_same, pz_wl_X, pz_wr_gc, pz_wr_ga, pz_wr_gn, pz_wr_gi, pz_wr_gl, pz_wr_same, pz_wr_X, so_120 hS, e8', g10]
              (try simp (disch := omega) only [nI_clamp, pz_in_nI2, pz_in_nI2L, pv_gt, nI_add, nI_addL, nI_Ladd, pk_mul, nI_mulL, nI_Lmul, pk_sub, nI_subL, nI_Lsub, nI_inc, nI_clampL, Nat.add_sub_cancel, pz_wi_else, pz_wl_else, vu_eq, vu_ne, pz_wi_gc, pz_wi_ga, pz_wi_gn, pz_wi_gl, pz_wi_gr, pz_wi_same, pz_wi_X, pz_wl_gc, pz_wl_ga, pz_wl_gn, pz_wl_gi, pz_wl_gr, pz_wl_same, pz_wl_X, pz_wr_gc, pz_wr_ga, pz_wr_gn, pz_wr_gi, pz_wr_gl, pz_wr_same, pz_wr_X, e8', g10])
              (try refine po_gP (Nat.le_of_ble_eq_true rfl) ?_)
              refine po_call (by omega) (r_go (by omega) s (fun M1 r1 s1 g4 _ => ?_))
              have hS1 := s1.1.1
              have f39 : gi M1 120 39 = nI b := by rw [r1.2 39 (by decide) (by decide) (by decide) (by decide) (by decide) (by decide)]; exact e39
              refine pw_blk (mi := mz_106) (b := bz_106_36) rfl rfl ?_
              simp only [bz_106_36, pz_cut_t, pz_cut_f, pz_cut_n, pv_gt, pv_ts, pv_tn, ev_lld1, ev_ldl1751474544, ev_lcmp, ev_ifne, pz_wi_gc, pz_wi_ga, pz_wi_gn, pz_wi_gl, pz_wi_gr, pz_wi_same, pz_wi_X, pz_wl_gc, pz_wl_ga, pz_wl_gn, pz_wl_gi, pz_wl_gr, pz_wl_same, pz_wl_X, pz_wr_gc, pz_wr_ga, pz_wr_gn, pz_wr_gi, pz_wr_gl, pz_wr_same, pz_wr_X, e8', g10]
              (try simp (disch := omega) only [nI_clamp, pz_in_nI2, pz_in_nI2L, pv_gt, nI_add, nI_addL, nI_Ladd, pk_mul, nI_mulL, nI_Lmul, pk_sub, nI_subL, nI_Lsub, nI_inc, nI_clampL, Nat.add_sub_cancel, pz_wi_else, pz_wl_else, vu_eq, vu_ne, pz_wi_gc, pz_wi_ga, pz_wi_gn, pz_wi_gl, pz_wi_gr, pz_wi_same, pz_wi_X, pz_wl_gc, pz_wl_ga, pz_wl_gn, pz_wl_gi, pz_wl_gr, pz_wl_same, pz_wl_X, pz_wr_gc, pz_wr_ga, pz_wr_gn, pz_wr_gi, pz_wr_gl, pz_wr_same, pz_wr_X, e8', g10])
              refine po_brP (fun q36 => ?_) (fun q36 => ?_)
              · first
                | exact absurd q36 (by decide)
                | exact absurd trivial q36
                | exact q36.elim
                | (exfalso; (try simp (disch := omega) only [nI_ltI, nI_leI, nI_eq, nI_ltL, nI_leL, nI_eqL, nI_Llt, nI_Lle, nI_Leq, nI_eqm, nI_meq, nI_ltm, nI_lem, nI_mlt, nI_mle, lg0, lgl, lgg, lgle, lgge, Int32.not_lt, Int32.not_le, Int64.not_lt, Int64.not_le, not_false_eq_true, not_true_eq_false, Decidable.not_not, ge_iff_le, gt_iff_lt] at q36) <;> omega)
                | exact absurd q36 (by with_reducible assumption)
                | exact absurd (by with_reducible assumption) q36
                | exact absurd (Decidable.not_not.mp q36) (by with_reducible assumption)
                | exact absurd (by with_reducible assumption) (Int32.not_le.mpr q36)
                | exact absurd (by with_reducible assumption) (Int32.not_lt.mpr q36)
                | skip
                  (try simp (disch := omega) only [nI_ltI, nI_leI, nI_eq, nI_ltL, nI_leL, nI_eqL, nI_Llt, nI_Lle, nI_Leq, nI_eqm, nI_meq, nI_ltm, nI_lem, nI_mlt, nI_mle, lg0, lgl, lgg, lgle, lgge, Int32.not_lt, Int32.not_le, Int64.not_lt, Int64.not_le, not_false_eq_true, not_true_eq_false, Decidable.not_not, ge_iff_le, gt_iff_lt] at q36)
                  refine pw_blk (mi := mz_106) (b := bz_106_48) rfl rfl ?_
                  simp only [bz_106_48, pz_cut_t, pz_cut_f, pz_cut_n, pv_gt, pv_ts, pv_tn, ev_lld1, ev_ldl1885434484, ev_lcmp, ev_ifne, pz_wi_gc, pz_wi_ga, pz_wi_gn, pz_wi_gl, pz_wi_gr, pz_wi_same, pz_wi_X, pz_wl_gc, pz_wl_ga, pz_wl_gn, pz_wl_gi, pz_wl_gr, pz_wl_same, pz_wl_X, pz_wr_gc, pz_wr_ga, pz_wr_gn, pz_wr_gi, pz_wr_gl, pz_wr_same, pz_wr_X, e8', g10]
                  (try simp (disch := omega) only [nI_clamp, pz_in_nI2, pz_in_nI2L, pv_gt, nI_add, nI_addL, nI_Ladd, pk_mul, nI_mulL, nI_Lmul, pk_sub, nI_subL, nI_Lsub, nI_inc, nI_clampL, Nat.add_sub_cancel, pz_wi_else, pz_wl_else, vu_eq, vu_ne, pz_wi_gc, pz_wi_ga, pz_wi_gn, pz_wi_gl, pz_wi_gr, pz_wi_same, pz_wi_X, pz_wl_gc, pz_wl_ga, pz_wl_gn, pz_wl_gi, pz_wl_gr, pz_wl_same, pz_wl_X, pz_wr_gc, pz_wr_ga, pz_wr_gn, pz_wr_gi, pz_wr_gl, pz_wr_same, pz_wr_X, e8', g10])
                  refine po_brP (fun q48 => ?_) (fun q48 => ?_)
                  · first
                    | exact absurd q48 (by decide)
                    | exact absurd trivial q48
                    | exact q48.elim
                    | (exfalso; (try simp (disch := omega) only [nI_ltI, nI_leI, nI_eq, nI_ltL, nI_leL, nI_eqL, nI_Llt, nI_Lle, nI_Leq, nI_eqm, nI_meq, nI_ltm, nI_lem, nI_mlt, nI_mle, lg0, lgl, lgg, lgle, lgge, Int32.not_lt, Int32.not_le, Int64.not_lt, Int64.not_le, not_false_eq_true, not_true_eq_false, Decidable.not_not, ge_iff_le, gt_iff_lt] at q48) <;> omega)
                    | exact absurd q48 (by with_reducible assumption)
                    | exact absurd (by with_reducible assumption) q48
                    | exact absurd (Decidable.not_not.mp q48) (by with_reducible assumption)
                    | exact absurd (by with_reducible assumption) (Int32.not_le.mpr q48)
                    | exact absurd (by with_reducible assumption) (Int32.not_lt.mpr q48)
                    | skip
                      (try simp (disch := omega) only [nI_ltI, nI_leI, nI_eq, nI_ltL, nI_leL, nI_eqL, nI_Llt, nI_Lle, nI_Leq, nI_eqm, nI_meq, nI_ltm, nI_lem, nI_mlt, nI_mle, lg0, lgl, lgg, lgle, lgge, Int32.not_lt, Int32.not_le, Int64.not_lt, Int64.not_le, not_false_eq_true, not_true_eq_false, Decidable.not_not, ge_iff_le, gt_iff_lt] at q48)
                      refine pw_blk (mi := mz_106) (b := bz_106_60) rfl rfl ?_
                      simp only [bz_106_60, pz_cut_t, pz_cut_f, pz_cut_n, pv_gt, pv_ts, pv_tn, ev_lld1, ev_ldl1685024626, ev_lcmp, ev_ifeq, pz_wi_gc, pz_wi_ga, pz_wi_gn, pz_wi_gl, pz_wi_gr, pz_wi_same, pz_wi_X, pz_wl_gc, pz_wl_ga, pz_wl_gn, pz_wl_gi, pz_wl_gr, pz_wl_same, pz_wl_X, pz_wr_gc, pz_wr_ga, pz_wr_gn, pz_wr_gi, pz_wr_gl, pz_wr_same, pz_wr_X, e8', g10]
                      (try simp (disch := omega) only [nI_clamp, pz_in_nI2, pz_in_nI2L, pv_gt, nI_add, nI_addL, nI_Ladd, pk_mul, nI_mulL, nI_Lmul, pk_sub, nI_subL, nI_Lsub, nI_inc, nI_clampL, Nat.add_sub_cancel, pz_wi_else, pz_wl_else, vu_eq, vu_ne, pz_wi_gc, pz_wi_ga, pz_wi_gn, pz_wi_gl, pz_wi_gr, pz_wi_same, pz_wi_X, pz_wl_gc, pz_wl_ga, pz_wl_gn, pz_wl_gi, pz_wl_gr, pz_wl_same, pz_wl_X, pz_wr_gc, pz_wr_ga, pz_wr_gn, pz_wr_gi, pz_wr_gl, pz_wr_same, pz_wr_X, e8', g10])
                      refine po_brP (fun q60 => ?_) (fun q60 => ?_)
                      · exact absurd ((lg0 _ _).mp q60) n4
                      · first
                        | exact absurd q60 (by decide)
                        | exact absurd trivial q60
                        | exact q60.elim
                        | (exfalso; (try simp (disch := omega) only [nI_ltI, nI_leI, nI_eq, nI_ltL, nI_leL, nI_eqL, nI_Llt, nI_Lle, nI_Leq, nI_eqm, nI_meq, nI_ltm, nI_lem, nI_mlt, nI_mle, lg0, lgl, lgg, lgle, lgge, Int32.not_lt, Int32.not_le, Int64.not_lt, Int64.not_le, not_false_eq_true, not_true_eq_false, Decidable.not_not, ge_iff_le, gt_iff_lt] at q60) <;> omega)
                        | exact absurd q60 (by with_reducible assumption)
                        | exact absurd (by with_reducible assumption) q60
                        | exact absurd (Decidable.not_not.mp q60) (by with_reducible assumption)
                        | exact absurd (by with_reducible assumption) (Int32.not_le.mpr q60)
                        | exact absurd (by with_reducible assumption) (Int32.not_lt.mpr q60)
                        | skip
                          (try simp (disch := omega) only [nI_ltI, nI_leI, nI_eq, nI_ltL, nI_leL, nI_eqL, nI_Llt, nI_Lle, nI_Leq, nI_eqm, nI_meq, nI_ltm, nI_lem, nI_mlt, nI_mle, lg0, lgl, lgg, lgle, lgge, Int32.not_lt, Int32.not_le, Int64.not_lt, Int64.not_le, not_false_eq_true, not_true_eq_false, Decidable.not_not, ge_iff_le, gt_iff_lt] at q60)
                          refine pw_blk (mi := mz_106) (b := bz_106_68) rfl rfl ?_
                          simp only [bz_106_68, pz_cut_t, pz_cut_f, pz_cut_n, pv_gt, pv_ts, pv_tn, ev_lld1, ev_ldl1835102827, ev_lcmp, ev_ifne, pz_wi_gc, pz_wi_ga, pz_wi_gn, pz_wi_gl, pz_wi_gr, pz_wi_same, pz_wi_X, pz_wl_gc, pz_wl_ga, pz_wl_gn, pz_wl_gi, pz_wl_gr, pz_wl_same, pz_wl_X, pz_wr_gc, pz_wr_ga, pz_wr_gn, pz_wr_gi, pz_wr_gl, pz_wr_same, pz_wr_X, e8', g10]
                          (try simp (disch := omega) only [nI_clamp, pz_in_nI2, pz_in_nI2L, pv_gt, nI_add, nI_addL, nI_Ladd, pk_mul, nI_mulL, nI_Lmul, pk_sub, nI_subL, nI_Lsub, nI_inc, nI_clampL, Nat.add_sub_cancel, pz_wi_else, pz_wl_else, vu_eq, vu_ne, pz_wi_gc, pz_wi_ga, pz_wi_gn, pz_wi_gl, pz_wi_gr, pz_wi_same, pz_wi_X, pz_wl_gc, pz_wl_ga, pz_wl_gn, pz_wl_gi, pz_wl_gr, pz_wl_same, pz_wl_X, pz_wr_gc, pz_wr_ga, pz_wr_gn, pz_wr_gi, pz_wr_gl, pz_wr_same, pz_wr_X, e8', g10])
                          refine po_brP (fun q68 => ?_) (fun q68 => ?_)
                          · first
                            | exact absurd q68 (by decide)
                            | exact absurd trivial q68
                            | exact q68.elim
                            | (exfalso; (try simp (disch := omega) only [nI_ltI, nI_leI, nI_eq, nI_ltL, nI_leL, nI_eqL, nI_Llt, nI_Lle, nI_Leq, nI_eqm, nI_meq, nI_ltm, nI_lem, nI_mlt, nI_mle, lg0, lgl, lgg, lgle, lgge, Int32.not_lt, Int32.not_le, Int64.not_lt, Int64.not_le, not_false_eq_true, not_true_eq_false, Decidable.not_not, ge_iff_le, gt_iff_lt] at q68) <;> omega)
                            | exact absurd q68 (by with_reducible assumption)
                            | exact absurd (by with_reducible assumption) q68
                            | exact absurd (Decidable.not_not.mp q68) (by with_reducible assumption)
                            | exact absurd (by with_reducible assumption) (Int32.not_le.mpr q68)
                            | exact absurd (by with_reducible assumption) (Int32.not_lt.mpr q68)
                            | skip
                              (try simp (disch := omega) only [nI_ltI, nI_leI, nI_eq, nI_ltL, nI_leL, nI_eqL, nI_Llt, nI_Lle, nI_Leq, nI_eqm, nI_meq, nI_ltm, nI_lem, nI_mlt, nI_mle, lg0, lgl, lgg, lgle, lgge, Int32.not_lt, Int32.not_le, Int64.not_lt, Int64.not_le, not_false_eq_true, not_true_eq_false, Decidable.not_not, ge_iff_le, gt_iff_lt] at q68)
                              refine pw_blk (mi := mz_106) (b := bz_106_93) rfl rfl ?_
                              simp only [bz_106_93, pz_cut_t, pz_cut_f, pz_cut_n, pv_gt, pv_ts, pv_tn, ev_lld1, ev_ldl7102839, ev_lcmp, ev_ifne, pz_wi_gc, pz_wi_ga, pz_wi_gn, pz_wi_gl, pz_wi_gr, pz_wi_same, pz_wi_X, pz_wl_gc, pz_wl_ga, pz_wl_gn, pz_wl_gi, pz_wl_gr, pz_wl_same, pz_wl_X, pz_wr_gc, pz_wr_ga, pz_wr_gn, pz_wr_gi, pz_wr_gl, pz_wr_same, pz_wr_X, e8', g10]
                              (try simp (disch := omega) only [nI_clamp, pz_in_nI2, pz_in_nI2L, pv_gt, nI_add, nI_addL, nI_Ladd, pk_mul, nI_mulL, nI_Lmul, pk_sub, nI_subL, nI_Lsub, nI_inc, nI_clampL, Nat.add_sub_cancel, pz_wi_else, pz_wl_else, vu_eq, vu_ne, pz_wi_gc, pz_wi_ga, pz_wi_gn, pz_wi_gl, pz_wi_gr, pz_wi_same, pz_wi_X, pz_wl_gc, pz_wl_ga, pz_wl_gn, pz_wl_gi, pz_wl_gr, pz_wl_same, pz_wl_X, pz_wr_gc, pz_wr_ga, pz_wr_gn, pz_wr_gi, pz_wr_gl, pz_wr_same, pz_wr_X, e8', g10])
                              refine po_brP (fun q93 => ?_) (fun q93 => ?_)
                              · first
                                | exact absurd q93 (by decide)
                                | exact absurd trivial q93
                                | exact q93.elim
                                | (exfalso; (try simp (disch := omega) only [nI_ltI, nI_leI, nI_eq, nI_ltL, nI_leL, nI_eqL, nI_Llt, nI_Lle, nI_Leq, nI_eqm, nI_meq, nI_ltm, nI_lem, nI_mlt, nI_mle, lg0, lgl, lgg, lgle, lgge, Int32.not_lt, Int32.not_le, Int64.not_lt, Int64.not_le, not_false_eq_true, not_true_eq_false, Decidable.not_not, ge_iff_le, gt_iff_lt] at q93) <;> omega)
                                | exact absurd q93 (by with_reducible assumption)
                                | exact absurd (by with_reducible assumption) q93
                                | exact absurd (Decidable.not_not.mp q93) (by with_reducible assumption)
                                | exact absurd (by with_reducible assumption) (Int32.not_le.mpr q93)
                                | exact absurd (by with_reducible assumption) (Int32.not_lt.mpr q93)
                                | skip
                                  (try simp (disch := omega) only [nI_ltI, nI_leI, nI_eq, nI_ltL, nI_leL, nI_eqL, nI_Llt, nI_Lle, nI_Leq, nI_eqm, nI_meq, nI_ltm, nI_lem, nI_mlt, nI_mle, lg0, lgl, lgg, lgle, lgge, Int32.not_lt, Int32.not_le, Int64.not_lt, Int64.not_le, not_false_eq_true, not_true_eq_false, Decidable.not_not, ge_iff_le, gt_iff_lt] at q93)
                                  refine pw_blk (mi := mz_106) (b := bz_106_105) rfl rfl ?_
                                  simp only [bz_106_105, pz_cut_t, pz_cut_f, pz_cut_n, pv_gt, pv_ts, pv_tn, ev_lld1, ev_ldl1886151022, ev_lcmp, ev_ifne, pz_wi_gc, pz_wi_ga, pz_wi_gn, pz_wi_gl, pz_wi_gr, pz_wi_same, pz_wi_X, pz_wl_gc, pz_wl_ga, pz_wl_gn, pz_wl_gi, pz_wl_gr, pz_wl_same, pz_wl_X, pz_wr_gc, pz_wr_ga, pz_wr_gn, pz_wr_gi, pz_wr_gl, pz_wr_same, pz_wr_X, e8', g10]
                                  (try simp (disch := omega) only [nI_clamp, pz_in_nI2, pz_in_nI2L, pv_gt, nI_add, nI_addL, nI_Ladd, pk_mul, nI_mulL, nI_Lmul, pk_sub, nI_subL, nI_Lsub, nI_inc, nI_clampL, Nat.add_sub_cancel, pz_wi_else, pz_wl_else, vu_eq, vu_ne, pz_wi_gc, pz_wi_ga, pz_wi_gn, pz_wi_gl, pz_wi_gr, pz_wi_same, pz_wi_X, pz_wl_gc, pz_wl_ga, pz_wl_gn, pz_wl_gi, pz_wl_gr, pz_wl_same, pz_wl_X, pz_wr_gc, pz_wr_ga, pz_wr_gn, pz_wr_gi, pz_wr_gl, pz_wr_same, pz_wr_X, e8', g10])
                                  refine po_brP (fun q105 => ?_) (fun q105 => ?_)
                                  · exact absurd ((lg0 _ _).mpr hK) q105
                                  · first
                                    | exact absurd q105 (by decide)
                                    | exact absurd trivial q105
                                    | exact q105.elim
                                    | (exfalso; (try simp (disch := omega) only [nI_ltI, nI_leI, nI_eq, nI_ltL, nI_leL, nI_eqL, nI_Llt, nI_Lle, nI_Leq, nI_eqm, nI_meq, nI_ltm, nI_lem, nI_mlt, nI_mle, lg0, lgl, lgg, lgle, lgge, Int32.not_lt, Int32.not_le, Int64.not_lt, Int64.not_le, not_false_eq_true, not_true_eq_false, Decidable.not_not, ge_iff_le, gt_iff_lt] at q105) <;> omega)
                                    | exact absurd q105 (by with_reducible assumption)
                                    | exact absurd (by with_reducible assumption) q105
                                    | exact absurd (Decidable.not_not.mp q105) (by with_reducible assumption)
                                    | exact absurd (by with_reducible assumption) (Int32.not_le.mpr q105)
                                    | exact absurd (by with_reducible assumption) (Int32.not_lt.mpr q105)
                                    | skip
                                      (try simp (disch := omega) only [nI_ltI, nI_leI, nI_eq, nI_ltL, nI_leL, nI_eqL, nI_Llt, nI_Lle, nI_Leq, nI_eqm, nI_meq, nI_ltm, nI_lem, nI_mlt, nI_mle, lg0, lgl, lgg, lgle, lgge, Int32.not_lt, Int32.not_le, Int64.not_lt, Int64.not_le, not_false_eq_true, not_true_eq_false, Decidable.not_not, ge_iff_le, gt_iff_lt] at q105)
                                      refine pw_blk (mi := mz_106) (b := bz_106_113) rfl rfl ?_
                                      simp only [bz_106_113, pz_cut_t, pz_cut_f, pz_cut_n, pv_gt, pv_ts, pv_tn, ev_ald0, ev_eld0, ev_cv0_11, pz_wi_gc, pz_wi_ga, pz_wi_gn, pz_wi_gl, pz_wi_gr, pz_wi_same, pz_wi_X, pz_wl_gc, pz_wl_ga, pz_wl_gn, pz_wl_gi, pz_wl_gr, pz_wl_same, pz_wl_X, pz_wr_gc, pz_wr_ga, pz_wr_gn, pz_wr_gi, pz_wr_gl, pz_wr_same, pz_wr_X, so_120 hS, e8', g10, so_120 hS1]
                                      (try simp (disch := omega) only [nI_clamp, pz_in_nI2, pz_in_nI2L, pv_gt, nI_add, nI_addL, nI_Ladd, pk_mul, nI_mulL, nI_Lmul, pk_sub, nI_subL, nI_Lsub, nI_inc, nI_clampL, Nat.add_sub_cancel, pz_wi_else, pz_wl_else, vu_eq, vu_ne, pz_wi_gc, pz_wi_ga, pz_wi_gn, pz_wi_gl, pz_wi_gr, pz_wi_same, pz_wi_X, pz_wl_gc, pz_wl_ga, pz_wl_gn, pz_wl_gi, pz_wl_gr, pz_wl_same, pz_wl_X, pz_wr_gc, pz_wr_ga, pz_wr_gn, pz_wr_gi, pz_wr_gl, pz_wr_same, pz_wr_X, e8', g10, so_120 hS1])
                                      (try refine po_gP (Nat.le_of_ble_eq_true rfl) ?_)
                                      refine po_call (by omega) (r_readPlan (by omega) hb f39 s1 o hx (x.r r1) (fun M2 f2 s2 x2 => ?_))
                                      exact fin _ M2 _ _ ((bfr.of r1).tr f2) s2 x2 eq.1 eq.2
                              · exact absurd ((lg0 _ _).mp (Decidable.not_not.mp q93)) n6
                          · exact absurd ((lg0 _ _).mp (Decidable.not_not.mp q68)) n5
                  · exact absurd ((lg0 _ _).mp (Decidable.not_not.mp q48)) n1
              · exact absurd ((lg0 _ _).mp (Decidable.not_not.mp q36)) n0
            · first
              | exact absurd q28 (by decide)
              | exact absurd trivial q28
              | exact q28.elim
              | (exfalso; (try simp (disch := omega) only [nI_ltI, nI_leI, nI_eq, nI_ltL, nI_leL, nI_eqL, nI_Llt, nI_Lle, nI_Leq, nI_eqm, nI_meq, nI_ltm, nI_lem, nI_mlt, nI_mle, lg0, lgl, lgg, lgle, lgge, Int32.not_lt, Int32.not_le, Int64.not_lt, Int64.not_le, not_false_eq_true, not_true_eq_false, Decidable.not_not, ge_iff_le, gt_iff_lt] at q28) <;> omega)
              | exact absurd q28 (by with_reducible assumption)
              | exact absurd (by with_reducible assumption) q28
              | exact absurd (Decidable.not_not.mp q28) (by with_reducible assumption)
              | exact absurd (by with_reducible assumption) (Int32.not_le.mpr q28)
              | exact absurd (by with_reducible assumption) (Int32.not_lt.mpr q28)
          · first
            | exact absurd q17 (by decide)
            | exact absurd trivial q17
            | exact q17.elim
            | (exfalso; (try simp (disch := omega) only [nI_ltI, nI_leI, nI_eq, nI_ltL, nI_leL, nI_eqL, nI_Llt, nI_Lle, nI_Leq, nI_eqm, nI_meq, nI_ltm, nI_lem, nI_mlt, nI_mle, lg0, lgl, lgg, lgle, lgge, Int32.not_lt, Int32.not_le, Int64.not_lt, Int64.not_le, not_false_eq_true, not_true_eq_false, Decidable.not_not, ge_iff_le, gt_iff_lt] at q17) <;> omega)
            | exact absurd q17 (by with_reducible assumption)
            | exact absurd (by with_reducible assumption) q17
            | exact absurd (Decidable.not_not.mp q17) (by with_reducible assumption)
            | exact absurd (by with_reducible assumption) (Int32.not_le.mpr q17)
            | exact absurd (by with_reducible assumption) (Int32.not_lt.mpr q17)
      exfalso
      unfold fulB isWs at zf
      simp [t3, hv0, hv1, hv4, hv5, hv6, hv13] at zf
  · have hw' : ∀ t, σ = .inr t → ¬ t.1 = 3 := fun t et y => hw ⟨t, et, y⟩
    have n8 : ¬ gi M 120 8 = 3 := rSt.n8 (j := 3) (by decide) (by decide) s z hw'
    rw [line_n hw'] at k
    generalize hW : gl M 120 10 = W
    refine pm_ent (L := [some (.ref 120), none, none]) rfl (Nat.le_of_ble_eq_true rfl) ?_
    refine pw_blk (mi := mz_106) (b := bz_106_0) rfl rfl ?_
    simp only [bz_106_0, pz_cut_t, pz_cut_f, pz_cut_n, pv_gt, pv_ts, pv_tn, ev_ald0, ev_eld0, ev_gf11_1, ev_lst1n, ev_lst1i, ev_lst1r, ev_lst1e, ev_lst1l, ev_gf11_0, ev_ic3, ev_ic_ne, pz_wi_gc, pz_wi_ga, pz_wi_gn, pz_wi_gl, pz_wi_gr, pz_wi_same, pz_wi_X, pz_wl_gc, pz_wl_ga, pz_wl_gn, pz_wl_gi, pz_wl_gr, pz_wl_same, pz_wl_X, pz_wr_gc, pz_wr_ga, pz_wr_gn, pz_wr_gi, pz_wr_gl, pz_wr_same, pz_wr_X, so_120 hS, hW]
    (try simp (disch := omega) only [nI_clamp, pz_in_nI2, pz_in_nI2L, pv_gt, nI_add, nI_addL, nI_Ladd, pk_mul, nI_mulL, nI_Lmul, pk_sub, nI_subL, nI_Lsub, nI_inc, nI_clampL, Nat.add_sub_cancel, pz_wi_else, pz_wl_else, vu_eq, vu_ne, pz_wi_gc, pz_wi_ga, pz_wi_gn, pz_wi_gl, pz_wi_gr, pz_wi_same, pz_wi_X, pz_wl_gc, pz_wl_ga, pz_wl_gn, pz_wl_gi, pz_wl_gr, pz_wl_same, pz_wl_X, pz_wr_gc, pz_wr_ga, pz_wr_gn, pz_wr_gi, pz_wr_gl, pz_wr_same, pz_wr_X, hW])
    refine po_brP (fun q0 => ?_) (fun q0 => ?_)
    · skip
      (try simp (disch := omega) only [nI_ltI, nI_leI, nI_eq, nI_ltL, nI_leL, nI_eqL, nI_Llt, nI_Lle, nI_Leq, nI_eqm, nI_meq, nI_ltm, nI_lem, nI_mlt, nI_mle, lg0, lgl, lgg, lgle, lgge, Int32.not_lt, Int32.not_le, Int64.not_lt, Int64.not_le, not_false_eq_true, not_true_eq_false, Decidable.not_not, ge_iff_le, gt_iff_lt] at q0)
      refine pw_blk (mi := mz_106) (b := bz_106_20) rfl rfl ?_
      simp only [bz_106_20, pz_cut_t, pz_cut_f, pz_cut_n, pv_gt, pv_ts, pv_tn, ev_ald0, ev_eld0, ev_cv0_11, pz_wi_gc, pz_wi_ga, pz_wi_gn, pz_wi_gl, pz_wi_gr, pz_wi_same, pz_wi_X, pz_wl_gc, pz_wl_ga, pz_wl_gn, pz_wl_gi, pz_wl_gr, pz_wl_same, pz_wl_X, pz_wr_gc, pz_wr_ga, pz_wr_gn, pz_wr_gi, pz_wr_gl, pz_wr_same, pz_wr_X, so_120 hS, hW]
      (try simp (disch := omega) only [nI_clamp, pz_in_nI2, pz_in_nI2L, pv_gt, nI_add, nI_addL, nI_Ladd, pk_mul, nI_mulL, nI_Lmul, pk_sub, nI_subL, nI_Lsub, nI_inc, nI_clampL, Nat.add_sub_cancel, pz_wi_else, pz_wl_else, vu_eq, vu_ne, pz_wi_gc, pz_wi_ga, pz_wi_gn, pz_wi_gl, pz_wi_gr, pz_wi_same, pz_wi_X, pz_wl_gc, pz_wl_ga, pz_wl_gn, pz_wl_gi, pz_wl_gr, pz_wl_same, pz_wl_X, pz_wr_gc, pz_wr_ga, pz_wr_gn, pz_wr_gi, pz_wr_gl, pz_wr_same, pz_wr_X, hW])
      (try refine po_gP (Nat.le_of_ble_eq_true rfl) ?_)
      refine po_call (by omega) (r_misplaced (by omega) s (fun M1 r1 s1 n4 => ?_))
      have hS1 := s1.1.1
      refine pw_blk (mi := mz_106) (b := bz_106_24) rfl rfl ?_
      simp only [bz_106_24, pz_cut_t, pz_cut_f, pz_cut_n, pv_gt, pv_ts, pv_tn, ev_ald0, ev_eld0, ev_cv0_11, pz_wi_gc, pz_wi_ga, pz_wi_gn, pz_wi_gl, pz_wi_gr, pz_wi_same, pz_wi_X, pz_wl_gc, pz_wl_ga, pz_wl_gn, pz_wl_gi, pz_wl_gr, pz_wl_same, pz_wl_X, pz_wr_gc, pz_wr_ga, pz_wr_gn, pz_wr_gi, pz_wr_gl, pz_wr_same, pz_wr_X, so_120 hS, hW, so_120 hS1]
      (try simp (disch := omega) only [nI_clamp, pz_in_nI2, pz_in_nI2L, pv_gt, nI_add, nI_addL, nI_Ladd, pk_mul, nI_mulL, nI_Lmul, pk_sub, nI_subL, nI_Lsub, nI_inc, nI_clampL, Nat.add_sub_cancel, pz_wi_else, pz_wl_else, vu_eq, vu_ne, pz_wi_gc, pz_wi_ga, pz_wi_gn, pz_wi_gl, pz_wi_gr, pz_wi_same, pz_wi_X, pz_wl_gc, pz_wl_ga, pz_wl_gn, pz_wl_gi, pz_wl_gr, pz_wl_same, pz_wl_X, pz_wr_gc, pz_wr_ga, pz_wr_gn, pz_wr_gi, pz_wr_gl, pz_wr_same, pz_wr_X, hW, so_120 hS1])
      (try refine po_gP (Nat.le_of_ble_eq_true rfl) ?_)
      refine po_call (by omega) (r_isGd hS1 (fun y => absurd y n4) (fun _ => ?_))
      refine pw_blk (mi := mz_106) (b := bz_106_28) rfl rfl ?_
      simp only [bz_106_28, pz_cut_t, pz_cut_f, pz_cut_n, pv_gt, pv_ts, pv_tn, ev_ifne, pz_wi_gc, pz_wi_ga, pz_wi_gn, pz_wi_gl, pz_wi_gr, pz_wi_same, pz_wi_X, pz_wl_gc, pz_wl_ga, pz_wl_gn, pz_wl_gi, pz_wl_gr, pz_wl_same, pz_wl_X, pz_wr_gc, pz_wr_ga, pz_wr_gn, pz_wr_gi, pz_wr_gl, pz_wr_same, pz_wr_X, hW]
      (try simp (disch := omega) only [nI_clamp, pz_in_nI2, pz_in_nI2L, pv_gt, nI_add, nI_addL, nI_Ladd, pk_mul, nI_mulL, nI_Lmul, pk_sub, nI_subL, nI_Lsub, nI_inc, nI_clampL, Nat.add_sub_cancel, pz_wi_else, pz_wl_else, vu_eq, vu_ne, pz_wi_gc, pz_wi_ga, pz_wi_gn, pz_wi_gl, pz_wi_gr, pz_wi_same, pz_wi_X, pz_wl_gc, pz_wl_ga, pz_wl_gn, pz_wl_gi, pz_wl_gr, pz_wl_same, pz_wl_X, pz_wr_gc, pz_wr_ga, pz_wr_gn, pz_wr_gi, pz_wr_gl, pz_wr_same, pz_wr_X, hW])
      refine po_brP (fun q28 => ?_) (fun q28 => ?_)
      · first
        | exact absurd q28 (by decide)
        | exact absurd trivial q28
        | exact q28.elim
        | (exfalso; (try simp (disch := omega) only [nI_ltI, nI_leI, nI_eq, nI_ltL, nI_leL, nI_eqL, nI_Llt, nI_Lle, nI_Leq, nI_eqm, nI_meq, nI_ltm, nI_lem, nI_mlt, nI_mle, lg0, lgl, lgg, lgle, lgge, Int32.not_lt, Int32.not_le, Int64.not_lt, Int64.not_le, not_false_eq_true, not_true_eq_false, Decidable.not_not, ge_iff_le, gt_iff_lt] at q28) <;> omega)
        | exact absurd q28 (by with_reducible assumption)
        | exact absurd (by with_reducible assumption) q28
        | exact absurd (Decidable.not_not.mp q28) (by with_reducible assumption)
        | exact absurd (by with_reducible assumption) (Int32.not_le.mpr q28)
        | exact absurd (by with_reducible assumption) (Int32.not_lt.mpr q28)
      · skip
        (try simp (disch := omega) only [nI_ltI, nI_leI, nI_eq, nI_ltL, nI_leL, nI_eqL, nI_Llt, nI_Lle, nI_Leq, nI_eqm, nI_meq, nI_ltm, nI_lem, nI_mlt, nI_mle, lg0, lgl, lgg, lgle, lgge, Int32.not_lt, Int32.not_le, Int64.not_lt, Int64.not_le, not_false_eq_true, not_true_eq_false, Decidable.not_not, ge_iff_le, gt_iff_lt] at q28)
        refine pw_blk (mi := mz_106) (b := bz_106_31) rfl rfl ?_
        simp only [bz_106_31, pz_cut_t, pz_cut_f, pz_cut_n, pv_gt, pv_ts, pv_tn, ev_ret, pz_wi_gc, pz_wi_ga, pz_wi_gn, pz_wi_gl, pz_wi_gr, pz_wi_same, pz_wi_X, pz_wl_gc, pz_wl_ga, pz_wl_gn, pz_wl_gi, pz_wl_gr, pz_wl_same, pz_wl_X, pz_wr_gc, pz_wr_ga, pz_wr_gn, pz_wr_gi, pz_wr_gl, pz_wr_same, pz_wr_X, hW]
        (try simp (disch := omega) only [nI_clamp, pz_in_nI2, pz_in_nI2L, pv_gt, nI_add, nI_addL, nI_Ladd, pk_mul, nI_mulL, nI_Lmul, pk_sub, nI_subL, nI_Lsub, nI_inc, nI_clampL, Nat.add_sub_cancel, pz_wi_else, pz_wl_else, vu_eq, vu_ne, pz_wi_gc, pz_wi_ga, pz_wi_gn, pz_wi_gl, pz_wi_gr, pz_wi_same, pz_wi_X, pz_wl_gc, pz_wl_ga, pz_wl_gn, pz_wl_gi, pz_wl_gr, pz_wl_same, pz_wl_X, pz_wr_gc, pz_wr_ga, pz_wr_gn, pz_wr_gi, pz_wr_gl, pz_wr_same, pz_wr_X, hW])
        exact po_ret (k M1 (bfr.of r1) s1 (fun y => by rw [flF_G] at y; cases y))
    · first
      | exact absurd q0 (by decide)
      | exact absurd trivial q0
      | exact q0.elim
      | (exfalso; (try simp (disch := omega) only [nI_ltI, nI_leI, nI_eq, nI_ltL, nI_leL, nI_eqL, nI_Llt, nI_Lle, nI_Leq, nI_eqm, nI_meq, nI_ltm, nI_lem, nI_mlt, nI_mle, lg0, lgl, lgg, lgle, lgge, Int32.not_lt, Int32.not_le, Int64.not_lt, Int64.not_le, not_false_eq_true, not_true_eq_false, Decidable.not_not, ge_iff_le, gt_iff_lt] at q0) <;> omega)
      | exact absurd q0 (by with_reducible assumption)
      | exact absurd (by with_reducible assumption) q0
      | exact absurd (Decidable.not_not.mp q0) (by with_reducible assumption)
      | exact absurd (by with_reducible assumption) (Int32.not_le.mpr q0)
      | exact absurd (by with_reducible assumption) (Int32.not_lt.mpr q0)
end RU
