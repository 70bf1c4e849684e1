section SEND
variable {d : Nat} {M M' : pz_M} {Q : Option Value × pz_M → Prop}
theorem m_fillL {k N : Nat} {x : Int64} (ha : ga M k = some 1) (hn : gn M k = N) (hN : N < 2 ^ 31) (h : ∀ M', sm [k] M M' → (∀ i, i < N → gl M' k i = x) → Q (none, M')) : pm d 208 [.ref k, .long x] M Q := by
  have key : ∀ i, i ≤ N → ∀ M', sm [k] M M' → (∀ j, j < i → gl M' k j = x) → pw d 208 (6, [some (.ref k), some (.long x), none, some (.int (nI i)), some (.int (nI N))], [], M') Q := by
    refine upto (fun i hi ih => ?_)
    intro M' s e
    have fa : ga M' k = some 1 := by rw [s.a]; exact ha
    have fn : gn M' k = N := by rw [s.n]; exact hn
    refine pw_blk (mi := mz_208) (b := bz_208_6) rfl rfl ?_
    simp only [bz_208_6, pz_cut_t, pz_cut_f, pz_cut_n, pv_gt, pv_ts, pv_tn, ev_ild3, ev_ild4, ev_ic_ge, pz_wi_gc, pz_wi_ga, pz_wi_gn, pz_wi_gl, pz_wi_gr, pz_wi_same, pz_wi_X, pz_wl_gc, pz_wl_ga, pz_wl_gn, pz_wl_gi, pz_wl_gr, pz_wl_same, pz_wl_X, pz_wr_gc, pz_wr_ga, pz_wr_gn, pz_wr_gi, pz_wr_gl, pz_wr_same, pz_wr_X, fa, fn]
    (try simp (disch := omega) only [nI_clamp, pz_in_nI2, pz_in_nI2L, pv_gt, nI_add, nI_addL, nI_Ladd, pk_mul, nI_mulL, nI_Lmul, pk_sub, nI_subL, nI_Lsub, nI_inc, nI_clampL, Nat.add_sub_cancel, pz_wi_else, pz_wl_else, vu_eq, vu_ne, pz_wi_gc, pz_wi_ga, pz_wi_gn, pz_wi_gl, pz_wi_gr, pz_wi_same, pz_wi_X, pz_wl_gc, pz_wl_ga, pz_wl_gn, pz_wl_gi, pz_wl_gr, pz_wl_same, pz_wl_X, pz_wr_gc, pz_wr_ga, pz_wr_gn, pz_wr_gi, pz_wr_gl, pz_wr_same, pz_wr_X, fa, fn])
    refine po_brP (fun q6 => ?_) (fun q6 => ?_)
    · first
      | exact absurd q6 (by decide)
      | exact absurd trivial q6
      | exact q6.elim
      | (exfalso; (try simp (disch := omega) only [nI_ltI, nI_leI, nI_eq, nI_ltL, nI_leL, nI_eqL, nI_Llt, nI_Lle, nI_Leq, nI_eqm, nI_meq, nI_ltm, nI_lem, nI_mlt, nI_mle, lg0, lgl, lgg, lgle, lgge, Int32.not_lt, Int32.not_le, Int64.not_lt, Int64.not_le, not_false_eq_true, not_true_eq_false, Decidable.not_not, ge_iff_le, gt_iff_lt] at q6) <;> omega)
      | exact absurd q6 (by with_reducible assumption)
      | exact absurd (by with_reducible assumption) q6
      | exact absurd (Decidable.not_not.mp q6) (by with_reducible assumption)
      | exact absurd (by with_reducible assumption) (Int32.not_le.mpr q6)
      | exact absurd (by with_reducible assumption) (Int32.not_lt.mpr q6)
      | skip
        (try simp (disch := omega) only [nI_ltI, nI_leI, nI_eq, nI_ltL, nI_leL, nI_eqL, nI_Llt, nI_Lle, nI_Leq, nI_eqm, nI_meq, nI_ltm, nI_lem, nI_mlt, nI_mle, lg0, lgl, lgg, lgle, lgge, Int32.not_lt, Int32.not_le, Int64.not_lt, Int64.not_le, not_false_eq_true, not_true_eq_false, Decidable.not_not, ge_iff_le, gt_iff_lt] at q6)
        refine pw_blk (mi := mz_208) (b := bz_208_22) rfl rfl ?_
        simp only [bz_208_22, pz_cut_t, pz_cut_f, pz_cut_n, pv_gt, pv_ts, pv_tn, ev_ret, pz_wi_gc, pz_wi_ga, pz_wi_gn, pz_wi_gl, pz_wi_gr, pz_wi_same, pz_wi_X, pz_wl_gc, pz_wl_ga, pz_wl_gn, pz_wl_gi, pz_wl_gr, pz_wl_same, pz_wl_X, pz_wr_gc, pz_wr_ga, pz_wr_gn, pz_wr_gi, pz_wr_gl, pz_wr_same, pz_wr_X, fa, fn]
        (try simp (disch := omega) only [nI_clamp, pz_in_nI2, pz_in_nI2L, pv_gt, nI_add, nI_addL, nI_Ladd, pk_mul, nI_mulL, nI_Lmul, pk_sub, nI_subL, nI_Lsub, nI_inc, nI_clampL, Nat.add_sub_cancel, pz_wi_else, pz_wl_else, vu_eq, vu_ne, pz_wi_gc, pz_wi_ga, pz_wi_gn, pz_wi_gl, pz_wi_gr, pz_wi_same, pz_wi_X, pz_wl_gc, pz_wl_ga, pz_wl_gn, pz_wl_gi, pz_wl_gr, pz_wl_same, pz_wl_X, pz_wr_gc, pz_wr_ga, pz_wr_gn, pz_wr_gi, pz_wr_gl, pz_wr_same, pz_wr_X, fa, fn])
        have hi2 : i = N := by omega
        subst hi2
        exact po_ret (h M' s e)
    · first
      | exact absurd q6 (by decide)
      | exact absurd trivial q6
      | exact q6.elim
      | (exfalso; (try simp (disch := omega) only [nI_ltI, nI_leI, nI_eq, nI_ltL, nI_leL, nI_eqL, nI_Llt, nI_Lle, nI_Leq, nI_eqm, nI_meq, nI_ltm, nI_lem, nI_mlt, nI_mle, lg0, lgl, lgg, lgle, lgge, Int32.not_lt, Int32.not_le, Int64.not_lt, Int64.not_le, not_false_eq_true, not_true_eq_false, Decidable.not_not, ge_iff_le, gt_iff_lt] at q6) <;> omega)
      | exact absurd q6 (by with_reducible assumption)
      | exact absurd (by with_reducible assumption) q6
      | exact absurd (Decidable.not_not.mp q6) (by with_reducible assumption)
      | exact absurd (by with_reducible assumption) (Int32.not_le.mpr q6)
      | exact absurd (by with_reducible assumption) (Int32.not_lt.mpr q6)
      | skip
        (try simp (disch := omega) only [nI_ltI, nI_leI, nI_eq, nI_ltL, nI_leL, nI_eqL, nI_Llt, nI_Lle, nI_Leq, nI_eqm, nI_meq, nI_ltm, nI_lem, nI_mlt, nI_mle, lg0, lgl, lgg, lgle, lgge, Int32.not_lt, Int32.not_le, Int64.not_lt, Int64.not_le, not_false_eq_true, not_true_eq_false, Decidable.not_not, ge_iff_le, gt_iff_lt] at q6)
        refine pw_blk (mi := mz_208) (b := bz_208_12) rfl rfl ?_
        simp only [bz_208_12, pz_cut_t, pz_cut_f, pz_cut_n, pv_gt, pv_ts, pv_tn, ev_ald0, ev_eld0, ev_ild3, ev_lld1, ea_last, ev_inc3n, ev_inc3i, ev_inc3r, ev_inc3e, ev_goto, pz_wi_gc, pz_wi_ga, pz_wi_gn, pz_wi_gl, pz_wi_gr, pz_wi_same, pz_wi_X, pz_wl_gc, pz_wl_ga, pz_wl_gn, pz_wl_gi, pz_wl_gr, pz_wl_same, pz_wl_X, pz_wr_gc, pz_wr_ga, pz_wr_gn, pz_wr_gi, pz_wr_gl, pz_wr_same, pz_wr_X, fa, fn]
        (try simp (disch := omega) only [nI_clamp, pz_in_nI2, pz_in_nI2L, pv_gt, nI_add, nI_addL, nI_Ladd, pk_mul, nI_mulL, nI_Lmul, pk_sub, nI_subL, nI_Lsub, nI_inc, nI_clampL, Nat.add_sub_cancel, pz_wi_else, pz_wl_else, vu_eq, vu_ne, pz_wi_gc, pz_wi_ga, pz_wi_gn, pz_wi_gl, pz_wi_gr, pz_wi_same, pz_wi_X, pz_wl_gc, pz_wl_ga, pz_wl_gn, pz_wl_gi, pz_wl_gr, pz_wl_same, pz_wl_X, pz_wr_gc, pz_wr_ga, pz_wr_gn, pz_wr_gi, pz_wr_gl, pz_wr_same, pz_wr_X, fa, fn])
        (try refine po_gI (by first | exact pz_in_nI (by omega) hN | exact pz_in_nI (by omega) (by decide) | decide | assumption) ?_)
        refine po_go ?_
        refine ih (i + 1) (by omega) (by omega) _ (s.wl (by simp)) (fun j hj => ?_)
        rw [pz_wl_same]
        by_cases q : j = i
        · rw [q, vu_eq]
        · rw [vu_ne q]; exact e j (by omega)
  have hN2 : Int32.ofNat N = nI N := rfl
  refine pm_ent (L := [some (.ref k), some (.long x), none, none, none]) rfl (Nat.le_of_ble_eq_true rfl) ?_
  refine pw_blk (mi := mz_208) (b := bz_208_0) rfl rfl ?_
  simp only [bz_208_0, pz_cut_t, pz_cut_f, pz_cut_n, pv_gt, pv_ts, pv_tn, ev_ic0, ev_ist3n, ev_ist3i, ev_ist3r, ev_ist3e, ev_ist3l, ev_ald0, ev_eld0, ea_alen0, ea_alen1, ea_alen2, ea_alen3, ev_ist4n, ev_ist4i, ev_ist4r, ev_ist4e, ev_ist4l, ev_nil, pz_wi_gc, pz_wi_ga, pz_wi_gn, pz_wi_gl, pz_wi_gr, pz_wi_same, pz_wi_X, pz_wl_gc, pz_wl_ga, pz_wl_gn, pz_wl_gi, pz_wl_gr, pz_wl_same, pz_wl_X, pz_wr_gc, pz_wr_ga, pz_wr_gn, pz_wr_gi, pz_wr_gl, pz_wr_same, pz_wr_X, ha, hn, hN2]
  (try simp (disch := omega) only [nI_clamp, pz_in_nI2, pz_in_nI2L, pv_gt, nI_add, nI_addL, nI_Ladd, pk_mul, nI_mulL, nI_Lmul, pk_sub, nI_subL, nI_Lsub, nI_inc, nI_clampL, Nat.add_sub_cancel, pz_wi_else, pz_wl_else, vu_eq, vu_ne, pz_wi_gc, pz_wi_ga, pz_wi_gn, pz_wi_gl, pz_wi_gr, pz_wi_same, pz_wi_X, pz_wl_gc, pz_wl_ga, pz_wl_gn, pz_wl_gi, pz_wl_gr, pz_wl_same, pz_wl_X, pz_wr_gc, pz_wr_ga, pz_wr_gn, pz_wr_gi, pz_wr_gl, pz_wr_same, pz_wr_X, ha, hn, hN2])
  refine po_go ?_
  exact key 0 (by omega) M sm.rf (fun j hj => absurd hj (by omega))
def allW (M : pz_M) (al : Nat → Nat → Nat) (cr wk B : Nat) (h : Nat → Int32) : Prop := ∀ i, i < B → isW M al cr wk B i h
theorem isW.fr {al : Nat → Nat → Nat} {cr wk B i : Nat} {h : Nat → Int32} (w : isW M al cr wk B i h) (e43 : gi M' 43 = gi M 43) (e44 : gi M' 44 = gi M 44) (e45 : gi M' 45 = gi M 45) : isW M' al cr wk B i h := by
  unfold isW
  rw [e43, e44, e45]
  exact w
theorem m_weighAll (hd : 1 ≤ d) {al : Nat → Nat → Nat} {cr wk B hk : Nat} {h : Nat → Int32} (hS : SH M) (hF : RFa M al B) (b1 : gi M 4 0 = nI B) (hB : B ≤ 24) (hcr : gi M 17 2 = nI cr) (hwk : gi M 17 3 = nI wk) (hh : gi M hk = h) (hka : ga M hk = some 0) (hkn : gn M hk = 24) (hk2 : hk ≠ 43 ∧ hk ≠ 44 ∧ hk ≠ 45) (k : ∀ M', sm [43, 44, 45] M M' → allW M' al cr wk B h → Q (none, M')) : pm d 129 [.ref 39, .ref hk] M Q := by
  have key : ∀ i, i ≤ B → ∀ M', sm [43, 44, 45] M M' → (∀ i', i' < i → isW M' al cr wk B i' h) → pw d 129 (2, [some (.ref 39), some (.ref hk), some (.int (nI i))], [], M') Q := by
    refine upto (fun i hi ih => ?_)
    intro M' s e
    have hS' := hS.sm s
    have b1' : gi M' 4 0 = nI B := by rw [s.i (k := 4) (by decide)]; exact b1
    by_cases hiB : i = B
    · subst hiB
      refine pw_blk (mi := mz_129) (b := bz_129_2) rfl rfl ?_
      simp only [bz_129_2, pz_cut_t, pz_cut_f, pz_cut_n, pv_gt, pv_ts, pv_tn, ev_ild2, ev_ald0, ev_eld0, ev_gf1_2, ev_gf8_0, ev_ic_ge, pz_wi_gc, pz_wi_ga, pz_wi_gn, pz_wi_gl, pz_wi_gr, pz_wi_same, pz_wi_X, pz_wl_gc, pz_wl_ga, pz_wl_gn, pz_wl_gi, pz_wl_gr, pz_wl_same, pz_wl_X, pz_wr_gc, pz_wr_ga, pz_wr_gn, pz_wr_gi, pz_wr_gl, pz_wr_same, pz_wr_X, so_39 hS', sr_39_0 hS', so_4 hS', b1']
      (try simp (disch := omega) only [nI_clamp, pz_in_nI2, pz_in_nI2L, pv_gt, nI_add, nI_addL, nI_Ladd, pk_mul, nI_mulL, nI_Lmul, pk_sub, nI_subL, nI_Lsub, nI_inc, nI_clampL, Nat.add_sub_cancel, pz_wi_else, pz_wl_else, vu_eq, vu_ne, pz_wi_gc, pz_wi_ga, pz_wi_gn, pz_wi_gl, pz_wi_gr, pz_wi_same, pz_wi_X, pz_wl_gc, pz_wl_ga, pz_wl_gn, pz_wl_gi, pz_wl_gr, pz_wl_same, pz_wl_X, pz_wr_gc, pz_wr_ga, pz_wr_gn, pz_wr_gi, pz_wr_gl, pz_wr_same, pz_wr_X, b1'])
      refine po_brP (fun q2 => ?_) (fun q2 => ?_)
      · skip
        (try simp (disch := omega) only [nI_ltI, nI_leI, nI_eq, nI_ltL, nI_leL, nI_eqL, nI_Llt, nI_Lle, nI_Leq, nI_eqm, nI_meq, nI_ltm, nI_lem, nI_mlt, nI_mle, lg0, lgl, lgg, lgle, lgge, Int32.not_lt, Int32.not_le, Int64.not_lt, Int64.not_le, not_false_eq_true, not_true_eq_false, Decidable.not_not, ge_iff_le, gt_iff_lt] at q2)
        refine pw_blk (mi := mz_129) (b := bz_129_25) rfl rfl ?_
        simp only [bz_129_25, pz_cut_t, pz_cut_f, pz_cut_n, pv_gt, pv_ts, pv_tn, ev_ret, pz_wi_gc, pz_wi_ga, pz_wi_gn, pz_wi_gl, pz_wi_gr, pz_wi_same, pz_wi_X, pz_wl_gc, pz_wl_ga, pz_wl_gn, pz_wl_gi, pz_wl_gr, pz_wl_same, pz_wl_X, pz_wr_gc, pz_wr_ga, pz_wr_gn, pz_wr_gi, pz_wr_gl, pz_wr_same, pz_wr_X, b1']
        (try simp (disch := omega) only [nI_clamp, pz_in_nI2, pz_in_nI2L, pv_gt, nI_add, nI_addL, nI_Ladd, pk_mul, nI_mulL, nI_Lmul, pk_sub, nI_subL, nI_Lsub, nI_inc, nI_clampL, Nat.add_sub_cancel, pz_wi_else, pz_wl_else, vu_eq, vu_ne, pz_wi_gc, pz_wi_ga, pz_wi_gn, pz_wi_gl, pz_wi_gr, pz_wi_same, pz_wi_X, pz_wl_gc, pz_wl_ga, pz_wl_gn, pz_wl_gi, pz_wl_gr, pz_wl_same, pz_wl_X, pz_wr_gc, pz_wr_ga, pz_wr_gn, pz_wr_gi, pz_wr_gl, pz_wr_same, pz_wr_X, b1'])
        exact po_ret (k M' s e)
      · first
        | exact absurd q2 (by decide)
        | exact absurd trivial q2
        | exact q2.elim
        | (exfalso; (try simp (disch := omega) only [nI_ltI, nI_leI, nI_eq, nI_ltL, nI_leL, nI_eqL, nI_Llt, nI_Lle, nI_Leq, nI_eqm, nI_meq, nI_ltm, nI_lem, nI_mlt, nI_mle, lg0, lgl, lgg, lgle, lgge, Int32.not_lt, Int32.not_le, Int64.not_lt, Int64.not_le, not_false_eq_true, not_true_eq_false, Decidable.not_not, ge_iff_le, gt_iff_lt] at q2) <;> omega)
        | exact absurd q2 (by with_reducible assumption)
        | exact absurd (by with_reducible assumption) q2
        | exact absurd (Decidable.not_not.mp q2) (by with_reducible assumption)
        | exact absurd (by with_reducible assumption) (Int32.not_le.mpr q2)
        | exact absurd (by with_reducible assumption) (Int32.not_lt.mpr q2)
    · skip
      refine pw_blk (mi := mz_129) (b := bz_129_2) rfl rfl ?_
      simp only [bz_129_2, pz_cut_t, pz_cut_f, pz_cut_n, pv_gt, pv_ts, pv_tn, ev_ild2, ev_ald0, ev_eld0, ev_gf1_2, ev_gf8_0, ev_ic_ge, pz_wi_gc, pz_wi_ga, pz_wi_gn, pz_wi_gl, pz_wi_gr, pz_wi_same, pz_wi_X, pz_wl_gc, pz_wl_ga, pz_wl_gn, pz_wl_gi, pz_wl_gr, pz_wl_same, pz_wl_X, pz_wr_gc, pz_wr_ga, pz_wr_gn, pz_wr_gi, pz_wr_gl, pz_wr_same, pz_wr_X, so_39 hS', sr_39_0 hS', so_4 hS', b1']
      (try simp (disch := omega) only [nI_clamp, pz_in_nI2, pz_in_nI2L, pv_gt, nI_add, nI_addL, nI_Ladd, pk_mul, nI_mulL, nI_Lmul, pk_sub, nI_subL, nI_Lsub, nI_inc, nI_clampL, Nat.add_sub_cancel, pz_wi_else, pz_wl_else, vu_eq, vu_ne, pz_wi_gc, pz_wi_ga, pz_wi_gn, pz_wi_gl, pz_wi_gr, pz_wi_same, pz_wi_X, pz_wl_gc, pz_wl_ga, pz_wl_gn, pz_wl_gi, pz_wl_gr, pz_wl_same, pz_wl_X, pz_wr_gc, pz_wr_ga, pz_wr_gn, pz_wr_gi, pz_wr_gl, pz_wr_same, pz_wr_X, b1'])
      refine po_brP (fun q2 => ?_) (fun q2 => ?_)
      · first
        | exact absurd q2 (by decide)
        | exact absurd trivial q2
        | exact q2.elim
        | (exfalso; (try simp (disch := omega) only [nI_ltI, nI_leI, nI_eq, nI_ltL, nI_leL, nI_eqL, nI_Llt, nI_Lle, nI_Leq, nI_eqm, nI_meq, nI_ltm, nI_lem, nI_mlt, nI_mle, lg0, lgl, lgg, lgle, lgge, Int32.not_lt, Int32.not_le, Int64.not_lt, Int64.not_le, not_false_eq_true, not_true_eq_false, Decidable.not_not, ge_iff_le, gt_iff_lt] at q2) <;> omega)
        | exact absurd q2 (by with_reducible assumption)
        | exact absurd (by with_reducible assumption) q2
        | exact absurd (Decidable.not_not.mp q2) (by with_reducible assumption)
        | exact absurd (by with_reducible assumption) (Int32.not_le.mpr q2)
        | exact absurd (by with_reducible assumption) (Int32.not_lt.mpr q2)
      · skip
        (try simp (disch := omega) only [nI_ltI, nI_leI, nI_eq, nI_ltL, nI_leL, nI_eqL, nI_Llt, nI_Lle, nI_Leq, nI_eqm, nI_meq, nI_ltm, nI_lem, nI_mlt, nI_mle, lg0, lgl, lgg, lgle, lgge, Int32.not_lt, Int32.not_le, Int64.not_lt, Int64.not_le, not_false_eq_true, not_true_eq_false, Decidable.not_not, ge_iff_le, gt_iff_lt] at q2)
        refine pw_blk (mi := mz_129) (b := bz_129_13) rfl rfl ?_
        simp only [bz_129_13, pz_cut_t, pz_cut_f, pz_cut_n, pv_gt, pv_ts, pv_tn, ev_ald0, ev_eld0, ev_ild2, ev_ald1, ev_eld1, ev_cv2_1, pz_wi_gc, pz_wi_ga, pz_wi_gn, pz_wi_gl, pz_wi_gr, pz_wi_same, pz_wi_X, pz_wl_gc, pz_wl_ga, pz_wl_gn, pz_wl_gi, pz_wl_gr, pz_wl_same, pz_wl_X, pz_wr_gc, pz_wr_ga, pz_wr_gn, pz_wr_gi, pz_wr_gl, pz_wr_same, pz_wr_X, so_39 hS', b1']
        (try simp (disch := omega) only [nI_clamp, pz_in_nI2, pz_in_nI2L, pv_gt, nI_add, nI_addL, nI_Ladd, pk_mul, nI_mulL, nI_Lmul, pk_sub, nI_subL, nI_Lsub, nI_inc, nI_clampL, Nat.add_sub_cancel, pz_wi_else, pz_wl_else, vu_eq, vu_ne, pz_wi_gc, pz_wi_ga, pz_wi_gn, pz_wi_gl, pz_wi_gr, pz_wi_same, pz_wi_X, pz_wl_gc, pz_wl_ga, pz_wl_gn, pz_wl_gi, pz_wl_gr, pz_wl_same, pz_wl_X, pz_wr_gc, pz_wr_ga, pz_wr_gn, pz_wr_gi, pz_wr_gl, pz_wr_same, pz_wr_X, b1'])
        (try refine po_gP (Nat.le_of_ble_eq_true rfl) ?_)
        refine po_call (by omega) (m_weigh hS' (hF.fr (s.i (by decide)) (s.i (by decide)) (s.i (by decide))) hB (by omega) (by rw [s.i (k := 17) (by decide)]; exact hcr) (by rw [s.i (k := 17) (by decide)]; exact hwk) (h := h) (by rw [s.i (by simp; omega)]; exact hh) (by rw [s.a]; exact hka) (by rw [s.n]; exact hkn) hk2 (fun M2 s2 w1 w2 w3 => ?_))
        refine pw_blk (mi := mz_129) (b := bz_129_19) rfl rfl ?_
        simp only [bz_129_19, pz_cut_t, pz_cut_f, pz_cut_n, pv_gt, pv_ts, pv_tn, ev_inc2n, ev_inc2i, ev_inc2r, ev_inc2e, ev_goto, pz_wi_gc, pz_wi_ga, pz_wi_gn, pz_wi_gl, pz_wi_gr, pz_wi_same, pz_wi_X, pz_wl_gc, pz_wl_ga, pz_wl_gn, pz_wl_gi, pz_wl_gr, pz_wl_same, pz_wl_X, pz_wr_gc, pz_wr_ga, pz_wr_gn, pz_wr_gi, pz_wr_gl, pz_wr_same, pz_wr_X, b1']
        (try simp (disch := omega) only [nI_clamp, pz_in_nI2, pz_in_nI2L, pv_gt, nI_add, nI_addL, nI_Ladd, pk_mul, nI_mulL, nI_Lmul, pk_sub, nI_subL, nI_Lsub, nI_inc, nI_clampL, Nat.add_sub_cancel, pz_wi_else, pz_wl_else, vu_eq, vu_ne, pz_wi_gc, pz_wi_ga, pz_wi_gn, pz_wi_gl, pz_wi_gr, pz_wi_same, pz_wi_X, pz_wl_gc, pz_wl_ga, pz_wl_gn, pz_wl_gi, pz_wl_gr, pz_wl_same, pz_wl_X, pz_wr_gc, pz_wr_ga, pz_wr_gn, pz_wr_gi, pz_wr_gl, pz_wr_same, pz_wr_X, b1'])
        refine po_go ?_
        refine ih (i + 1) (by omega) (by omega) M2 (s.tr s2 (by decide)) (fun i' hi' => ?_)
        by_cases q : i' = i
        · rw [q]; exact w1
        · obtain ⟨a1, a2, a3⟩ := e i' (by omega)
          obtain ⟨c1, c2⟩ := w2 i' q
          have hc := cnt_lt24 (al := al) (i := i') B (by omega)
          exact ⟨c1.trans a1, c2.trans a2, fun k hk => (w3 _ (by omega)).trans (a3 k hk)⟩
  refine pm_ent (L := [some (.ref 39), some (.ref hk), none]) rfl (Nat.le_of_ble_eq_true rfl) ?_
  refine pw_blk (mi := mz_129) (b := bz_129_0) rfl rfl ?_
  simp only [bz_129_0, pz_cut_t, pz_cut_f, pz_cut_n, pv_gt, pv_ts, pv_tn, ev_ic0, ev_ist2n, ev_ist2i, ev_ist2r, ev_ist2e, ev_ist2l, ev_nil, pz_wi_gc, pz_wi_ga, pz_wi_gn, pz_wi_gl, pz_wi_gr, pz_wi_same, pz_wi_X, pz_wl_gc, pz_wl_ga, pz_wl_gn, pz_wl_gi, pz_wl_gr, pz_wl_same, pz_wl_X, pz_wr_gc, pz_wr_ga, pz_wr_gn, pz_wr_gi, pz_wr_gl, pz_wr_same, pz_wr_X]
  (try simp (disch := omega) only [nI_clamp, pz_in_nI2, pz_in_nI2L, pv_gt, nI_add, nI_addL, nI_Ladd, pk_mul, nI_mulL, nI_Lmul, pk_sub, nI_subL, nI_Lsub, nI_inc, nI_clampL, Nat.add_sub_cancel, pz_wi_else, pz_wl_else, vu_eq, vu_ne, pz_wi_gc, pz_wi_ga, pz_wi_gn, pz_wi_gl, pz_wi_gr, pz_wi_same, pz_wi_X, pz_wl_gc, pz_wl_ga, pz_wl_gn, pz_wl_gi, pz_wl_gr, pz_wl_same, pz_wl_X, pz_wr_gc, pz_wr_ga, pz_wr_gn, pz_wr_gi, pz_wr_gl, pz_wr_same, pz_wr_X])
  refine po_go ?_
  exact key 0 (by omega) M sm.rf (fun i' hi' => absurd hi' (by omega))
theorem m_spread (hd : 2 ≤ d) {al : Nat → Nat → Nat} {cr wk er B i nw nx : Nat} {h : Nat → Int32} {dr : Nat → Option Nat} {mk : Nat → Bool} {its all : Int64} {q : LL × LL} (hS : SH M) (nn : isNN M nw nx) (hF : RFa M al B) (hW : isW M al cr wk B i h) (b1 : gi M 4 0 = nI B) (hB : B ≤ 24) (hi : i < B) (hdo : gi M 46 i = oI (dr i)) (her : gi M 17 5 = nI er) (he : er ≤ 24) (hD : ∀ d, dr i = some d → i ≤ d ∧ d < 24) (hall : gl M nw i = all) (hT : agN 24 (gl M nx) q.1) (hs : agN 5 (gl M 47) q.2) (k : ∀ M', sm [nx, 47] M M' → agN 24 (gl M' nx) (spS al cr wk er B h dr mk i its (all - its) q).1 → agN 5 (gl M' 47) (spS al cr wk er B h dr mk i its (all - its) q).2 → Q (none, M')) : pm d 209 [.ref 39, .int (nI i), .long its, .int (bI (mk i))] M Q := by
  have hlen := cnt_lt24 (al := al) B hi
  obtain ⟨n1, n2, n3⟩ := id nn
  obtain ⟨⟨na, nn24⟩, fa, fn⟩ := nn.f hS
  have hx : nx = 48 ∨ nx = 49 := by rcases n3 with ⟨-, e⟩ | ⟨-, e⟩ <;> omega
  obtain ⟨w44, w45, w43⟩ := hW
  obtain ⟨c40, c41⟩ := hF i hi
  have fr : ∀ M', sm [nx, 47] M M' → SH M' ∧ isNN M' nw nx ∧ gi M' 4 0 = nI B ∧ gi M' 40 = gi M 40 ∧ gi M' 41 = gi M 41 ∧ gi M' 43 = gi M 43 ∧ gi M' 44 = gi M 44 ∧ gi M' 45 = gi M 45 := by
    intro M' s
    refine ⟨hS.sm s, nn.sm s, ?_, ?_, ?_, ?_, ?_, ?_⟩
    · rw [s.i (k := 4) (by simp; omega)]; exact b1
    · exact s.i (by simp; omega)
    · exact s.i (by simp; omega)
    · exact s.i (by simp; omega)
    · exact s.i (by simp; omega)
    · exact s.i (by simp; omega)
  have fin : ∀ M' q', sm [nx, 47] M M' → agN 24 (gl M' nx) q'.1 → agN 5 (gl M' 47) q'.2 → q' = (if mk i = true then haS dr er i (its + (all - its) * (stp wk (h i)).toInt64 / 1000) q else xpU B (lkG al B i) (xsq (shr al cr B i h) (1000 - stp wk (h i))) (all - its) (haS dr er i (its + (all - its) * (stp wk (h i)).toInt64 / 1000) q) (cnt (pj al i) B)) → pw d 209 (109, [some (.ref 39), some (.int (nI i)), none, none, some (.int (bI (mk i))), some (.long (all - its)), none, none, none, none, none], [], M') Q := by
    intro M' q' s hT' hs' hq'
    obtain ⟨hS', nn', b1', f40, f41, f43, f44, f45⟩ := fr M' s
    have hon : (if mk i = true then 1000 - gi M' 44 i else gi M' 45 i) = onN al cr wk B i h (mk i) := by
      rw [f44, f45, w44, w45]
      rfl
    refine pw_blk (mi := mz_209) (b := bz_209_109) rfl rfl ?_
    simp only [bz_209_109, pz_cut_t, pz_cut_f, pz_cut_n, pv_gt, pv_ts, pv_tn, ev_ald0, ev_eld0, ev_ild1, ev_ic1, ev_iadd, ev_lld5, ev_ild4, ev_cv2_1, pz_wi_gc, pz_wi_ga, pz_wi_gn, pz_wi_gl, pz_wi_gr, pz_wi_same, pz_wi_X, pz_wl_gc, pz_wl_ga, pz_wl_gn, pz_wl_gi, pz_wl_gr, pz_wl_same, pz_wl_X, pz_wr_gc, pz_wr_ga, pz_wr_gn, pz_wr_gi, pz_wr_gl, pz_wr_same, pz_wr_X, so_39 hS']
    (try simp (disch := omega) only [nI_clamp, pz_in_nI2, pz_in_nI2L, pv_gt, nI_add, nI_addL, nI_Ladd, pk_mul, nI_mulL, nI_Lmul, pk_sub, nI_subL, nI_Lsub, nI_inc, nI_clampL, Nat.add_sub_cancel, pz_wi_else, pz_wl_else, vu_eq, vu_ne, pz_wi_gc, pz_wi_ga, pz_wi_gn, pz_wi_gl, pz_wi_gr, pz_wi_same, pz_wi_X, pz_wl_gc, pz_wl_ga, pz_wl_gn, pz_wl_gi, pz_wl_gr, pz_wl_same, pz_wl_X, pz_wr_gc, pz_wr_ga, pz_wr_gn, pz_wr_gi, pz_wr_gl, pz_wr_same, pz_wr_X])
    (try refine po_gP (Nat.le_of_ble_eq_true rfl) ?_)
    refine po_call (by omega) (m_goesOn hS' (by omega) ?_)
    refine pw_blk (mi := mz_209) (b := bz_209_122) rfl rfl ?_
    simp only [bz_209_122, pz_cut_t, pz_cut_f, pz_cut_n, pv_gt, pv_ts, pv_tn, ev_i2l, ev_lmul, ev_ldl1000, ev_ldiv, ev_cv2_1, pz_wi_gc, pz_wi_ga, pz_wi_gn, pz_wi_gl, pz_wi_gr, pz_wi_same, pz_wi_X, pz_wl_gc, pz_wl_ga, pz_wl_gn, pz_wl_gi, pz_wl_gr, pz_wl_same, pz_wl_X, pz_wr_gc, pz_wr_ga, pz_wr_gn, pz_wr_gi, pz_wr_gl, pz_wr_same, pz_wr_X, so_39 hS', hon, so_39 hS']
    (try simp (disch := omega) only [nI_clamp, pz_in_nI2, pz_in_nI2L, pv_gt, nI_add, nI_addL, nI_Ladd, pk_mul, nI_mulL, nI_Lmul, pk_sub, nI_subL, nI_Lsub, nI_inc, nI_clampL, Nat.add_sub_cancel, pz_wi_else, pz_wl_else, vu_eq, vu_ne, pz_wi_gc, pz_wi_ga, pz_wi_gn, pz_wi_gl, pz_wi_gr, pz_wi_same, pz_wi_X, pz_wl_gc, pz_wl_ga, pz_wl_gn, pz_wl_gi, pz_wl_gr, pz_wl_same, pz_wl_X, pz_wr_gc, pz_wr_ga, pz_wr_gn, pz_wr_gi, pz_wr_gl, pz_wr_same, pz_wr_X, hon, so_39 hS'])
    (try refine po_gP (by first | decide | assumption) ?_)
    (try refine po_gP (Nat.le_of_ble_eq_true rfl) ?_)
    refine po_call (by omega) (m_arrive hS' nn' b1' hB (by omega) hT' hs' (fun M2 s2 t2 u2 => ?_))
    refine pw_blk (mi := mz_209) (b := bz_209_131) rfl rfl ?_
    simp only [bz_209_131, pz_cut_t, pz_cut_f, pz_cut_n, pv_gt, pv_ts, pv_tn, ev_ret, pz_wi_gc, pz_wi_ga, pz_wi_gn, pz_wi_gl, pz_wi_gr, pz_wi_same, pz_wi_X, pz_wl_gc, pz_wl_ga, pz_wl_gn, pz_wl_gi, pz_wl_gr, pz_wl_same, pz_wl_X, pz_wr_gc, pz_wr_ga, pz_wr_gn, pz_wr_gi, pz_wr_gl, pz_wr_same, pz_wr_X]
    (try simp (disch := omega) only [nI_clamp, pz_in_nI2, pz_in_nI2L, pv_gt, nI_add, nI_addL, nI_Ladd, pk_mul, nI_mulL, nI_Lmul, pk_sub, nI_subL, nI_Lsub, nI_inc, nI_clampL, Nat.add_sub_cancel, pz_wi_else, pz_wl_else, vu_eq, vu_ne, pz_wi_gc, pz_wi_ga, pz_wi_gn, pz_wi_gl, pz_wi_gr, pz_wi_same, pz_wi_X, pz_wl_gc, pz_wl_ga, pz_wl_gn, pz_wl_gi, pz_wl_gr, pz_wl_same, pz_wl_X, pz_wr_gc, pz_wr_ga, pz_wr_gn, pz_wr_gi, pz_wr_gl, pz_wr_same, pz_wr_X])
    refine po_ret (k M2 (s.tr s2 (by simp)) ?_ ?_)
    · unfold spS
      rw [← hq']
      exact t2
    · unfold spS
      rw [← hq']
      exact u2
  have key : mk i = false → ∀ j, j ≤ cnt (pj al i) B → ∀ M', sm [nx, 47] M M' → agN 24 (gl M' nx) (xpU B (lkG al B i) (xsq (shr al cr B i h) (1000 - stp wk (h i))) (all - its) (haS dr er i (its + (all - its) * (stp wk (h i)).toInt64 / 1000) q) j).1 → agN 5 (gl M' 47) (xpU B (lkG al B i) (xsq (shr al cr B i h) (1000 - stp wk (h i))) (all - its) (haS dr er i (its + (all - its) * (stp wk (h i)).toInt64 / 1000) q) j).2 → pw d 209 (41, [some (.ref 39), some (.int (nI i)), none, none, some (.int (bI (mk i))), some (.long (all - its)), none, some (.int (nI (i * 24))), some (.int (nI (i * 24 + j))), none, none], [], M') Q := by
    intro hmk
    refine upto (fun j hj ih => ?_)
    intro M' s hT' hs'
    obtain ⟨hS', nn', b1', f40, f41, f43, f44, f45⟩ := fr M' s
    by_cases hjc : j = cnt (pj al i) B
    · subst hjc
      refine pw_blk (mi := mz_209) (b := bz_209_41) rfl rfl ?_
      simp only [bz_209_41, pz_cut_t, pz_cut_f, pz_cut_n, pv_gt, pv_ts, pv_tn, ev_ild8, ev_ild7, ev_ald0, ev_eld0, ev_gf1_2, ev_ild1, ea_iald, ev_iadd, ev_ic_ge, pz_wi_gc, pz_wi_ga, pz_wi_gn, pz_wi_gl, pz_wi_gr, pz_wi_same, pz_wi_X, pz_wl_gc, pz_wl_ga, pz_wl_gn, pz_wl_gi, pz_wl_gr, pz_wl_same, pz_wl_X, pz_wr_gc, pz_wr_ga, pz_wr_gn, pz_wr_gi, pz_wr_gl, pz_wr_same, pz_wr_X, so_39 hS', sr_39_1 hS', sa_40 hS', sn_40 hS', f40, c40, sa_44 hS', sn_44 hS', sa_43 hS', sn_43 hS', sa_47 hS', sn_47 hS', sa_41 hS', sn_41 hS']
      (try simp (disch := omega) only [nI_clamp, pz_in_nI2, pz_in_nI2L, pv_gt, nI_add, nI_addL, nI_Ladd, pk_mul, nI_mulL, nI_Lmul, pk_sub, nI_subL, nI_Lsub, nI_inc, nI_clampL, Nat.add_sub_cancel, pz_wi_else, pz_wl_else, vu_eq, vu_ne, pz_wi_gc, pz_wi_ga, pz_wi_gn, pz_wi_gl, pz_wi_gr, pz_wi_same, pz_wi_X, pz_wl_gc, pz_wl_ga, pz_wl_gn, pz_wl_gi, pz_wl_gr, pz_wl_same, pz_wl_X, pz_wr_gc, pz_wr_ga, pz_wr_gn, pz_wr_gi, pz_wr_gl, pz_wr_same, pz_wr_X, f40, c40])
      (try refine po_gI (by first | exact pz_in_nI (by omega) (by decide) | decide | assumption) ?_)
      refine po_brP (fun q41 => ?_) (fun q41 => ?_)
      · skip
        (try simp (disch := omega) only [nI_ltI, nI_leI, nI_eq, nI_ltL, nI_leL, nI_eqL, nI_Llt, nI_Lle, nI_Leq, nI_eqm, nI_meq, nI_ltm, nI_lem, nI_mlt, nI_mle, lg0, lgl, lgg, lgle, lgge, Int32.not_lt, Int32.not_le, Int64.not_lt, Int64.not_le, not_false_eq_true, not_true_eq_false, Decidable.not_not, ge_iff_le, gt_iff_lt] at q41)
        exact pw_cut (mi := mz_209) (b := bz_209_109) rfl rfl (fin M' _ s hT' hs' (by rw [hmk]; rfl)) rfl
      · first
        | exact absurd q41 (by decide)
        | exact absurd trivial q41
        | exact q41.elim
        | (exfalso; (try simp (disch := omega) only [nI_ltI, nI_leI, nI_eq, nI_ltL, nI_leL, nI_eqL, nI_Llt, nI_Lle, nI_Leq, nI_eqm, nI_meq, nI_ltm, nI_lem, nI_mlt, nI_mle, lg0, lgl, lgg, lgle, lgge, Int32.not_lt, Int32.not_le, Int64.not_lt, Int64.not_le, not_false_eq_true, not_true_eq_false, Decidable.not_not, ge_iff_le, gt_iff_lt] at q41) <;> omega)
        | exact absurd q41 (by with_reducible assumption)
        | exact absurd (by with_reducible assumption) q41
        | exact absurd (Decidable.not_not.mp q41) (by with_reducible assumption)
        | exact absurd (by with_reducible assumption) (Int32.not_le.mpr q41)
        | exact absurd (by with_reducible assumption) (Int32.not_lt.mpr q41)
    · have g1 : i * 24 + j = 24 * i + j := by omega
      have d41' : gi M 41 (i * 24 + j) = nI (lkG al B i j) := by rw [g1]; exact (c41 j (by omega)).1
      have d43' : gi M 43 (i * 24 + j) = xsq (shr al cr B i h) (1000 - stp wk (h i)) j := by rw [g1]; exact w43 j (by omega)
      have hl24 : lkG al B i j < 24 := by have := (lkG_inv (al := al) (i := i) B j (by omega)).2.1; omega
      have hmb : bI (mk i) = 0 := by rw [hmk]; rfl
      refine pw_blk (mi := mz_209) (b := bz_209_41) rfl rfl ?_
      simp only [bz_209_41, pz_cut_t, pz_cut_f, pz_cut_n, pv_gt, pv_ts, pv_tn, ev_ild8, ev_ild7, ev_ald0, ev_eld0, ev_gf1_2, ev_ild1, ea_iald, ev_iadd, ev_ic_ge, pz_wi_gc, pz_wi_ga, pz_wi_gn, pz_wi_gl, pz_wi_gr, pz_wi_same, pz_wi_X, pz_wl_gc, pz_wl_ga, pz_wl_gn, pz_wl_gi, pz_wl_gr, pz_wl_same, pz_wl_X, pz_wr_gc, pz_wr_ga, pz_wr_gn, pz_wr_gi, pz_wr_gl, pz_wr_same, pz_wr_X, so_39 hS', sr_39_1 hS', sa_40 hS', sn_40 hS', f40, f41, f43, c40, d41', d43', sa_44 hS', sn_44 hS', sa_43 hS', sn_43 hS', sa_47 hS', sn_47 hS', sa_41 hS', sn_41 hS']
      (try simp (disch := omega) only [nI_clamp, pz_in_nI2, pz_in_nI2L, pv_gt, nI_add, nI_addL, nI_Ladd, pk_mul, nI_mulL, nI_Lmul, pk_sub, nI_subL, nI_Lsub, nI_inc, nI_clampL, Nat.add_sub_cancel, pz_wi_else, pz_wl_else, vu_eq, vu_ne, pz_wi_gc, pz_wi_ga, pz_wi_gn, pz_wi_gl, pz_wi_gr, pz_wi_same, pz_wi_X, pz_wl_gc, pz_wl_ga, pz_wl_gn, pz_wl_gi, pz_wl_gr, pz_wl_same, pz_wl_X, pz_wr_gc, pz_wr_ga, pz_wr_gn, pz_wr_gi, pz_wr_gl, pz_wr_same, pz_wr_X, f40, f41, f43, c40, d41', d43'])
      (try refine po_gI (by first | exact pz_in_nI (by omega) (by decide) | decide | assumption) ?_)
      refine po_brP (fun q41 => ?_) (fun q41 => ?_)
      · first
        | exact absurd q41 (by decide)
        | exact absurd trivial q41
        | exact q41.elim
        | (exfalso; (try simp (disch := omega) only [nI_ltI, nI_leI, nI_eq, nI_ltL, nI_leL, nI_eqL, nI_Llt, nI_Lle, nI_Leq, nI_eqm, nI_meq, nI_ltm, nI_lem, nI_mlt, nI_mle, lg0, lgl, lgg, lgle, lgge, Int32.not_lt, Int32.not_le, Int64.not_lt, Int64.not_le, not_false_eq_true, not_true_eq_false, Decidable.not_not, ge_iff_le, gt_iff_lt] at q41) <;> omega)
        | exact absurd q41 (by with_reducible assumption)
        | exact absurd (by with_reducible assumption) q41
        | exact absurd (Decidable.not_not.mp q41) (by with_reducible assumption)
        | exact absurd (by with_reducible assumption) (Int32.not_le.mpr q41)
        | exact absurd (by with_reducible assumption) (Int32.not_lt.mpr q41)
      · skip
        (try simp (disch := omega) only [nI_ltI, nI_leI, nI_eq, nI_ltL, nI_leL, nI_eqL, nI_Llt, nI_Lle, nI_Leq, nI_eqm, nI_meq, nI_ltm, nI_lem, nI_mlt, nI_mle, lg0, lgl, lgg, lgle, lgge, Int32.not_lt, Int32.not_le, Int64.not_lt, Int64.not_le, not_false_eq_true, not_true_eq_false, Decidable.not_not, ge_iff_le, gt_iff_lt] at q41)
        refine pw_blk (mi := mz_209) (b := bz_209_55) rfl rfl ?_
        simp only [bz_209_55, pz_cut_t, pz_cut_f, pz_cut_n, pv_gt, pv_ts, pv_tn, ev_ild4, ev_ifne, pz_wi_gc, pz_wi_ga, pz_wi_gn, pz_wi_gl, pz_wi_gr, pz_wi_same, pz_wi_X, pz_wl_gc, pz_wl_ga, pz_wl_gn, pz_wl_gi, pz_wl_gr, pz_wl_same, pz_wl_X, pz_wr_gc, pz_wr_ga, pz_wr_gn, pz_wr_gi, pz_wr_gl, pz_wr_same, pz_wr_X, f40, f41, f43, c40, d41', d43']
        (try simp (disch := omega) only [nI_clamp, pz_in_nI2, pz_in_nI2L, pv_gt, nI_add, nI_addL, nI_Ladd, pk_mul, nI_mulL, nI_Lmul, pk_sub, nI_subL, nI_Lsub, nI_inc, nI_clampL, Nat.add_sub_cancel, pz_wi_else, pz_wl_else, vu_eq, vu_ne, pz_wi_gc, pz_wi_ga, pz_wi_gn, pz_wi_gl, pz_wi_gr, pz_wi_same, pz_wi_X, pz_wl_gc, pz_wl_ga, pz_wl_gn, pz_wl_gi, pz_wl_gr, pz_wl_same, pz_wl_X, pz_wr_gc, pz_wr_ga, pz_wr_gn, pz_wr_gi, pz_wr_gl, pz_wr_same, pz_wr_X, f40, f41, f43, c40, d41', d43'])
        refine po_brP (fun q55 => ?_) (fun q55 => ?_)
        · first
          | exact absurd q55 (by decide)
          | exact absurd trivial q55
          | exact q55.elim
          | (exfalso; (try simp (disch := omega) only [nI_ltI, nI_leI, nI_eq, nI_ltL, nI_leL, nI_eqL, nI_Llt, nI_Lle, nI_Leq, nI_eqm, nI_meq, nI_ltm, nI_lem, nI_mlt, nI_mle, lg0, lgl, lgg, lgle, lgge, Int32.not_lt, Int32.not_le, Int64.not_lt, Int64.not_le, not_false_eq_true, not_true_eq_false, Decidable.not_not, ge_iff_le, gt_iff_lt] at q55) <;> omega)
          | exact absurd q55 (by with_reducible assumption)
          | exact absurd (by with_reducible assumption) q55
          | exact absurd (Decidable.not_not.mp q55) (by with_reducible assumption)
          | exact absurd (by with_reducible assumption) (Int32.not_le.mpr q55)
          | exact absurd (by with_reducible assumption) (Int32.not_lt.mpr q55)
        · skip
          (try simp (disch := omega) only [nI_ltI, nI_leI, nI_eq, nI_ltL, nI_leL, nI_eqL, nI_Llt, nI_Lle, nI_Leq, nI_eqm, nI_meq, nI_ltm, nI_lem, nI_mlt, nI_mle, lg0, lgl, lgg, lgle, lgge, Int32.not_lt, Int32.not_le, Int64.not_lt, Int64.not_le, not_false_eq_true, not_true_eq_false, Decidable.not_not, ge_iff_le, gt_iff_lt] at q55)
          refine pw_blk (mi := mz_209) (b := bz_209_60) rfl rfl ?_
          simp only [bz_209_60, pz_cut_t, pz_cut_f, pz_cut_n, pv_gt, pv_ts, pv_tn, ev_lld5, ev_ald0, ev_eld0, ev_gf1_2, ev_ild8, ea_iald, ev_i2l, ev_lmul, ev_ldl1000, ev_ldiv, ev_lst9n, ev_lst9i, ev_lst9r, ev_lst9e, ev_lst9l, ev_ic4, ev_dup2, ea_lald, ev_lld9, ev_ladd, ea_last, ev_ic1, ev_iadd, ev_cv2_1, pz_wi_gc, pz_wi_ga, pz_wi_gn, pz_wi_gl, pz_wi_gr, pz_wi_same, pz_wi_X, pz_wl_gc, pz_wl_ga, pz_wl_gn, pz_wl_gi, pz_wl_gr, pz_wl_same, pz_wl_X, pz_wr_gc, pz_wr_ga, pz_wr_gn, pz_wr_gi, pz_wr_gl, pz_wr_same, pz_wr_X, so_39 hS', sr_39_4 hS', sa_43 hS', sn_43 hS', sr_39_8 hS', sa_47 hS', sn_47 hS', sr_39_2 hS', sa_41 hS', sn_41 hS', f40, f41, f43, c40, d41', d43', sa_44 hS', sn_44 hS', sa_40 hS', sn_40 hS']
          (try simp (disch := omega) only [nI_clamp, pz_in_nI2, pz_in_nI2L, pv_gt, nI_add, nI_addL, nI_Ladd, pk_mul, nI_mulL, nI_Lmul, pk_sub, nI_subL, nI_Lsub, nI_inc, nI_clampL, Nat.add_sub_cancel, pz_wi_else, pz_wl_else, vu_eq, vu_ne, pz_wi_gc, pz_wi_ga, pz_wi_gn, pz_wi_gl, pz_wi_gr, pz_wi_same, pz_wi_X, pz_wl_gc, pz_wl_ga, pz_wl_gn, pz_wl_gi, pz_wl_gr, pz_wl_same, pz_wl_X, pz_wr_gc, pz_wr_ga, pz_wr_gn, pz_wr_gi, pz_wr_gl, pz_wr_same, pz_wr_X, f40, f41, f43, c40, d41', d43'])
          (try refine po_gI (by first | exact pz_in_nI (by omega) (by decide) | decide | assumption) ?_)
          (try refine po_gP (by first | decide | assumption) ?_)
          (try refine po_gI (by first | exact pz_in_nI (by omega) (by decide) | decide | assumption) ?_)
          (try refine po_gI (by first | exact pz_in_nI (by omega) (by decide) | decide | assumption) ?_)
          (try refine po_gI (by first | exact pz_in_nI (by omega) (by decide) | decide | assumption) ?_)
          (try refine po_gP (Nat.le_of_ble_eq_true rfl) ?_)
          refine po_call (by omega) (m_arrive (hS'.sm (K := [47]) (sm.wl sm.rf (by simp))) (nn'.sm (K := [47]) (sm.wl sm.rf (by simp))) b1' hB (by omega) (q := ((xpU B (lkG al B i) (xsq (shr al cr B i h) (1000 - stp wk (h i))) (all - its) (haS dr er i (its + (all - its) * (stp wk (h i)).toInt64 / 1000) q) j).1, adL (xpU B (lkG al B i) (xsq (shr al cr B i h) (1000 - stp wk (h i))) (all - its) (haS dr er i (its + (all - its) * (stp wk (h i)).toInt64 / 1000) q) j).2 4 ((all - its) * (xsq (shr al cr B i h) (1000 - stp wk (h i)) j).toInt64 / 1000))) (by rw [pz_wl_else (by omega)]; exact hT') (by rw [pz_wl_same]; exact hs'.ad (by decide)) (fun M2 s2 t2 u2 => ?_))
          refine pw_blk (mi := mz_209) (b := bz_209_103) rfl rfl ?_
          simp only [bz_209_103, pz_cut_t, pz_cut_f, pz_cut_n, pv_gt, pv_ts, pv_tn, ev_inc8n, ev_inc8i, ev_inc8r, ev_inc8e, ev_goto, pz_wi_gc, pz_wi_ga, pz_wi_gn, pz_wi_gl, pz_wi_gr, pz_wi_same, pz_wi_X, pz_wl_gc, pz_wl_ga, pz_wl_gn, pz_wl_gi, pz_wl_gr, pz_wl_same, pz_wl_X, pz_wr_gc, pz_wr_ga, pz_wr_gn, pz_wr_gi, pz_wr_gl, pz_wr_same, pz_wr_X, f40, f41, f43, c40, d41', d43']
          (try simp (disch := omega) only [nI_clamp, pz_in_nI2, pz_in_nI2L, pv_gt, nI_add, nI_addL, nI_Ladd, pk_mul, nI_mulL, nI_Lmul, pk_sub, nI_subL, nI_Lsub, nI_inc, nI_clampL, Nat.add_sub_cancel, pz_wi_else, pz_wl_else, vu_eq, vu_ne, pz_wi_gc, pz_wi_ga, pz_wi_gn, pz_wi_gl, pz_wi_gr, pz_wi_same, pz_wi_X, pz_wl_gc, pz_wl_ga, pz_wl_gn, pz_wl_gi, pz_wl_gr, pz_wl_same, pz_wl_X, pz_wr_gc, pz_wr_ga, pz_wr_gn, pz_wr_gi, pz_wr_gl, pz_wr_same, pz_wr_X, f40, f41, f43, c40, d41', d43'])
          refine po_go ?_
          exact pw_cut (mi := mz_209) (b := bz_209_41) rfl rfl (ih (j + 1) (by omega) (by omega) M2 (s.tr ((sm.mono (K := [47]) (sm.wl sm.rf (by simp)) (by simp)).tr s2 (by simp) : sm [nx, 47] M' M2) (by simp)) t2 u2) rfl
  have keyT : mk i = true → ∀ M', sm [nx, 47] M M' → agN 24 (gl M' nx) (haS dr er i (its + (all - its) * (stp wk (h i)).toInt64 / 1000) q).1 → agN 5 (gl M' 47) (haS dr er i (its + (all - its) * (stp wk (h i)).toInt64 / 1000) q).2 → pw d 209 (41, [some (.ref 39), some (.int (nI i)), none, none, some (.int (bI (mk i))), some (.long (all - its)), none, some (.int (nI (i * 24))), some (.int (nI (i * 24 + 0))), none, none], [], M') Q := by
    intro hmk M' s hT' hs'
    obtain ⟨hS', nn', b1', f40, f41, f43, f44, f45⟩ := fr M' s
    have hmb : ¬ bI (mk i) = 0 := by rw [hmk]; decide
    refine pw_blk (mi := mz_209) (b := bz_209_41) rfl rfl ?_
    simp only [bz_209_41, pz_cut_t, pz_cut_f, pz_cut_n, pv_gt, pv_ts, pv_tn, ev_ild8, ev_ild7, ev_ald0, ev_eld0, ev_gf1_2, ev_ild1, ea_iald, ev_iadd, ev_ic_ge, pz_wi_gc, pz_wi_ga, pz_wi_gn, pz_wi_gl, pz_wi_gr, pz_wi_same, pz_wi_X, pz_wl_gc, pz_wl_ga, pz_wl_gn, pz_wl_gi, pz_wl_gr, pz_wl_same, pz_wl_X, pz_wr_gc, pz_wr_ga, pz_wr_gn, pz_wr_gi, pz_wr_gl, pz_wr_same, pz_wr_X, so_39 hS', sr_39_1 hS', sa_40 hS', sn_40 hS', f40, c40, sa_44 hS', sn_44 hS', sa_43 hS', sn_43 hS', sa_47 hS', sn_47 hS', sa_41 hS', sn_41 hS']
    (try simp (disch := omega) only [nI_clamp, pz_in_nI2, pz_in_nI2L, pv_gt, nI_add, nI_addL, nI_Ladd, pk_mul, nI_mulL, nI_Lmul, pk_sub, nI_subL, nI_Lsub, nI_inc, nI_clampL, Nat.add_sub_cancel, pz_wi_else, pz_wl_else, vu_eq, vu_ne, pz_wi_gc, pz_wi_ga, pz_wi_gn, pz_wi_gl, pz_wi_gr, pz_wi_same, pz_wi_X, pz_wl_gc, pz_wl_ga, pz_wl_gn, pz_wl_gi, pz_wl_gr, pz_wl_same, pz_wl_X, pz_wr_gc, pz_wr_ga, pz_wr_gn, pz_wr_gi, pz_wr_gl, pz_wr_same, pz_wr_X, f40, c40])
    (try refine po_gI (by first | exact pz_in_nI (by omega) (by decide) | decide | assumption) ?_)
    refine po_brP (fun q41 => ?_) (fun q41 => ?_)
    · first
      | exact absurd q41 (by decide)
      | exact absurd trivial q41
      | exact q41.elim
      | (exfalso; (try simp (disch := omega) only [nI_ltI, nI_leI, nI_eq, nI_ltL, nI_leL, nI_eqL, nI_Llt, nI_Lle, nI_Leq, nI_eqm, nI_meq, nI_ltm, nI_lem, nI_mlt, nI_mle, lg0, lgl, lgg, lgle, lgge, Int32.not_lt, Int32.not_le, Int64.not_lt, Int64.not_le, not_false_eq_true, not_true_eq_false, Decidable.not_not, ge_iff_le, gt_iff_lt] at q41) <;> omega)
      | exact absurd q41 (by with_reducible assumption)
      | exact absurd (by with_reducible assumption) q41
      | exact absurd (Decidable.not_not.mp q41) (by with_reducible assumption)
      | exact absurd (by with_reducible assumption) (Int32.not_le.mpr q41)
      | exact absurd (by with_reducible assumption) (Int32.not_lt.mpr q41)
      | skip
        (try simp (disch := omega) only [nI_ltI, nI_leI, nI_eq, nI_ltL, nI_leL, nI_eqL, nI_Llt, nI_Lle, nI_Leq, nI_eqm, nI_meq, nI_ltm, nI_lem, nI_mlt, nI_mle, lg0, lgl, lgg, lgle, lgge, Int32.not_lt, Int32.not_le, Int64.not_lt, Int64.not_le, not_false_eq_true, not_true_eq_false, Decidable.not_not, ge_iff_le, gt_iff_lt] at q41)
        exact pw_cut (mi := mz_209) (b := bz_209_109) rfl rfl (fin M' _ s hT' hs' (by rw [if_pos hmk])) rfl
    · first
      | exact absurd q41 (by decide)
      | exact absurd trivial q41
      | exact q41.elim
      | (exfalso; (try simp (disch := omega) only [nI_ltI, nI_leI, nI_eq, nI_ltL, nI_leL, nI_eqL, nI_Llt, nI_Lle, nI_Leq, nI_eqm, nI_meq, nI_ltm, nI_lem, nI_mlt, nI_mle, lg0, lgl, lgg, lgle, lgge, Int32.not_lt, Int32.not_le, Int64.not_lt, Int64.not_le, not_false_eq_true, not_true_eq_false, Decidable.not_not, ge_iff_le, gt_iff_lt] at q41) <;> omega)
      | exact absurd q41 (by with_reducible assumption)
      | exact absurd (by with_reducible assumption) q41
      | exact absurd (Decidable.not_not.mp q41) (by with_reducible assumption)
      | exact absurd (by with_reducible assumption) (Int32.not_le.mpr q41)
      | exact absurd (by with_reducible assumption) (Int32.not_lt.mpr q41)
      | skip
        (try simp (disch := omega) only [nI_ltI, nI_leI, nI_eq, nI_ltL, nI_leL, nI_eqL, nI_Llt, nI_Lle, nI_Leq, nI_eqm, nI_meq, nI_ltm, nI_lem, nI_mlt, nI_mle, lg0, lgl, lgg, lgle, lgge, Int32.not_lt, Int32.not_le, Int64.not_lt, Int64.not_le, not_false_eq_true, not_true_eq_false, Decidable.not_not, ge_iff_le, gt_iff_lt] at q41)
        refine pw_blk (mi := mz_209) (b := bz_209_55) rfl rfl ?_
        simp only [bz_209_55, pz_cut_t, pz_cut_f, pz_cut_n, pv_gt, pv_ts, pv_tn, ev_ild4, ev_ifne, pz_wi_gc, pz_wi_ga, pz_wi_gn, pz_wi_gl, pz_wi_gr, pz_wi_same, pz_wi_X, pz_wl_gc, pz_wl_ga, pz_wl_gn, pz_wl_gi, pz_wl_gr, pz_wl_same, pz_wl_X, pz_wr_gc, pz_wr_ga, pz_wr_gn, pz_wr_gi, pz_wr_gl, pz_wr_same, pz_wr_X, f40, c40]
        (try simp (disch := omega) only [nI_clamp, pz_in_nI2, pz_in_nI2L, pv_gt, nI_add, nI_addL, nI_Ladd, pk_mul, nI_mulL, nI_Lmul, pk_sub, nI_subL, nI_Lsub, nI_inc, nI_clampL, Nat.add_sub_cancel, pz_wi_else, pz_wl_else, vu_eq, vu_ne, pz_wi_gc, pz_wi_ga, pz_wi_gn, pz_wi_gl, pz_wi_gr, pz_wi_same, pz_wi_X, pz_wl_gc, pz_wl_ga, pz_wl_gn, pz_wl_gi, pz_wl_gr, pz_wl_same, pz_wl_X, pz_wr_gc, pz_wr_ga, pz_wr_gn, pz_wr_gi, pz_wr_gl, pz_wr_same, pz_wr_X, f40, c40])
        refine po_brP (fun q55 => ?_) (fun q55 => ?_)
        · skip
          (try simp (disch := omega) only [nI_ltI, nI_leI, nI_eq, nI_ltL, nI_leL, nI_eqL, nI_Llt, nI_Lle, nI_Leq, nI_eqm, nI_meq, nI_ltm, nI_lem, nI_mlt, nI_mle, lg0, lgl, lgg, lgle, lgge, Int32.not_lt, Int32.not_le, Int64.not_lt, Int64.not_le, not_false_eq_true, not_true_eq_false, Decidable.not_not, ge_iff_le, gt_iff_lt] at q55)
          exact pw_cut (mi := mz_209) (b := bz_209_109) rfl rfl (fin M' _ s hT' hs' (by rw [if_pos hmk])) rfl
        · first
          | exact absurd q55 (by decide)
          | exact absurd trivial q55
          | exact q55.elim
          | (exfalso; (try simp (disch := omega) only [nI_ltI, nI_leI, nI_eq, nI_ltL, nI_leL, nI_eqL, nI_Llt, nI_Lle, nI_Leq, nI_eqm, nI_meq, nI_ltm, nI_lem, nI_mlt, nI_mle, lg0, lgl, lgg, lgle, lgge, Int32.not_lt, Int32.not_le, Int64.not_lt, Int64.not_le, not_false_eq_true, not_true_eq_false, Decidable.not_not, ge_iff_le, gt_iff_lt] at q55) <;> omega)
          | exact absurd q55 (by with_reducible assumption)
          | exact absurd (by with_reducible assumption) q55
          | exact absurd (Decidable.not_not.mp q55) (by with_reducible assumption)
          | exact absurd (by with_reducible assumption) (Int32.not_le.mpr q55)
          | exact absurd (by with_reducible assumption) (Int32.not_lt.mpr q55)
  refine pm_ent (L := [some (.ref 39), some (.int (nI i)), some (.long its), none, some (.int (bI (mk i))), none, none, none, none, none, none]) rfl (Nat.le_of_ble_eq_true rfl) ?_
  refine pw_blk (mi := mz_209) (b := bz_209_0) rfl rfl ?_
  simp only [bz_209_0, pz_cut_t, pz_cut_f, pz_cut_n, pv_gt, pv_ts, pv_tn, ev_ald0, ev_eld0, ev_gf1_2, ev_ild1, ea_lald, ev_lld2, ev_lsub, ev_lst5n, ev_lst5i, ev_lst5r, ev_lst5e, ev_lst5l, ev_lld5, ea_iald, ev_i2l, ev_lmul, ev_ldl1000, ev_ldiv, ev_ladd, ev_cv2_1, pz_wi_gc, pz_wi_ga, pz_wi_gn, pz_wi_gl, pz_wi_gr, pz_wi_same, pz_wi_X, pz_wl_gc, pz_wl_ga, pz_wl_gn, pz_wl_gi, pz_wl_gr, pz_wl_same, pz_wl_X, pz_wr_gc, pz_wr_ga, pz_wr_gn, pz_wr_gi, pz_wr_gl, pz_wr_same, pz_wr_X, so_39 hS, sr_39_5 hS, sa_44 hS, sn_44 hS, n1, na, nn24, hall, w44, sa_40 hS, sn_40 hS, sa_43 hS, sn_43 hS, sa_47 hS, sn_47 hS, sa_41 hS, sn_41 hS]
  (try simp (disch := omega) only [nI_clamp, pz_in_nI2, pz_in_nI2L, pv_gt, nI_add, nI_addL, nI_Ladd, pk_mul, nI_mulL, nI_Lmul, pk_sub, nI_subL, nI_Lsub, nI_inc, nI_clampL, Nat.add_sub_cancel, pz_wi_else, pz_wl_else, vu_eq, vu_ne, pz_wi_gc, pz_wi_ga, pz_wi_gn, pz_wi_gl, pz_wi_gr, pz_wi_same, pz_wi_X, pz_wl_gc, pz_wl_ga, pz_wl_gn, pz_wl_gi, pz_wl_gr, pz_wl_same, pz_wl_X, pz_wr_gc, pz_wr_ga, pz_wr_gn, pz_wr_gi, pz_wr_gl, pz_wr_same, pz_wr_X, n1, na, nn24, hall, w44])
  (try refine po_gI (by first | exact pz_in_nI (by omega) (by decide) | exact pz_in_nI (by omega) (by decide) | decide | assumption) ?_)
  (try refine po_gI (by first | exact pz_in_nI (by omega) (by decide) | exact pz_in_nI (by omega) (by decide) | decide | assumption) ?_)
  (try refine po_gP (by first | decide | exact pz_in_nI (by omega) (by decide) | assumption) ?_)
  (try refine po_gP (Nat.le_of_ble_eq_true rfl) ?_)
  refine po_call (by omega) (m_halt (by omega) hS nn hdo her he (by omega) hD hT hs (fun M2 s2 t2 u2 => ?_))
  refine pw_blk (mi := mz_209) (b := bz_209_31) rfl rfl ?_
  simp only [bz_209_31, pz_cut_t, pz_cut_f, pz_cut_n, pv_gt, pv_ts, pv_tn, ev_ild1, ev_bp24, ev_imul, ev_ist7n, ev_ist7i, ev_ist7r, ev_ist7e, ev_ist7l, ev_ild7, ev_ist8n, ev_ist8i, ev_ist8r, ev_ist8e, ev_ist8l, ev_nil, pz_wi_gc, pz_wi_ga, pz_wi_gn, pz_wi_gl, pz_wi_gr, pz_wi_same, pz_wi_X, pz_wl_gc, pz_wl_ga, pz_wl_gn, pz_wl_gi, pz_wl_gr, pz_wl_same, pz_wl_X, pz_wr_gc, pz_wr_ga, pz_wr_gn, pz_wr_gi, pz_wr_gl, pz_wr_same, pz_wr_X, n1, na, nn24, hall, w44]
  (try simp (disch := omega) only [nI_clamp, pz_in_nI2, pz_in_nI2L, pv_gt, nI_add, nI_addL, nI_Ladd, pk_mul, nI_mulL, nI_Lmul, pk_sub, nI_subL, nI_Lsub, nI_inc, nI_clampL, Nat.add_sub_cancel, pz_wi_else, pz_wl_else, vu_eq, vu_ne, pz_wi_gc, pz_wi_ga, pz_wi_gn, pz_wi_gl, pz_wi_gr, pz_wi_same, pz_wi_X, pz_wl_gc, pz_wl_ga, pz_wl_gn, pz_wl_gi, pz_wl_gr, pz_wl_same, pz_wl_X, pz_wr_gc, pz_wr_ga, pz_wr_gn, pz_wr_gi, pz_wr_gl, pz_wr_same, pz_wr_X, n1, na, nn24, hall, w44])
  refine po_go ?_
  cases hmk : mk i with
  | false =>
    rw [hmk] at key
    exact pw_cut (mi := mz_209) (b := bz_209_41) rfl rfl (key rfl 0 (by omega) M2 s2 t2 u2) rfl
  | true =>
    rw [hmk] at keyT
    exact pw_cut (mi := mz_209) (b := bz_209_41) rfl rfl (keyT rfl M2 s2 t2 u2) rfl
end SEND
