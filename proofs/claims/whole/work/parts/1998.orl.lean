/-! ===== rules ===== -/
section ORL
variable {d : Nat} {M M' : pz_M} {Q : Option Value × pz_M → Prop} {T : Nat → Nat} {L B N : Nat} {nm : Nat → List Nat}
theorem r_rules {b : Nat} (hd : 40 ≤ d) (hS : SH M) (hb : b ≤ 1) (hB : B ≤ 24) (hN : N ≤ 6) (e38 : gi M 120 38 = nI b) (eB : gi M 123 b = nI B) (eP : gi M 126 b = nI N) (hm : ∀ i, i < N → gl M 139 (6 * b + i) = p8 (nm i) ∧ isWd (nm i)) (eL : gi M 120 2 = nI L) (hL : L ≤ 1500) (hb1 : ∀ i, i < L → gi M 121 i = sb_b (T i) ∧ T i < 256) (kL : 600 < L → Q (some (.int (-2)), M)) (k0 : ¬ 600 < L → ∀ f, (raF T L B N nm 7 (rr0 T L)).1.1 = .inl f → ∀ M', rff M M' → SH M' → gi M' 120 2 = 0 → gi M' 120 4 = nI f.1 → gi M' 120 5 = nI f.2 → Q (some (.int (-1)), M')) (k1 : ¬ 600 < L → ∀ t, (raF T L B N nm 7 (rr0 T L)).1.1 = .inr t → okX (raF T L B N nm 7 (rr0 T L)) → wfX L B N (raF T L B N nm 7 (rr0 T L)) → ∀ M', SH M' → rgN M M' (raF T L B N nm 7 (rr0 T L)) → Q (some (.int (nI (raF T L B N nm 7 (rr0 T L)).2.1)), M')) : pm d 44 [.ref 120] M Q := by
  have hT : ∀ i, i < L → T i < 256 := fun i hi => (hb1 i hi).2
  by_cases h6 : 600 < L
  · have kk := kL h6
    refine pm_ent (L := [some (.ref 120), none]) rfl (Nat.le_of_ble_eq_true rfl) ?_
    refine pw_blk (mi := mz_44) (b := bz_44_0) rfl rfl ?_
    simp only [bz_44_0, pz_cut_t, pz_cut_f, pz_cut_n, pv_gt, pv_ts, pv_tn, ev_ald0, ev_eld0, ev_gf11_0, ev_sp600, ev_ic_le, pz_wi_gc, pz_wi_ga, pz_wi_gn, pz_wi_gl, pz_wi_gr, pz_wi_same, pz_wi_X, pz_wl_gc, pz_wl_ga, pz_wl_gn, pz_wl_gi, pz_wl_gr, pz_wl_same, pz_wl_X, pz_wr_gc, pz_wr_ga, pz_wr_gn, pz_wr_gi, pz_wr_gl, pz_wr_same, pz_wr_X, so_120 hS, eL]
    (try simp (disch := omega) only [nI_clamp, pz_in_nI2, pz_in_nI2L, pv_gt, nI_add, nI_addL, nI_Ladd, pk_mul, nI_mulL, nI_Lmul, pk_sub, nI_subL, nI_Lsub, nI_inc, nI_clampL, Nat.add_sub_cancel, pz_wi_else, pz_wl_else, vu_eq, vu_ne, pz_wi_gc, pz_wi_ga, pz_wi_gn, pz_wi_gl, pz_wi_gr, pz_wi_same, pz_wi_X, pz_wl_gc, pz_wl_ga, pz_wl_gn, pz_wl_gi, pz_wl_gr, pz_wl_same, pz_wl_X, pz_wr_gc, pz_wr_ga, pz_wr_gn, pz_wr_gi, pz_wr_gl, pz_wr_same, pz_wr_X, eL])
    refine po_brP (fun q0 => ?_) (fun q0 => ?_)
    · first
      | exact absurd q0 (by decide)
      | exact absurd trivial q0
      | exact q0.elim
      | (exfalso; (try simp (disch := omega) only [nI_ltI, nI_leI, nI_eq, nI_ltL, nI_leL, nI_eqL, nI_Llt, nI_Lle, nI_Leq, nI_eqm, nI_meq, nI_ltm, nI_lem, nI_mlt, nI_mle, lg0, lgl, lgg, lgle, lgge, Int32.not_lt, Int32.not_le, Int64.not_lt, Int64.not_le, not_false_eq_true, not_true_eq_false, Decidable.not_not, ge_iff_le, gt_iff_lt] at q0) <;> omega)
      | exact absurd q0 (by with_reducible assumption)
      | exact absurd (by with_reducible assumption) q0
      | exact absurd (Decidable.not_not.mp q0) (by with_reducible assumption)
      | exact absurd (by with_reducible assumption) (Int32.not_le.mpr q0)
      | exact absurd (by with_reducible assumption) (Int32.not_lt.mpr q0)
    · skip
      (try simp (disch := omega) only [nI_ltI, nI_leI, nI_eq, nI_ltL, nI_leL, nI_eqL, nI_Llt, nI_Lle, nI_Leq, nI_eqm, nI_meq, nI_ltm, nI_lem, nI_mlt, nI_mle, lg0, lgl, lgg, lgle, lgge, Int32.not_lt, Int32.not_le, Int64.not_lt, Int64.not_le, not_false_eq_true, not_true_eq_false, Decidable.not_not, ge_iff_le, gt_iff_lt] at q0)
      refine pw_blk (mi := mz_44) (b := bz_44_10) rfl rfl ?_
      simp only [bz_44_10, pz_cut_t, pz_cut_f, pz_cut_n, pv_gt, pv_ts, pv_tn, ev_bpm2, ev_iret0, pz_wi_gc, pz_wi_ga, pz_wi_gn, pz_wi_gl, pz_wi_gr, pz_wi_same, pz_wi_X, pz_wl_gc, pz_wl_ga, pz_wl_gn, pz_wl_gi, pz_wl_gr, pz_wl_same, pz_wl_X, pz_wr_gc, pz_wr_ga, pz_wr_gn, pz_wr_gi, pz_wr_gl, pz_wr_same, pz_wr_X, eL]
      (try simp (disch := omega) only [nI_clamp, pz_in_nI2, pz_in_nI2L, pv_gt, nI_add, nI_addL, nI_Ladd, pk_mul, nI_mulL, nI_Lmul, pk_sub, nI_subL, nI_Lsub, nI_inc, nI_clampL, Nat.add_sub_cancel, pz_wi_else, pz_wl_else, vu_eq, vu_ne, pz_wi_gc, pz_wi_ga, pz_wi_gn, pz_wi_gl, pz_wi_gr, pz_wi_same, pz_wi_X, pz_wl_gc, pz_wl_ga, pz_wl_gn, pz_wl_gi, pz_wl_gr, pz_wl_same, pz_wl_X, pz_wr_gc, pz_wr_ga, pz_wr_gn, pz_wr_gi, pz_wr_gl, pz_wr_same, pz_wr_X, eL])
      exact po_ret kk
  · have k0' := k0 h6
    have k1' := k1 h6
    generalize hR : raF T L B N nm 7 (rr0 T L) = R at k0' k1'
    have hO := nxS_ok (ru := true) (T := T) (L := L) (t := tk0) ⟨Nat.zero_le _, Nat.zero_le _, by decide, fun z => absurd z (by decide), fun z => absurd z (by decide), fun z => absurd z (by decide), fun z => absurd z (by decide)⟩ hT
    have hP := nxt_P (ru := true) (T := T) (L := L) (p := 0)
    -- ends of the loop
    have outB : ∀ f M', R.1.1 = .inl f → rff M M' → gi M' 120 2 = 0 → rSt M' true T L (.inl f) → ¬ gi M' 120 4 = 0 → pw d 44 (47, [some (.ref 120), none], [], M') Q := by
      intro f M' eR fr g2 s n4
      have hS' := s.1.1
      have z : gi M' 120 4 = nI f.1 ∧ gi M' 120 5 = nI f.2 := by
        rcases s.2.2 with z | z
        · exact ⟨z.1, z.2.1⟩
        · exact absurd z.2.1 n4
      have kk := k0' f eR M' fr hS' g2 z.1 z.2
      refine pw_blk (mi := mz_44) (b := bz_44_47) rfl rfl ?_
      simp only [bz_44_47, pz_cut_t, pz_cut_f, pz_cut_n, pv_gt, pv_ts, pv_tn, ev_ald0, ev_eld0, ev_cv0_11, pz_wi_gc, pz_wi_ga, pz_wi_gn, pz_wi_gl, pz_wi_gr, pz_wi_same, pz_wi_X, pz_wl_gc, pz_wl_ga, pz_wl_gn, pz_wl_gi, pz_wl_gr, pz_wl_same, pz_wl_X, pz_wr_gc, pz_wr_ga, pz_wr_gn, pz_wr_gi, pz_wr_gl, pz_wr_same, pz_wr_X, so_120 hS']
      (try simp (disch := omega) only [nI_clamp, pz_in_nI2, pz_in_nI2L, pv_gt, nI_add, nI_addL, nI_Ladd, pk_mul, nI_mulL, nI_Lmul, pk_sub, nI_subL, nI_Lsub, nI_inc, nI_clampL, Nat.add_sub_cancel, pz_wi_else, pz_wl_else, vu_eq, vu_ne, pz_wi_gc, pz_wi_ga, pz_wi_gn, pz_wi_gl, pz_wi_gr, pz_wi_same, pz_wi_X, pz_wl_gc, pz_wl_ga, pz_wl_gn, pz_wl_gi, pz_wl_gr, pz_wl_same, pz_wl_X, pz_wr_gc, pz_wr_ga, pz_wr_gn, pz_wr_gi, pz_wr_gl, pz_wr_same, pz_wr_X])
      (try refine po_gP (Nat.le_of_ble_eq_true rfl) ?_)
      refine po_call (by omega) (r_isGd hS' (fun y => absurd y n4) (fun _ => ?_))
      refine pw_blk (mi := mz_44) (b := bz_44_51) rfl rfl ?_
      simp only [bz_44_51, pz_cut_t, pz_cut_f, pz_cut_n, pv_gt, pv_ts, pv_tn, ev_ifeq, pz_wi_gc, pz_wi_ga, pz_wi_gn, pz_wi_gl, pz_wi_gr, pz_wi_same, pz_wi_X, pz_wl_gc, pz_wl_ga, pz_wl_gn, pz_wl_gi, pz_wl_gr, pz_wl_same, pz_wl_X, pz_wr_gc, pz_wr_ga, pz_wr_gn, pz_wr_gi, pz_wr_gl, pz_wr_same, pz_wr_X]
      (try simp (disch := omega) only [nI_clamp, pz_in_nI2, pz_in_nI2L, pv_gt, nI_add, nI_addL, nI_Ladd, pk_mul, nI_mulL, nI_Lmul, pk_sub, nI_subL, nI_Lsub, nI_inc, nI_clampL, Nat.add_sub_cancel, pz_wi_else, pz_wl_else, vu_eq, vu_ne, pz_wi_gc, pz_wi_ga, pz_wi_gn, pz_wi_gl, pz_wi_gr, pz_wi_same, pz_wi_X, pz_wl_gc, pz_wl_ga, pz_wl_gn, pz_wl_gi, pz_wl_gr, pz_wl_same, pz_wl_X, pz_wr_gc, pz_wr_ga, pz_wr_gn, pz_wr_gi, pz_wr_gl, pz_wr_same, pz_wr_X])
      refine po_brP (fun q51 => ?_) (fun q51 => ?_)
      · skip
        (try simp (disch := omega) only [nI_ltI, nI_leI, nI_eq, nI_ltL, nI_leL, nI_eqL, nI_Llt, nI_Lle, nI_Leq, nI_eqm, nI_meq, nI_ltm, nI_lem, nI_mlt, nI_mle, lg0, lgl, lgg, lgle, lgge, Int32.not_lt, Int32.not_le, Int64.not_lt, Int64.not_le, not_false_eq_true, not_true_eq_false, Decidable.not_not, ge_iff_le, gt_iff_lt] at q51)
        refine pw_blk (mi := mz_44) (b := bz_44_68) rfl rfl ?_
        simp only [bz_44_68, pz_cut_t, pz_cut_f, pz_cut_n, pv_gt, pv_ts, pv_tn, ev_ald0, ev_eld0, ev_cv0_11, pz_wi_gc, pz_wi_ga, pz_wi_gn, pz_wi_gl, pz_wi_gr, pz_wi_same, pz_wi_X, pz_wl_gc, pz_wl_ga, pz_wl_gn, pz_wl_gi, pz_wl_gr, pz_wl_same, pz_wl_X, pz_wr_gc, pz_wr_ga, pz_wr_gn, pz_wr_gi, pz_wr_gl, pz_wr_same, pz_wr_X, so_120 hS']
        (try simp (disch := omega) only [nI_clamp, pz_in_nI2, pz_in_nI2L, pv_gt, nI_add, nI_addL, nI_Ladd, pk_mul, nI_mulL, nI_Lmul, pk_sub, nI_subL, nI_Lsub, nI_inc, nI_clampL, Nat.add_sub_cancel, pz_wi_else, pz_wl_else, vu_eq, vu_ne, pz_wi_gc, pz_wi_ga, pz_wi_gn, pz_wi_gl, pz_wi_gr, pz_wi_same, pz_wi_X, pz_wl_gc, pz_wl_ga, pz_wl_gn, pz_wl_gi, pz_wl_gr, pz_wl_same, pz_wl_X, pz_wr_gc, pz_wr_ga, pz_wr_gn, pz_wr_gi, pz_wr_gl, pz_wr_same, pz_wr_X])
        (try refine po_gP (Nat.le_of_ble_eq_true rfl) ?_)
        refine po_call (by omega) (r_isGd hS' (fun y => absurd y n4) (fun _ => ?_))
        refine pw_blk (mi := mz_44) (b := bz_44_72) rfl rfl ?_
        simp only [bz_44_72, pz_cut_t, pz_cut_f, pz_cut_n, pv_gt, pv_ts, pv_tn, ev_ifne, pz_wi_gc, pz_wi_ga, pz_wi_gn, pz_wi_gl, pz_wi_gr, pz_wi_same, pz_wi_X, pz_wl_gc, pz_wl_ga, pz_wl_gn, pz_wl_gi, pz_wl_gr, pz_wl_same, pz_wl_X, pz_wr_gc, pz_wr_ga, pz_wr_gn, pz_wr_gi, pz_wr_gl, pz_wr_same, pz_wr_X]
        (try simp (disch := omega) only [nI_clamp, pz_in_nI2, pz_in_nI2L, pv_gt, nI_add, nI_addL, nI_Ladd, pk_mul, nI_mulL, nI_Lmul, pk_sub, nI_subL, nI_Lsub, nI_inc, nI_clampL, Nat.add_sub_cancel, pz_wi_else, pz_wl_else, vu_eq, vu_ne, pz_wi_gc, pz_wi_ga, pz_wi_gn, pz_wi_gl, pz_wi_gr, pz_wi_same, pz_wi_X, pz_wl_gc, pz_wl_ga, pz_wl_gn, pz_wl_gi, pz_wl_gr, pz_wl_same, pz_wl_X, pz_wr_gc, pz_wr_ga, pz_wr_gn, pz_wr_gi, pz_wr_gl, pz_wr_same, pz_wr_X])
        refine po_brP (fun q72 => ?_) (fun q72 => ?_)
        · first
          | exact absurd q72 (by decide)
          | exact absurd trivial q72
          | exact q72.elim
          | (exfalso; (try simp (disch := omega) only [nI_ltI, nI_leI, nI_eq, nI_ltL, nI_leL, nI_eqL, nI_Llt, nI_Lle, nI_Leq, nI_eqm, nI_meq, nI_ltm, nI_lem, nI_mlt, nI_mle, lg0, lgl, lgg, lgle, lgge, Int32.not_lt, Int32.not_le, Int64.not_lt, Int64.not_le, not_false_eq_true, not_true_eq_false, Decidable.not_not, ge_iff_le, gt_iff_lt] at q72) <;> omega)
          | exact absurd q72 (by with_reducible assumption)
          | exact absurd (by with_reducible assumption) q72
          | exact absurd (Decidable.not_not.mp q72) (by with_reducible assumption)
          | exact absurd (by with_reducible assumption) (Int32.not_le.mpr q72)
          | exact absurd (by with_reducible assumption) (Int32.not_lt.mpr q72)
        · skip
          (try simp (disch := omega) only [nI_ltI, nI_leI, nI_eq, nI_ltL, nI_leL, nI_eqL, nI_Llt, nI_Lle, nI_Leq, nI_eqm, nI_meq, nI_ltm, nI_lem, nI_mlt, nI_mle, lg0, lgl, lgg, lgle, lgge, Int32.not_lt, Int32.not_le, Int64.not_lt, Int64.not_le, not_false_eq_true, not_true_eq_false, Decidable.not_not, ge_iff_le, gt_iff_lt] at q72)
          refine pw_blk (mi := mz_44) (b := bz_44_75) rfl rfl ?_
          simp only [bz_44_75, pz_cut_t, pz_cut_f, pz_cut_n, pv_gt, pv_ts, pv_tn, ev_icm1, ev_iret0, pz_wi_gc, pz_wi_ga, pz_wi_gn, pz_wi_gl, pz_wi_gr, pz_wi_same, pz_wi_X, pz_wl_gc, pz_wl_ga, pz_wl_gn, pz_wl_gi, pz_wl_gr, pz_wl_same, pz_wl_X, pz_wr_gc, pz_wr_ga, pz_wr_gn, pz_wr_gi, pz_wr_gl, pz_wr_same, pz_wr_X]
          (try simp (disch := omega) only [nI_clamp, pz_in_nI2, pz_in_nI2L, pv_gt, nI_add, nI_addL, nI_Ladd, pk_mul, nI_mulL, nI_Lmul, pk_sub, nI_subL, nI_Lsub, nI_inc, nI_clampL, Nat.add_sub_cancel, pz_wi_else, pz_wl_else, vu_eq, vu_ne, pz_wi_gc, pz_wi_ga, pz_wi_gn, pz_wi_gl, pz_wi_gr, pz_wi_same, pz_wi_X, pz_wl_gc, pz_wl_ga, pz_wl_gn, pz_wl_gi, pz_wl_gr, pz_wl_same, pz_wl_X, pz_wr_gc, pz_wr_ga, pz_wr_gn, pz_wr_gi, pz_wr_gl, pz_wr_same, pz_wr_X])
          exact po_ret kk
      · first
        | exact absurd q51 (by decide)
        | exact absurd trivial q51
        | exact q51.elim
        | (exfalso; (try simp (disch := omega) only [nI_ltI, nI_leI, nI_eq, nI_ltL, nI_leL, nI_eqL, nI_Llt, nI_Lle, nI_Leq, nI_eqm, nI_meq, nI_ltm, nI_lem, nI_mlt, nI_mle, lg0, lgl, lgg, lgle, lgge, Int32.not_lt, Int32.not_le, Int64.not_lt, Int64.not_le, not_false_eq_true, not_true_eq_false, Decidable.not_not, ge_iff_le, gt_iff_lt] at q51) <;> omega)
        | exact absurd q51 (by with_reducible assumption)
        | exact absurd (by with_reducible assumption) q51
        | exact absurd (Decidable.not_not.mp q51) (by with_reducible assumption)
        | exact absurd (by with_reducible assumption) (Int32.not_le.mpr q51)
        | exact absurd (by with_reducible assumption) (Int32.not_lt.mpr q51)
    have outG : ∀ t (x : Rr) M', R = x → x.1.1 = .inr t → rff M M' → gi M' 120 2 = 0 → rSt M' true T L (.inr t) → t.1 = 0 → rN M' x → okX x → wfX L B N x → pw d 44 (47, [some (.ref 120), none], [], M') Q := by
      intro t x M' eR et fr g2 s t0 n o w
      have hS' := s.1.1
      obtain ⟨-, -, z4, z5, ⟨-, -, z8, -⟩, -⟩ := id s
      rw [t0] at z8
      rw [eR] at k1'
      have kk := l_take (d := d) (Q := Q) (M0 := M) fr hS' g2 z4 z5 n o w (fun M2 h2 n2 => k1' t et o w M2 h2 n2)
      have z8' : gi M' 120 8 = 0 := z8
      refine pw_blk (mi := mz_44) (b := bz_44_47) rfl rfl ?_
      simp only [bz_44_47, pz_cut_t, pz_cut_f, pz_cut_n, pv_gt, pv_ts, pv_tn, ev_ald0, ev_eld0, ev_cv0_11, pz_wi_gc, pz_wi_ga, pz_wi_gn, pz_wi_gl, pz_wi_gr, pz_wi_same, pz_wi_X, pz_wl_gc, pz_wl_ga, pz_wl_gn, pz_wl_gi, pz_wl_gr, pz_wl_same, pz_wl_X, pz_wr_gc, pz_wr_ga, pz_wr_gn, pz_wr_gi, pz_wr_gl, pz_wr_same, pz_wr_X, so_120 hS', z8']
      (try simp (disch := omega) only [nI_clamp, pz_in_nI2, pz_in_nI2L, pv_gt, nI_add, nI_addL, nI_Ladd, pk_mul, nI_mulL, nI_Lmul, pk_sub, nI_subL, nI_Lsub, nI_inc, nI_clampL, Nat.add_sub_cancel, pz_wi_else, pz_wl_else, vu_eq, vu_ne, pz_wi_gc, pz_wi_ga, pz_wi_gn, pz_wi_gl, pz_wi_gr, pz_wi_same, pz_wi_X, pz_wl_gc, pz_wl_ga, pz_wl_gn, pz_wl_gi, pz_wl_gr, pz_wl_same, pz_wl_X, pz_wr_gc, pz_wr_ga, pz_wr_gn, pz_wr_gi, pz_wr_gl, pz_wr_same, pz_wr_X, z8'])
      (try refine po_gP (Nat.le_of_ble_eq_true rfl) ?_)
      refine po_call (by omega) (r_isGd hS' (fun _ => ?_) (fun y => absurd z4 y))
      refine pw_blk (mi := mz_44) (b := bz_44_51) rfl rfl ?_
      simp only [bz_44_51, pz_cut_t, pz_cut_f, pz_cut_n, pv_gt, pv_ts, pv_tn, ev_ifeq, pz_wi_gc, pz_wi_ga, pz_wi_gn, pz_wi_gl, pz_wi_gr, pz_wi_same, pz_wi_X, pz_wl_gc, pz_wl_ga, pz_wl_gn, pz_wl_gi, pz_wl_gr, pz_wl_same, pz_wl_X, pz_wr_gc, pz_wr_ga, pz_wr_gn, pz_wr_gi, pz_wr_gl, pz_wr_same, pz_wr_X, z8']
      (try simp (disch := omega) only [nI_clamp, pz_in_nI2, pz_in_nI2L, pv_gt, nI_add, nI_addL, nI_Ladd, pk_mul, nI_mulL, nI_Lmul, pk_sub, nI_subL, nI_Lsub, nI_inc, nI_clampL, Nat.add_sub_cancel, pz_wi_else, pz_wl_else, vu_eq, vu_ne, pz_wi_gc, pz_wi_ga, pz_wi_gn, pz_wi_gl, pz_wi_gr, pz_wi_same, pz_wi_X, pz_wl_gc, pz_wl_ga, pz_wl_gn, pz_wl_gi, pz_wl_gr, pz_wl_same, pz_wl_X, pz_wr_gc, pz_wr_ga, pz_wr_gn, pz_wr_gi, pz_wr_gl, pz_wr_same, pz_wr_X, z8'])
      refine po_brP (fun q51 => ?_) (fun q51 => ?_)
      · first
        | exact absurd q51 (by decide)
        | exact absurd trivial q51
        | exact q51.elim
        | (exfalso; (try simp (disch := omega) only [nI_ltI, nI_leI, nI_eq, nI_ltL, nI_leL, nI_eqL, nI_Llt, nI_Lle, nI_Leq, nI_eqm, nI_meq, nI_ltm, nI_lem, nI_mlt, nI_mle, lg0, lgl, lgg, lgle, lgge, Int32.not_lt, Int32.not_le, Int64.not_lt, Int64.not_le, not_false_eq_true, not_true_eq_false, Decidable.not_not, ge_iff_le, gt_iff_lt] at q51) <;> omega)
        | exact absurd q51 (by with_reducible assumption)
        | exact absurd (by with_reducible assumption) q51
        | exact absurd (Decidable.not_not.mp q51) (by with_reducible assumption)
        | exact absurd (by with_reducible assumption) (Int32.not_le.mpr q51)
        | exact absurd (by with_reducible assumption) (Int32.not_lt.mpr q51)
      · skip
        (try simp (disch := omega) only [nI_ltI, nI_leI, nI_eq, nI_ltL, nI_leL, nI_eqL, nI_Llt, nI_Lle, nI_Leq, nI_eqm, nI_meq, nI_ltm, nI_lem, nI_mlt, nI_mle, lg0, lgl, lgg, lgle, lgge, Int32.not_lt, Int32.not_le, Int64.not_lt, Int64.not_le, not_false_eq_true, not_true_eq_false, Decidable.not_not, ge_iff_le, gt_iff_lt] at q51)
        refine pw_blk (mi := mz_44) (b := bz_44_54) rfl rfl ?_
        simp only [bz_44_54, pz_cut_t, pz_cut_f, pz_cut_n, pv_gt, pv_ts, pv_tn, ev_ald0, ev_eld0, ev_gf11_0, ev_ifeq, pz_wi_gc, pz_wi_ga, pz_wi_gn, pz_wi_gl, pz_wi_gr, pz_wi_same, pz_wi_X, pz_wl_gc, pz_wl_ga, pz_wl_gn, pz_wl_gi, pz_wl_gr, pz_wl_same, pz_wl_X, pz_wr_gc, pz_wr_ga, pz_wr_gn, pz_wr_gi, pz_wr_gl, pz_wr_same, pz_wr_X, so_120 hS', z8']
        (try simp (disch := omega) only [nI_clamp, pz_in_nI2, pz_in_nI2L, pv_gt, nI_add, nI_addL, nI_Ladd, pk_mul, nI_mulL, nI_Lmul, pk_sub, nI_subL, nI_Lsub, nI_inc, nI_clampL, Nat.add_sub_cancel, pz_wi_else, pz_wl_else, vu_eq, vu_ne, pz_wi_gc, pz_wi_ga, pz_wi_gn, pz_wi_gl, pz_wi_gr, pz_wi_same, pz_wi_X, pz_wl_gc, pz_wl_ga, pz_wl_gn, pz_wl_gi, pz_wl_gr, pz_wl_same, pz_wl_X, pz_wr_gc, pz_wr_ga, pz_wr_gn, pz_wr_gi, pz_wr_gl, pz_wr_same, pz_wr_X, z8'])
        refine po_brP (fun q54 => ?_) (fun q54 => ?_)
        · skip
          (try simp (disch := omega) only [nI_ltI, nI_leI, nI_eq, nI_ltL, nI_leL, nI_eqL, nI_Llt, nI_Lle, nI_Leq, nI_eqm, nI_meq, nI_ltm, nI_lem, nI_mlt, nI_mle, lg0, lgl, lgg, lgle, lgge, Int32.not_lt, Int32.not_le, Int64.not_lt, Int64.not_le, not_false_eq_true, not_true_eq_false, Decidable.not_not, ge_iff_le, gt_iff_lt] at q54)
          refine pw_blk (mi := mz_44) (b := bz_44_68) rfl rfl ?_
          simp only [bz_44_68, pz_cut_t, pz_cut_f, pz_cut_n, pv_gt, pv_ts, pv_tn, ev_ald0, ev_eld0, ev_cv0_11, pz_wi_gc, pz_wi_ga, pz_wi_gn, pz_wi_gl, pz_wi_gr, pz_wi_same, pz_wi_X, pz_wl_gc, pz_wl_ga, pz_wl_gn, pz_wl_gi, pz_wl_gr, pz_wl_same, pz_wl_X, pz_wr_gc, pz_wr_ga, pz_wr_gn, pz_wr_gi, pz_wr_gl, pz_wr_same, pz_wr_X, so_120 hS', z8']
          (try simp (disch := omega) only [nI_clamp, pz_in_nI2, pz_in_nI2L, pv_gt, nI_add, nI_addL, nI_Ladd, pk_mul, nI_mulL, nI_Lmul, pk_sub, nI_subL, nI_Lsub, nI_inc, nI_clampL, Nat.add_sub_cancel, pz_wi_else, pz_wl_else, vu_eq, vu_ne, pz_wi_gc, pz_wi_ga, pz_wi_gn, pz_wi_gl, pz_wi_gr, pz_wi_same, pz_wi_X, pz_wl_gc, pz_wl_ga, pz_wl_gn, pz_wl_gi, pz_wl_gr, pz_wl_same, pz_wl_X, pz_wr_gc, pz_wr_ga, pz_wr_gn, pz_wr_gi, pz_wr_gl, pz_wr_same, pz_wr_X, z8'])
          (try refine po_gP (Nat.le_of_ble_eq_true rfl) ?_)
          refine po_call (by omega) (r_isGd hS' (fun _ => ?_) (fun y => absurd z4 y))
          refine pw_blk (mi := mz_44) (b := bz_44_72) rfl rfl ?_
          simp only [bz_44_72, pz_cut_t, pz_cut_f, pz_cut_n, pv_gt, pv_ts, pv_tn, ev_ifne, pz_wi_gc, pz_wi_ga, pz_wi_gn, pz_wi_gl, pz_wi_gr, pz_wi_same, pz_wi_X, pz_wl_gc, pz_wl_ga, pz_wl_gn, pz_wl_gi, pz_wl_gr, pz_wl_same, pz_wl_X, pz_wr_gc, pz_wr_ga, pz_wr_gn, pz_wr_gi, pz_wr_gl, pz_wr_same, pz_wr_X, z8']
          (try simp (disch := omega) only [nI_clamp, pz_in_nI2, pz_in_nI2L, pv_gt, nI_add, nI_addL, nI_Ladd, pk_mul, nI_mulL, nI_Lmul, pk_sub, nI_subL, nI_Lsub, nI_inc, nI_clampL, Nat.add_sub_cancel, pz_wi_else, pz_wl_else, vu_eq, vu_ne, pz_wi_gc, pz_wi_ga, pz_wi_gn, pz_wi_gl, pz_wi_gr, pz_wi_same, pz_wi_X, pz_wl_gc, pz_wl_ga, pz_wl_gn, pz_wl_gi, pz_wl_gr, pz_wl_same, pz_wl_X, pz_wr_gc, pz_wr_ga, pz_wr_gn, pz_wr_gi, pz_wr_gl, pz_wr_same, pz_wr_X, z8'])
          refine po_brP (fun q72 => ?_) (fun q72 => ?_)
          · skip
            (try simp (disch := omega) only [nI_ltI, nI_leI, nI_eq, nI_ltL, nI_leL, nI_eqL, nI_Llt, nI_Lle, nI_Leq, nI_eqm, nI_meq, nI_ltm, nI_lem, nI_mlt, nI_mle, lg0, lgl, lgg, lgle, lgge, Int32.not_lt, Int32.not_le, Int64.not_lt, Int64.not_le, not_false_eq_true, not_true_eq_false, Decidable.not_not, ge_iff_le, gt_iff_lt] at q72)
            exact pw_cut (mi := mz_44) (b := bz_44_77) rfl rfl kk rfl
          · first
            | exact absurd q72 (by decide)
            | exact absurd trivial q72
            | exact q72.elim
            | (exfalso; (try simp (disch := omega) only [nI_ltI, nI_leI, nI_eq, nI_ltL, nI_leL, nI_eqL, nI_Llt, nI_Lle, nI_Leq, nI_eqm, nI_meq, nI_ltm, nI_lem, nI_mlt, nI_mle, lg0, lgl, lgg, lgle, lgge, Int32.not_lt, Int32.not_le, Int64.not_lt, Int64.not_le, not_false_eq_true, not_true_eq_false, Decidable.not_not, ge_iff_le, gt_iff_lt] at q72) <;> omega)
            | exact absurd q72 (by with_reducible assumption)
            | exact absurd (by with_reducible assumption) q72
            | exact absurd (Decidable.not_not.mp q72) (by with_reducible assumption)
            | exact absurd (by with_reducible assumption) (Int32.not_le.mpr q72)
            | exact absurd (by with_reducible assumption) (Int32.not_lt.mpr q72)
        · first
          | exact absurd q54 (by decide)
          | exact absurd trivial q54
          | exact q54.elim
          | (exfalso; (try simp (disch := omega) only [nI_ltI, nI_leI, nI_eq, nI_ltL, nI_leL, nI_eqL, nI_Llt, nI_Lle, nI_Leq, nI_eqm, nI_meq, nI_ltm, nI_lem, nI_mlt, nI_mle, lg0, lgl, lgg, lgle, lgge, Int32.not_lt, Int32.not_le, Int64.not_lt, Int64.not_le, not_false_eq_true, not_true_eq_false, Decidable.not_not, ge_iff_le, gt_iff_lt] at q54) <;> omega)
          | exact absurd q54 (by with_reducible assumption)
          | exact absurd (by with_reducible assumption) q54
          | exact absurd (Decidable.not_not.mp q54) (by with_reducible assumption)
          | exact absurd (by with_reducible assumption) (Int32.not_le.mpr q54)
          | exact absurd (by with_reducible assumption) (Int32.not_lt.mpr q54)
    have q38 : ∀ M', rff M M' → gi M' 120 38 = nI b ∧ gi M' 123 b = nI B ∧ gi M' 126 b = nI N ∧ ∀ i, i < N → gl M' 139 (6 * b + i) = p8 (nm i) ∧ isWd (nm i) := fun M' fr => ⟨by rw [fr.2.1 38 (by decide) (by decide) (by decide) (by decide) (by decide) (by decide) (by decide) (by decide) (by decide) (by decide) (by decide) (by decide) (by decide) (by decide) (by decide)]; exact e38, by rw [fr.1.i (by decide)]; exact eB, by rw [fr.1.i (by decide)]; exact eP, by rw [fr.1.l (by decide)]; exact hm⟩
    have y2 : ∀ M1 M2, efy M1 M2 → gi M2 120 2 = gi M1 120 2 := fun M1 M2 f => f.2.1 2 (by decide) (by decide) (by decide) (by decide) (by decide) (by decide) (by decide) (by decide) (by decide) (by decide) (by decide)
    have outP : ∀ f (x : Rr) M', R.1.1 = .inl f → x.1.1 = .inl f → rff M M' → gi M' 120 2 = 0 → rSt M' true T L (.inl f) → pw d 44 (47, [some (.ref 120), none], [], M') Q := by
      intro f x M' eR ex fr g2 s
      by_cases n4 : gi M' 120 4 = 0
      · have hS' := s.1.1
        have e8 : gi M' 120 8 = 1 := by
          rcases s.2.2 with z | z
          · exact absurd n4 (rSt.n4 s.2.1 z.1)
          · exact z.2.2.2.1
        obtain ⟨a1, a2, a3, a4⟩ := q38 M' fr
        have exf : (ruF T L B N nm x).1.1 = .inl f := by
          unfold ruF
          split
          · show flF 2 x.1.1 = _
            rw [ex]; rfl
          · rw [if_neg (by rw [ex]; simp [isWs])]
            show flF 2 x.1.1 = _
            rw [ex]; rfl
        refine pw_blk (mi := mz_44) (b := bz_44_47) rfl rfl ?_
        simp only [bz_44_47, pz_cut_t, pz_cut_f, pz_cut_n, pv_gt, pv_ts, pv_tn, ev_ald0, ev_eld0, ev_cv0_11, pz_wi_gc, pz_wi_ga, pz_wi_gn, pz_wi_gl, pz_wi_gr, pz_wi_same, pz_wi_X, pz_wl_gc, pz_wl_ga, pz_wl_gn, pz_wl_gi, pz_wl_gr, pz_wl_same, pz_wl_X, pz_wr_gc, pz_wr_ga, pz_wr_gn, pz_wr_gi, pz_wr_gl, pz_wr_same, pz_wr_X, so_120 hS', e8]
        (try simp (disch := omega) only [nI_clamp, pz_in_nI2, pz_in_nI2L, pv_gt, nI_add, nI_addL, nI_Ladd, pk_mul, nI_mulL, nI_Lmul, pk_sub, nI_subL, nI_Lsub, nI_inc, nI_clampL, Nat.add_sub_cancel, pz_wi_else, pz_wl_else, vu_eq, vu_ne, pz_wi_gc, pz_wi_ga, pz_wi_gn, pz_wi_gl, pz_wi_gr, pz_wi_same, pz_wi_X, pz_wl_gc, pz_wl_ga, pz_wl_gn, pz_wl_gi, pz_wl_gr, pz_wl_same, pz_wl_X, pz_wr_gc, pz_wr_ga, pz_wr_gn, pz_wr_gi, pz_wr_gl, pz_wr_same, pz_wr_X, e8])
        (try refine po_gP (Nat.le_of_ble_eq_true rfl) ?_)
        refine po_call (by omega) (r_isGd hS' (fun _ => ?_) (fun y => absurd n4 y))
        refine pw_blk (mi := mz_44) (b := bz_44_51) rfl rfl ?_
        simp only [bz_44_51, pz_cut_t, pz_cut_f, pz_cut_n, pv_gt, pv_ts, pv_tn, ev_ifeq, pz_wi_gc, pz_wi_ga, pz_wi_gn, pz_wi_gl, pz_wi_gr, pz_wi_same, pz_wi_X, pz_wl_gc, pz_wl_ga, pz_wl_gn, pz_wl_gi, pz_wl_gr, pz_wl_same, pz_wl_X, pz_wr_gc, pz_wr_ga, pz_wr_gn, pz_wr_gi, pz_wr_gl, pz_wr_same, pz_wr_X, e8]
        (try simp (disch := omega) only [nI_clamp, pz_in_nI2, pz_in_nI2L, pv_gt, nI_add, nI_addL, nI_Ladd, pk_mul, nI_mulL, nI_Lmul, pk_sub, nI_subL, nI_Lsub, nI_inc, nI_clampL, Nat.add_sub_cancel, pz_wi_else, pz_wl_else, vu_eq, vu_ne, pz_wi_gc, pz_wi_ga, pz_wi_gn, pz_wi_gl, pz_wi_gr, pz_wi_same, pz_wi_X, pz_wl_gc, pz_wl_ga, pz_wl_gn, pz_wl_gi, pz_wl_gr, pz_wl_same, pz_wl_X, pz_wr_gc, pz_wr_ga, pz_wr_gn, pz_wr_gi, pz_wr_gl, pz_wr_same, pz_wr_X, e8])
        refine po_brP (fun q51 => ?_) (fun q51 => ?_)
        · first
          | exact absurd q51 (by decide)
          | exact absurd trivial q51
          | exact q51.elim
          | (exfalso; (try simp (disch := omega) only [nI_ltI, nI_leI, nI_eq, nI_ltL, nI_leL, nI_eqL, nI_Llt, nI_Lle, nI_Leq, nI_eqm, nI_meq, nI_ltm, nI_lem, nI_mlt, nI_mle, lg0, lgl, lgg, lgle, lgge, Int32.not_lt, Int32.not_le, Int64.not_lt, Int64.not_le, not_false_eq_true, not_true_eq_false, Decidable.not_not, ge_iff_le, gt_iff_lt] at q51) <;> omega)
          | exact absurd q51 (by with_reducible assumption)
          | exact absurd (by with_reducible assumption) q51
          | exact absurd (Decidable.not_not.mp q51) (by with_reducible assumption)
          | exact absurd (by with_reducible assumption) (Int32.not_le.mpr q51)
          | exact absurd (by with_reducible assumption) (Int32.not_lt.mpr q51)
        · skip
          (try simp (disch := omega) only [nI_ltI, nI_leI, nI_eq, nI_ltL, nI_leL, nI_eqL, nI_Llt, nI_Lle, nI_Leq, nI_eqm, nI_meq, nI_ltm, nI_lem, nI_mlt, nI_mle, lg0, lgl, lgg, lgle, lgge, Int32.not_lt, Int32.not_le, Int64.not_lt, Int64.not_le, not_false_eq_true, not_true_eq_false, Decidable.not_not, ge_iff_le, gt_iff_lt] at q51)
          refine pw_blk (mi := mz_44) (b := bz_44_54) rfl rfl ?_
          simp only [bz_44_54, pz_cut_t, pz_cut_f, pz_cut_n, pv_gt, pv_ts, pv_tn, ev_ald0, ev_eld0, ev_gf11_0, ev_ifeq, pz_wi_gc, pz_wi_ga, pz_wi_gn, pz_wi_gl, pz_wi_gr, pz_wi_same, pz_wi_X, pz_wl_gc, pz_wl_ga, pz_wl_gn, pz_wl_gi, pz_wl_gr, pz_wl_same, pz_wl_X, pz_wr_gc, pz_wr_ga, pz_wr_gn, pz_wr_gi, pz_wr_gl, pz_wr_same, pz_wr_X, so_120 hS', e8]
          (try simp (disch := omega) only [nI_clamp, pz_in_nI2, pz_in_nI2L, pv_gt, nI_add, nI_addL, nI_Ladd, pk_mul, nI_mulL, nI_Lmul, pk_sub, nI_subL, nI_Lsub, nI_inc, nI_clampL, Nat.add_sub_cancel, pz_wi_else, pz_wl_else, vu_eq, vu_ne, pz_wi_gc, pz_wi_ga, pz_wi_gn, pz_wi_gl, pz_wi_gr, pz_wi_same, pz_wi_X, pz_wl_gc, pz_wl_ga, pz_wl_gn, pz_wl_gi, pz_wl_gr, pz_wl_same, pz_wl_X, pz_wr_gc, pz_wr_ga, pz_wr_gn, pz_wr_gi, pz_wr_gl, pz_wr_same, pz_wr_X, e8])
          refine po_brP (fun q54 => ?_) (fun q54 => ?_)
          · first
            | exact absurd q54 (by decide)
            | exact absurd trivial q54
            | exact q54.elim
            | (exfalso; (try simp (disch := omega) only [nI_ltI, nI_leI, nI_eq, nI_ltL, nI_leL, nI_eqL, nI_Llt, nI_Lle, nI_Leq, nI_eqm, nI_meq, nI_ltm, nI_lem, nI_mlt, nI_mle, lg0, lgl, lgg, lgle, lgge, Int32.not_lt, Int32.not_le, Int64.not_lt, Int64.not_le, not_false_eq_true, not_true_eq_false, Decidable.not_not, ge_iff_le, gt_iff_lt] at q54) <;> omega)
            | exact absurd q54 (by with_reducible assumption)
            | exact absurd (by with_reducible assumption) q54
            | exact absurd (Decidable.not_not.mp q54) (by with_reducible assumption)
            | exact absurd (by with_reducible assumption) (Int32.not_le.mpr q54)
            | exact absurd (by with_reducible assumption) (Int32.not_lt.mpr q54)
          · skip
            (try simp (disch := omega) only [nI_ltI, nI_leI, nI_eq, nI_ltL, nI_leL, nI_eqL, nI_Llt, nI_Lle, nI_Leq, nI_eqm, nI_meq, nI_ltm, nI_lem, nI_mlt, nI_mle, lg0, lgl, lgg, lgle, lgge, Int32.not_lt, Int32.not_le, Int64.not_lt, Int64.not_le, not_false_eq_true, not_true_eq_false, Decidable.not_not, ge_iff_le, gt_iff_lt] at q54)
            refine pw_blk (mi := mz_44) (b := bz_44_61) rfl rfl ?_
            simp only [bz_44_61, pz_cut_t, pz_cut_f, pz_cut_n, pv_gt, pv_ts, pv_tn, ev_ald0, ev_eld0, ev_cv0_11, pz_wi_gc, pz_wi_ga, pz_wi_gn, pz_wi_gl, pz_wi_gr, pz_wi_same, pz_wi_X, pz_wl_gc, pz_wl_ga, pz_wl_gn, pz_wl_gi, pz_wl_gr, pz_wl_same, pz_wl_X, pz_wr_gc, pz_wr_ga, pz_wr_gn, pz_wr_gi, pz_wr_gl, pz_wr_same, pz_wr_X, so_120 hS', e8]
            (try simp (disch := omega) only [nI_clamp, pz_in_nI2, pz_in_nI2L, pv_gt, nI_add, nI_addL, nI_Ladd, pk_mul, nI_mulL, nI_Lmul, pk_sub, nI_subL, nI_Lsub, nI_inc, nI_clampL, Nat.add_sub_cancel, pz_wi_else, pz_wl_else, vu_eq, vu_ne, pz_wi_gc, pz_wi_ga, pz_wi_gn, pz_wi_gl, pz_wi_gr, pz_wi_same, pz_wi_X, pz_wl_gc, pz_wl_ga, pz_wl_gn, pz_wl_gi, pz_wl_gr, pz_wl_same, pz_wl_X, pz_wr_gc, pz_wr_ga, pz_wr_gn, pz_wr_gi, pz_wr_gl, pz_wr_same, pz_wr_X, e8])
            (try refine po_gP (Nat.le_of_ble_eq_true rfl) ?_)
            refine po_call (by omega) (r_readRule (x := x) (nm := nm) (by omega) hb hB hN a1 a2 a3 a4 n4 (by rw [ex]; exact s) (fun q => by rw [ex] at q; cases q) (fun M1 f1 s1 _ m4 => ?_))
            refine pw_blk (mi := mz_44) (b := bz_44_65) rfl rfl ?_
            simp only [bz_44_65, pz_cut_t, pz_cut_f, pz_cut_n, pv_gt, pv_ts, pv_tn, ev_goto, pz_wi_gc, pz_wi_ga, pz_wi_gn, pz_wi_gl, pz_wi_gr, pz_wi_same, pz_wi_X, pz_wl_gc, pz_wl_ga, pz_wl_gn, pz_wl_gi, pz_wl_gr, pz_wl_same, pz_wl_X, pz_wr_gc, pz_wr_ga, pz_wr_gn, pz_wr_gi, pz_wr_gl, pz_wr_same, pz_wr_X, e8]
            (try simp (disch := omega) only [nI_clamp, pz_in_nI2, pz_in_nI2L, pv_gt, nI_add, nI_addL, nI_Ladd, pk_mul, nI_mulL, nI_Lmul, pk_sub, nI_subL, nI_Lsub, nI_inc, nI_clampL, Nat.add_sub_cancel, pz_wi_else, pz_wl_else, vu_eq, vu_ne, pz_wi_gc, pz_wi_ga, pz_wi_gn, pz_wi_gl, pz_wi_gr, pz_wi_same, pz_wi_X, pz_wl_gc, pz_wl_ga, pz_wl_gn, pz_wl_gi, pz_wl_gr, pz_wl_same, pz_wl_X, pz_wr_gc, pz_wr_ga, pz_wr_gn, pz_wr_gi, pz_wr_gl, pz_wr_same, pz_wr_X, e8])
            refine po_go ?_
            exact outB f M1 eR (fr.y f1) (by rw [y2 _ _ f1]; exact g2) (by rw [exf] at s1; exact s1) (m4 (by rw [ex]; rfl))
      · exact outB f M' eR fr g2 s n4
    have loop : ∀ f (x : Rr) M', (isG x.1.1 = true → x.2.1 + f = 7) → rff M M' → gi M' 120 2 = 0 → rSt M' true T L x.1.1 → (isG x.1.1 = true → rN M' x ∧ okX x ∧ wfX L B N x) → raF T L B N nm f x = R → pw d 44 (47, [some (.ref 120), none], [], M') Q := by
      intro f
      induction f with
      | zero =>
        intro x M' hn fr g2 s h el
        rw [raF] at el
        cases ex : x.1.1 with
        | inl g => rw [ex] at s; exact outP g x M' (by rw [← el]; exact ex) ex fr g2 s
        | inr t =>
          rw [ex] at hn h
          obtain ⟨-, o, -⟩ := h rfl
          have := hn rfl
          have := o.2.2.1
          omega
      | succ f ih =>
        intro x M' hn fr g2 s h el
        rw [raF] at el
        cases ex : x.1.1 with
        | inl g =>
          rw [if_neg (by rw [ex]; simp [isG])] at el
          rw [ex] at s
          exact outP g x M' (by rw [← el]; exact ex) ex fr g2 s
        | inr t =>
          have hg : isG x.1.1 = true := by rw [ex]; rfl
          obtain ⟨n, o, w⟩ := h hg
          have st : rSt M' true T L (.inr t) := by rw [← ex]; exact s
          by_cases ht : t.1 = 0
          · rw [if_neg (by rw [ex]; simp [isE, ht])] at el
            exact outG t x M' el.symm ex fr g2 st ht n o w
          · rw [if_pos (by rw [ex]; simp [isE, isG, ht])] at el
            have hS' := s.1.1
            obtain ⟨a1, a2, a3, a4⟩ := q38 M' fr
            obtain ⟨-, hO', z4, z5, ⟨-, -, z8, -⟩, -⟩ := id st
            have n8 : ¬ gi M' 120 8 = 0 := by
              rw [z8]
              have h5 := hO'.1.2.2.1
              exact fun y => ht ((nI_eq (b := 0) (by omega) (by decide)).mp y)
            have h7 := hn hg
            refine pw_blk (mi := mz_44) (b := bz_44_47) rfl rfl ?_
            simp only [bz_44_47, pz_cut_t, pz_cut_f, pz_cut_n, pv_gt, pv_ts, pv_tn, ev_ald0, ev_eld0, ev_cv0_11, pz_wi_gc, pz_wi_ga, pz_wi_gn, pz_wi_gl, pz_wi_gr, pz_wi_same, pz_wi_X, pz_wl_gc, pz_wl_ga, pz_wl_gn, pz_wl_gi, pz_wl_gr, pz_wl_same, pz_wl_X, pz_wr_gc, pz_wr_ga, pz_wr_gn, pz_wr_gi, pz_wr_gl, pz_wr_same, pz_wr_X, so_120 hS']
            (try simp (disch := omega) only [nI_clamp, pz_in_nI2, pz_in_nI2L, pv_gt, nI_add, nI_addL, nI_Ladd, pk_mul, nI_mulL, nI_Lmul, pk_sub, nI_subL, nI_Lsub, nI_inc, nI_clampL, Nat.add_sub_cancel, pz_wi_else, pz_wl_else, vu_eq, vu_ne, pz_wi_gc, pz_wi_ga, pz_wi_gn, pz_wi_gl, pz_wi_gr, pz_wi_same, pz_wi_X, pz_wl_gc, pz_wl_ga, pz_wl_gn, pz_wl_gi, pz_wl_gr, pz_wl_same, pz_wl_X, pz_wr_gc, pz_wr_ga, pz_wr_gn, pz_wr_gi, pz_wr_gl, pz_wr_same, pz_wr_X])
            (try refine po_gP (Nat.le_of_ble_eq_true rfl) ?_)
            refine po_call (by omega) (r_isGd hS' (fun _ => ?_) (fun y => absurd z4 y))
            refine pw_blk (mi := mz_44) (b := bz_44_51) rfl rfl ?_
            simp only [bz_44_51, pz_cut_t, pz_cut_f, pz_cut_n, pv_gt, pv_ts, pv_tn, ev_ifeq, pz_wi_gc, pz_wi_ga, pz_wi_gn, pz_wi_gl, pz_wi_gr, pz_wi_same, pz_wi_X, pz_wl_gc, pz_wl_ga, pz_wl_gn, pz_wl_gi, pz_wl_gr, pz_wl_same, pz_wl_X, pz_wr_gc, pz_wr_ga, pz_wr_gn, pz_wr_gi, pz_wr_gl, pz_wr_same, pz_wr_X]
            (try simp (disch := omega) only [nI_clamp, pz_in_nI2, pz_in_nI2L, pv_gt, nI_add, nI_addL, nI_Ladd, pk_mul, nI_mulL, nI_Lmul, pk_sub, nI_subL, nI_Lsub, nI_inc, nI_clampL, Nat.add_sub_cancel, pz_wi_else, pz_wl_else, vu_eq, vu_ne, pz_wi_gc, pz_wi_ga, pz_wi_gn, pz_wi_gl, pz_wi_gr, pz_wi_same, pz_wi_X, pz_wl_gc, pz_wl_ga, pz_wl_gn, pz_wl_gi, pz_wl_gr, pz_wl_same, pz_wl_X, pz_wr_gc, pz_wr_ga, pz_wr_gn, pz_wr_gi, pz_wr_gl, pz_wr_same, pz_wr_X])
            refine po_brP (fun q51 => ?_) (fun q51 => ?_)
            · first
              | exact absurd q51 (by decide)
              | exact absurd trivial q51
              | exact q51.elim
              | (exfalso; (try simp (disch := omega) only [nI_ltI, nI_leI, nI_eq, nI_ltL, nI_leL, nI_eqL, nI_Llt, nI_Lle, nI_Leq, nI_eqm, nI_meq, nI_ltm, nI_lem, nI_mlt, nI_mle, lg0, lgl, lgg, lgle, lgge, Int32.not_lt, Int32.not_le, Int64.not_lt, Int64.not_le, not_false_eq_true, not_true_eq_false, Decidable.not_not, ge_iff_le, gt_iff_lt] at q51) <;> omega)
              | exact absurd q51 (by with_reducible assumption)
              | exact absurd (by with_reducible assumption) q51
              | exact absurd (Decidable.not_not.mp q51) (by with_reducible assumption)
              | exact absurd (by with_reducible assumption) (Int32.not_le.mpr q51)
              | exact absurd (by with_reducible assumption) (Int32.not_lt.mpr q51)
            · skip
              (try simp (disch := omega) only [nI_ltI, nI_leI, nI_eq, nI_ltL, nI_leL, nI_eqL, nI_Llt, nI_Lle, nI_Leq, nI_eqm, nI_meq, nI_ltm, nI_lem, nI_mlt, nI_mle, lg0, lgl, lgg, lgle, lgge, Int32.not_lt, Int32.not_le, Int64.not_lt, Int64.not_le, not_false_eq_true, not_true_eq_false, Decidable.not_not, ge_iff_le, gt_iff_lt] at q51)
              refine pw_blk (mi := mz_44) (b := bz_44_54) rfl rfl ?_
              simp only [bz_44_54, pz_cut_t, pz_cut_f, pz_cut_n, pv_gt, pv_ts, pv_tn, ev_ald0, ev_eld0, ev_gf11_0, ev_ifeq, pz_wi_gc, pz_wi_ga, pz_wi_gn, pz_wi_gl, pz_wi_gr, pz_wi_same, pz_wi_X, pz_wl_gc, pz_wl_ga, pz_wl_gn, pz_wl_gi, pz_wl_gr, pz_wl_same, pz_wl_X, pz_wr_gc, pz_wr_ga, pz_wr_gn, pz_wr_gi, pz_wr_gl, pz_wr_same, pz_wr_X, so_120 hS']
              (try simp (disch := omega) only [nI_clamp, pz_in_nI2, pz_in_nI2L, pv_gt, nI_add, nI_addL, nI_Ladd, pk_mul, nI_mulL, nI_Lmul, pk_sub, nI_subL, nI_Lsub, nI_inc, nI_clampL, Nat.add_sub_cancel, pz_wi_else, pz_wl_else, vu_eq, vu_ne, pz_wi_gc, pz_wi_ga, pz_wi_gn, pz_wi_gl, pz_wi_gr, pz_wi_same, pz_wi_X, pz_wl_gc, pz_wl_ga, pz_wl_gn, pz_wl_gi, pz_wl_gr, pz_wl_same, pz_wl_X, pz_wr_gc, pz_wr_ga, pz_wr_gn, pz_wr_gi, pz_wr_gl, pz_wr_same, pz_wr_X])
              refine po_brP (fun q54 => ?_) (fun q54 => ?_)
              · first
                | exact absurd q54 (by decide)
                | exact absurd trivial q54
                | exact q54.elim
                | (exfalso; (try simp (disch := omega) only [nI_ltI, nI_leI, nI_eq, nI_ltL, nI_leL, nI_eqL, nI_Llt, nI_Lle, nI_Leq, nI_eqm, nI_meq, nI_ltm, nI_lem, nI_mlt, nI_mle, lg0, lgl, lgg, lgle, lgge, Int32.not_lt, Int32.not_le, Int64.not_lt, Int64.not_le, not_false_eq_true, not_true_eq_false, Decidable.not_not, ge_iff_le, gt_iff_lt] at q54) <;> omega)
                | exact absurd q54 (by with_reducible assumption)
                | exact absurd (by with_reducible assumption) q54
                | exact absurd (Decidable.not_not.mp q54) (by with_reducible assumption)
                | exact absurd (by with_reducible assumption) (Int32.not_le.mpr q54)
                | exact absurd (by with_reducible assumption) (Int32.not_lt.mpr q54)
              · skip
                (try simp (disch := omega) only [nI_ltI, nI_leI, nI_eq, nI_ltL, nI_leL, nI_eqL, nI_Llt, nI_Lle, nI_Leq, nI_eqm, nI_meq, nI_ltm, nI_lem, nI_mlt, nI_mle, lg0, lgl, lgg, lgle, lgge, Int32.not_lt, Int32.not_le, Int64.not_lt, Int64.not_le, not_false_eq_true, not_true_eq_false, Decidable.not_not, ge_iff_le, gt_iff_lt] at q54)
                refine pw_blk (mi := mz_44) (b := bz_44_61) rfl rfl ?_
                simp only [bz_44_61, pz_cut_t, pz_cut_f, pz_cut_n, pv_gt, pv_ts, pv_tn, ev_ald0, ev_eld0, ev_cv0_11, pz_wi_gc, pz_wi_ga, pz_wi_gn, pz_wi_gl, pz_wi_gr, pz_wi_same, pz_wi_X, pz_wl_gc, pz_wl_ga, pz_wl_gn, pz_wl_gi, pz_wl_gr, pz_wl_same, pz_wl_X, pz_wr_gc, pz_wr_ga, pz_wr_gn, pz_wr_gi, pz_wr_gl, pz_wr_same, pz_wr_X, so_120 hS']
                (try simp (disch := omega) only [nI_clamp, pz_in_nI2, pz_in_nI2L, pv_gt, nI_add, nI_addL, nI_Ladd, pk_mul, nI_mulL, nI_Lmul, pk_sub, nI_subL, nI_Lsub, nI_inc, nI_clampL, Nat.add_sub_cancel, pz_wi_else, pz_wl_else, vu_eq, vu_ne, pz_wi_gc, pz_wi_ga, pz_wi_gn, pz_wi_gl, pz_wi_gr, pz_wi_same, pz_wi_X, pz_wl_gc, pz_wl_ga, pz_wl_gn, pz_wl_gi, pz_wl_gr, pz_wl_same, pz_wl_X, pz_wr_gc, pz_wr_ga, pz_wr_gn, pz_wr_gi, pz_wr_gl, pz_wr_same, pz_wr_X])
                (try refine po_gP (Nat.le_of_ble_eq_true rfl) ?_)
                refine po_call (by omega) (r_readRule (x := x) (nm := nm) (by omega) hb hB hN a1 a2 a3 a4 z4 s (fun _ => ⟨n, o⟩) (fun M1 f1 s1 i1 _ => ?_))
                refine pw_blk (mi := mz_44) (b := bz_44_65) rfl rfl ?_
                simp only [bz_44_65, pz_cut_t, pz_cut_f, pz_cut_n, pv_gt, pv_ts, pv_tn, ev_goto, pz_wi_gc, pz_wi_ga, pz_wi_gn, pz_wi_gl, pz_wi_gr, pz_wi_same, pz_wi_X, pz_wl_gc, pz_wl_ga, pz_wl_gn, pz_wl_gi, pz_wl_gr, pz_wl_same, pz_wl_X, pz_wr_gc, pz_wr_ga, pz_wr_gn, pz_wr_gi, pz_wr_gl, pz_wr_same, pz_wr_X]
                (try simp (disch := omega) only [nI_clamp, pz_in_nI2, pz_in_nI2L, pv_gt, nI_add, nI_addL, nI_Ladd, pk_mul, nI_mulL, nI_Lmul, pk_sub, nI_subL, nI_Lsub, nI_inc, nI_clampL, Nat.add_sub_cancel, pz_wi_else, pz_wl_else, vu_eq, vu_ne, pz_wi_gc, pz_wi_ga, pz_wi_gn, pz_wi_gl, pz_wi_gr, pz_wi_same, pz_wi_X, pz_wl_gc, pz_wl_ga, pz_wl_gn, pz_wl_gi, pz_wl_gr, pz_wl_same, pz_wl_X, pz_wr_gc, pz_wr_ga, pz_wr_gn, pz_wr_gi, pz_wr_gl, pz_wr_same, pz_wr_X])
                refine po_go ?_
                refine ih (ruF T L B N nm x) M1 (fun q => ?_) (fr.y f1) (by rw [y2 _ _ f1]; exact g2) s1 (fun q => ?_) el
                · rw [(ru_wf hT hB w o q).2]; omega
                · exact ⟨(i1 q).1, (i1 q).2, (ru_wf hT hB w o q).1⟩
    have tak : pm (d - 1) 103 [.ref 120, .int 1] M (fun r1 => r1.1 = none ∧ sm [120, 122] M r1.2 ∧ (∀ j, j ≠ 2 → j ≠ 3 → j ≠ 4 → j ≠ 5 → j ≠ 7 → j ≠ 11 → gi r1.2 120 j = gi M 120 j) ∧ gi r1.2 120 2 = 0 ∧ txR r1.2 true T L ∧ gi r1.2 120 4 = 0 ∧ gi r1.2 120 5 = -1 ∧ gi r1.2 120 7 = 0) := r_takeTape (ru := true) hS eL hL hb1 (fun M' a1 a2 a3 a4 a5 a6 a7 => ⟨rfl, a1, a2, a3, a4, a5, a6, a7⟩)
    have fin : ∀ M1 Ma M3, sm [120, 122] M M1 → (∀ j, j ≠ 2 → j ≠ 3 → j ≠ 4 → j ≠ 5 → j ≠ 7 → j ≠ 11 → gi M1 120 j = gi M 120 j) → gi M1 120 2 = 0 → txR M1 true T L → gi M1 120 4 = 0 → gi M1 120 5 = -1 → sm [120] M1 Ma → gi Ma 120 = va_up (va_up (va_up (va_up (gi M1 120) 73 (nI 400)) 74 0) 79 0) 39 (nI b) → gF Ma M3 → rTk M3 (nxt true T L 0) → txR M3 true T L → pw d 44 (47, [some (.ref 120), none], [], M3) Q := by
      intro M1 Ma M3 s1 h2 h3 x1 h4 h5 sa ea g3 t3 x3
      have j3 : ∀ j, j ≠ 6 → j ≠ 7 → j ≠ 8 → j ≠ 9 → j ≠ 73 → j ≠ 74 → j ≠ 79 → j ≠ 39 → gi M3 120 j = gi M1 120 j := fun j h6 h7 h8 h9 h73 h74 h79 h39 => by rw [g3.2 j h6 h7 h8 h9, ea, vu_ne h39, vu_ne h79, vu_ne h74, vu_ne h73]
      have s3 : sm [120] M1 M3 := sa.tr g3.1 (by decide)
      have fr : rff M M3 := ⟨(s1.mono (by decide)).tr s3 (by decide), fun j a2 a3 a4 a5 a6 a7 a8 a9 a11 a39 a73 a74 a75 a76 a79 => by rw [j3 j a6 a7 a8 a9 a73 a74 a79 a39]; exact h2 j a2 a3 a4 a5 a7 a11, fun i _ => by rw [s3.i (by decide), s3.i (by decide), s1.i (by decide), s1.i (by decide)]; exact ⟨rfl, rfl⟩, fun i _ => by rw [s3.i (by decide), s3.i (by decide), s3.i (by decide), s1.i (by decide), s1.i (by decide), s1.i (by decide)]; exact ⟨rfl, rfl, rfl⟩⟩
      have e4 : gi M3 120 4 = 0 := by rw [j3 4 (by decide) (by decide) (by decide) (by decide) (by decide) (by decide) (by decide) (by decide)]; exact h4
      have e5 : gi M3 120 5 = -1 := by rw [j3 5 (by decide) (by decide) (by decide) (by decide) (by decide) (by decide) (by decide) (by decide)]; exact h5
      have e2 : gi M3 120 2 = 0 := by rw [j3 2 (by decide) (by decide) (by decide) (by decide) (by decide) (by decide) (by decide) (by decide)]; exact h3
      have st : rSt M3 true T L (nxF true T L (.inr tk0)) := by
        refine ⟨x3, hO, ?_⟩
        show (match nxS true T L tk0 with | .inl f => (gi M3 120 4 = nI f.1 ∧ gi M3 120 5 = nI f.2 ∧ ∃ p, p ≤ L ∧ gi M3 120 6 = nI p) ∨ (f.1 = 1 ∧ gi M3 120 4 = 0 ∧ gi M3 120 5 = -1 ∧ gi M3 120 8 = 1 ∧ gi M3 120 6 = nI f.2) | .inr t => gi M3 120 4 = 0 ∧ gi M3 120 5 = -1 ∧ rTk M3 t ∧ tkP T L t)
        by_cases z : (nxt true T L 0).1 = 1
        · rw [show nxS true T L tk0 = .inl (1, (nxt true T L 0).2.2.2.1) from if_pos z]
          refine Or.inr ⟨rfl, e4, e5, ?_, t3.1⟩
          rw [t3.2.2.1, z]
          rfl
        · rw [show nxS true T L tk0 = .inr (nxt true T L 0) from if_neg z]
          exact ⟨e4, e5, t3, hP⟩
      refine loop 7 (rr0 T L) M3 (fun _ => rfl) fr e2 st (fun _ => ⟨⟨⟨?_, ?_, ?_⟩, trivial, fun i hi => absurd (show i < 0 from hi) (by omega)⟩, ⟨Nat.zero_le _, Nat.zero_le _, Nat.zero_le _, rfl⟩, hO, fun c hc => (by cases hc), fun i hi => absurd (show i < 0 from hi) (by omega)⟩) hR
      · rw [g3.2 74 (by decide) (by decide) (by decide) (by decide), ea, vu_ne (by decide), vu_ne (by decide), vu_eq]; rfl
      · rw [g3.2 73 (by decide) (by decide) (by decide) (by decide), ea, vu_ne (by decide), vu_ne (by decide), vu_ne (by decide), vu_eq]; rfl
      · rw [g3.2 79 (by decide) (by decide) (by decide) (by decide), ea, vu_ne (by decide), vu_eq]; rfl
    refine pm_ent (L := [some (.ref 120), none]) rfl (Nat.le_of_ble_eq_true rfl) ?_
    refine pw_blk (mi := mz_44) (b := bz_44_0) rfl rfl ?_
    simp only [bz_44_0, pz_cut_t, pz_cut_f, pz_cut_n, pv_gt, pv_ts, pv_tn, ev_ald0, ev_eld0, ev_gf11_0, ev_sp600, ev_ic_le, pz_wi_gc, pz_wi_ga, pz_wi_gn, pz_wi_gl, pz_wi_gr, pz_wi_same, pz_wi_X, pz_wl_gc, pz_wl_ga, pz_wl_gn, pz_wl_gi, pz_wl_gr, pz_wl_same, pz_wl_X, pz_wr_gc, pz_wr_ga, pz_wr_gn, pz_wr_gi, pz_wr_gl, pz_wr_same, pz_wr_X, so_120 hS, eL]
    (try simp (disch := omega) only [nI_clamp, pz_in_nI2, pz_in_nI2L, pv_gt, nI_add, nI_addL, nI_Ladd, pk_mul, nI_mulL, nI_Lmul, pk_sub, nI_subL, nI_Lsub, nI_inc, nI_clampL, Nat.add_sub_cancel, pz_wi_else, pz_wl_else, vu_eq, vu_ne, pz_wi_gc, pz_wi_ga, pz_wi_gn, pz_wi_gl, pz_wi_gr, pz_wi_same, pz_wi_X, pz_wl_gc, pz_wl_ga, pz_wl_gn, pz_wl_gi, pz_wl_gr, pz_wl_same, pz_wl_X, pz_wr_gc, pz_wr_ga, pz_wr_gn, pz_wr_gi, pz_wr_gl, pz_wr_same, pz_wr_X, eL])
    refine po_brP (fun q0 => ?_) (fun q0 => ?_)
    · skip
      (try simp (disch := omega) only [nI_ltI, nI_leI, nI_eq, nI_ltL, nI_leL, nI_eqL, nI_Llt, nI_Lle, nI_Leq, nI_eqm, nI_meq, nI_ltm, nI_lem, nI_mlt, nI_mle, lg0, lgl, lgg, lgle, lgge, Int32.not_lt, Int32.not_le, Int64.not_lt, Int64.not_le, not_false_eq_true, not_true_eq_false, Decidable.not_not, ge_iff_le, gt_iff_lt] at q0)
      refine pw_blk (mi := mz_44) (b := bz_44_13) rfl rfl ?_
      simp only [bz_44_13, pz_cut_t, pz_cut_f, pz_cut_n, pv_gt, pv_ts, pv_tn, ev_ald0, ev_eld0, ev_ic1, ev_cv1_11, pz_wi_gc, pz_wi_ga, pz_wi_gn, pz_wi_gl, pz_wi_gr, pz_wi_same, pz_wi_X, pz_wl_gc, pz_wl_ga, pz_wl_gn, pz_wl_gi, pz_wl_gr, pz_wl_same, pz_wl_X, pz_wr_gc, pz_wr_ga, pz_wr_gn, pz_wr_gi, pz_wr_gl, pz_wr_same, pz_wr_X, so_120 hS, eL]
      (try simp (disch := omega) only [nI_clamp, pz_in_nI2, pz_in_nI2L, pv_gt, nI_add, nI_addL, nI_Ladd, pk_mul, nI_mulL, nI_Lmul, pk_sub, nI_subL, nI_Lsub, nI_inc, nI_clampL, Nat.add_sub_cancel, pz_wi_else, pz_wl_else, vu_eq, vu_ne, pz_wi_gc, pz_wi_ga, pz_wi_gn, pz_wi_gl, pz_wi_gr, pz_wi_same, pz_wi_X, pz_wl_gc, pz_wl_ga, pz_wl_gn, pz_wl_gi, pz_wl_gr, pz_wl_same, pz_wl_X, pz_wr_gc, pz_wr_ga, pz_wr_gn, pz_wr_gi, pz_wr_gl, pz_wr_same, pz_wr_X, eL])
      (try refine po_gP (Nat.le_of_ble_eq_true rfl) ?_)
      refine po_call (by omega) (pm_mono tak (fun r1 hr1 => ?_))
      obtain ⟨v1, M1⟩ := r1
      obtain ⟨h1, s1, h2, h3, x1, h4, h5, h7⟩ := hr1
      simp only at h1 s1 h2 h3 x1 h4 h5 h7
      subst h1
      have hS1 := hS.sm s1
      have e38' : gi M1 120 38 = nI b := by rw [h2 38 (by decide) (by decide) (by decide) (by decide) (by decide) (by decide)]; exact e38
      refine pw_blk (mi := mz_44) (b := bz_44_18) rfl rfl ?_
      simp only [bz_44_18, pz_cut_t, pz_cut_f, pz_cut_n, pv_gt, pv_ts, pv_tn, ev_ald0, ev_eld0, ev_sp400, ev_pf11_0, ev_ic0, ev_gf11_0, ev_cv0_11, pz_wi_gc, pz_wi_ga, pz_wi_gn, pz_wi_gl, pz_wi_gr, pz_wi_same, pz_wi_X, pz_wl_gc, pz_wl_ga, pz_wl_gn, pz_wl_gi, pz_wl_gr, pz_wl_same, pz_wl_X, pz_wr_gc, pz_wr_ga, pz_wr_gn, pz_wr_gi, pz_wr_gl, pz_wr_same, pz_wr_X, so_120 hS, eL, so_120 hS1, e38']
      (try simp (disch := omega) only [nI_clamp, pz_in_nI2, pz_in_nI2L, pv_gt, nI_add, nI_addL, nI_Ladd, pk_mul, nI_mulL, nI_Lmul, pk_sub, nI_subL, nI_Lsub, nI_inc, nI_clampL, Nat.add_sub_cancel, pz_wi_else, pz_wl_else, vu_eq, vu_ne, pz_wi_gc, pz_wi_ga, pz_wi_gn, pz_wi_gl, pz_wi_gr, pz_wi_same, pz_wi_X, pz_wl_gc, pz_wl_ga, pz_wl_gn, pz_wl_gi, pz_wl_gr, pz_wl_same, pz_wl_X, pz_wr_gc, pz_wr_ga, pz_wr_gn, pz_wr_gi, pz_wr_gl, pz_wr_same, pz_wr_X, eL, so_120 hS1, e38'])
      (try refine po_gP (Nat.le_of_ble_eq_true rfl) ?_)
      generalize hMa : pz_wi _ 120 _ = Ma
      have sa : sm [120] M1 Ma := by
        rw [← hMa]
        (repeat' first | exact sm.rf | refine sm.wi ?_ (by simp))
      have ea : gi Ma 120 = va_up (va_up (va_up (va_up (gi M1 120) 73 (nI 400)) 74 0) 79 0) 39 (nI b) := by rw [← hMa, pz_wi_same]; rfl
      have ya : txR Ma true T L := x1.fr sa (by decide) (by rw [ea]; simp (disch := decide) only [vu_ne]) (by rw [ea]; simp (disch := decide) only [vu_ne])
      refine po_call (by omega) (r_goOn (p := 0) (by omega) ya (Nat.zero_le _) (by rw [ea]; simp (disch := decide) only [vu_ne]; exact h7) (fun M3 g3 t3 => ?_))
      exact fin M1 Ma M3 s1 h2 h3 x1 h4 h5 sa ea g3 t3 (ya.go g3)
    · first
      | exact absurd q0 (by decide)
      | exact absurd trivial q0
      | exact q0.elim
      | (exfalso; (try simp (disch := omega) only [nI_ltI, nI_leI, nI_eq, nI_ltL, nI_leL, nI_eqL, nI_Llt, nI_Lle, nI_Leq, nI_eqm, nI_meq, nI_ltm, nI_lem, nI_mlt, nI_mle, lg0, lgl, lgg, lgle, lgge, Int32.not_lt, Int32.not_le, Int64.not_lt, Int64.not_le, not_false_eq_true, not_true_eq_false, Decidable.not_not, ge_iff_le, gt_iff_lt] at q0) <;> omega)
      | exact absurd q0 (by with_reducible assumption)
      | exact absurd (by with_reducible assumption) q0
      | exact absurd (Decidable.not_not.mp q0) (by with_reducible assumption)
      | exact absurd (by with_reducible assumption) (Int32.not_le.mpr q0)
      | exact absurd (by with_reducible assumption) (Int32.not_lt.mpr q0)
theorem crG_sf {f : Nat → Int32} {A C : Pl} (h : crG f (A ++ C)) : crG f C := by
  induction A with
  | nil => exact h
  | cons x A ih => exact ih h.2
theorem pil_hg {f : Nat → Int32} : ∀ (n : Nat) (D Bt : Pl) (m : Nat), D.length = n → crG f (D ++ Bt) → (∀ x, x ∈ D → okC B x) → pil f n Bt.length m = hgD D m := by
  intro n
  induction n with
  | zero =>
    intro D Bt m hl _ _
    have : D = [] := List.eq_nil_of_length_eq_zero hl
    subst this
    rfl
  | succ n ih =>
    intro D Bt m hl hc ho
    rcases List.eq_nil_or_concat D with q | ⟨D', x, q⟩
    · subst q; cases hl
    · rw [List.concat_eq_append] at q
      subst q
      rw [List.length_append, List.length_singleton] at hl
      have hc2 : crG f (D' ++ (x :: Bt)) := by rw [List.append_assoc] at hc; exact hc
      have hx := (crG_sf hc2).1
      obtain ⟨k1, k2, -⟩ := ho x (by simp)
      have ihh := fun m' => ih D' (x :: Bt) m' (by omega) hc2 (fun y hy => ho y (List.mem_append_left _ hy))
      rw [hgD_app]
      show pil f (n + 1) Bt.length m = (hgS x m).bind (hgD D')
      unfold pil hgS
      rw [hx]
      rw [List.length_cons] at ihh
      by_cases c6 : x.1 < 6
      · rw [if_pos ((nI_ltI (by omega) (by decide)).mpr (by omega)), if_pos c6]
        by_cases m40 : m < 40
        · rw [if_pos m40, if_pos m40]; exact ihh _
        · rw [if_neg m40, if_neg m40]; rfl
      · rw [if_neg (fun q => by have := (nI_ltI (by omega) (by decide)).mp q; omega), if_neg c6]
        by_cases c7 : x.1 = 6
        · rw [if_pos ((nI_ltI (by omega) (by decide)).mpr (by omega)), if_pos c7]
          by_cases m0 : m = 0
          · rw [if_pos m0, if_pos m0]; rfl
          · rw [if_neg m0, if_neg m0]; exact ihh _
        · rw [if_neg (fun q => by have := (nI_ltI (by omega) (by decide)).mp q; omega), if_neg c7]
          by_cases m1 : m ≤ 1
          · rw [if_pos m1, if_pos m1]; rfl
          · rw [if_neg m1, if_neg m1]; exact ihh _
theorem cd_all {f g h : Nat → Int32} : ∀ (C : Pl), crG f C → cdG g h C → (∀ x, x ∈ C → okC B x) → ∀ j, j < C.length → cdR (f j) (g j) (h j) B := by
  intro C
  induction C with
  | nil => intro _ _ _ j hj; exact absurd hj (Nat.not_lt_zero _)
  | cons x C ih =>
    intro h1 h2 h3 j hj
    rw [List.length_cons] at hj
    by_cases q : j = C.length
    · rw [q]
      obtain ⟨a, b, c⟩ := h3 x (List.mem_cons_self ..)
      exact ⟨x.1, x.2, a, b, h1.1, h2.1, h2.2.1, c⟩
    · exact ih h1.2 h2.2.2 (fun y hy => h3 y (List.mem_cons_of_mem _ hy)) j (by omega)
end ORL
