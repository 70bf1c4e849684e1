/-! ===== piece, the reference's side ===== -/
section RPC
variable {d : Nat} {M M' : pz_M} {Q : Option Value × pz_M → Prop} {ru : Bool} {T : Nat → Nat} {L : Nat} {b : Nat}
theorem sb_8 : ∀ c, c < 256 → (sb_b c).toInt8.toInt32 = sb_b c := by decide +kernel
theorem r_takeTape (hS : SH M) (eL : gi M 120 2 = nI L) (hL : L ≤ 1500) (hb : ∀ i, i < L → gi M 121 i = sb_b (T i) ∧ T i < 256) (k : ∀ M', sm [120, 122] M M' → (∀ j, j ≠ 2 → j ≠ 3 → j ≠ 4 → j ≠ 5 → j ≠ 7 → j ≠ 11 → gi M' 120 j = gi M 120 j) → gi M' 120 2 = 0 → txR M' ru T L → gi M' 120 4 = 0 → gi M' 120 5 = -1 → gi M' 120 7 = 0 → Q (none, M')) : pm d 103 [.ref 120, .int (bI ru)] M Q := by
  obtain ⟨X, hX⟩ : ∃ X, X = va_up (va_up (va_up (va_up (gi M 120) 4 0) 5 (-1)) 11 (bI ru)) 3 (nI L) := ⟨_, rfl⟩
  have x2 : X 2 = nI L := by rw [hX]; simp (disch := decide) only [vu_ne]; exact eL
  have x3 : X 3 = nI L := by rw [hX, vu_eq]
  have loop : ∀ i, i ≤ L → ∀ M', sm [120, 122] M M' → gi M' 120 = X → (∀ j, j < i → gi M' 122 j = sb_b (T j)) → pw d 103 (25, [some (.ref 120), none, some (.int (nI i))], [], M') Q := by
    refine upto (fun i hi ih => ?_)
    intro M' s e h
    have hS' := hS.sm s
    have y3 : gi M' 120 3 = nI L := by rw [e]; exact x3
    by_cases q : i = L
    · subst q
      refine pw_blk (mi := mz_103) (b := bz_103_25) rfl rfl ?_
      simp only [bz_103_25, pz_cut_t, pz_cut_f, pz_cut_n, pv_gt, pv_ts, pv_tn, ev_ild2, ev_ald0, ev_eld0, ev_gf11_0, ev_ic_ge, pz_wi_gc, pz_wi_ga, pz_wi_gn, pz_wi_gl, pz_wi_gr, pz_wi_same, pz_wi_X, pz_wl_gc, pz_wl_ga, pz_wl_gn, pz_wl_gi, pz_wl_gr, pz_wl_same, pz_wl_X, pz_wr_gc, pz_wr_ga, pz_wr_gn, pz_wr_gi, pz_wr_gl, pz_wr_same, pz_wr_X, so_120 hS', y3]
      (try simp (disch := omega) only [nI_clamp, pz_in_nI2, pz_in_nI2L, pv_gt, nI_add, nI_addL, nI_Ladd, pk_mul, nI_mulL, nI_Lmul, pk_sub, nI_subL, nI_Lsub, nI_inc, nI_clampL, Nat.add_sub_cancel, pz_wi_else, pz_wl_else, vu_eq, vu_ne, pz_wi_gc, pz_wi_ga, pz_wi_gn, pz_wi_gl, pz_wi_gr, pz_wi_same, pz_wi_X, pz_wl_gc, pz_wl_ga, pz_wl_gn, pz_wl_gi, pz_wl_gr, pz_wl_same, pz_wl_X, pz_wr_gc, pz_wr_ga, pz_wr_gn, pz_wr_gi, pz_wr_gl, pz_wr_same, pz_wr_X, y3])
      refine po_brP (fun q25 => ?_) (fun q25 => ?_)
      · skip
        (try simp (disch := omega) only [nI_ltI, nI_leI, nI_eq, nI_ltL, nI_leL, nI_eqL, nI_Llt, nI_Lle, nI_Leq, nI_eqm, nI_meq, nI_ltm, nI_lem, nI_mlt, nI_mle, lg0, lgl, lgg, lgle, lgge, Int32.not_lt, Int32.not_le, Int64.not_lt, Int64.not_le, not_false_eq_true, not_true_eq_false, Decidable.not_not, ge_iff_le, gt_iff_lt] at q25)
        refine pw_blk (mi := mz_103) (b := bz_103_51) rfl rfl ?_
        simp only [bz_103_51, pz_cut_t, pz_cut_f, pz_cut_n, pv_gt, pv_ts, pv_tn, ev_ald0, ev_eld0, ev_ic0, ev_pf11_0, ev_ret, pz_wi_gc, pz_wi_ga, pz_wi_gn, pz_wi_gl, pz_wi_gr, pz_wi_same, pz_wi_X, pz_wl_gc, pz_wl_ga, pz_wl_gn, pz_wl_gi, pz_wl_gr, pz_wl_same, pz_wl_X, pz_wr_gc, pz_wr_ga, pz_wr_gn, pz_wr_gi, pz_wr_gl, pz_wr_same, pz_wr_X, so_120 hS', y3]
        (try simp (disch := omega) only [nI_clamp, pz_in_nI2, pz_in_nI2L, pv_gt, nI_add, nI_addL, nI_Ladd, pk_mul, nI_mulL, nI_Lmul, pk_sub, nI_subL, nI_Lsub, nI_inc, nI_clampL, Nat.add_sub_cancel, pz_wi_else, pz_wl_else, vu_eq, vu_ne, pz_wi_gc, pz_wi_ga, pz_wi_gn, pz_wi_gl, pz_wi_gr, pz_wi_same, pz_wi_X, pz_wl_gc, pz_wl_ga, pz_wl_gn, pz_wl_gi, pz_wl_gr, pz_wl_same, pz_wl_X, pz_wr_gc, pz_wr_ga, pz_wr_gn, pz_wr_gi, pz_wr_gl, pz_wr_same, pz_wr_X, y3])
        refine po_then (fun M2 hM2 => ?_)
        have e2 : gi M2 120 = va_up (va_up X 2 0) 7 0 := by rw [hM2, pz_wi_same, e]
        have s2 : sm [120] M' M2 := by rw [hM2]; exact sm.wi (sm.wi sm.rf (by decide)) (by decide)
        have s3 : sm [120, 122] M M2 := s.tr s2 (by decide)
        refine k M2 s3 ?_ ?_ ⟨hS.sm s3, ?_, hL, ?_, ?_⟩ ?_ ?_ ?_
        · intro j h2 h3 h4 h5 h7 h11
          rw [e2, hX]
          rw [vu_ne h7, vu_ne h2, vu_ne h3, vu_ne h11, vu_ne h5, vu_ne h4]
        · rw [e2, vu_ne (by decide), vu_eq]
        · rw [e2, vu_ne (by decide), vu_ne (by decide)]; exact x3
        · intro j hj
          rw [s2.i (by decide)]
          exact ⟨h j hj, (hb j hj).2⟩
        · rw [e2, hX]; simp (disch := decide) only [vu_ne, vu_eq]
        · rw [e2, hX]; simp (disch := decide) only [vu_ne, vu_eq]
        · rw [e2, hX]; simp (disch := decide) only [vu_ne, vu_eq]
        · rw [e2, vu_eq]
      · first
        | exact absurd q25 (by decide)
        | exact absurd trivial q25
        | exact q25.elim
        | (exfalso; (try simp (disch := omega) only [nI_ltI, nI_leI, nI_eq, nI_ltL, nI_leL, nI_eqL, nI_Llt, nI_Lle, nI_Leq, nI_eqm, nI_meq, nI_ltm, nI_lem, nI_mlt, nI_mle, lg0, lgl, lgg, lgle, lgge, Int32.not_lt, Int32.not_le, Int64.not_lt, Int64.not_le, not_false_eq_true, not_true_eq_false, Decidable.not_not, ge_iff_le, gt_iff_lt] at q25) <;> omega)
        | exact absurd q25 (by with_reducible assumption)
        | exact absurd (by with_reducible assumption) q25
        | exact absurd (Decidable.not_not.mp q25) (by with_reducible assumption)
        | exact absurd (by with_reducible assumption) (Int32.not_le.mpr q25)
        | exact absurd (by with_reducible assumption) (Int32.not_lt.mpr q25)
    · obtain ⟨b1, b2⟩ := hb i (by omega)
      have b1' : gi M' 121 i = sb_b (T i) := by rw [s.i (by decide)]; exact b1
      have b8 := sb_8 (T i) b2
      have nx := ih (i + 1) (by omega) (by omega) (pz_wi M' 122 (va_up (gi M' 122) i (sb_b (T i)))) (sm.wi s (by decide)) (by rw [pz_wi_else (by decide)]; exact e) (fun j hj => by
        rw [pz_wi_same]
        by_cases z : j = i
        · rw [z, vu_eq]
        · rw [vu_ne z]; exact h j (by omega))
      generalize sb_b (T i) = w at b1' b8 nx
      refine pw_blk (mi := mz_103) (b := bz_103_25) rfl rfl ?_
      simp only [bz_103_25, pz_cut_t, pz_cut_f, pz_cut_n, pv_gt, pv_ts, pv_tn, ev_ild2, ev_ald0, ev_eld0, ev_gf11_0, ev_ic_ge, pz_wi_gc, pz_wi_ga, pz_wi_gn, pz_wi_gl, pz_wi_gr, pz_wi_same, pz_wi_X, pz_wl_gc, pz_wl_ga, pz_wl_gn, pz_wl_gi, pz_wl_gr, pz_wl_same, pz_wl_X, pz_wr_gc, pz_wr_ga, pz_wr_gn, pz_wr_gi, pz_wr_gl, pz_wr_same, pz_wr_X, so_120 hS', y3, b1', b8]
      (try simp (disch := omega) only [nI_clamp, pz_in_nI2, pz_in_nI2L, pv_gt, nI_add, nI_addL, nI_Ladd, pk_mul, nI_mulL, nI_Lmul, pk_sub, nI_subL, nI_Lsub, nI_inc, nI_clampL, Nat.add_sub_cancel, pz_wi_else, pz_wl_else, vu_eq, vu_ne, pz_wi_gc, pz_wi_ga, pz_wi_gn, pz_wi_gl, pz_wi_gr, pz_wi_same, pz_wi_X, pz_wl_gc, pz_wl_ga, pz_wl_gn, pz_wl_gi, pz_wl_gr, pz_wl_same, pz_wl_X, pz_wr_gc, pz_wr_ga, pz_wr_gn, pz_wr_gi, pz_wr_gl, pz_wr_same, pz_wr_X, y3, b1', b8])
      refine po_brP (fun q25 => ?_) (fun q25 => ?_)
      · first
        | exact absurd q25 (by decide)
        | exact absurd trivial q25
        | exact q25.elim
        | (exfalso; (try simp (disch := omega) only [nI_ltI, nI_leI, nI_eq, nI_ltL, nI_leL, nI_eqL, nI_Llt, nI_Lle, nI_Leq, nI_eqm, nI_meq, nI_ltm, nI_lem, nI_mlt, nI_mle, lg0, lgl, lgg, lgle, lgge, Int32.not_lt, Int32.not_le, Int64.not_lt, Int64.not_le, not_false_eq_true, not_true_eq_false, Decidable.not_not, ge_iff_le, gt_iff_lt] at q25) <;> omega)
        | exact absurd q25 (by with_reducible assumption)
        | exact absurd (by with_reducible assumption) q25
        | exact absurd (Decidable.not_not.mp q25) (by with_reducible assumption)
        | exact absurd (by with_reducible assumption) (Int32.not_le.mpr q25)
        | exact absurd (by with_reducible assumption) (Int32.not_lt.mpr q25)
      · skip
        (try simp (disch := omega) only [nI_ltI, nI_leI, nI_eq, nI_ltL, nI_leL, nI_eqL, nI_Llt, nI_Lle, nI_Leq, nI_eqm, nI_meq, nI_ltm, nI_lem, nI_mlt, nI_mle, lg0, lgl, lgg, lgle, lgge, Int32.not_lt, Int32.not_le, Int64.not_lt, Int64.not_le, not_false_eq_true, not_true_eq_false, Decidable.not_not, ge_iff_le, gt_iff_lt] at q25)
        refine pw_blk (mi := mz_103) (b := bz_103_33) rfl rfl ?_
        simp only [bz_103_33, pz_cut_t, pz_cut_f, pz_cut_n, pv_gt, pv_ts, pv_tn, ev_ald0, ev_eld0, ev_gf11_2, ev_ild2, ea_bald, ea_zald, ea_bast, ea_zast, ev_inc2n, ev_inc2i, ev_inc2r, ev_inc2e, ev_goto, pz_wi_gc, pz_wi_ga, pz_wi_gn, pz_wi_gl, pz_wi_gr, pz_wi_same, pz_wi_X, pz_wl_gc, pz_wl_ga, pz_wl_gn, pz_wl_gi, pz_wl_gr, pz_wl_same, pz_wl_X, pz_wr_gc, pz_wr_ga, pz_wr_gn, pz_wr_gi, pz_wr_gl, pz_wr_same, pz_wr_X, so_120 hS', sr_120_1 hS', sa_122 hS', sn_122 hS', sr_120_0 hS', sa_121 hS', sn_121 hS', y3, b1', b8]
        (try simp (disch := omega) only [nI_clamp, pz_in_nI2, pz_in_nI2L, pv_gt, nI_add, nI_addL, nI_Ladd, pk_mul, nI_mulL, nI_Lmul, pk_sub, nI_subL, nI_Lsub, nI_inc, nI_clampL, Nat.add_sub_cancel, pz_wi_else, pz_wl_else, vu_eq, vu_ne, pz_wi_gc, pz_wi_ga, pz_wi_gn, pz_wi_gl, pz_wi_gr, pz_wi_same, pz_wi_X, pz_wl_gc, pz_wl_ga, pz_wl_gn, pz_wl_gi, pz_wl_gr, pz_wl_same, pz_wl_X, pz_wr_gc, pz_wr_ga, pz_wr_gn, pz_wr_gi, pz_wr_gl, pz_wr_same, pz_wr_X, y3, b1', b8])
        (try refine po_gI (by first | exact pz_in_nI (by omega) (by decide) | decide | assumption) ?_)
        (try refine po_gI (by first | exact pz_in_nI (by omega) (by decide) | decide | assumption) ?_)
        refine po_go ?_
        exact nx
  refine pm_ent (L := [some (.ref 120), some (.int (bI ru)), none]) rfl (Nat.le_of_ble_eq_true rfl) ?_
  refine pw_blk (mi := mz_103) (b := bz_103_0) rfl rfl ?_
  simp only [bz_103_0, pz_cut_t, pz_cut_f, pz_cut_n, pv_gt, pv_ts, pv_tn, ev_ald0, ev_eld0, ev_ic0, ev_pf11_0, ev_icm1, ev_ild1, ev_pf11_3, ev_gf11_0, ev_ist2n, ev_ist2i, ev_ist2r, ev_ist2e, ev_ist2l, ev_nil, pz_wi_gc, pz_wi_ga, pz_wi_gn, pz_wi_gl, pz_wi_gr, pz_wi_same, pz_wi_X, pz_wl_gc, pz_wl_ga, pz_wl_gn, pz_wl_gi, pz_wl_gr, pz_wl_same, pz_wl_X, pz_wr_gc, pz_wr_ga, pz_wr_gn, pz_wr_gi, pz_wr_gl, pz_wr_same, pz_wr_X, so_120 hS, eL]
  (try simp (disch := omega) only [nI_clamp, pz_in_nI2, pz_in_nI2L, pv_gt, nI_add, nI_addL, nI_Ladd, pk_mul, nI_mulL, nI_Lmul, pk_sub, nI_subL, nI_Lsub, nI_inc, nI_clampL, Nat.add_sub_cancel, pz_wi_else, pz_wl_else, vu_eq, vu_ne, pz_wi_gc, pz_wi_ga, pz_wi_gn, pz_wi_gl, pz_wi_gr, pz_wi_same, pz_wi_X, pz_wl_gc, pz_wl_ga, pz_wl_gn, pz_wl_gi, pz_wl_gr, pz_wl_same, pz_wl_X, pz_wr_gc, pz_wr_ga, pz_wr_gn, pz_wr_gi, pz_wr_gl, pz_wr_same, pz_wr_X, eL])
  (try refine po_gP (by first | decide | exact bI_01 _ | assumption) ?_)
  refine po_go ?_
  refine pw_cut (mi := mz_103) (b := bz_103_25) rfl rfl (loop 0 (by omega) _ ?_ ?_ (fun j hj => absurd hj (by omega))) rfl
  · exact sm.wi (sm.wi (sm.wi (sm.wi sm.rf (by decide)) (by decide)) (by decide)) (by decide)
  · rw [pz_wi_same, hX]
def cbP (M : pz_M) (b : Nat) : Prop := (gi M 123 b = 0 ∧ gi M 124 b = 0 ∧ gi M 125 b = 0 ∧ gi M 126 b = 0 ∧ gi M 133 b = 0) ∧ (gi M 127 b = 100 ∧ gi M 128 b = 10 ∧ gi M 129 b = 20 ∧ gi M 130 b = 500 ∧ gi M 131 b = 4 ∧ gi M 132 b = 2)
def cbK : List Nat := [123, 124, 125, 126, 127, 128, 129, 130, 131, 132, 133, 134, 135]
theorem r_clearBank (hS : SH M) (hb : b ≤ 1) (e39 : gi M 120 39 = nI b) (k : ∀ M', bfr M M' b → sm cbK M M' → rsc M' b scE → Q (none, M')) : pm d 95 [.ref 120] M Q := by
  have loop : ∀ i, i ≤ 24 → ∀ M', bfr M M' b → sm cbK M M' → cbP M' b → (∀ j, j < i → gi M' 134 (24 * b + j) = 0 ∧ gi M' 135 (24 * b + j) = 0) → pw d 95 (123, [some (.ref 120), some (.int (nI (24 * b + i)))], [], M') Q := by
    refine upto (fun i hi ih => ?_)
    intro M' f s p h
    have hS' := hS.sm s
    have y39 : gi M' 120 39 = nI b := by rw [s.i (by decide)]; exact e39
    by_cases q : i = 24
    · subst q
      refine pw_blk (mi := mz_95) (b := bz_95_123) rfl rfl ?_
      simp only [bz_95_123, pz_cut_t, pz_cut_f, pz_cut_n, pv_gt, pv_ts, pv_tn, ev_ild1, ev_bp24, ev_ald0, ev_eld0, ev_gf11_0, ev_imul, ev_iadd, ev_ic_ge, pz_wi_gc, pz_wi_ga, pz_wi_gn, pz_wi_gl, pz_wi_gr, pz_wi_same, pz_wi_X, pz_wl_gc, pz_wl_ga, pz_wl_gn, pz_wl_gi, pz_wl_gr, pz_wl_same, pz_wl_X, pz_wr_gc, pz_wr_ga, pz_wr_gn, pz_wr_gi, pz_wr_gl, pz_wr_same, pz_wr_X, so_120 hS', y39]
      (try simp (disch := omega) only [nI_clamp, pz_in_nI2, pz_in_nI2L, pv_gt, nI_add, nI_addL, nI_Ladd, pk_mul, nI_mulL, nI_Lmul, pk_sub, nI_subL, nI_Lsub, nI_inc, nI_clampL, Nat.add_sub_cancel, pz_wi_else, pz_wl_else, vu_eq, vu_ne, pz_wi_gc, pz_wi_ga, pz_wi_gn, pz_wi_gl, pz_wi_gr, pz_wi_same, pz_wi_X, pz_wl_gc, pz_wl_ga, pz_wl_gn, pz_wl_gi, pz_wl_gr, pz_wl_same, pz_wl_X, pz_wr_gc, pz_wr_ga, pz_wr_gn, pz_wr_gi, pz_wr_gl, pz_wr_same, pz_wr_X, y39])
      refine po_brP (fun q123 => ?_) (fun q123 => ?_)
      · skip
        (try simp (disch := omega) only [nI_ltI, nI_leI, nI_eq, nI_ltL, nI_leL, nI_eqL, nI_Llt, nI_Lle, nI_Leq, nI_eqm, nI_meq, nI_ltm, nI_lem, nI_mlt, nI_mle, lg0, lgl, lgg, lgle, lgge, Int32.not_lt, Int32.not_le, Int64.not_lt, Int64.not_le, not_false_eq_true, not_true_eq_false, Decidable.not_not, ge_iff_le, gt_iff_lt] at q123)
        refine pw_blk (mi := mz_95) (b := bz_95_157) rfl rfl ?_
        simp only [bz_95_157, pz_cut_t, pz_cut_f, pz_cut_n, pv_gt, pv_ts, pv_tn, ev_ret, pz_wi_gc, pz_wi_ga, pz_wi_gn, pz_wi_gl, pz_wi_gr, pz_wi_same, pz_wi_X, pz_wl_gc, pz_wl_ga, pz_wl_gn, pz_wl_gi, pz_wl_gr, pz_wl_same, pz_wl_X, pz_wr_gc, pz_wr_ga, pz_wr_gn, pz_wr_gi, pz_wr_gl, pz_wr_same, pz_wr_X, y39]
        (try simp (disch := omega) only [nI_clamp, pz_in_nI2, pz_in_nI2L, pv_gt, nI_add, nI_addL, nI_Ladd, pk_mul, nI_mulL, nI_Lmul, pk_sub, nI_subL, nI_Lsub, nI_inc, nI_clampL, Nat.add_sub_cancel, pz_wi_else, pz_wl_else, vu_eq, vu_ne, pz_wi_gc, pz_wi_ga, pz_wi_gn, pz_wi_gl, pz_wi_gr, pz_wi_same, pz_wi_X, pz_wl_gc, pz_wl_ga, pz_wl_gn, pz_wl_gi, pz_wl_gr, pz_wl_same, pz_wl_X, pz_wr_gc, pz_wr_ga, pz_wr_gn, pz_wr_gi, pz_wr_gl, pz_wr_same, pz_wr_X, y39])
        refine po_ret (k M' f s ⟨p.1, p.2, fun i hi => ?_, fun i hi => absurd (show i < 0 from hi) (by omega), fun i hi => absurd (show i < 0 from hi) (by omega), fun i hi => absurd (show i < 0 from hi) (by omega), fun i hi => absurd (show i < 0 from hi) (by omega)⟩)
        rw [(h i hi).1, (h i hi).2]
        show 0 = bI (Nat.testBit 0 i) ∧ 0 = bI (Nat.testBit 0 i)
        rw [Nat.zero_testBit]
        exact ⟨rfl, rfl⟩
      · first
        | exact absurd q123 (by decide)
        | exact absurd trivial q123
        | exact q123.elim
        | (exfalso; (try simp (disch := omega) only [nI_ltI, nI_leI, nI_eq, nI_ltL, nI_leL, nI_eqL, nI_Llt, nI_Lle, nI_Leq, nI_eqm, nI_meq, nI_ltm, nI_lem, nI_mlt, nI_mle, lg0, lgl, lgg, lgle, lgge, Int32.not_lt, Int32.not_le, Int64.not_lt, Int64.not_le, not_false_eq_true, not_true_eq_false, Decidable.not_not, ge_iff_le, gt_iff_lt] at q123) <;> omega)
        | exact absurd q123 (by with_reducible assumption)
        | exact absurd (by with_reducible assumption) q123
        | exact absurd (Decidable.not_not.mp q123) (by with_reducible assumption)
        | exact absurd (by with_reducible assumption) (Int32.not_le.mpr q123)
        | exact absurd (by with_reducible assumption) (Int32.not_lt.mpr q123)
    · have nx := ih (i + 1) (by omega) (by omega) (pz_wi (pz_wi M' 134 (va_up (gi M' 134) (24 * b + i) 0)) 135 (va_up (gi M' 135) (24 * b + i) 0)) (bfr.wi (w := 24) (bfr.wi (w := 24) f (by decide) (by omega)) (by decide) (by omega)) (sm.wi (sm.wi s (by decide)) (by decide)) (by unfold cbP; simp (disch := decide) only [pz_wi_else]; exact p) (fun j hj => by
        simp (disch := decide) only [pz_wi_else, pz_wi_same]
        by_cases z : j = i
        · rw [z, vu_eq, vu_eq]; exact ⟨rfl, rfl⟩
        · rw [vu_ne (by omega), vu_ne (by omega)]; exact h j (by omega))
      refine pw_blk (mi := mz_95) (b := bz_95_123) rfl rfl ?_
      simp only [bz_95_123, pz_cut_t, pz_cut_f, pz_cut_n, pv_gt, pv_ts, pv_tn, ev_ild1, ev_bp24, ev_ald0, ev_eld0, ev_gf11_0, ev_imul, ev_iadd, ev_ic_ge, pz_wi_gc, pz_wi_ga, pz_wi_gn, pz_wi_gl, pz_wi_gr, pz_wi_same, pz_wi_X, pz_wl_gc, pz_wl_ga, pz_wl_gn, pz_wl_gi, pz_wl_gr, pz_wl_same, pz_wl_X, pz_wr_gc, pz_wr_ga, pz_wr_gn, pz_wr_gi, pz_wr_gl, pz_wr_same, pz_wr_X, so_120 hS', y39, show (0 : Int32) &&& 1 = 0 from rfl]
      (try simp (disch := omega) only [nI_clamp, pz_in_nI2, pz_in_nI2L, pv_gt, nI_add, nI_addL, nI_Ladd, pk_mul, nI_mulL, nI_Lmul, pk_sub, nI_subL, nI_Lsub, nI_inc, nI_clampL, Nat.add_sub_cancel, pz_wi_else, pz_wl_else, vu_eq, vu_ne, pz_wi_gc, pz_wi_ga, pz_wi_gn, pz_wi_gl, pz_wi_gr, pz_wi_same, pz_wi_X, pz_wl_gc, pz_wl_ga, pz_wl_gn, pz_wl_gi, pz_wl_gr, pz_wl_same, pz_wl_X, pz_wr_gc, pz_wr_ga, pz_wr_gn, pz_wr_gi, pz_wr_gl, pz_wr_same, pz_wr_X, y39, show (0 : Int32) &&& 1 = 0 from rfl])
      refine po_brP (fun q123 => ?_) (fun q123 => ?_)
      · first
        | exact absurd q123 (by decide)
        | exact absurd trivial q123
        | exact q123.elim
        | (exfalso; (try simp (disch := omega) only [nI_ltI, nI_leI, nI_eq, nI_ltL, nI_leL, nI_eqL, nI_Llt, nI_Lle, nI_Leq, nI_eqm, nI_meq, nI_ltm, nI_lem, nI_mlt, nI_mle, lg0, lgl, lgg, lgle, lgge, Int32.not_lt, Int32.not_le, Int64.not_lt, Int64.not_le, not_false_eq_true, not_true_eq_false, Decidable.not_not, ge_iff_le, gt_iff_lt] at q123) <;> omega)
        | exact absurd q123 (by with_reducible assumption)
        | exact absurd (by with_reducible assumption) q123
        | exact absurd (Decidable.not_not.mp q123) (by with_reducible assumption)
        | exact absurd (by with_reducible assumption) (Int32.not_le.mpr q123)
        | exact absurd (by with_reducible assumption) (Int32.not_lt.mpr q123)
      · skip
        (try simp (disch := omega) only [nI_ltI, nI_leI, nI_eq, nI_ltL, nI_leL, nI_eqL, nI_Llt, nI_Lle, nI_Leq, nI_eqm, nI_meq, nI_ltm, nI_lem, nI_mlt, nI_mle, lg0, lgl, lgg, lgle, lgge, Int32.not_lt, Int32.not_le, Int64.not_lt, Int64.not_le, not_false_eq_true, not_true_eq_false, Decidable.not_not, ge_iff_le, gt_iff_lt] at q123)
        refine pw_blk (mi := mz_95) (b := bz_95_137) rfl rfl ?_
        simp only [bz_95_137, pz_cut_t, pz_cut_f, pz_cut_n, pv_gt, pv_ts, pv_tn, ev_ald0, ev_eld0, ev_gf11_2, ev_ild1, ev_ic0, ea_bast, ea_zast, ev_inc1n, ev_inc1i, ev_inc1r, ev_inc1e, ev_goto, pz_wi_gc, pz_wi_ga, pz_wi_gn, pz_wi_gl, pz_wi_gr, pz_wi_same, pz_wi_X, pz_wl_gc, pz_wl_ga, pz_wl_gn, pz_wl_gi, pz_wl_gr, pz_wl_same, pz_wl_X, pz_wr_gc, pz_wr_ga, pz_wr_gn, pz_wr_gi, pz_wr_gl, pz_wr_same, pz_wr_X, so_120 hS', sr_120_23 hS', sa_134 hS', sn_134 hS', sr_120_24 hS', sa_135 hS', sn_135 hS', y39, show (0 : Int32) &&& 1 = 0 from rfl, sa_123 hS', sn_123 hS', sa_124 hS', sn_124 hS', sa_125 hS', sn_125 hS', sa_126 hS', sn_126 hS', sa_133 hS', sn_133 hS', sa_127 hS', sn_127 hS', sa_128 hS', sn_128 hS', sa_129 hS', sn_129 hS', sa_130 hS', sn_130 hS', sa_131 hS', sn_131 hS', sa_132 hS', sn_132 hS']
        (try simp (disch := omega) only [nI_clamp, pz_in_nI2, pz_in_nI2L, pv_gt, nI_add, nI_addL, nI_Ladd, pk_mul, nI_mulL, nI_Lmul, pk_sub, nI_subL, nI_Lsub, nI_inc, nI_clampL, Nat.add_sub_cancel, pz_wi_else, pz_wl_else, vu_eq, vu_ne, pz_wi_gc, pz_wi_ga, pz_wi_gn, pz_wi_gl, pz_wi_gr, pz_wi_same, pz_wi_X, pz_wl_gc, pz_wl_ga, pz_wl_gn, pz_wl_gi, pz_wl_gr, pz_wl_same, pz_wl_X, pz_wr_gc, pz_wr_ga, pz_wr_gn, pz_wr_gi, pz_wr_gl, pz_wr_same, pz_wr_X, y39, show (0 : Int32) &&& 1 = 0 from rfl])
        (try refine po_gI (by first | exact pz_in_nI (by omega) (by decide) | decide | assumption) ?_)
        (try refine po_gI (by first | exact pz_in_nI (by omega) (by decide) | decide | assumption) ?_)
        refine po_go ?_
        exact nx
  refine pm_ent (L := [some (.ref 120), none]) rfl (Nat.le_of_ble_eq_true rfl) ?_
  refine pw_blk (mi := mz_95) (b := bz_95_0) rfl rfl ?_
  simp only [bz_95_0, pz_cut_t, pz_cut_f, pz_cut_n, pv_gt, pv_ts, pv_tn, ev_ald0, ev_eld0, ev_gf11_2, ev_gf11_0, ev_ic0, ea_iast, ea_bast, ea_zast, ev_bp100, ev_bp10, ev_bp20, ev_sp500, ev_ic4, ev_ic2, ev_bp24, ev_imul, ev_ist1n, ev_ist1i, ev_ist1r, ev_ist1e, ev_ist1l, ev_nil, pz_wi_gc, pz_wi_ga, pz_wi_gn, pz_wi_gl, pz_wi_gr, pz_wi_same, pz_wi_X, pz_wl_gc, pz_wl_ga, pz_wl_gn, pz_wl_gi, pz_wl_gr, pz_wl_same, pz_wl_X, pz_wr_gc, pz_wr_ga, pz_wr_gn, pz_wr_gi, pz_wr_gl, pz_wr_same, pz_wr_X, so_120 hS, sr_120_12 hS, sa_123 hS, sn_123 hS, sr_120_13 hS, sa_124 hS, sn_124 hS, sr_120_14 hS, sa_125 hS, sn_125 hS, sr_120_15 hS, sa_126 hS, sn_126 hS, sr_120_22 hS, sa_133 hS, sn_133 hS, sr_120_16 hS, sa_127 hS, sn_127 hS, sr_120_17 hS, sa_128 hS, sn_128 hS, sr_120_18 hS, sa_129 hS, sn_129 hS, sr_120_19 hS, sa_130 hS, sn_130 hS, sr_120_20 hS, sa_131 hS, sn_131 hS, sr_120_21 hS, sa_132 hS, sn_132 hS, e39, show (0 : Int32) &&& 1 = 0 from rfl, sa_134 hS, sn_134 hS, sa_135 hS, sn_135 hS]
  (try simp (disch := omega) only [nI_clamp, pz_in_nI2, pz_in_nI2L, pv_gt, nI_add, nI_addL, nI_Ladd, pk_mul, nI_mulL, nI_Lmul, pk_sub, nI_subL, nI_Lsub, nI_inc, nI_clampL, Nat.add_sub_cancel, pz_wi_else, pz_wl_else, vu_eq, vu_ne, pz_wi_gc, pz_wi_ga, pz_wi_gn, pz_wi_gl, pz_wi_gr, pz_wi_same, pz_wi_X, pz_wl_gc, pz_wl_ga, pz_wl_gn, pz_wl_gi, pz_wl_gr, pz_wl_same, pz_wl_X, pz_wr_gc, pz_wr_ga, pz_wr_gn, pz_wr_gi, pz_wr_gl, pz_wr_same, pz_wr_X, e39, show (0 : Int32) &&& 1 = 0 from rfl])
  (try refine po_gI (by first | exact pz_in_nI (by omega) (by decide) | decide | assumption) ?_)
  (try refine po_gI (by first | exact pz_in_nI (by omega) (by decide) | decide | assumption) ?_)
  (try refine po_gI (by first | exact pz_in_nI (by omega) (by decide) | decide | assumption) ?_)
  (try refine po_gI (by first | exact pz_in_nI (by omega) (by decide) | decide | assumption) ?_)
  (try refine po_gI (by first | exact pz_in_nI (by omega) (by decide) | decide | assumption) ?_)
  (try refine po_gI (by first | exact pz_in_nI (by omega) (by decide) | decide | assumption) ?_)
  (try refine po_gI (by first | exact pz_in_nI (by omega) (by decide) | decide | assumption) ?_)
  (try refine po_gI (by first | exact pz_in_nI (by omega) (by decide) | decide | assumption) ?_)
  (try refine po_gI (by first | exact pz_in_nI (by omega) (by decide) | decide | assumption) ?_)
  (try refine po_gI (by first | exact pz_in_nI (by omega) (by decide) | decide | assumption) ?_)
  (try refine po_gI (by first | exact pz_in_nI (by omega) (by decide) | decide | assumption) ?_)
  refine po_go ?_
  refine loop 0 (by omega) _ ?_ ?_ ?_ (fun j hj => absurd hj (by omega))
  · repeat (first | with_reducible exact bfr.rf | refine bfr.wi (w := 1) ?_ (by decide) (by omega))
  · (repeat' first | with_reducible exact sm.rf | with_reducible refine sm.wi ?_ ?_)
    all_goals decide
  · unfold cbP
    simp (disch := decide) only [pz_wi_else, pz_wi_same, vu_eq]
    decide
end RPC
