/-! ===== reach, the reference ===== -/
section REACH2
variable {d : Nat} {M M' : pz_M} {Q : Option Value × pz_M → Prop}
theorem r_reachL (hd : 12 ≤ d) {X : DyE} {N r nd y cr wk sv er D E : Nat} {al : Nat → Nat → Nat} {R : Nat → T3} {G : Int32} (hok : X.ok N) (hC : refE M X N r nd) (x : rcx M r X.B cr wk sv er al (fun i => (R i).1) D.testBit E.testBit) (b : rbd r X.B cr wk sv er al (fun i => (R i).1)) (h0 : 0 < X.B) (hr : ∀ i, rT (R i)) (hu : okT R) (hy : gi M 120 46 = nI y) (hy2 : y + 60 < 2 ^ 31) (hT : isTR M R) (k1 : ∀ i, i < 24 → gi M 176 (24 * 3 + i) = gi M 149 i) (k2 : ∀ i, i < 24 → gi M 177 (24 * 3 + i) = gi M 150 i) (k3 : ∀ i, i < 24 → gi M 178 (24 * 3 + i) = gi M 151 i) (k4 : ∀ i, i < 24 → gi M 179 (24 * 3 + i) = gi M 152 i) (k5 : ∀ i, i < 24 → gi M 182 (24 * 3 + i) = gi M 153 i) (k6 : ∀ i, i < 24 → gi M 183 (24 * 3 + i) = gi M 154 i) (k7 : gi M 180 3 = gi M 120 46) (k8 : gi M 181 3 = gi M 120 47) (K : ∀ M', sm [120, 149, 150, 151, 152, 153, 154, 155, 156, 157, 158, 163] M M' → (gi M' 149 = gi M 149 ∧ gi M' 150 = gi M 150 ∧ gi M' 151 = gi M 151 ∧ gi M' 152 = gi M 152 ∧ gi M' 153 = gi M 153 ∧ gi M' 154 = gi M 154) → (∀ j, j ≠ 49 → j ≠ 50 → gi M' 120 j = gi M 120 j) → Q (some (.int (rchF (endR al cr wk sv er X.B D E X R y) G 60 0)), M')) : pw d 48 (25, [some (.ref 120), some (.int G), none, none], [], M) Q := by
  have hS := hC.1
  have hB := hok.1
  have bring : ∀ (c k : Nat) (M' : pz_M) (v : Int32), sm [120, 149, 150, 151, 152, 155, 156, 157, 158, 163] M M' → isTR M' (X.at R y k) → (∀ i, 24 ≤ i → gi M' 151 i = gi M 151 i) → (∀ j, j ≠ 46 → j ≠ 49 → j ≠ 50 → gi M' 120 j = gi M 120 j) → (v = 0 ∨ v = 1) → (∀ M', sm [120, 149, 150, 151, 152, 153, 154, 155, 156, 157, 158, 163] M M' → (gi M' 149 = gi M 149 ∧ gi M' 150 = gi M 150 ∧ gi M' 151 = gi M 151 ∧ gi M' 152 = gi M 152 ∧ gi M' 153 = gi M 153 ∧ gi M' 154 = gi M 154) → (∀ j, j ≠ 49 → j ≠ 50 → gi M' 120 j = gi M 120 j) → Q (some (.int (if v = 0 then -1 else nI k)), M')) → pw d 48 (82, [some (.ref 120), none, some (.int (nI k)), some (.int v)], [], M') Q := by
    intro c k M' v s' hT' e151 e120 hv K
    have hS' := hS.sm s'
    have e153 : gi M' 153 = gi M 153 := s'.i (by decide)
    have e154 : gi M' 154 = gi M 154 := s'.i (by decide)
    have hhi : ∀ i, 24 ≤ i → X.at R y k i = R i := fun i hi => DyE.at_hi hok hC.2.2.2.1 hC.2.2.1.2.2.2.2.2.1 hC.2.2.1.2.2.2.2.2.2 hi k
    refine pw_blk (mi := mz_48) (b := bz_48_82) rfl rfl ?_
    simp only [bz_48_82, pz_cut_t, pz_cut_f, pz_cut_n, pv_gt, pv_ts, pv_tn, ev_ald0, ev_eld0, ev_ic3, ev_cv1_11, pz_wi_gc, pz_wi_ga, pz_wi_gn, pz_wi_gl, pz_wi_gr, pz_wi_same, pz_wi_X, pz_wl_gc, pz_wl_ga, pz_wl_gn, pz_wl_gi, pz_wl_gr, pz_wl_same, pz_wl_X, pz_wr_gc, pz_wr_ga, pz_wr_gn, pz_wr_gi, pz_wr_gl, pz_wr_same, pz_wr_X, so_120 hS']
    (try simp (disch := omega) only [nI_clamp, pz_in_nI2, pz_in_nI2L, pv_gt, nI_add, nI_addL, nI_Ladd, pk_mul, nI_mulL, nI_Lmul, pk_sub, nI_subL, nI_Lsub, nI_inc, nI_clampL, Nat.add_sub_cancel, pz_wi_else, pz_wl_else, vu_eq, vu_ne, pz_wi_gc, pz_wi_ga, pz_wi_gn, pz_wi_gl, pz_wi_gr, pz_wi_same, pz_wi_X, pz_wl_gc, pz_wl_ga, pz_wl_gn, pz_wl_gi, pz_wl_gr, pz_wl_same, pz_wl_X, pz_wr_gc, pz_wr_ga, pz_wr_gn, pz_wr_gi, pz_wr_gl, pz_wr_same, pz_wr_X])
    (try refine po_gP (Nat.le_of_ble_eq_true rfl) ?_)
    refine po_call (by omega) (r_bring (b := 3) hS' (by decide) (fun i hi => by rw [s'.i (by decide), k5 i hi, x.2.2.2.2.2.2.2.2.1 i hi]; exact bI_01 _) (fun i hi => by rw [s'.i (by decide), k6 i hi, x.2.2.2.2.2.2.2.2.2 i hi]; exact bI_01 _) (fun M2 s2 f0 f1 f2 f3 f4 f5 f6 => ?_))
    have s3 := (s'.mono (K' := [120, 149, 150, 151, 152, 153, 154, 155, 156, 157, 158, 163]) (by decide)).tr s2 (by decide)
    have z5 := K M2 s3 ⟨?_, ?_, ?_, ?_, ?_, ?_⟩ ?_
    rotate_left
    · rw [f1]
      funext i
      by_cases hi : i < 24
      · rw [rowG_lt hi, s'.i (by decide)]; exact k1 i hi
      · rw [rowG_ge (by omega), show gi M' 149 = _ from hT'.1, show gi M 149 = _ from hT.1]
        simp only [hhi i (by omega)]
    · rw [f2]
      funext i
      by_cases hi : i < 24
      · rw [rowG_lt hi, s'.i (by decide)]; exact k2 i hi
      · rw [rowG_ge (by omega), show gi M' 150 = _ from hT'.2.1, show gi M 150 = _ from hT.2.1]
        simp only [hhi i (by omega)]
    · rw [f3]
      funext i
      by_cases hi : i < 24
      · rw [rowG_lt hi, s'.i (by decide)]; exact k3 i hi
      · rw [rowG_ge (by omega)]; exact e151 i (by omega)
    · rw [f4]
      funext i
      by_cases hi : i < 24
      · rw [rowG_lt hi, s'.i (by decide)]; exact k4 i hi
      · rw [rowG_ge (by omega), show gi M' 152 = _ from hT'.2.2, show gi M 152 = _ from hT.2.2]
        simp only [hhi i (by omega)]
    · rw [f5]
      funext i
      by_cases hi : i < 24
      · rw [rowG_lt hi, s'.i (by decide)]; exact k5 i hi
      · rw [rowG_ge (by omega), e153]
    · rw [f6]
      funext i
      by_cases hi : i < 24
      · rw [rowG_lt hi, s'.i (by decide)]; exact k6 i hi
      · rw [rowG_ge (by omega), e154]
    · intro j h1 h2
      rw [f0]
      by_cases q1 : j = 47
      · subst q1
        rw [vu_eq, s'.i (by decide)]; exact k8
      · rw [vu_ne q1]
        by_cases q2 : j = 46
        · subst q2
          rw [vu_eq, s'.i (by decide)]; exact k7
        · rw [vu_ne q2]
          exact e120 j q2 h1 h2
    refine pw_blk (mi := mz_48) (b := bz_48_87) rfl rfl ?_
    simp only [bz_48_87, pz_cut_t, pz_cut_f, pz_cut_n, pv_gt, pv_ts, pv_tn, ev_ild3, ev_ifeq, pz_wi_gc, pz_wi_ga, pz_wi_gn, pz_wi_gl, pz_wi_gr, pz_wi_same, pz_wi_X, pz_wl_gc, pz_wl_ga, pz_wl_gn, pz_wl_gi, pz_wl_gr, pz_wl_same, pz_wl_X, pz_wr_gc, pz_wr_ga, pz_wr_gn, pz_wr_gi, pz_wr_gl, pz_wr_same, pz_wr_X]
    (try simp (disch := omega) only [nI_clamp, pz_in_nI2, pz_in_nI2L, pv_gt, nI_add, nI_addL, nI_Ladd, pk_mul, nI_mulL, nI_Lmul, pk_sub, nI_subL, nI_Lsub, nI_inc, nI_clampL, Nat.add_sub_cancel, pz_wi_else, pz_wl_else, vu_eq, vu_ne, pz_wi_gc, pz_wi_ga, pz_wi_gn, pz_wi_gl, pz_wi_gr, pz_wi_same, pz_wi_X, pz_wl_gc, pz_wl_ga, pz_wl_gn, pz_wl_gi, pz_wl_gr, pz_wl_same, pz_wl_X, pz_wr_gc, pz_wr_ga, pz_wr_gn, pz_wr_gi, pz_wr_gl, pz_wr_same, pz_wr_X])
    refine po_brP (fun q87 => ?_) (fun q87 => ?_)
    · first
      | exact absurd q87 (by decide)
      | exact absurd trivial q87
      | exact q87.elim
      | (exfalso; (try simp (disch := omega) only [nI_ltI, nI_leI, nI_eq, nI_ltL, nI_leL, nI_eqL, nI_Llt, nI_Lle, nI_Leq, nI_eqm, nI_meq, nI_ltm, nI_lem, nI_mlt, nI_mle, lg0, lgl, lgg, lgle, lgge, Int32.not_lt, Int32.not_le, Int64.not_lt, Int64.not_le, not_false_eq_true, not_true_eq_false, Decidable.not_not, ge_iff_le, gt_iff_lt] at q87) <;> omega)
      | exact absurd q87 (by with_reducible assumption)
      | exact absurd (by with_reducible assumption) q87
      | exact absurd (Decidable.not_not.mp q87) (by with_reducible assumption)
      | exact absurd (by with_reducible assumption) (Int32.not_le.mpr q87)
      | exact absurd (by with_reducible assumption) (Int32.not_lt.mpr q87)
      | skip
        (try simp (disch := omega) only [nI_ltI, nI_leI, nI_eq, nI_ltL, nI_leL, nI_eqL, nI_Llt, nI_Lle, nI_Leq, nI_eqm, nI_meq, nI_ltm, nI_lem, nI_mlt, nI_mle, lg0, lgl, lgg, lgle, lgge, Int32.not_lt, Int32.not_le, Int64.not_lt, Int64.not_le, not_false_eq_true, not_true_eq_false, Decidable.not_not, ge_iff_le, gt_iff_lt] at q87)
        rw [if_pos q87] at z5
        refine pw_blk (mi := mz_48) (b := bz_48_95) rfl rfl ?_
        simp only [bz_48_95, pz_cut_t, pz_cut_f, pz_cut_n, pv_gt, pv_ts, pv_tn, ev_icm1, ev_nil, pz_wi_gc, pz_wi_ga, pz_wi_gn, pz_wi_gl, pz_wi_gr, pz_wi_same, pz_wi_X, pz_wl_gc, pz_wl_ga, pz_wl_gn, pz_wl_gi, pz_wl_gr, pz_wl_same, pz_wl_X, pz_wr_gc, pz_wr_ga, pz_wr_gn, pz_wr_gi, pz_wr_gl, pz_wr_same, pz_wr_X]
        (try simp (disch := omega) only [nI_clamp, pz_in_nI2, pz_in_nI2L, pv_gt, nI_add, nI_addL, nI_Ladd, pk_mul, nI_mulL, nI_Lmul, pk_sub, nI_subL, nI_Lsub, nI_inc, nI_clampL, Nat.add_sub_cancel, pz_wi_else, pz_wl_else, vu_eq, vu_ne, pz_wi_gc, pz_wi_ga, pz_wi_gn, pz_wi_gl, pz_wi_gr, pz_wi_same, pz_wi_X, pz_wl_gc, pz_wl_ga, pz_wl_gn, pz_wl_gi, pz_wl_gr, pz_wl_same, pz_wl_X, pz_wr_gc, pz_wr_ga, pz_wr_gn, pz_wr_gi, pz_wr_gl, pz_wr_same, pz_wr_X])
        refine po_go ?_
        refine pw_blk (mi := mz_48) (b := bz_48_96) rfl rfl ?_
        simp only [bz_48_96, pz_cut_t, pz_cut_f, pz_cut_n, pv_gt, pv_ts, pv_tn, ev_iret0, pz_wi_gc, pz_wi_ga, pz_wi_gn, pz_wi_gl, pz_wi_gr, pz_wi_same, pz_wi_X, pz_wl_gc, pz_wl_ga, pz_wl_gn, pz_wl_gi, pz_wl_gr, pz_wl_same, pz_wl_X, pz_wr_gc, pz_wr_ga, pz_wr_gn, pz_wr_gi, pz_wr_gl, pz_wr_same, pz_wr_X]
        (try simp (disch := omega) only [nI_clamp, pz_in_nI2, pz_in_nI2L, pv_gt, nI_add, nI_addL, nI_Ladd, pk_mul, nI_mulL, nI_Lmul, pk_sub, nI_subL, nI_Lsub, nI_inc, nI_clampL, Nat.add_sub_cancel, pz_wi_else, pz_wl_else, vu_eq, vu_ne, pz_wi_gc, pz_wi_ga, pz_wi_gn, pz_wi_gl, pz_wi_gr, pz_wi_same, pz_wi_X, pz_wl_gc, pz_wl_ga, pz_wl_gn, pz_wl_gi, pz_wl_gr, pz_wl_same, pz_wl_X, pz_wr_gc, pz_wr_ga, pz_wr_gn, pz_wr_gi, pz_wr_gl, pz_wr_same, pz_wr_X])
        exact po_ret z5
    · first
      | exact absurd q87 (by decide)
      | exact absurd trivial q87
      | exact q87.elim
      | (exfalso; (try simp (disch := omega) only [nI_ltI, nI_leI, nI_eq, nI_ltL, nI_leL, nI_eqL, nI_Llt, nI_Lle, nI_Leq, nI_eqm, nI_meq, nI_ltm, nI_lem, nI_mlt, nI_mle, lg0, lgl, lgg, lgle, lgge, Int32.not_lt, Int32.not_le, Int64.not_lt, Int64.not_le, not_false_eq_true, not_true_eq_false, Decidable.not_not, ge_iff_le, gt_iff_lt] at q87) <;> omega)
      | exact absurd q87 (by with_reducible assumption)
      | exact absurd (by with_reducible assumption) q87
      | exact absurd (Decidable.not_not.mp q87) (by with_reducible assumption)
      | exact absurd (by with_reducible assumption) (Int32.not_le.mpr q87)
      | exact absurd (by with_reducible assumption) (Int32.not_lt.mpr q87)
      | skip
        (try simp (disch := omega) only [nI_ltI, nI_leI, nI_eq, nI_ltL, nI_leL, nI_eqL, nI_Llt, nI_Lle, nI_Leq, nI_eqm, nI_meq, nI_ltm, nI_lem, nI_mlt, nI_mle, lg0, lgl, lgg, lgle, lgge, Int32.not_lt, Int32.not_le, Int64.not_lt, Int64.not_le, not_false_eq_true, not_true_eq_false, Decidable.not_not, ge_iff_le, gt_iff_lt] at q87)
        rw [if_neg q87] at z5
        refine pw_blk (mi := mz_48) (b := bz_48_91) rfl rfl ?_
        simp only [bz_48_91, pz_cut_t, pz_cut_f, pz_cut_n, pv_gt, pv_ts, pv_tn, ev_ild2, ev_goto, pz_wi_gc, pz_wi_ga, pz_wi_gn, pz_wi_gl, pz_wi_gr, pz_wi_same, pz_wi_X, pz_wl_gc, pz_wl_ga, pz_wl_gn, pz_wl_gi, pz_wl_gr, pz_wl_same, pz_wl_X, pz_wr_gc, pz_wr_ga, pz_wr_gn, pz_wr_gi, pz_wr_gl, pz_wr_same, pz_wr_X]
        (try simp (disch := omega) only [nI_clamp, pz_in_nI2, pz_in_nI2L, pv_gt, nI_add, nI_addL, nI_Ladd, pk_mul, nI_mulL, nI_Lmul, pk_sub, nI_subL, nI_Lsub, nI_inc, nI_clampL, Nat.add_sub_cancel, pz_wi_else, pz_wl_else, vu_eq, vu_ne, pz_wi_gc, pz_wi_ga, pz_wi_gn, pz_wi_gl, pz_wi_gr, pz_wi_same, pz_wi_X, pz_wl_gc, pz_wl_ga, pz_wl_gn, pz_wl_gi, pz_wl_gr, pz_wl_same, pz_wl_X, pz_wr_gc, pz_wr_ga, pz_wr_gn, pz_wr_gi, pz_wr_gl, pz_wr_same, pz_wr_X])
        refine po_go ?_
        refine pw_blk (mi := mz_48) (b := bz_48_96) rfl rfl ?_
        simp only [bz_48_96, pz_cut_t, pz_cut_f, pz_cut_n, pv_gt, pv_ts, pv_tn, ev_iret0, pz_wi_gc, pz_wi_ga, pz_wi_gn, pz_wi_gl, pz_wi_gr, pz_wi_same, pz_wi_X, pz_wl_gc, pz_wl_ga, pz_wl_gn, pz_wl_gi, pz_wl_gr, pz_wl_same, pz_wl_X, pz_wr_gc, pz_wr_ga, pz_wr_gn, pz_wr_gi, pz_wr_gl, pz_wr_same, pz_wr_X]
        (try simp (disch := omega) only [nI_clamp, pz_in_nI2, pz_in_nI2L, pv_gt, nI_add, nI_addL, nI_Ladd, pk_mul, nI_mulL, nI_Lmul, pk_sub, nI_subL, nI_Lsub, nI_inc, nI_clampL, Nat.add_sub_cancel, pz_wi_else, pz_wl_else, vu_eq, vu_ne, pz_wi_gc, pz_wi_ga, pz_wi_gn, pz_wi_gl, pz_wi_gr, pz_wi_same, pz_wi_X, pz_wl_gc, pz_wl_ga, pz_wl_gn, pz_wl_gi, pz_wl_gr, pz_wl_same, pz_wl_X, pz_wr_gc, pz_wr_ga, pz_wr_gn, pz_wr_gi, pz_wr_gl, pz_wr_same, pz_wr_X])
        exact po_ret z5
  have key : ∀ c k M' v, k + c = 60 → sm [120, 149, 150, 151, 152, 155, 156, 157, 158, 163] M M' → isTR M' (X.at R y k) → gi M' 120 46 = nI (y + k) → (∀ i, 24 ≤ i → gi M' 151 i = gi M 151 i) → (∀ j, j ≠ 46 → j ≠ 49 → j ≠ 50 → gi M' 120 j = gi M 120 j) → v = (if endR al cr wk sv er X.B D E X R y k < G then 0 else 1) → (∀ M', sm [120, 149, 150, 151, 152, 153, 154, 155, 156, 157, 158, 163] M M' → (gi M' 149 = gi M 149 ∧ gi M' 150 = gi M 150 ∧ gi M' 151 = gi M 151 ∧ gi M' 152 = gi M 152 ∧ gi M' 153 = gi M 153 ∧ gi M' 154 = gi M 154) → (∀ j, j ≠ 49 → j ≠ 50 → gi M' 120 j = gi M 120 j) → Q (some (.int (rchF (endR al cr wk sv er X.B D E X R y) G c k)), M')) → pw d 48 (44, [some (.ref 120), some (.int G), some (.int (nI k)), some (.int v)], [], M') Q := by
    intro c
    induction c with
    | zero =>
      intro k M' v hk s' hT' e46 e151 e120 hv K
      have hS' := hS.sm s'
      have hk60 : k = 60 := by omega
      subst hk60
      by_cases q : endR al cr wk sv er X.B D E X R y 60 < G
      · rw [if_pos q] at hv
        subst hv
        have K' := K
        rw [show rchF (endR al cr wk sv er X.B D E X R y) G 0 60 = -1 from if_pos q] at K'
        refine pw_blk (mi := mz_48) (b := bz_48_44) rfl rfl ?_
        simp only [bz_48_44, pz_cut_t, pz_cut_f, pz_cut_n, pv_gt, pv_ts, pv_tn, ev_ild3, ev_ifne, pz_wi_gc, pz_wi_ga, pz_wi_gn, pz_wi_gl, pz_wi_gr, pz_wi_same, pz_wi_X, pz_wl_gc, pz_wl_ga, pz_wl_gn, pz_wl_gi, pz_wl_gr, pz_wl_same, pz_wl_X, pz_wr_gc, pz_wr_ga, pz_wr_gn, pz_wr_gi, pz_wr_gl, pz_wr_same, pz_wr_X]
        (try simp (disch := omega) only [nI_clamp, pz_in_nI2, pz_in_nI2L, pv_gt, nI_add, nI_addL, nI_Ladd, pk_mul, nI_mulL, nI_Lmul, pk_sub, nI_subL, nI_Lsub, nI_inc, nI_clampL, Nat.add_sub_cancel, pz_wi_else, pz_wl_else, vu_eq, vu_ne, pz_wi_gc, pz_wi_ga, pz_wi_gn, pz_wi_gl, pz_wi_gr, pz_wi_same, pz_wi_X, pz_wl_gc, pz_wl_ga, pz_wl_gn, pz_wl_gi, pz_wl_gr, pz_wl_same, pz_wl_X, pz_wr_gc, pz_wr_ga, pz_wr_gn, pz_wr_gi, pz_wr_gl, pz_wr_same, pz_wr_X])
        refine po_brP (fun q44 => ?_) (fun q44 => ?_)
        · first
          | exact absurd q44 (by decide)
          | exact absurd trivial q44
          | exact q44.elim
          | (exfalso; (try simp (disch := omega) only [nI_ltI, nI_leI, nI_eq, nI_ltL, nI_leL, nI_eqL, nI_Llt, nI_Lle, nI_Leq, nI_eqm, nI_meq, nI_ltm, nI_lem, nI_mlt, nI_mle, lg0, lgl, lgg, lgle, lgge, Int32.not_lt, Int32.not_le, Int64.not_lt, Int64.not_le, not_false_eq_true, not_true_eq_false, Decidable.not_not, ge_iff_le, gt_iff_lt] at q44) <;> omega)
          | exact absurd q44 (by with_reducible assumption)
          | exact absurd (by with_reducible assumption) q44
          | exact absurd (Decidable.not_not.mp q44) (by with_reducible assumption)
          | exact absurd (by with_reducible assumption) (Int32.not_le.mpr q44)
          | exact absurd (by with_reducible assumption) (Int32.not_lt.mpr q44)
        · skip
          (try simp (disch := omega) only [nI_ltI, nI_leI, nI_eq, nI_ltL, nI_leL, nI_eqL, nI_Llt, nI_Lle, nI_Leq, nI_eqm, nI_meq, nI_ltm, nI_lem, nI_mlt, nI_mle, lg0, lgl, lgg, lgle, lgge, Int32.not_lt, Int32.not_le, Int64.not_lt, Int64.not_le, not_false_eq_true, not_true_eq_false, Decidable.not_not, ge_iff_le, gt_iff_lt] at q44)
          refine pw_blk (mi := mz_48) (b := bz_48_48) rfl rfl ?_
          simp only [bz_48_48, pz_cut_t, pz_cut_f, pz_cut_n, pv_gt, pv_ts, pv_tn, ev_ild2, ev_bp60, ev_ic_ge, pz_wi_gc, pz_wi_ga, pz_wi_gn, pz_wi_gl, pz_wi_gr, pz_wi_same, pz_wi_X, pz_wl_gc, pz_wl_ga, pz_wl_gn, pz_wl_gi, pz_wl_gr, pz_wl_same, pz_wl_X, pz_wr_gc, pz_wr_ga, pz_wr_gn, pz_wr_gi, pz_wr_gl, pz_wr_same, pz_wr_X]
          (try simp (disch := omega) only [nI_clamp, pz_in_nI2, pz_in_nI2L, pv_gt, nI_add, nI_addL, nI_Ladd, pk_mul, nI_mulL, nI_Lmul, pk_sub, nI_subL, nI_Lsub, nI_inc, nI_clampL, Nat.add_sub_cancel, pz_wi_else, pz_wl_else, vu_eq, vu_ne, pz_wi_gc, pz_wi_ga, pz_wi_gn, pz_wi_gl, pz_wi_gr, pz_wi_same, pz_wi_X, pz_wl_gc, pz_wl_ga, pz_wl_gn, pz_wl_gi, pz_wl_gr, pz_wl_same, pz_wl_X, pz_wr_gc, pz_wr_ga, pz_wr_gn, pz_wr_gi, pz_wr_gl, pz_wr_same, pz_wr_X])
          refine po_brP (fun q48 => ?_) (fun q48 => ?_)
          · skip
            (try simp (disch := omega) only [nI_ltI, nI_leI, nI_eq, nI_ltL, nI_leL, nI_eqL, nI_Llt, nI_Lle, nI_Leq, nI_eqm, nI_meq, nI_ltm, nI_lem, nI_mlt, nI_mle, lg0, lgl, lgg, lgle, lgge, Int32.not_lt, Int32.not_le, Int64.not_lt, Int64.not_le, not_false_eq_true, not_true_eq_false, Decidable.not_not, ge_iff_le, gt_iff_lt] at q48)
            exact pw_cut (mi := mz_48) (b := bz_48_82) rfl rfl (bring 0 60 M' 0 s' hT' e151 e120 (Or.inl rfl) K') rfl
          · first
            | exact absurd q48 (by decide)
            | exact absurd trivial q48
            | exact q48.elim
            | (exfalso; (try simp (disch := omega) only [nI_ltI, nI_leI, nI_eq, nI_ltL, nI_leL, nI_eqL, nI_Llt, nI_Lle, nI_Leq, nI_eqm, nI_meq, nI_ltm, nI_lem, nI_mlt, nI_mle, lg0, lgl, lgg, lgle, lgge, Int32.not_lt, Int32.not_le, Int64.not_lt, Int64.not_le, not_false_eq_true, not_true_eq_false, Decidable.not_not, ge_iff_le, gt_iff_lt] at q48) <;> omega)
            | exact absurd q48 (by with_reducible assumption)
            | exact absurd (by with_reducible assumption) q48
            | exact absurd (Decidable.not_not.mp q48) (by with_reducible assumption)
            | exact absurd (by with_reducible assumption) (Int32.not_le.mpr q48)
            | exact absurd (by with_reducible assumption) (Int32.not_lt.mpr q48)
      · rw [if_neg q] at hv
        subst hv
        have K' := K
        rw [show rchF (endR al cr wk sv er X.B D E X R y) G 0 60 = nI 60 from if_neg q] at K'
        refine pw_blk (mi := mz_48) (b := bz_48_44) rfl rfl ?_
        simp only [bz_48_44, pz_cut_t, pz_cut_f, pz_cut_n, pv_gt, pv_ts, pv_tn, ev_ild3, ev_ifne, pz_wi_gc, pz_wi_ga, pz_wi_gn, pz_wi_gl, pz_wi_gr, pz_wi_same, pz_wi_X, pz_wl_gc, pz_wl_ga, pz_wl_gn, pz_wl_gi, pz_wl_gr, pz_wl_same, pz_wl_X, pz_wr_gc, pz_wr_ga, pz_wr_gn, pz_wr_gi, pz_wr_gl, pz_wr_same, pz_wr_X]
        (try simp (disch := omega) only [nI_clamp, pz_in_nI2, pz_in_nI2L, pv_gt, nI_add, nI_addL, nI_Ladd, pk_mul, nI_mulL, nI_Lmul, pk_sub, nI_subL, nI_Lsub, nI_inc, nI_clampL, Nat.add_sub_cancel, pz_wi_else, pz_wl_else, vu_eq, vu_ne, pz_wi_gc, pz_wi_ga, pz_wi_gn, pz_wi_gl, pz_wi_gr, pz_wi_same, pz_wi_X, pz_wl_gc, pz_wl_ga, pz_wl_gn, pz_wl_gi, pz_wl_gr, pz_wl_same, pz_wl_X, pz_wr_gc, pz_wr_ga, pz_wr_gn, pz_wr_gi, pz_wr_gl, pz_wr_same, pz_wr_X])
        refine po_brP (fun q44 => ?_) (fun q44 => ?_)
        · skip
          (try simp (disch := omega) only [nI_ltI, nI_leI, nI_eq, nI_ltL, nI_leL, nI_eqL, nI_Llt, nI_Lle, nI_Leq, nI_eqm, nI_meq, nI_ltm, nI_lem, nI_mlt, nI_mle, lg0, lgl, lgg, lgle, lgge, Int32.not_lt, Int32.not_le, Int64.not_lt, Int64.not_le, not_false_eq_true, not_true_eq_false, Decidable.not_not, ge_iff_le, gt_iff_lt] at q44)
          exact pw_cut (mi := mz_48) (b := bz_48_82) rfl rfl (bring 0 60 M' 1 s' hT' e151 e120 (Or.inr rfl) K') rfl
        · first
          | exact absurd q44 (by decide)
          | exact absurd trivial q44
          | exact q44.elim
          | (exfalso; (try simp (disch := omega) only [nI_ltI, nI_leI, nI_eq, nI_ltL, nI_leL, nI_eqL, nI_Llt, nI_Lle, nI_Leq, nI_eqm, nI_meq, nI_ltm, nI_lem, nI_mlt, nI_mle, lg0, lgl, lgg, lgle, lgge, Int32.not_lt, Int32.not_le, Int64.not_lt, Int64.not_le, not_false_eq_true, not_true_eq_false, Decidable.not_not, ge_iff_le, gt_iff_lt] at q44) <;> omega)
          | exact absurd q44 (by with_reducible assumption)
          | exact absurd (by with_reducible assumption) q44
          | exact absurd (Decidable.not_not.mp q44) (by with_reducible assumption)
          | exact absurd (by with_reducible assumption) (Int32.not_le.mpr q44)
          | exact absurd (by with_reducible assumption) (Int32.not_lt.mpr q44)
    | succ c ih =>
      intro k M' v hk s' hT' e46 e151 e120 hv K
      have hS' := hS.sm s'
      by_cases q : endR al cr wk sv er X.B D E X R y k < G
      · rw [if_pos q] at hv
        subst hv
        have K' := K
        rw [show rchF (endR al cr wk sv er X.B D E X R y) G (c + 1) k = rchF (endR al cr wk sv er X.B D E X R y) G c (k + 1) from if_pos q] at K'
        have hC' := hC.fr hS' ((s'.sg hS).ag (by decide +kernel)) (fun j hj => e120 j (by omega) (by omega) (by omega))
        refine pw_blk (mi := mz_48) (b := bz_48_44) rfl rfl ?_
        simp only [bz_48_44, pz_cut_t, pz_cut_f, pz_cut_n, pv_gt, pv_ts, pv_tn, ev_ild3, ev_ifne, pz_wi_gc, pz_wi_ga, pz_wi_gn, pz_wi_gl, pz_wi_gr, pz_wi_same, pz_wi_X, pz_wl_gc, pz_wl_ga, pz_wl_gn, pz_wl_gi, pz_wl_gr, pz_wl_same, pz_wl_X, pz_wr_gc, pz_wr_ga, pz_wr_gn, pz_wr_gi, pz_wr_gl, pz_wr_same, pz_wr_X]
        (try simp (disch := omega) only [nI_clamp, pz_in_nI2, pz_in_nI2L, pv_gt, nI_add, nI_addL, nI_Ladd, pk_mul, nI_mulL, nI_Lmul, pk_sub, nI_subL, nI_Lsub, nI_inc, nI_clampL, Nat.add_sub_cancel, pz_wi_else, pz_wl_else, vu_eq, vu_ne, pz_wi_gc, pz_wi_ga, pz_wi_gn, pz_wi_gl, pz_wi_gr, pz_wi_same, pz_wi_X, pz_wl_gc, pz_wl_ga, pz_wl_gn, pz_wl_gi, pz_wl_gr, pz_wl_same, pz_wl_X, pz_wr_gc, pz_wr_ga, pz_wr_gn, pz_wr_gi, pz_wr_gl, pz_wr_same, pz_wr_X])
        refine po_brP (fun q44 => ?_) (fun q44 => ?_)
        · first
          | exact absurd q44 (by decide)
          | exact absurd trivial q44
          | exact q44.elim
          | (exfalso; (try simp (disch := omega) only [nI_ltI, nI_leI, nI_eq, nI_ltL, nI_leL, nI_eqL, nI_Llt, nI_Lle, nI_Leq, nI_eqm, nI_meq, nI_ltm, nI_lem, nI_mlt, nI_mle, lg0, lgl, lgg, lgle, lgge, Int32.not_lt, Int32.not_le, Int64.not_lt, Int64.not_le, not_false_eq_true, not_true_eq_false, Decidable.not_not, ge_iff_le, gt_iff_lt] at q44) <;> omega)
          | exact absurd q44 (by with_reducible assumption)
          | exact absurd (by with_reducible assumption) q44
          | exact absurd (Decidable.not_not.mp q44) (by with_reducible assumption)
          | exact absurd (by with_reducible assumption) (Int32.not_le.mpr q44)
          | exact absurd (by with_reducible assumption) (Int32.not_lt.mpr q44)
        · skip
          (try simp (disch := omega) only [nI_ltI, nI_leI, nI_eq, nI_ltL, nI_leL, nI_eqL, nI_Llt, nI_Lle, nI_Leq, nI_eqm, nI_meq, nI_ltm, nI_lem, nI_mlt, nI_mle, lg0, lgl, lgg, lgle, lgge, Int32.not_lt, Int32.not_le, Int64.not_lt, Int64.not_le, not_false_eq_true, not_true_eq_false, Decidable.not_not, ge_iff_le, gt_iff_lt] at q44)
          refine pw_blk (mi := mz_48) (b := bz_48_48) rfl rfl ?_
          simp only [bz_48_48, pz_cut_t, pz_cut_f, pz_cut_n, pv_gt, pv_ts, pv_tn, ev_ild2, ev_bp60, ev_ic_ge, pz_wi_gc, pz_wi_ga, pz_wi_gn, pz_wi_gl, pz_wi_gr, pz_wi_same, pz_wi_X, pz_wl_gc, pz_wl_ga, pz_wl_gn, pz_wl_gi, pz_wl_gr, pz_wl_same, pz_wl_X, pz_wr_gc, pz_wr_ga, pz_wr_gn, pz_wr_gi, pz_wr_gl, pz_wr_same, pz_wr_X]
          (try simp (disch := omega) only [nI_clamp, pz_in_nI2, pz_in_nI2L, pv_gt, nI_add, nI_addL, nI_Ladd, pk_mul, nI_mulL, nI_Lmul, pk_sub, nI_subL, nI_Lsub, nI_inc, nI_clampL, Nat.add_sub_cancel, pz_wi_else, pz_wl_else, vu_eq, vu_ne, pz_wi_gc, pz_wi_ga, pz_wi_gn, pz_wi_gl, pz_wi_gr, pz_wi_same, pz_wi_X, pz_wl_gc, pz_wl_ga, pz_wl_gn, pz_wl_gi, pz_wl_gr, pz_wl_same, pz_wl_X, pz_wr_gc, pz_wr_ga, pz_wr_gn, pz_wr_gi, pz_wr_gl, pz_wr_same, pz_wr_X])
          refine po_brP (fun q48 => ?_) (fun q48 => ?_)
          · first
            | exact absurd q48 (by decide)
            | exact absurd trivial q48
            | exact q48.elim
            | (exfalso; (try simp (disch := omega) only [nI_ltI, nI_leI, nI_eq, nI_ltL, nI_leL, nI_eqL, nI_Llt, nI_Lle, nI_Leq, nI_eqm, nI_meq, nI_ltm, nI_lem, nI_mlt, nI_mle, lg0, lgl, lgg, lgle, lgge, Int32.not_lt, Int32.not_le, Int64.not_lt, Int64.not_le, not_false_eq_true, not_true_eq_false, Decidable.not_not, ge_iff_le, gt_iff_lt] at q48) <;> omega)
            | exact absurd q48 (by with_reducible assumption)
            | exact absurd (by with_reducible assumption) q48
            | exact absurd (Decidable.not_not.mp q48) (by with_reducible assumption)
            | exact absurd (by with_reducible assumption) (Int32.not_le.mpr q48)
            | exact absurd (by with_reducible assumption) (Int32.not_lt.mpr q48)
          · skip
            (try simp (disch := omega) only [nI_ltI, nI_leI, nI_eq, nI_ltL, nI_leL, nI_eqL, nI_Llt, nI_Lle, nI_Leq, nI_eqm, nI_meq, nI_ltm, nI_lem, nI_mlt, nI_mle, lg0, lgl, lgg, lgle, lgge, Int32.not_lt, Int32.not_le, Int64.not_lt, Int64.not_le, not_false_eq_true, not_true_eq_false, Decidable.not_not, ge_iff_le, gt_iff_lt] at q48)
            refine pw_blk (mi := mz_48) (b := bz_48_54) rfl rfl ?_
            simp only [bz_48_54, pz_cut_t, pz_cut_f, pz_cut_n, pv_gt, pv_ts, pv_tn, ev_ald0, ev_eld0, ev_cv0_11, pz_wi_gc, pz_wi_ga, pz_wi_gn, pz_wi_gl, pz_wi_gr, pz_wi_same, pz_wi_X, pz_wl_gc, pz_wl_ga, pz_wl_gn, pz_wl_gi, pz_wl_gr, pz_wl_same, pz_wl_X, pz_wr_gc, pz_wr_ga, pz_wr_gn, pz_wr_gi, pz_wr_gl, pz_wr_same, pz_wr_X, so_120 hS']
            (try simp (disch := omega) only [nI_clamp, pz_in_nI2, pz_in_nI2L, pv_gt, nI_add, nI_addL, nI_Ladd, pk_mul, nI_mulL, nI_Lmul, pk_sub, nI_subL, nI_Lsub, nI_inc, nI_clampL, Nat.add_sub_cancel, pz_wi_else, pz_wl_else, vu_eq, vu_ne, pz_wi_gc, pz_wi_ga, pz_wi_gn, pz_wi_gl, pz_wi_gr, pz_wi_same, pz_wi_X, pz_wl_gc, pz_wl_ga, pz_wl_gn, pz_wl_gi, pz_wl_gr, pz_wl_same, pz_wl_X, pz_wr_gc, pz_wr_ga, pz_wr_gn, pz_wr_gi, pz_wr_gl, pz_wr_same, pz_wr_X])
            (try refine po_gP (Nat.le_of_ble_eq_true rfl) ?_)
            refine po_call (by omega) (r_byRules (by omega) hok hC' hT' (fun _ => DyE.at_u hu k (by omega)) e46 (by omega) (fun M2 s2 a0 t2 a3 => ?_))
            have s3 := s'.tr s2 (by decide)
            have hS2 := hS.sm s3
            have e2 : ∀ j, j ≠ 46 → j ≠ 49 → j ≠ 50 → gi M2 120 j = gi M 120 j := fun j h1 h2 h3 => by rw [a0, vu_ne h1]; exact e120 j h1 h2 h3
            have x2 : rcx M2 r X.B cr wk sv er al (fun i => (X.at R y (k + 1) i).1) D.testBit E.testBit := x.rows hS2 ((s3.sg hS).ag (by decide +kernel)) (e2 38 (by decide) (by decide) (by decide)) t2.1
            have b2 : rbd r X.B cr wk sv er al (fun i => (X.at R y (k + 1) i).1) := ⟨b.1, b.2.1, b.2.2.1, b.2.2.2.1, b.2.2.2.2.1, b.2.2.2.2.2.1, b.2.2.2.2.2.2.1, fun i => (DyE.at_r hok hr (k + 1) i).1⟩
            refine pw_blk (mi := mz_48) (b := bz_48_58) rfl rfl ?_
            simp only [bz_48_58, pz_cut_t, pz_cut_f, pz_cut_n, pv_gt, pv_ts, pv_tn, ev_popi, ev_popr, ev_pope, ev_inc2n, ev_inc2i, ev_inc2r, ev_inc2e, ev_ald0, ev_eld0, ev_ic0, ev_icm1, ev_cv3_11, pz_wi_gc, pz_wi_ga, pz_wi_gn, pz_wi_gl, pz_wi_gr, pz_wi_same, pz_wi_X, pz_wl_gc, pz_wl_ga, pz_wl_gn, pz_wl_gi, pz_wl_gr, pz_wl_same, pz_wl_X, pz_wr_gc, pz_wr_ga, pz_wr_gn, pz_wr_gi, pz_wr_gl, pz_wr_same, pz_wr_X, so_120 hS', so_120 hS2]
            (try simp (disch := omega) only [nI_clamp, pz_in_nI2, pz_in_nI2L, pv_gt, nI_add, nI_addL, nI_Ladd, pk_mul, nI_mulL, nI_Lmul, pk_sub, nI_subL, nI_Lsub, nI_inc, nI_clampL, Nat.add_sub_cancel, pz_wi_else, pz_wl_else, vu_eq, vu_ne, pz_wi_gc, pz_wi_ga, pz_wi_gn, pz_wi_gl, pz_wi_gr, pz_wi_same, pz_wi_X, pz_wl_gc, pz_wl_ga, pz_wl_gn, pz_wl_gi, pz_wl_gr, pz_wl_same, pz_wl_X, pz_wr_gc, pz_wr_ga, pz_wr_gn, pz_wr_gi, pz_wr_gl, pz_wr_same, pz_wr_X, so_120 hS2])
            (try refine po_gP (Nat.le_of_ble_eq_true rfl) ?_)
            refine po_call (by omega) (r_endOf (J := -1) (o := 0) (by omega) x2 b2 h0 (fun M4 s4 => ?_))
            refine pw_blk (mi := mz_48) (b := bz_48_69) rfl rfl ?_
            simp only [bz_48_69, pz_cut_t, pz_cut_f, pz_cut_n, pv_gt, pv_ts, pv_tn, ev_ild1, ev_ic_lt, pz_wi_gc, pz_wi_ga, pz_wi_gn, pz_wi_gl, pz_wi_gr, pz_wi_same, pz_wi_X, pz_wl_gc, pz_wl_ga, pz_wl_gn, pz_wl_gi, pz_wl_gr, pz_wl_same, pz_wl_X, pz_wr_gc, pz_wr_ga, pz_wr_gn, pz_wr_gi, pz_wr_gl, pz_wr_same, pz_wr_X]
            (try simp (disch := omega) only [nI_clamp, pz_in_nI2, pz_in_nI2L, pv_gt, nI_add, nI_addL, nI_Ladd, pk_mul, nI_mulL, nI_Lmul, pk_sub, nI_subL, nI_Lsub, nI_inc, nI_clampL, Nat.add_sub_cancel, pz_wi_else, pz_wl_else, vu_eq, vu_ne, pz_wi_gc, pz_wi_ga, pz_wi_gn, pz_wi_gl, pz_wi_gr, pz_wi_same, pz_wi_X, pz_wl_gc, pz_wl_ga, pz_wl_gn, pz_wl_gi, pz_wl_gr, pz_wl_same, pz_wl_X, pz_wr_gc, pz_wr_ga, pz_wr_gn, pz_wr_gi, pz_wr_gl, pz_wr_same, pz_wr_X])
            refine po_brP (fun q69 => ?_) (fun q69 => ?_)
            · first
              | exact absurd q69 (by decide)
              | exact absurd trivial q69
              | exact q69.elim
              | (exfalso; (try simp (disch := omega) only [nI_ltI, nI_leI, nI_eq, nI_ltL, nI_leL, nI_eqL, nI_Llt, nI_Lle, nI_Leq, nI_eqm, nI_meq, nI_ltm, nI_lem, nI_mlt, nI_mle, lg0, lgl, lgg, lgle, lgge, Int32.not_lt, Int32.not_le, Int64.not_lt, Int64.not_le, not_false_eq_true, not_true_eq_false, Decidable.not_not, ge_iff_le, gt_iff_lt] at q69) <;> omega)
              | exact absurd q69 (by with_reducible assumption)
              | exact absurd (by with_reducible assumption) q69
              | exact absurd (Decidable.not_not.mp q69) (by with_reducible assumption)
              | exact absurd (by with_reducible assumption) (Int32.not_le.mpr q69)
              | exact absurd (by with_reducible assumption) (Int32.not_lt.mpr q69)
              | skip
                (try simp (disch := omega) only [nI_ltI, nI_leI, nI_eq, nI_ltL, nI_leL, nI_eqL, nI_Llt, nI_Lle, nI_Leq, nI_eqm, nI_meq, nI_ltm, nI_lem, nI_mlt, nI_mle, lg0, lgl, lgg, lgle, lgge, Int32.not_lt, Int32.not_le, Int64.not_lt, Int64.not_le, not_false_eq_true, not_true_eq_false, Decidable.not_not, ge_iff_le, gt_iff_lt] at q69)
                have hv2 : (0 : Int32) = (if endR al cr wk sv er X.B D E X R y (k + 1) < G then 0 else 1) := (if_pos q69).symm
                refine pw_blk (mi := mz_48) (b := bz_48_77) rfl rfl ?_
                simp only [bz_48_77, pz_cut_t, pz_cut_f, pz_cut_n, pv_gt, pv_ts, pv_tn, ev_ic0, ev_nil, pz_wi_gc, pz_wi_ga, pz_wi_gn, pz_wi_gl, pz_wi_gr, pz_wi_same, pz_wi_X, pz_wl_gc, pz_wl_ga, pz_wl_gn, pz_wl_gi, pz_wl_gr, pz_wl_same, pz_wl_X, pz_wr_gc, pz_wr_ga, pz_wr_gn, pz_wr_gi, pz_wr_gl, pz_wr_same, pz_wr_X]
                (try simp (disch := omega) only [nI_clamp, pz_in_nI2, pz_in_nI2L, pv_gt, nI_add, nI_addL, nI_Ladd, pk_mul, nI_mulL, nI_Lmul, pk_sub, nI_subL, nI_Lsub, nI_inc, nI_clampL, Nat.add_sub_cancel, pz_wi_else, pz_wl_else, vu_eq, vu_ne, pz_wi_gc, pz_wi_ga, pz_wi_gn, pz_wi_gl, pz_wi_gr, pz_wi_same, pz_wi_X, pz_wl_gc, pz_wl_ga, pz_wl_gn, pz_wl_gi, pz_wl_gr, pz_wl_same, pz_wl_X, pz_wr_gc, pz_wr_ga, pz_wr_gn, pz_wr_gi, pz_wr_gl, pz_wr_same, pz_wr_X])
                refine po_go ?_
                refine pw_blk (mi := mz_48) (b := bz_48_78) rfl rfl ?_
                simp only [bz_48_78, pz_cut_t, pz_cut_f, pz_cut_n, pv_gt, pv_ts, pv_tn, ev_ist3n, ev_ist3i, ev_ist3r, ev_ist3e, ev_ist3l, ev_goto, pz_wi_gc, pz_wi_ga, pz_wi_gn, pz_wi_gl, pz_wi_gr, pz_wi_same, pz_wi_X, pz_wl_gc, pz_wl_ga, pz_wl_gn, pz_wl_gi, pz_wl_gr, pz_wl_same, pz_wl_X, pz_wr_gc, pz_wr_ga, pz_wr_gn, pz_wr_gi, pz_wr_gl, pz_wr_same, pz_wr_X]
                (try simp (disch := omega) only [nI_clamp, pz_in_nI2, pz_in_nI2L, pv_gt, nI_add, nI_addL, nI_Ladd, pk_mul, nI_mulL, nI_Lmul, pk_sub, nI_subL, nI_Lsub, nI_inc, nI_clampL, Nat.add_sub_cancel, pz_wi_else, pz_wl_else, vu_eq, vu_ne, pz_wi_gc, pz_wi_ga, pz_wi_gn, pz_wi_gl, pz_wi_gr, pz_wi_same, pz_wi_X, pz_wl_gc, pz_wl_ga, pz_wl_gn, pz_wl_gi, pz_wl_gr, pz_wl_same, pz_wl_X, pz_wr_gc, pz_wr_ga, pz_wr_gn, pz_wr_gi, pz_wr_gl, pz_wr_same, pz_wr_X])
                refine po_go ?_
                refine ih (k + 1) M4 _ (by omega) (s3.tr s4.1 (by decide)) (t2.sm s4.1 (by decide) (by decide) (by decide)) ?_ ?_ ?_ hv2 K'
                · rw [s4.2 46 (by decide) (by decide), a0, vu_eq]; rfl
                · intro i hi
                  rw [s4.1.i (by decide), a3, rowF_hi (by omega)]
                  exact e151 i hi
                · intro j h1 h2 h3
                  rw [s4.2 j h2 h3]
                  exact e2 j h1 h2 h3
            · first
              | exact absurd q69 (by decide)
              | exact absurd trivial q69
              | exact q69.elim
              | (exfalso; (try simp (disch := omega) only [nI_ltI, nI_leI, nI_eq, nI_ltL, nI_leL, nI_eqL, nI_Llt, nI_Lle, nI_Leq, nI_eqm, nI_meq, nI_ltm, nI_lem, nI_mlt, nI_mle, lg0, lgl, lgg, lgle, lgge, Int32.not_lt, Int32.not_le, Int64.not_lt, Int64.not_le, not_false_eq_true, not_true_eq_false, Decidable.not_not, ge_iff_le, gt_iff_lt] at q69) <;> omega)
              | exact absurd q69 (by with_reducible assumption)
              | exact absurd (by with_reducible assumption) q69
              | exact absurd (Decidable.not_not.mp q69) (by with_reducible assumption)
              | exact absurd (by with_reducible assumption) (Int32.not_le.mpr q69)
              | exact absurd (by with_reducible assumption) (Int32.not_lt.mpr q69)
              | skip
                (try simp (disch := omega) only [nI_ltI, nI_leI, nI_eq, nI_ltL, nI_leL, nI_eqL, nI_Llt, nI_Lle, nI_Leq, nI_eqm, nI_meq, nI_ltm, nI_lem, nI_mlt, nI_mle, lg0, lgl, lgg, lgle, lgge, Int32.not_lt, Int32.not_le, Int64.not_lt, Int64.not_le, not_false_eq_true, not_true_eq_false, Decidable.not_not, ge_iff_le, gt_iff_lt] at q69)
                have hv2 : (1 : Int32) = (if endR al cr wk sv er X.B D E X R y (k + 1) < G then 0 else 1) := (if_neg (Int32.not_lt.mpr q69)).symm
                refine pw_blk (mi := mz_48) (b := bz_48_73) rfl rfl ?_
                simp only [bz_48_73, pz_cut_t, pz_cut_f, pz_cut_n, pv_gt, pv_ts, pv_tn, ev_ic1, ev_goto, pz_wi_gc, pz_wi_ga, pz_wi_gn, pz_wi_gl, pz_wi_gr, pz_wi_same, pz_wi_X, pz_wl_gc, pz_wl_ga, pz_wl_gn, pz_wl_gi, pz_wl_gr, pz_wl_same, pz_wl_X, pz_wr_gc, pz_wr_ga, pz_wr_gn, pz_wr_gi, pz_wr_gl, pz_wr_same, pz_wr_X]
                (try simp (disch := omega) only [nI_clamp, pz_in_nI2, pz_in_nI2L, pv_gt, nI_add, nI_addL, nI_Ladd, pk_mul, nI_mulL, nI_Lmul, pk_sub, nI_subL, nI_Lsub, nI_inc, nI_clampL, Nat.add_sub_cancel, pz_wi_else, pz_wl_else, vu_eq, vu_ne, pz_wi_gc, pz_wi_ga, pz_wi_gn, pz_wi_gl, pz_wi_gr, pz_wi_same, pz_wi_X, pz_wl_gc, pz_wl_ga, pz_wl_gn, pz_wl_gi, pz_wl_gr, pz_wl_same, pz_wl_X, pz_wr_gc, pz_wr_ga, pz_wr_gn, pz_wr_gi, pz_wr_gl, pz_wr_same, pz_wr_X])
                refine po_go ?_
                refine pw_blk (mi := mz_48) (b := bz_48_78) rfl rfl ?_
                simp only [bz_48_78, pz_cut_t, pz_cut_f, pz_cut_n, pv_gt, pv_ts, pv_tn, ev_ist3n, ev_ist3i, ev_ist3r, ev_ist3e, ev_ist3l, ev_goto, pz_wi_gc, pz_wi_ga, pz_wi_gn, pz_wi_gl, pz_wi_gr, pz_wi_same, pz_wi_X, pz_wl_gc, pz_wl_ga, pz_wl_gn, pz_wl_gi, pz_wl_gr, pz_wl_same, pz_wl_X, pz_wr_gc, pz_wr_ga, pz_wr_gn, pz_wr_gi, pz_wr_gl, pz_wr_same, pz_wr_X]
                (try simp (disch := omega) only [nI_clamp, pz_in_nI2, pz_in_nI2L, pv_gt, nI_add, nI_addL, nI_Ladd, pk_mul, nI_mulL, nI_Lmul, pk_sub, nI_subL, nI_Lsub, nI_inc, nI_clampL, Nat.add_sub_cancel, pz_wi_else, pz_wl_else, vu_eq, vu_ne, pz_wi_gc, pz_wi_ga, pz_wi_gn, pz_wi_gl, pz_wi_gr, pz_wi_same, pz_wi_X, pz_wl_gc, pz_wl_ga, pz_wl_gn, pz_wl_gi, pz_wl_gr, pz_wl_same, pz_wl_X, pz_wr_gc, pz_wr_ga, pz_wr_gn, pz_wr_gi, pz_wr_gl, pz_wr_same, pz_wr_X])
                refine po_go ?_
                refine ih (k + 1) M4 _ (by omega) (s3.tr s4.1 (by decide)) (t2.sm s4.1 (by decide) (by decide) (by decide)) ?_ ?_ ?_ hv2 K'
                · rw [s4.2 46 (by decide) (by decide), a0, vu_eq]; rfl
                · intro i hi
                  rw [s4.1.i (by decide), a3, rowF_hi (by omega)]
                  exact e151 i hi
                · intro j h1 h2 h3
                  rw [s4.2 j h2 h3]
                  exact e2 j h1 h2 h3
      · rw [if_neg q] at hv
        subst hv
        have K' := K
        rw [show rchF (endR al cr wk sv er X.B D E X R y) G (c + 1) k = nI k from if_neg q] at K'
        refine pw_blk (mi := mz_48) (b := bz_48_44) rfl rfl ?_
        simp only [bz_48_44, pz_cut_t, pz_cut_f, pz_cut_n, pv_gt, pv_ts, pv_tn, ev_ild3, ev_ifne, pz_wi_gc, pz_wi_ga, pz_wi_gn, pz_wi_gl, pz_wi_gr, pz_wi_same, pz_wi_X, pz_wl_gc, pz_wl_ga, pz_wl_gn, pz_wl_gi, pz_wl_gr, pz_wl_same, pz_wl_X, pz_wr_gc, pz_wr_ga, pz_wr_gn, pz_wr_gi, pz_wr_gl, pz_wr_same, pz_wr_X]
        (try simp (disch := omega) only [nI_clamp, pz_in_nI2, pz_in_nI2L, pv_gt, nI_add, nI_addL, nI_Ladd, pk_mul, nI_mulL, nI_Lmul, pk_sub, nI_subL, nI_Lsub, nI_inc, nI_clampL, Nat.add_sub_cancel, pz_wi_else, pz_wl_else, vu_eq, vu_ne, pz_wi_gc, pz_wi_ga, pz_wi_gn, pz_wi_gl, pz_wi_gr, pz_wi_same, pz_wi_X, pz_wl_gc, pz_wl_ga, pz_wl_gn, pz_wl_gi, pz_wl_gr, pz_wl_same, pz_wl_X, pz_wr_gc, pz_wr_ga, pz_wr_gn, pz_wr_gi, pz_wr_gl, pz_wr_same, pz_wr_X])
        refine po_brP (fun q44 => ?_) (fun q44 => ?_)
        · skip
          (try simp (disch := omega) only [nI_ltI, nI_leI, nI_eq, nI_ltL, nI_leL, nI_eqL, nI_Llt, nI_Lle, nI_Leq, nI_eqm, nI_meq, nI_ltm, nI_lem, nI_mlt, nI_mle, lg0, lgl, lgg, lgle, lgge, Int32.not_lt, Int32.not_le, Int64.not_lt, Int64.not_le, not_false_eq_true, not_true_eq_false, Decidable.not_not, ge_iff_le, gt_iff_lt] at q44)
          exact pw_cut (mi := mz_48) (b := bz_48_82) rfl rfl (bring 0 k M' 1 s' hT' e151 e120 (Or.inr rfl) K') rfl
        · first
          | exact absurd q44 (by decide)
          | exact absurd trivial q44
          | exact q44.elim
          | (exfalso; (try simp (disch := omega) only [nI_ltI, nI_leI, nI_eq, nI_ltL, nI_leL, nI_eqL, nI_Llt, nI_Lle, nI_Leq, nI_eqm, nI_meq, nI_ltm, nI_lem, nI_mlt, nI_mle, lg0, lgl, lgg, lgle, lgge, Int32.not_lt, Int32.not_le, Int64.not_lt, Int64.not_le, not_false_eq_true, not_true_eq_false, Decidable.not_not, ge_iff_le, gt_iff_lt] at q44) <;> omega)
          | exact absurd q44 (by with_reducible assumption)
          | exact absurd (by with_reducible assumption) q44
          | exact absurd (Decidable.not_not.mp q44) (by with_reducible assumption)
          | exact absurd (by with_reducible assumption) (Int32.not_le.mpr q44)
          | exact absurd (by with_reducible assumption) (Int32.not_lt.mpr q44)
  refine pw_blk (mi := mz_48) (b := bz_48_25) rfl rfl ?_
  simp only [bz_48_25, pz_cut_t, pz_cut_f, pz_cut_n, pv_gt, pv_ts, pv_tn, ev_ic0, ev_ist2n, ev_ist2i, ev_ist2r, ev_ist2e, ev_ist2l, ev_ald0, ev_eld0, ev_icm1, ev_cv3_11, pz_wi_gc, pz_wi_ga, pz_wi_gn, pz_wi_gl, pz_wi_gr, pz_wi_same, pz_wi_X, pz_wl_gc, pz_wl_ga, pz_wl_gn, pz_wl_gi, pz_wl_gr, pz_wl_same, pz_wl_X, pz_wr_gc, pz_wr_ga, pz_wr_gn, pz_wr_gi, pz_wr_gl, pz_wr_same, pz_wr_X, so_120 hS]
  (try simp (disch := omega) only [nI_clamp, pz_in_nI2, pz_in_nI2L, pv_gt, nI_add, nI_addL, nI_Ladd, pk_mul, nI_mulL, nI_Lmul, pk_sub, nI_subL, nI_Lsub, nI_inc, nI_clampL, Nat.add_sub_cancel, pz_wi_else, pz_wl_else, vu_eq, vu_ne, pz_wi_gc, pz_wi_ga, pz_wi_gn, pz_wi_gl, pz_wi_gr, pz_wi_same, pz_wi_X, pz_wl_gc, pz_wl_ga, pz_wl_gn, pz_wl_gi, pz_wl_gr, pz_wl_same, pz_wl_X, pz_wr_gc, pz_wr_ga, pz_wr_gn, pz_wr_gi, pz_wr_gl, pz_wr_same, pz_wr_X])
  (try refine po_gP (Nat.le_of_ble_eq_true rfl) ?_)
  refine po_call (by omega) (r_endOf (J := -1) (o := 0) (by omega) x b h0 (fun M1 s1 => ?_))
  refine pw_blk (mi := mz_48) (b := bz_48_34) rfl rfl ?_
  simp only [bz_48_34, pz_cut_t, pz_cut_f, pz_cut_n, pv_gt, pv_ts, pv_tn, ev_ild1, ev_ic_lt, pz_wi_gc, pz_wi_ga, pz_wi_gn, pz_wi_gl, pz_wi_gr, pz_wi_same, pz_wi_X, pz_wl_gc, pz_wl_ga, pz_wl_gn, pz_wl_gi, pz_wl_gr, pz_wl_same, pz_wl_X, pz_wr_gc, pz_wr_ga, pz_wr_gn, pz_wr_gi, pz_wr_gl, pz_wr_same, pz_wr_X]
  (try simp (disch := omega) only [nI_clamp, pz_in_nI2, pz_in_nI2L, pv_gt, nI_add, nI_addL, nI_Ladd, pk_mul, nI_mulL, nI_Lmul, pk_sub, nI_subL, nI_Lsub, nI_inc, nI_clampL, Nat.add_sub_cancel, pz_wi_else, pz_wl_else, vu_eq, vu_ne, pz_wi_gc, pz_wi_ga, pz_wi_gn, pz_wi_gl, pz_wi_gr, pz_wi_same, pz_wi_X, pz_wl_gc, pz_wl_ga, pz_wl_gn, pz_wl_gi, pz_wl_gr, pz_wl_same, pz_wl_X, pz_wr_gc, pz_wr_ga, pz_wr_gn, pz_wr_gi, pz_wr_gl, pz_wr_same, pz_wr_X])
  refine po_brP (fun q34 => ?_) (fun q34 => ?_)
  · first
    | exact absurd q34 (by decide)
    | exact absurd trivial q34
    | exact q34.elim
    | (exfalso; (try simp (disch := omega) only [nI_ltI, nI_leI, nI_eq, nI_ltL, nI_leL, nI_eqL, nI_Llt, nI_Lle, nI_Leq, nI_eqm, nI_meq, nI_ltm, nI_lem, nI_mlt, nI_mle, lg0, lgl, lgg, lgle, lgge, Int32.not_lt, Int32.not_le, Int64.not_lt, Int64.not_le, not_false_eq_true, not_true_eq_false, Decidable.not_not, ge_iff_le, gt_iff_lt] at q34) <;> omega)
    | exact absurd q34 (by with_reducible assumption)
    | exact absurd (by with_reducible assumption) q34
    | exact absurd (Decidable.not_not.mp q34) (by with_reducible assumption)
    | exact absurd (by with_reducible assumption) (Int32.not_le.mpr q34)
    | exact absurd (by with_reducible assumption) (Int32.not_lt.mpr q34)
    | skip
      (try simp (disch := omega) only [nI_ltI, nI_leI, nI_eq, nI_ltL, nI_leL, nI_eqL, nI_Llt, nI_Lle, nI_Leq, nI_eqm, nI_meq, nI_ltm, nI_lem, nI_mlt, nI_mle, lg0, lgl, lgg, lgle, lgge, Int32.not_lt, Int32.not_le, Int64.not_lt, Int64.not_le, not_false_eq_true, not_true_eq_false, Decidable.not_not, ge_iff_le, gt_iff_lt] at q34)
      have hv2 : (0 : Int32) = (if endR al cr wk sv er X.B D E X R y 0 < G then 0 else 1) := (if_pos q34).symm
      refine pw_blk (mi := mz_48) (b := bz_48_42) rfl rfl ?_
      simp only [bz_48_42, pz_cut_t, pz_cut_f, pz_cut_n, pv_gt, pv_ts, pv_tn, ev_ic0, ev_nil, pz_wi_gc, pz_wi_ga, pz_wi_gn, pz_wi_gl, pz_wi_gr, pz_wi_same, pz_wi_X, pz_wl_gc, pz_wl_ga, pz_wl_gn, pz_wl_gi, pz_wl_gr, pz_wl_same, pz_wl_X, pz_wr_gc, pz_wr_ga, pz_wr_gn, pz_wr_gi, pz_wr_gl, pz_wr_same, pz_wr_X]
      (try simp (disch := omega) only [nI_clamp, pz_in_nI2, pz_in_nI2L, pv_gt, nI_add, nI_addL, nI_Ladd, pk_mul, nI_mulL, nI_Lmul, pk_sub, nI_subL, nI_Lsub, nI_inc, nI_clampL, Nat.add_sub_cancel, pz_wi_else, pz_wl_else, vu_eq, vu_ne, pz_wi_gc, pz_wi_ga, pz_wi_gn, pz_wi_gl, pz_wi_gr, pz_wi_same, pz_wi_X, pz_wl_gc, pz_wl_ga, pz_wl_gn, pz_wl_gi, pz_wl_gr, pz_wl_same, pz_wl_X, pz_wr_gc, pz_wr_ga, pz_wr_gn, pz_wr_gi, pz_wr_gl, pz_wr_same, pz_wr_X])
      refine po_go ?_
      refine pw_blk (mi := mz_48) (b := bz_48_43) rfl rfl ?_
      simp only [bz_48_43, pz_cut_t, pz_cut_f, pz_cut_n, pv_gt, pv_ts, pv_tn, ev_ist3n, ev_ist3i, ev_ist3r, ev_ist3e, ev_ist3l, ev_nil, pz_wi_gc, pz_wi_ga, pz_wi_gn, pz_wi_gl, pz_wi_gr, pz_wi_same, pz_wi_X, pz_wl_gc, pz_wl_ga, pz_wl_gn, pz_wl_gi, pz_wl_gr, pz_wl_same, pz_wl_X, pz_wr_gc, pz_wr_ga, pz_wr_gn, pz_wr_gi, pz_wr_gl, pz_wr_same, pz_wr_X]
      (try simp (disch := omega) only [nI_clamp, pz_in_nI2, pz_in_nI2L, pv_gt, nI_add, nI_addL, nI_Ladd, pk_mul, nI_mulL, nI_Lmul, pk_sub, nI_subL, nI_Lsub, nI_inc, nI_clampL, Nat.add_sub_cancel, pz_wi_else, pz_wl_else, vu_eq, vu_ne, pz_wi_gc, pz_wi_ga, pz_wi_gn, pz_wi_gl, pz_wi_gr, pz_wi_same, pz_wi_X, pz_wl_gc, pz_wl_ga, pz_wl_gn, pz_wl_gi, pz_wl_gr, pz_wl_same, pz_wl_X, pz_wr_gc, pz_wr_ga, pz_wr_gn, pz_wr_gi, pz_wr_gl, pz_wr_same, pz_wr_X])
      refine po_go ?_
      refine key 60 0 M1 _ (by omega) (s1.1.mono (by decide)) (hT.sm s1.1 (by decide) (by decide) (by decide)) ?_ ?_ ?_ hv2 K
      · rw [s1.2 46 (by decide) (by decide)]; exact hy
      · intro i hi
        rw [s1.1.i (by decide)]
      · intro j h1 h2 h3
        exact s1.2 j h2 h3
  · first
    | exact absurd q34 (by decide)
    | exact absurd trivial q34
    | exact q34.elim
    | (exfalso; (try simp (disch := omega) only [nI_ltI, nI_leI, nI_eq, nI_ltL, nI_leL, nI_eqL, nI_Llt, nI_Lle, nI_Leq, nI_eqm, nI_meq, nI_ltm, nI_lem, nI_mlt, nI_mle, lg0, lgl, lgg, lgle, lgge, Int32.not_lt, Int32.not_le, Int64.not_lt, Int64.not_le, not_false_eq_true, not_true_eq_false, Decidable.not_not, ge_iff_le, gt_iff_lt] at q34) <;> omega)
    | exact absurd q34 (by with_reducible assumption)
    | exact absurd (by with_reducible assumption) q34
    | exact absurd (Decidable.not_not.mp q34) (by with_reducible assumption)
    | exact absurd (by with_reducible assumption) (Int32.not_le.mpr q34)
    | exact absurd (by with_reducible assumption) (Int32.not_lt.mpr q34)
    | skip
      (try simp (disch := omega) only [nI_ltI, nI_leI, nI_eq, nI_ltL, nI_leL, nI_eqL, nI_Llt, nI_Lle, nI_Leq, nI_eqm, nI_meq, nI_ltm, nI_lem, nI_mlt, nI_mle, lg0, lgl, lgg, lgle, lgge, Int32.not_lt, Int32.not_le, Int64.not_lt, Int64.not_le, not_false_eq_true, not_true_eq_false, Decidable.not_not, ge_iff_le, gt_iff_lt] at q34)
      have hv2 : (1 : Int32) = (if endR al cr wk sv er X.B D E X R y 0 < G then 0 else 1) := (if_neg (Int32.not_lt.mpr q34)).symm
      refine pw_blk (mi := mz_48) (b := bz_48_38) rfl rfl ?_
      simp only [bz_48_38, pz_cut_t, pz_cut_f, pz_cut_n, pv_gt, pv_ts, pv_tn, ev_ic1, ev_goto, pz_wi_gc, pz_wi_ga, pz_wi_gn, pz_wi_gl, pz_wi_gr, pz_wi_same, pz_wi_X, pz_wl_gc, pz_wl_ga, pz_wl_gn, pz_wl_gi, pz_wl_gr, pz_wl_same, pz_wl_X, pz_wr_gc, pz_wr_ga, pz_wr_gn, pz_wr_gi, pz_wr_gl, pz_wr_same, pz_wr_X]
      (try simp (disch := omega) only [nI_clamp, pz_in_nI2, pz_in_nI2L, pv_gt, nI_add, nI_addL, nI_Ladd, pk_mul, nI_mulL, nI_Lmul, pk_sub, nI_subL, nI_Lsub, nI_inc, nI_clampL, Nat.add_sub_cancel, pz_wi_else, pz_wl_else, vu_eq, vu_ne, pz_wi_gc, pz_wi_ga, pz_wi_gn, pz_wi_gl, pz_wi_gr, pz_wi_same, pz_wi_X, pz_wl_gc, pz_wl_ga, pz_wl_gn, pz_wl_gi, pz_wl_gr, pz_wl_same, pz_wl_X, pz_wr_gc, pz_wr_ga, pz_wr_gn, pz_wr_gi, pz_wr_gl, pz_wr_same, pz_wr_X])
      refine po_go ?_
      refine pw_blk (mi := mz_48) (b := bz_48_43) rfl rfl ?_
      simp only [bz_48_43, pz_cut_t, pz_cut_f, pz_cut_n, pv_gt, pv_ts, pv_tn, ev_ist3n, ev_ist3i, ev_ist3r, ev_ist3e, ev_ist3l, ev_nil, pz_wi_gc, pz_wi_ga, pz_wi_gn, pz_wi_gl, pz_wi_gr, pz_wi_same, pz_wi_X, pz_wl_gc, pz_wl_ga, pz_wl_gn, pz_wl_gi, pz_wl_gr, pz_wl_same, pz_wl_X, pz_wr_gc, pz_wr_ga, pz_wr_gn, pz_wr_gi, pz_wr_gl, pz_wr_same, pz_wr_X]
      (try simp (disch := omega) only [nI_clamp, pz_in_nI2, pz_in_nI2L, pv_gt, nI_add, nI_addL, nI_Ladd, pk_mul, nI_mulL, nI_Lmul, pk_sub, nI_subL, nI_Lsub, nI_inc, nI_clampL, Nat.add_sub_cancel, pz_wi_else, pz_wl_else, vu_eq, vu_ne, pz_wi_gc, pz_wi_ga, pz_wi_gn, pz_wi_gl, pz_wi_gr, pz_wi_same, pz_wi_X, pz_wl_gc, pz_wl_ga, pz_wl_gn, pz_wl_gi, pz_wl_gr, pz_wl_same, pz_wl_X, pz_wr_gc, pz_wr_ga, pz_wr_gn, pz_wr_gi, pz_wr_gl, pz_wr_same, pz_wr_X])
      refine po_go ?_
      refine key 60 0 M1 _ (by omega) (s1.1.mono (by decide)) (hT.sm s1.1 (by decide) (by decide) (by decide)) ?_ ?_ ?_ hv2 K
      · rw [s1.2 46 (by decide) (by decide)]; exact hy
      · intro i hi
        rw [s1.1.i (by decide)]
      · intro j h1 h2 h3
        exact s1.2 j h2 h3
/-- the relation behind what was tried and taken back -/
theorem ra_trial {r B H P N D E y t L nd np nr : Nat} (hA : RA M r B H P N D E y t L nd np nr) (s : sg [43, 44, 45, 46, 47, 48, 49, 52, 54, 55, 56, 57, 58, 59, 60, 61, 62, 63, 64, 65, 66, 67, 68, 69, 70, 71, 72, 73, 74, 75, 76, 77, 78, 79, 80, 97, 104, 120, 149, 150, 151, 152, 153, 154, 155, 156, 157, 158, 163, 176, 177, 178, 179, 180, 181, 182, 183] M M') (e : gi M' 149 = gi M 149 ∧ gi M' 150 = gi M 150 ∧ gi M' 151 = gi M 151 ∧ gi M' 152 = gi M 152 ∧ gi M' 153 = gi M 153 ∧ gi M' 154 = gi M 154) (v : ∀ j, j < 6 ∨ j = 38 ∨ j = 46 ∨ j = 47 ∨ (51 ≤ j ∧ j ≤ 56) ∨ j = 77 ∨ j = 78 ∨ 89 ≤ j → gi M' 120 j = gi M 120 j) (hZ : ∀ i, 24 ≤ i → ∀ k, k = 57 ∨ k = 58 ∨ k = 59 ∨ k = 62 ∨ k = 63 ∨ k = 64 ∨ k = 67 ∨ k = 68 ∨ k = 69 ∨ k = 72 ∨ k = 73 ∨ k = 74 ∨ k = 77 ∨ k = 78 ∨ k = 79 → gi M' k i = 0) (hb : ∀ i, i < 72 → gi M' 176 i = gi M 176 i ∧ gi M' 177 i = gi M 177 i ∧ gi M' 178 i = gi M 178 i ∧ gi M' 179 i = gi M 179 i ∧ gi M' 182 i = gi M 182 i ∧ gi M' 183 i = gi M 183 i) (hb2 : ∀ i, i < 3 → gi M' 180 i = gi M 180 i ∧ gi M' 181 i = gi M 181 i) : RA M' r B H P N D E y t L nd np nr := by
  obtain ⟨-, a1, a2, a3, a4, a5, a6, a7, a8, ⟨c0, c1, c2⟩, a9, a10⟩ := hA
  obtain ⟨e1, e2, e3, e4, e5, e6⟩ := e
  refine ⟨s.S, a1.fr2 (s.ag (by decide +kernel)) v, a2.fr (s.ag (by decide +kernel)), ?_, ?_, a5.fr (s.ag (by decide +kernel)), a6.fr (s.ag (by decide +kernel)), a7.fr (s.ag (by decide +kernel)), a8.fr (s.ag (by decide +kernel)), ⟨?_, ?_, ?_⟩, a9.fr (s.ag (by decide +kernel)), a10.fr (s.ag (by decide +kernel))⟩
  · unfold RMr at a3 ⊢
    rw [e1, e2, e3, e4, e5, e6, s.i (k := 34) (by decide), s.i (k := 35) (by decide), s.i (k := 36) (by decide), s.i (k := 37) (by decide)]
    exact a3
  · intro i hi
    have z := a4 i hi
    rw [s.i (k := 34) (by decide), s.i (k := 35) (by decide), s.i (k := 36) (by decide)]
    exact ⟨z.1, z.2.1, z.2.2.1, hZ i hi 57 (by simp), hZ i hi 58 (by simp), hZ i hi 59 (by simp), hZ i hi 62 (by simp), hZ i hi 63 (by simp), hZ i hi 64 (by simp), hZ i hi 67 (by simp), hZ i hi 68 (by simp), hZ i hi 69 (by simp), hZ i hi 72 (by simp), hZ i hi 73 (by simp), hZ i hi 74 (by simp), hZ i hi 77 (by simp), hZ i hi 78 (by simp), hZ i hi 79 (by simp)⟩
  · unfold RBx0 at c0 ⊢
    rw [s.i (k := 105) (by decide), s.i (k := 106) (by decide), s.i (k := 107) (by decide), s.i (k := 108) (by decide), s.i (k := 109) (by decide)]
    rcases c0 with z | ⟨z1, z2⟩
    · exact Or.inl ⟨z.1, ((hb2 0 (by decide)).1).trans z.2⟩
    · exact Or.inr ⟨z1, z2.cong (fun i hi => (hb _ (by omega)).1) (fun i hi => (hb _ (by omega)).2.1) (fun i hi => (hb _ (by omega)).2.2.1) (fun i hi => (hb _ (by omega)).2.2.2.1) (hb2 0 (by decide)).1 (hb2 0 (by decide)).2 (fun i hi => (hb _ (by omega)).2.2.2.2.1) (fun i hi => (hb _ (by omega)).2.2.2.2.2)⟩
  · unfold RBx1 at c1 ⊢
    rw [s.i (k := 110) (by decide), s.i (k := 111) (by decide), s.i (k := 112) (by decide), s.i (k := 113) (by decide), s.i (k := 114) (by decide)]
    rcases c1 with z | ⟨z1, z2⟩
    · exact Or.inl ⟨z.1, ((hb2 1 (by decide)).1).trans z.2⟩
    · exact Or.inr ⟨z1, z2.cong (fun i hi => (hb _ (by omega)).1) (fun i hi => (hb _ (by omega)).2.1) (fun i hi => (hb _ (by omega)).2.2.1) (fun i hi => (hb _ (by omega)).2.2.2.1) (hb2 1 (by decide)).1 (hb2 1 (by decide)).2 (fun i hi => (hb _ (by omega)).2.2.2.2.1) (fun i hi => (hb _ (by omega)).2.2.2.2.2)⟩
  · unfold RBx2 at c2 ⊢
    rw [s.i (k := 115) (by decide), s.i (k := 116) (by decide), s.i (k := 117) (by decide), s.i (k := 118) (by decide), s.i (k := 119) (by decide)]
    rcases c2 with z | ⟨z1, z2⟩
    · exact Or.inl ⟨z.1, ((hb2 2 (by decide)).1).trans z.2⟩
    · exact Or.inr ⟨z1, z2.cong (fun i hi => (hb _ (by omega)).1) (fun i hi => (hb _ (by omega)).2.1) (fun i hi => (hb _ (by omega)).2.2.1) (fun i hi => (hb _ (by omega)).2.2.2.1) (hb2 2 (by decide)).1 (hb2 2 (by decide)).2 (fun i hi => (hb _ (by omega)).2.2.2.2.1) (fun i hi => (hb _ (by omega)).2.2.2.2.2)⟩
end REACH2
