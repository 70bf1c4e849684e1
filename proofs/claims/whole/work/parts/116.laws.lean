/-! ===== laws, hang ===== -/
section LAWS
variable {d : Nat} {M M' : pz_M} {Q : Option Value × pz_M → Prop}
/-- a paper lets a fade -/
def pap (he ba da kw tl un : Nat → Int32) (k f : Int32) (i : Nat) : Bool := !(kn (tl i) (un i) k) || decide ((if 300 ≤ it (f_fade f) (da i).toNatClampNeg (he (ba i).toNatClampNeg) then (1 : Int32) else 0) = kw i)
def alB (p : Nat → Bool) : Nat → Nat → Bool
  | 0, _ => true
  | c + 1, i => p i && alB p c (i + 1)
theorem m_lets (hd : 2 ≤ d) (hS : SH M) {n B : Nat} {k f : Int32} (hn : gi M 87 5 = nI n) (hn40 : n ≤ 40) (hB : B ≤ 24) (hp : ∀ i, i < n → isUn (gi M 92 i) ∧ (∃ b, b < B ∧ gi M 88 i = nI b) ∧ (∃ y, y ≤ 999 ∧ gi M 89 i = nI y) ∧ (gi M 90 i = 0 ∨ gi M 90 i = 1)) (h : Q (some (.int (bI (alB (pap (gi M 35) (gi M 88) (gi M 89) (gi M 90) (gi M 91) (gi M 92) k f) n 0))), M)) : pm d 169 [.ref 0, .int f, .int k] M Q := by
  have key : ∀ c i, i + c = n → Q (some (.int (bI (alB (pap (gi M 35) (gi M 88) (gi M 89) (gi M 90) (gi M 91) (gi M 92) k f) c i))), M) → pw d 169 (2, [some (.ref 0), some (.int f), some (.int k), some (.int (nI i)), none], [], M) Q := by
    intro c
    induction c with
    | zero =>
      intro i hi h
      refine pw_blk (mi := mz_169) (b := bz_169_2) rfl rfl ?_
      simp only [bz_169_2, pz_cut_t, pz_cut_f, pz_cut_n, pv_gt, pv_ts, pv_tn, ev_ild3, ev_ald0, ev_eld0, ev_gf0_2, ev_gf2_0, ev_ic_ge, pz_wi_gc, pz_wi_ga, pz_wi_gn, pz_wi_gl, pz_wi_gr, pz_wi_same, pz_wi_X, pz_wl_gc, pz_wl_ga, pz_wl_gn, pz_wl_gi, pz_wl_gr, pz_wl_same, pz_wl_X, pz_wr_gc, pz_wr_ga, pz_wr_gn, pz_wr_gi, pz_wr_gl, pz_wr_same, pz_wr_X, so_0 hS, sr_0_9 hS, so_87 hS, hn]
      (try simp (disch := omega) only [nI_clamp, pz_in_nI2, pz_in_nI2L, pv_gt, nI_add, nI_addL, nI_Ladd, pk_mul, nI_mulL, nI_Lmul, pk_sub, nI_subL, nI_Lsub, nI_inc, nI_clampL, Nat.add_sub_cancel, pz_wi_else, pz_wl_else, vu_eq, vu_ne, pz_wi_gc, pz_wi_ga, pz_wi_gn, pz_wi_gl, pz_wi_gr, pz_wi_same, pz_wi_X, pz_wl_gc, pz_wl_ga, pz_wl_gn, pz_wl_gi, pz_wl_gr, pz_wl_same, pz_wl_X, pz_wr_gc, pz_wr_ga, pz_wr_gn, pz_wr_gi, pz_wr_gl, pz_wr_same, pz_wr_X, hn])
      refine po_brP (fun q2 => ?_) (fun q2 => ?_)
      · skip
        (try simp (disch := omega) only [nI_ltI, nI_leI, nI_eq, nI_ltL, nI_leL, nI_eqL, nI_Llt, nI_Lle, nI_Leq, nI_eqm, nI_meq, nI_ltm, nI_lem, nI_mlt, nI_mle, lg0, lgl, lgg, lgle, lgge, Int32.not_lt, Int32.not_le, Int64.not_lt, Int64.not_le, not_false_eq_true, not_true_eq_false, Decidable.not_not, ge_iff_le, gt_iff_lt] at q2)
        refine pw_blk (mi := mz_169) (b := bz_169_90) rfl rfl ?_
        simp only [bz_169_90, pz_cut_t, pz_cut_f, pz_cut_n, pv_gt, pv_ts, pv_tn, ev_ic1, ev_iret1, pz_wi_gc, pz_wi_ga, pz_wi_gn, pz_wi_gl, pz_wi_gr, pz_wi_same, pz_wi_X, pz_wl_gc, pz_wl_ga, pz_wl_gn, pz_wl_gi, pz_wl_gr, pz_wl_same, pz_wl_X, pz_wr_gc, pz_wr_ga, pz_wr_gn, pz_wr_gi, pz_wr_gl, pz_wr_same, pz_wr_X, hn]
        (try simp (disch := omega) only [nI_clamp, pz_in_nI2, pz_in_nI2L, pv_gt, nI_add, nI_addL, nI_Ladd, pk_mul, nI_mulL, nI_Lmul, pk_sub, nI_subL, nI_Lsub, nI_inc, nI_clampL, Nat.add_sub_cancel, pz_wi_else, pz_wl_else, vu_eq, vu_ne, pz_wi_gc, pz_wi_ga, pz_wi_gn, pz_wi_gl, pz_wi_gr, pz_wi_same, pz_wi_X, pz_wl_gc, pz_wl_ga, pz_wl_gn, pz_wl_gi, pz_wl_gr, pz_wl_same, pz_wl_X, pz_wr_gc, pz_wr_ga, pz_wr_gn, pz_wr_gi, pz_wr_gl, pz_wr_same, pz_wr_X, hn])
        (try refine po_gP (by first | decide | assumption) ?_)
        exact po_ret h
      · first
        | exact absurd q2 (by decide)
        | exact absurd trivial q2
        | exact q2.elim
        | (exfalso; (try simp (disch := omega) only [nI_ltI, nI_leI, nI_eq, nI_ltL, nI_leL, nI_eqL, nI_Llt, nI_Lle, nI_Leq, nI_eqm, nI_meq, nI_ltm, nI_lem, nI_mlt, nI_mle, lg0, lgl, lgg, lgle, lgge, Int32.not_lt, Int32.not_le, Int64.not_lt, Int64.not_le, not_false_eq_true, not_true_eq_false, Decidable.not_not, ge_iff_le, gt_iff_lt] at q2) <;> omega)
        | exact absurd q2 (by with_reducible assumption)
        | exact absurd (by with_reducible assumption) q2
        | exact absurd (Decidable.not_not.mp q2) (by with_reducible assumption)
        | exact absurd (by with_reducible assumption) (Int32.not_le.mpr q2)
        | exact absurd (by with_reducible assumption) (Int32.not_lt.mpr q2)
    | succ c ih =>
      intro i hi h
      rw [alB] at h
      obtain ⟨u, ⟨b, hb, eb⟩, ⟨y, hy, ey⟩, ek⟩ := hp i (by omega)
      have ek2 := ek
      by_cases hk : kn (gi M 91 i) (gi M 92 i) k = true
      · have hld : ldK M 87 k i = true := by rw [ldK_kn u]; exact hk
        have hpp : pap (gi M 35) (gi M 88) (gi M 89) (gi M 90) (gi M 91) (gi M 92) k f i = decide ((if 300 ≤ it (f_fade f) y (gi M 35 b) then (1 : Int32) else 0) = gi M 90 i) := by
          unfold pap
          rw [hk, eb, ey, nI_clamp (by omega), nI_clamp (by omega)]
          rfl
        rw [hpp] at h
        refine pw_blk (mi := mz_169) (b := bz_169_2) rfl rfl ?_
        simp only [bz_169_2, pz_cut_t, pz_cut_f, pz_cut_n, pv_gt, pv_ts, pv_tn, ev_ild3, ev_ald0, ev_eld0, ev_gf0_2, ev_gf2_0, ev_ic_ge, pz_wi_gc, pz_wi_ga, pz_wi_gn, pz_wi_gl, pz_wi_gr, pz_wi_same, pz_wi_X, pz_wl_gc, pz_wl_ga, pz_wl_gn, pz_wl_gi, pz_wl_gr, pz_wl_same, pz_wl_X, pz_wr_gc, pz_wr_ga, pz_wr_gn, pz_wr_gi, pz_wr_gl, pz_wr_same, pz_wr_X, so_0 hS, sr_0_9 hS, so_87 hS, hn, eb, ey]
        (try simp (disch := omega) only [nI_clamp, pz_in_nI2, pz_in_nI2L, pv_gt, nI_add, nI_addL, nI_Ladd, pk_mul, nI_mulL, nI_Lmul, pk_sub, nI_subL, nI_Lsub, nI_inc, nI_clampL, Nat.add_sub_cancel, pz_wi_else, pz_wl_else, vu_eq, vu_ne, pz_wi_gc, pz_wi_ga, pz_wi_gn, pz_wi_gl, pz_wi_gr, pz_wi_same, pz_wi_X, pz_wl_gc, pz_wl_ga, pz_wl_gn, pz_wl_gi, pz_wl_gr, pz_wl_same, pz_wl_X, pz_wr_gc, pz_wr_ga, pz_wr_gn, pz_wr_gi, pz_wr_gl, pz_wr_same, pz_wr_X, hn, eb, ey])
        refine po_brP (fun q2 => ?_) (fun q2 => ?_)
        · first
          | exact absurd q2 (by decide)
          | exact absurd trivial q2
          | exact q2.elim
          | (exfalso; (try simp (disch := omega) only [nI_ltI, nI_leI, nI_eq, nI_ltL, nI_leL, nI_eqL, nI_Llt, nI_Lle, nI_Leq, nI_eqm, nI_meq, nI_ltm, nI_lem, nI_mlt, nI_mle, lg0, lgl, lgg, lgle, lgge, Int32.not_lt, Int32.not_le, Int64.not_lt, Int64.not_le, not_false_eq_true, not_true_eq_false, Decidable.not_not, ge_iff_le, gt_iff_lt] at q2) <;> omega)
          | exact absurd q2 (by with_reducible assumption)
          | exact absurd (by with_reducible assumption) q2
          | exact absurd (Decidable.not_not.mp q2) (by with_reducible assumption)
          | exact absurd (by with_reducible assumption) (Int32.not_le.mpr q2)
          | exact absurd (by with_reducible assumption) (Int32.not_lt.mpr q2)
        · skip
          (try simp (disch := omega) only [nI_ltI, nI_leI, nI_eq, nI_ltL, nI_leL, nI_eqL, nI_Llt, nI_Lle, nI_Leq, nI_eqm, nI_meq, nI_ltm, nI_lem, nI_mlt, nI_mle, lg0, lgl, lgg, lgle, lgge, Int32.not_lt, Int32.not_le, Int64.not_lt, Int64.not_le, not_false_eq_true, not_true_eq_false, Decidable.not_not, ge_iff_le, gt_iff_lt] at q2)
          refine pw_blk (mi := mz_169) (b := bz_169_13) rfl rfl ?_
          simp only [bz_169_13, pz_cut_t, pz_cut_f, pz_cut_n, pv_gt, pv_ts, pv_tn, ev_ald0, ev_eld0, ev_gf0_2, ev_ild3, ev_ild2, ev_cv2_2, pz_wi_gc, pz_wi_ga, pz_wi_gn, pz_wi_gl, pz_wi_gr, pz_wi_same, pz_wi_X, pz_wl_gc, pz_wl_ga, pz_wl_gn, pz_wl_gi, pz_wl_gr, pz_wl_same, pz_wl_X, pz_wr_gc, pz_wr_ga, pz_wr_gn, pz_wr_gi, pz_wr_gl, pz_wr_same, pz_wr_X, so_0 hS, sr_0_9 hS, so_87 hS, hn, eb, ey]
          (try simp (disch := omega) only [nI_clamp, pz_in_nI2, pz_in_nI2L, pv_gt, nI_add, nI_addL, nI_Ladd, pk_mul, nI_mulL, nI_Lmul, pk_sub, nI_subL, nI_Lsub, nI_inc, nI_clampL, Nat.add_sub_cancel, pz_wi_else, pz_wl_else, vu_eq, vu_ne, pz_wi_gc, pz_wi_ga, pz_wi_gn, pz_wi_gl, pz_wi_gr, pz_wi_same, pz_wi_X, pz_wl_gc, pz_wl_ga, pz_wl_gn, pz_wl_gi, pz_wl_gr, pz_wl_same, pz_wl_X, pz_wr_gc, pz_wr_ga, pz_wr_gn, pz_wr_gi, pz_wr_gl, pz_wr_same, pz_wr_X, hn, eb, ey])
          (try refine po_gP (Nat.le_of_ble_eq_true rfl) ?_)
          refine po_call (by omega) (m_counts hS.ledgP (by omega) (fun _ => ?_) (fun z => absurd hld (by rw [z]; decide)))
          refine pw_blk (mi := mz_169) (b := bz_169_22) rfl rfl ?_
          simp only [bz_169_22, pz_cut_t, pz_cut_f, pz_cut_n, pv_gt, pv_ts, pv_tn, ev_ifeq, pz_wi_gc, pz_wi_ga, pz_wi_gn, pz_wi_gl, pz_wi_gr, pz_wi_same, pz_wi_X, pz_wl_gc, pz_wl_ga, pz_wl_gn, pz_wl_gi, pz_wl_gr, pz_wl_same, pz_wl_X, pz_wr_gc, pz_wr_ga, pz_wr_gn, pz_wr_gi, pz_wr_gl, pz_wr_same, pz_wr_X, hn, eb, ey]
          (try simp (disch := omega) only [nI_clamp, pz_in_nI2, pz_in_nI2L, pv_gt, nI_add, nI_addL, nI_Ladd, pk_mul, nI_mulL, nI_Lmul, pk_sub, nI_subL, nI_Lsub, nI_inc, nI_clampL, Nat.add_sub_cancel, pz_wi_else, pz_wl_else, vu_eq, vu_ne, pz_wi_gc, pz_wi_ga, pz_wi_gn, pz_wi_gl, pz_wi_gr, pz_wi_same, pz_wi_X, pz_wl_gc, pz_wl_ga, pz_wl_gn, pz_wl_gi, pz_wl_gr, pz_wl_same, pz_wl_X, pz_wr_gc, pz_wr_ga, pz_wr_gn, pz_wr_gi, pz_wr_gl, pz_wr_same, pz_wr_X, hn, eb, ey])
          refine po_brP (fun q22 => ?_) (fun q22 => ?_)
          · first
            | exact absurd q22 (by decide)
            | exact absurd trivial q22
            | exact q22.elim
            | (exfalso; (try simp (disch := omega) only [nI_ltI, nI_leI, nI_eq, nI_ltL, nI_leL, nI_eqL, nI_Llt, nI_Lle, nI_Leq, nI_eqm, nI_meq, nI_ltm, nI_lem, nI_mlt, nI_mle, lg0, lgl, lgg, lgle, lgge, Int32.not_lt, Int32.not_le, Int64.not_lt, Int64.not_le, not_false_eq_true, not_true_eq_false, Decidable.not_not, ge_iff_le, gt_iff_lt] at q22) <;> omega)
            | exact absurd q22 (by with_reducible assumption)
            | exact absurd (by with_reducible assumption) q22
            | exact absurd (Decidable.not_not.mp q22) (by with_reducible assumption)
            | exact absurd (by with_reducible assumption) (Int32.not_le.mpr q22)
            | exact absurd (by with_reducible assumption) (Int32.not_lt.mpr q22)
          · skip
            (try simp (disch := omega) only [nI_ltI, nI_leI, nI_eq, nI_ltL, nI_leL, nI_eqL, nI_Llt, nI_Lle, nI_Leq, nI_eqm, nI_meq, nI_ltm, nI_lem, nI_mlt, nI_mle, lg0, lgl, lgg, lgle, lgge, Int32.not_lt, Int32.not_le, Int64.not_lt, Int64.not_le, not_false_eq_true, not_true_eq_false, Decidable.not_not, ge_iff_le, gt_iff_lt] at q22)
            refine pw_blk (mi := mz_169) (b := bz_169_25) rfl rfl ?_
            simp only [bz_169_25, pz_cut_t, pz_cut_f, pz_cut_n, pv_gt, pv_ts, pv_tn, ev_ald0, ev_eld0, ev_gf0_2, ev_gf3_2, ev_gf2_2, ev_ild3, ea_iald, ev_ild1, ev_cs3, pz_wi_gc, pz_wi_ga, pz_wi_gn, pz_wi_gl, pz_wi_gr, pz_wi_same, pz_wi_X, pz_wl_gc, pz_wl_ga, pz_wl_gn, pz_wl_gi, pz_wl_gr, pz_wl_same, pz_wl_X, pz_wr_gc, pz_wr_ga, pz_wr_gn, pz_wr_gi, pz_wr_gl, pz_wr_same, pz_wr_X, so_0 hS, sr_0_3 hS, so_33 hS, sr_33_1 hS, sa_35 hS, sn_35 hS, sr_0_9 hS, so_87 hS, sr_87_0 hS, sa_88 hS, sn_88 hS, sr_87_1 hS, sa_89 hS, sn_89 hS, hn, eb, ey, sa_90 hS, sn_90 hS]
            (try simp (disch := omega) only [nI_clamp, pz_in_nI2, pz_in_nI2L, pv_gt, nI_add, nI_addL, nI_Ladd, pk_mul, nI_mulL, nI_Lmul, pk_sub, nI_subL, nI_Lsub, nI_inc, nI_clampL, Nat.add_sub_cancel, pz_wi_else, pz_wl_else, vu_eq, vu_ne, pz_wi_gc, pz_wi_ga, pz_wi_gn, pz_wi_gl, pz_wi_gr, pz_wi_same, pz_wi_X, pz_wl_gc, pz_wl_ga, pz_wl_gn, pz_wl_gi, pz_wl_gr, pz_wl_same, pz_wl_X, pz_wr_gc, pz_wr_ga, pz_wr_gn, pz_wr_gi, pz_wr_gl, pz_wr_same, pz_wr_X, hn, eb, ey])
            (try refine po_gI (by first | exact pz_in_nI (by omega) (by decide) | decide | assumption) ?_)
            (try refine po_gI (by first | exact pz_in_nI (by omega) (by decide) | decide | assumption) ?_)
            (try refine po_gI (by first | exact pz_in_nI (by omega) (by decide) | decide | assumption) ?_)
            (try refine po_gP (Nat.le_of_ble_eq_true rfl) ?_)
            refine po_call (by omega) (m_faded (by omega) ?_)
            refine pw_blk (mi := mz_169) (b := bz_169_55) rfl rfl ?_
            simp only [bz_169_55, pz_cut_t, pz_cut_f, pz_cut_n, pv_gt, pv_ts, pv_tn, ev_ist4n, ev_ist4i, ev_ist4r, ev_ist4e, ev_ist4l, ev_ild4, ev_sp300, ev_ic_lt, pz_wi_gc, pz_wi_ga, pz_wi_gn, pz_wi_gl, pz_wi_gr, pz_wi_same, pz_wi_X, pz_wl_gc, pz_wl_ga, pz_wl_gn, pz_wl_gi, pz_wl_gr, pz_wl_same, pz_wl_X, pz_wr_gc, pz_wr_ga, pz_wr_gn, pz_wr_gi, pz_wr_gl, pz_wr_same, pz_wr_X, hn, eb, ey]
            (try simp (disch := omega) only [nI_clamp, pz_in_nI2, pz_in_nI2L, pv_gt, nI_add, nI_addL, nI_Ladd, pk_mul, nI_mulL, nI_Lmul, pk_sub, nI_subL, nI_Lsub, nI_inc, nI_clampL, Nat.add_sub_cancel, pz_wi_else, pz_wl_else, vu_eq, vu_ne, pz_wi_gc, pz_wi_ga, pz_wi_gn, pz_wi_gl, pz_wi_gr, pz_wi_same, pz_wi_X, pz_wl_gc, pz_wl_ga, pz_wl_gn, pz_wl_gi, pz_wl_gr, pz_wl_same, pz_wl_X, pz_wr_gc, pz_wr_ga, pz_wr_gn, pz_wr_gi, pz_wr_gl, pz_wr_same, pz_wr_X, hn, eb, ey])
            refine po_brP (fun q55 => ?_) (fun q55 => ?_)
            · first
              | exact absurd q55 (by decide)
              | exact absurd trivial q55
              | exact q55.elim
              | (exfalso; (try simp (disch := omega) only [nI_ltI, nI_leI, nI_eq, nI_ltL, nI_leL, nI_eqL, nI_Llt, nI_Lle, nI_Leq, nI_eqm, nI_meq, nI_ltm, nI_lem, nI_mlt, nI_mle, lg0, lgl, lgg, lgle, lgge, Int32.not_lt, Int32.not_le, Int64.not_lt, Int64.not_le, not_false_eq_true, not_true_eq_false, Decidable.not_not, ge_iff_le, gt_iff_lt] at q55) <;> omega)
              | exact absurd q55 (by with_reducible assumption)
              | exact absurd (by with_reducible assumption) q55
              | exact absurd (Decidable.not_not.mp q55) (by with_reducible assumption)
              | exact absurd (by with_reducible assumption) (Int32.not_le.mpr q55)
              | exact absurd (by with_reducible assumption) (Int32.not_lt.mpr q55)
              | skip
                (try simp (disch := omega) only [nI_ltI, nI_leI, nI_eq, nI_ltL, nI_leL, nI_eqL, nI_Llt, nI_Lle, nI_Leq, nI_eqm, nI_meq, nI_ltm, nI_lem, nI_mlt, nI_mle, lg0, lgl, lgg, lgle, lgge, Int32.not_lt, Int32.not_le, Int64.not_lt, Int64.not_le, not_false_eq_true, not_true_eq_false, Decidable.not_not, ge_iff_le, gt_iff_lt] at q55)
                rw [if_neg (Int32.not_le.mpr q55)] at h
                refine pw_blk (mi := mz_169) (b := bz_169_69) rfl rfl ?_
                simp only [bz_169_69, pz_cut_t, pz_cut_f, pz_cut_n, pv_gt, pv_ts, pv_tn, ev_ic0, ev_nil, pz_wi_gc, pz_wi_ga, pz_wi_gn, pz_wi_gl, pz_wi_gr, pz_wi_same, pz_wi_X, pz_wl_gc, pz_wl_ga, pz_wl_gn, pz_wl_gi, pz_wl_gr, pz_wl_same, pz_wl_X, pz_wr_gc, pz_wr_ga, pz_wr_gn, pz_wr_gi, pz_wr_gl, pz_wr_same, pz_wr_X, hn, eb, ey]
                (try simp (disch := omega) only [nI_clamp, pz_in_nI2, pz_in_nI2L, pv_gt, nI_add, nI_addL, nI_Ladd, pk_mul, nI_mulL, nI_Lmul, pk_sub, nI_subL, nI_Lsub, nI_inc, nI_clampL, Nat.add_sub_cancel, pz_wi_else, pz_wl_else, vu_eq, vu_ne, pz_wi_gc, pz_wi_ga, pz_wi_gn, pz_wi_gl, pz_wi_gr, pz_wi_same, pz_wi_X, pz_wl_gc, pz_wl_ga, pz_wl_gn, pz_wl_gi, pz_wl_gr, pz_wl_same, pz_wl_X, pz_wr_gc, pz_wr_ga, pz_wr_gn, pz_wr_gi, pz_wr_gl, pz_wr_same, pz_wr_X, hn, eb, ey])
                refine po_go ?_
                refine pw_blk (mi := mz_169) (b := bz_169_70) rfl rfl ?_
                simp only [bz_169_70, pz_cut_t, pz_cut_f, pz_cut_n, pv_gt, pv_ts, pv_tn, ev_ald0, ev_eld0, ev_gf0_2, ev_gf2_2, ev_ild3, ea_bald, ea_zald, ev_ic_eq, pz_wi_gc, pz_wi_ga, pz_wi_gn, pz_wi_gl, pz_wi_gr, pz_wi_same, pz_wi_X, pz_wl_gc, pz_wl_ga, pz_wl_gn, pz_wl_gi, pz_wl_gr, pz_wl_same, pz_wl_X, pz_wr_gc, pz_wr_ga, pz_wr_gn, pz_wr_gi, pz_wr_gl, pz_wr_same, pz_wr_X, so_0 hS, sr_0_9 hS, so_87 hS, sr_87_2 hS, sa_90 hS, sn_90 hS, hn, eb, ey, sa_35 hS, sn_35 hS, sa_88 hS, sn_88 hS, sa_89 hS, sn_89 hS]
                (try simp (disch := omega) only [nI_clamp, pz_in_nI2, pz_in_nI2L, pv_gt, nI_add, nI_addL, nI_Ladd, pk_mul, nI_mulL, nI_Lmul, pk_sub, nI_subL, nI_Lsub, nI_inc, nI_clampL, Nat.add_sub_cancel, pz_wi_else, pz_wl_else, vu_eq, vu_ne, pz_wi_gc, pz_wi_ga, pz_wi_gn, pz_wi_gl, pz_wi_gr, pz_wi_same, pz_wi_X, pz_wl_gc, pz_wl_ga, pz_wl_gn, pz_wl_gi, pz_wl_gr, pz_wl_same, pz_wl_X, pz_wr_gc, pz_wr_ga, pz_wr_gn, pz_wr_gi, pz_wr_gl, pz_wr_same, pz_wr_X, hn, eb, ey])
                (try refine po_gI (by first | exact pz_in_nI (by omega) (by decide) | decide | assumption) ?_)
                refine po_brP (fun q70 => ?_) (fun q70 => ?_)
                · first
                  | exact absurd q70 (by decide)
                  | exact absurd trivial q70
                  | exact q70.elim
                  | (exfalso; (try simp (disch := omega) only [nI_ltI, nI_leI, nI_eq, nI_ltL, nI_leL, nI_eqL, nI_Llt, nI_Lle, nI_Leq, nI_eqm, nI_meq, nI_ltm, nI_lem, nI_mlt, nI_mle, lg0, lgl, lgg, lgle, lgge, Int32.not_lt, Int32.not_le, Int64.not_lt, Int64.not_le, not_false_eq_true, not_true_eq_false, Decidable.not_not, ge_iff_le, gt_iff_lt] at q70) <;> omega)
                  | exact absurd q70 (by with_reducible assumption)
                  | exact absurd (by with_reducible assumption) q70
                  | exact absurd (Decidable.not_not.mp q70) (by with_reducible assumption)
                  | exact absurd (by with_reducible assumption) (Int32.not_le.mpr q70)
                  | exact absurd (by with_reducible assumption) (Int32.not_lt.mpr q70)
                  | skip
                    (try simp (disch := omega) only [nI_ltI, nI_leI, nI_eq, nI_ltL, nI_leL, nI_eqL, nI_Llt, nI_Lle, nI_Leq, nI_eqm, nI_meq, nI_ltm, nI_lem, nI_mlt, nI_mle, lg0, lgl, lgg, lgle, lgge, Int32.not_lt, Int32.not_le, Int64.not_lt, Int64.not_le, not_false_eq_true, not_true_eq_false, Decidable.not_not, ge_iff_le, gt_iff_lt] at q70)
                    rw [decide_eq_true q70] at h
                    refine pw_blk (mi := mz_169) (b := bz_169_84) rfl rfl ?_
                    simp only [bz_169_84, pz_cut_t, pz_cut_f, pz_cut_n, pv_gt, pv_ts, pv_tn, ev_inc3n, ev_inc3i, ev_inc3r, ev_inc3e, ev_goto, pz_wi_gc, pz_wi_ga, pz_wi_gn, pz_wi_gl, pz_wi_gr, pz_wi_same, pz_wi_X, pz_wl_gc, pz_wl_ga, pz_wl_gn, pz_wl_gi, pz_wl_gr, pz_wl_same, pz_wl_X, pz_wr_gc, pz_wr_ga, pz_wr_gn, pz_wr_gi, pz_wr_gl, pz_wr_same, pz_wr_X, hn, eb, ey]
                    (try simp (disch := omega) only [nI_clamp, pz_in_nI2, pz_in_nI2L, pv_gt, nI_add, nI_addL, nI_Ladd, pk_mul, nI_mulL, nI_Lmul, pk_sub, nI_subL, nI_Lsub, nI_inc, nI_clampL, Nat.add_sub_cancel, pz_wi_else, pz_wl_else, vu_eq, vu_ne, pz_wi_gc, pz_wi_ga, pz_wi_gn, pz_wi_gl, pz_wi_gr, pz_wi_same, pz_wi_X, pz_wl_gc, pz_wl_ga, pz_wl_gn, pz_wl_gi, pz_wl_gr, pz_wl_same, pz_wl_X, pz_wr_gc, pz_wr_ga, pz_wr_gn, pz_wr_gi, pz_wr_gl, pz_wr_same, pz_wr_X, hn, eb, ey])
                    refine po_go ?_
                    exact pw_cut (mi := mz_169) (b := bz_169_2) rfl rfl (ih (i + 1) (by omega) h) rfl
                · first
                  | exact absurd q70 (by decide)
                  | exact absurd trivial q70
                  | exact q70.elim
                  | (exfalso; (try simp (disch := omega) only [nI_ltI, nI_leI, nI_eq, nI_ltL, nI_leL, nI_eqL, nI_Llt, nI_Lle, nI_Leq, nI_eqm, nI_meq, nI_ltm, nI_lem, nI_mlt, nI_mle, lg0, lgl, lgg, lgle, lgge, Int32.not_lt, Int32.not_le, Int64.not_lt, Int64.not_le, not_false_eq_true, not_true_eq_false, Decidable.not_not, ge_iff_le, gt_iff_lt] at q70) <;> omega)
                  | exact absurd q70 (by with_reducible assumption)
                  | exact absurd (by with_reducible assumption) q70
                  | exact absurd (Decidable.not_not.mp q70) (by with_reducible assumption)
                  | exact absurd (by with_reducible assumption) (Int32.not_le.mpr q70)
                  | exact absurd (by with_reducible assumption) (Int32.not_lt.mpr q70)
                  | skip
                    (try simp (disch := omega) only [nI_ltI, nI_leI, nI_eq, nI_ltL, nI_leL, nI_eqL, nI_Llt, nI_Lle, nI_Leq, nI_eqm, nI_meq, nI_ltm, nI_lem, nI_mlt, nI_mle, lg0, lgl, lgg, lgle, lgge, Int32.not_lt, Int32.not_le, Int64.not_lt, Int64.not_le, not_false_eq_true, not_true_eq_false, Decidable.not_not, ge_iff_le, gt_iff_lt] at q70)
                    rw [decide_eq_false q70] at h
                    refine pw_blk (mi := mz_169) (b := bz_169_82) rfl rfl ?_
                    simp only [bz_169_82, pz_cut_t, pz_cut_f, pz_cut_n, pv_gt, pv_ts, pv_tn, ev_ic0, ev_iret1, pz_wi_gc, pz_wi_ga, pz_wi_gn, pz_wi_gl, pz_wi_gr, pz_wi_same, pz_wi_X, pz_wl_gc, pz_wl_ga, pz_wl_gn, pz_wl_gi, pz_wl_gr, pz_wl_same, pz_wl_X, pz_wr_gc, pz_wr_ga, pz_wr_gn, pz_wr_gi, pz_wr_gl, pz_wr_same, pz_wr_X, hn, eb, ey]
                    (try simp (disch := omega) only [nI_clamp, pz_in_nI2, pz_in_nI2L, pv_gt, nI_add, nI_addL, nI_Ladd, pk_mul, nI_mulL, nI_Lmul, pk_sub, nI_subL, nI_Lsub, nI_inc, nI_clampL, Nat.add_sub_cancel, pz_wi_else, pz_wl_else, vu_eq, vu_ne, pz_wi_gc, pz_wi_ga, pz_wi_gn, pz_wi_gl, pz_wi_gr, pz_wi_same, pz_wi_X, pz_wl_gc, pz_wl_ga, pz_wl_gn, pz_wl_gi, pz_wl_gr, pz_wl_same, pz_wl_X, pz_wr_gc, pz_wr_ga, pz_wr_gn, pz_wr_gi, pz_wr_gl, pz_wr_same, pz_wr_X, hn, eb, ey])
                    (try refine po_gP (by first | decide | assumption) ?_)
                    exact po_ret h
            · first
              | exact absurd q55 (by decide)
              | exact absurd trivial q55
              | exact q55.elim
              | (exfalso; (try simp (disch := omega) only [nI_ltI, nI_leI, nI_eq, nI_ltL, nI_leL, nI_eqL, nI_Llt, nI_Lle, nI_Leq, nI_eqm, nI_meq, nI_ltm, nI_lem, nI_mlt, nI_mle, lg0, lgl, lgg, lgle, lgge, Int32.not_lt, Int32.not_le, Int64.not_lt, Int64.not_le, not_false_eq_true, not_true_eq_false, Decidable.not_not, ge_iff_le, gt_iff_lt] at q55) <;> omega)
              | exact absurd q55 (by with_reducible assumption)
              | exact absurd (by with_reducible assumption) q55
              | exact absurd (Decidable.not_not.mp q55) (by with_reducible assumption)
              | exact absurd (by with_reducible assumption) (Int32.not_le.mpr q55)
              | exact absurd (by with_reducible assumption) (Int32.not_lt.mpr q55)
              | skip
                (try simp (disch := omega) only [nI_ltI, nI_leI, nI_eq, nI_ltL, nI_leL, nI_eqL, nI_Llt, nI_Lle, nI_Leq, nI_eqm, nI_meq, nI_ltm, nI_lem, nI_mlt, nI_mle, lg0, lgl, lgg, lgle, lgge, Int32.not_lt, Int32.not_le, Int64.not_lt, Int64.not_le, not_false_eq_true, not_true_eq_false, Decidable.not_not, ge_iff_le, gt_iff_lt] at q55)
                rw [if_pos q55] at h
                refine pw_blk (mi := mz_169) (b := bz_169_65) rfl rfl ?_
                simp only [bz_169_65, pz_cut_t, pz_cut_f, pz_cut_n, pv_gt, pv_ts, pv_tn, ev_ic1, ev_goto, pz_wi_gc, pz_wi_ga, pz_wi_gn, pz_wi_gl, pz_wi_gr, pz_wi_same, pz_wi_X, pz_wl_gc, pz_wl_ga, pz_wl_gn, pz_wl_gi, pz_wl_gr, pz_wl_same, pz_wl_X, pz_wr_gc, pz_wr_ga, pz_wr_gn, pz_wr_gi, pz_wr_gl, pz_wr_same, pz_wr_X, hn, eb, ey]
                (try simp (disch := omega) only [nI_clamp, pz_in_nI2, pz_in_nI2L, pv_gt, nI_add, nI_addL, nI_Ladd, pk_mul, nI_mulL, nI_Lmul, pk_sub, nI_subL, nI_Lsub, nI_inc, nI_clampL, Nat.add_sub_cancel, pz_wi_else, pz_wl_else, vu_eq, vu_ne, pz_wi_gc, pz_wi_ga, pz_wi_gn, pz_wi_gl, pz_wi_gr, pz_wi_same, pz_wi_X, pz_wl_gc, pz_wl_ga, pz_wl_gn, pz_wl_gi, pz_wl_gr, pz_wl_same, pz_wl_X, pz_wr_gc, pz_wr_ga, pz_wr_gn, pz_wr_gi, pz_wr_gl, pz_wr_same, pz_wr_X, hn, eb, ey])
                refine po_go ?_
                refine pw_blk (mi := mz_169) (b := bz_169_70) rfl rfl ?_
                simp only [bz_169_70, pz_cut_t, pz_cut_f, pz_cut_n, pv_gt, pv_ts, pv_tn, ev_ald0, ev_eld0, ev_gf0_2, ev_gf2_2, ev_ild3, ea_bald, ea_zald, ev_ic_eq, pz_wi_gc, pz_wi_ga, pz_wi_gn, pz_wi_gl, pz_wi_gr, pz_wi_same, pz_wi_X, pz_wl_gc, pz_wl_ga, pz_wl_gn, pz_wl_gi, pz_wl_gr, pz_wl_same, pz_wl_X, pz_wr_gc, pz_wr_ga, pz_wr_gn, pz_wr_gi, pz_wr_gl, pz_wr_same, pz_wr_X, so_0 hS, sr_0_9 hS, so_87 hS, sr_87_2 hS, sa_90 hS, sn_90 hS, hn, eb, ey, sa_35 hS, sn_35 hS, sa_88 hS, sn_88 hS, sa_89 hS, sn_89 hS]
                (try simp (disch := omega) only [nI_clamp, pz_in_nI2, pz_in_nI2L, pv_gt, nI_add, nI_addL, nI_Ladd, pk_mul, nI_mulL, nI_Lmul, pk_sub, nI_subL, nI_Lsub, nI_inc, nI_clampL, Nat.add_sub_cancel, pz_wi_else, pz_wl_else, vu_eq, vu_ne, pz_wi_gc, pz_wi_ga, pz_wi_gn, pz_wi_gl, pz_wi_gr, pz_wi_same, pz_wi_X, pz_wl_gc, pz_wl_ga, pz_wl_gn, pz_wl_gi, pz_wl_gr, pz_wl_same, pz_wl_X, pz_wr_gc, pz_wr_ga, pz_wr_gn, pz_wr_gi, pz_wr_gl, pz_wr_same, pz_wr_X, hn, eb, ey])
                (try refine po_gI (by first | exact pz_in_nI (by omega) (by decide) | decide | assumption) ?_)
                refine po_brP (fun q70 => ?_) (fun q70 => ?_)
                · first
                  | exact absurd q70 (by decide)
                  | exact absurd trivial q70
                  | exact q70.elim
                  | (exfalso; (try simp (disch := omega) only [nI_ltI, nI_leI, nI_eq, nI_ltL, nI_leL, nI_eqL, nI_Llt, nI_Lle, nI_Leq, nI_eqm, nI_meq, nI_ltm, nI_lem, nI_mlt, nI_mle, lg0, lgl, lgg, lgle, lgge, Int32.not_lt, Int32.not_le, Int64.not_lt, Int64.not_le, not_false_eq_true, not_true_eq_false, Decidable.not_not, ge_iff_le, gt_iff_lt] at q70) <;> omega)
                  | exact absurd q70 (by with_reducible assumption)
                  | exact absurd (by with_reducible assumption) q70
                  | exact absurd (Decidable.not_not.mp q70) (by with_reducible assumption)
                  | exact absurd (by with_reducible assumption) (Int32.not_le.mpr q70)
                  | exact absurd (by with_reducible assumption) (Int32.not_lt.mpr q70)
                  | skip
                    (try simp (disch := omega) only [nI_ltI, nI_leI, nI_eq, nI_ltL, nI_leL, nI_eqL, nI_Llt, nI_Lle, nI_Leq, nI_eqm, nI_meq, nI_ltm, nI_lem, nI_mlt, nI_mle, lg0, lgl, lgg, lgle, lgge, Int32.not_lt, Int32.not_le, Int64.not_lt, Int64.not_le, not_false_eq_true, not_true_eq_false, Decidable.not_not, ge_iff_le, gt_iff_lt] at q70)
                    rw [decide_eq_true q70] at h
                    refine pw_blk (mi := mz_169) (b := bz_169_84) rfl rfl ?_
                    simp only [bz_169_84, pz_cut_t, pz_cut_f, pz_cut_n, pv_gt, pv_ts, pv_tn, ev_inc3n, ev_inc3i, ev_inc3r, ev_inc3e, ev_goto, pz_wi_gc, pz_wi_ga, pz_wi_gn, pz_wi_gl, pz_wi_gr, pz_wi_same, pz_wi_X, pz_wl_gc, pz_wl_ga, pz_wl_gn, pz_wl_gi, pz_wl_gr, pz_wl_same, pz_wl_X, pz_wr_gc, pz_wr_ga, pz_wr_gn, pz_wr_gi, pz_wr_gl, pz_wr_same, pz_wr_X, hn, eb, ey]
                    (try simp (disch := omega) only [nI_clamp, pz_in_nI2, pz_in_nI2L, pv_gt, nI_add, nI_addL, nI_Ladd, pk_mul, nI_mulL, nI_Lmul, pk_sub, nI_subL, nI_Lsub, nI_inc, nI_clampL, Nat.add_sub_cancel, pz_wi_else, pz_wl_else, vu_eq, vu_ne, pz_wi_gc, pz_wi_ga, pz_wi_gn, pz_wi_gl, pz_wi_gr, pz_wi_same, pz_wi_X, pz_wl_gc, pz_wl_ga, pz_wl_gn, pz_wl_gi, pz_wl_gr, pz_wl_same, pz_wl_X, pz_wr_gc, pz_wr_ga, pz_wr_gn, pz_wr_gi, pz_wr_gl, pz_wr_same, pz_wr_X, hn, eb, ey])
                    refine po_go ?_
                    exact pw_cut (mi := mz_169) (b := bz_169_2) rfl rfl (ih (i + 1) (by omega) h) rfl
                · first
                  | exact absurd q70 (by decide)
                  | exact absurd trivial q70
                  | exact q70.elim
                  | (exfalso; (try simp (disch := omega) only [nI_ltI, nI_leI, nI_eq, nI_ltL, nI_leL, nI_eqL, nI_Llt, nI_Lle, nI_Leq, nI_eqm, nI_meq, nI_ltm, nI_lem, nI_mlt, nI_mle, lg0, lgl, lgg, lgle, lgge, Int32.not_lt, Int32.not_le, Int64.not_lt, Int64.not_le, not_false_eq_true, not_true_eq_false, Decidable.not_not, ge_iff_le, gt_iff_lt] at q70) <;> omega)
                  | exact absurd q70 (by with_reducible assumption)
                  | exact absurd (by with_reducible assumption) q70
                  | exact absurd (Decidable.not_not.mp q70) (by with_reducible assumption)
                  | exact absurd (by with_reducible assumption) (Int32.not_le.mpr q70)
                  | exact absurd (by with_reducible assumption) (Int32.not_lt.mpr q70)
                  | skip
                    (try simp (disch := omega) only [nI_ltI, nI_leI, nI_eq, nI_ltL, nI_leL, nI_eqL, nI_Llt, nI_Lle, nI_Leq, nI_eqm, nI_meq, nI_ltm, nI_lem, nI_mlt, nI_mle, lg0, lgl, lgg, lgle, lgge, Int32.not_lt, Int32.not_le, Int64.not_lt, Int64.not_le, not_false_eq_true, not_true_eq_false, Decidable.not_not, ge_iff_le, gt_iff_lt] at q70)
                    rw [decide_eq_false q70] at h
                    refine pw_blk (mi := mz_169) (b := bz_169_82) rfl rfl ?_
                    simp only [bz_169_82, pz_cut_t, pz_cut_f, pz_cut_n, pv_gt, pv_ts, pv_tn, ev_ic0, ev_iret1, pz_wi_gc, pz_wi_ga, pz_wi_gn, pz_wi_gl, pz_wi_gr, pz_wi_same, pz_wi_X, pz_wl_gc, pz_wl_ga, pz_wl_gn, pz_wl_gi, pz_wl_gr, pz_wl_same, pz_wl_X, pz_wr_gc, pz_wr_ga, pz_wr_gn, pz_wr_gi, pz_wr_gl, pz_wr_same, pz_wr_X, hn, eb, ey]
                    (try simp (disch := omega) only [nI_clamp, pz_in_nI2, pz_in_nI2L, pv_gt, nI_add, nI_addL, nI_Ladd, pk_mul, nI_mulL, nI_Lmul, pk_sub, nI_subL, nI_Lsub, nI_inc, nI_clampL, Nat.add_sub_cancel, pz_wi_else, pz_wl_else, vu_eq, vu_ne, pz_wi_gc, pz_wi_ga, pz_wi_gn, pz_wi_gl, pz_wi_gr, pz_wi_same, pz_wi_X, pz_wl_gc, pz_wl_ga, pz_wl_gn, pz_wl_gi, pz_wl_gr, pz_wl_same, pz_wl_X, pz_wr_gc, pz_wr_ga, pz_wr_gn, pz_wr_gi, pz_wr_gl, pz_wr_same, pz_wr_X, hn, eb, ey])
                    (try refine po_gP (by first | decide | assumption) ?_)
                    exact po_ret h
      · have hld : ldK M 87 k i = false := by rw [ldK_kn u]; simpa using hk
        have hpp : pap (gi M 35) (gi M 88) (gi M 89) (gi M 90) (gi M 91) (gi M 92) k f i = true := by
          unfold pap
          rw [show kn (gi M 91 i) (gi M 92 i) k = false by simpa using hk]
          rfl
        rw [hpp] at h
        refine pw_blk (mi := mz_169) (b := bz_169_2) rfl rfl ?_
        simp only [bz_169_2, pz_cut_t, pz_cut_f, pz_cut_n, pv_gt, pv_ts, pv_tn, ev_ild3, ev_ald0, ev_eld0, ev_gf0_2, ev_gf2_0, ev_ic_ge, pz_wi_gc, pz_wi_ga, pz_wi_gn, pz_wi_gl, pz_wi_gr, pz_wi_same, pz_wi_X, pz_wl_gc, pz_wl_ga, pz_wl_gn, pz_wl_gi, pz_wl_gr, pz_wl_same, pz_wl_X, pz_wr_gc, pz_wr_ga, pz_wr_gn, pz_wr_gi, pz_wr_gl, pz_wr_same, pz_wr_X, so_0 hS, sr_0_9 hS, so_87 hS, hn, eb, ey]
        (try simp (disch := omega) only [nI_clamp, pz_in_nI2, pz_in_nI2L, pv_gt, nI_add, nI_addL, nI_Ladd, pk_mul, nI_mulL, nI_Lmul, pk_sub, nI_subL, nI_Lsub, nI_inc, nI_clampL, Nat.add_sub_cancel, pz_wi_else, pz_wl_else, vu_eq, vu_ne, pz_wi_gc, pz_wi_ga, pz_wi_gn, pz_wi_gl, pz_wi_gr, pz_wi_same, pz_wi_X, pz_wl_gc, pz_wl_ga, pz_wl_gn, pz_wl_gi, pz_wl_gr, pz_wl_same, pz_wl_X, pz_wr_gc, pz_wr_ga, pz_wr_gn, pz_wr_gi, pz_wr_gl, pz_wr_same, pz_wr_X, hn, eb, ey])
        refine po_brP (fun q2 => ?_) (fun q2 => ?_)
        · first
          | exact absurd q2 (by decide)
          | exact absurd trivial q2
          | exact q2.elim
          | (exfalso; (try simp (disch := omega) only [nI_ltI, nI_leI, nI_eq, nI_ltL, nI_leL, nI_eqL, nI_Llt, nI_Lle, nI_Leq, nI_eqm, nI_meq, nI_ltm, nI_lem, nI_mlt, nI_mle, lg0, lgl, lgg, lgle, lgge, Int32.not_lt, Int32.not_le, Int64.not_lt, Int64.not_le, not_false_eq_true, not_true_eq_false, Decidable.not_not, ge_iff_le, gt_iff_lt] at q2) <;> omega)
          | exact absurd q2 (by with_reducible assumption)
          | exact absurd (by with_reducible assumption) q2
          | exact absurd (Decidable.not_not.mp q2) (by with_reducible assumption)
          | exact absurd (by with_reducible assumption) (Int32.not_le.mpr q2)
          | exact absurd (by with_reducible assumption) (Int32.not_lt.mpr q2)
        · skip
          (try simp (disch := omega) only [nI_ltI, nI_leI, nI_eq, nI_ltL, nI_leL, nI_eqL, nI_Llt, nI_Lle, nI_Leq, nI_eqm, nI_meq, nI_ltm, nI_lem, nI_mlt, nI_mle, lg0, lgl, lgg, lgle, lgge, Int32.not_lt, Int32.not_le, Int64.not_lt, Int64.not_le, not_false_eq_true, not_true_eq_false, Decidable.not_not, ge_iff_le, gt_iff_lt] at q2)
          refine pw_blk (mi := mz_169) (b := bz_169_13) rfl rfl ?_
          simp only [bz_169_13, pz_cut_t, pz_cut_f, pz_cut_n, pv_gt, pv_ts, pv_tn, ev_ald0, ev_eld0, ev_gf0_2, ev_ild3, ev_ild2, ev_cv2_2, pz_wi_gc, pz_wi_ga, pz_wi_gn, pz_wi_gl, pz_wi_gr, pz_wi_same, pz_wi_X, pz_wl_gc, pz_wl_ga, pz_wl_gn, pz_wl_gi, pz_wl_gr, pz_wl_same, pz_wl_X, pz_wr_gc, pz_wr_ga, pz_wr_gn, pz_wr_gi, pz_wr_gl, pz_wr_same, pz_wr_X, so_0 hS, sr_0_9 hS, so_87 hS, hn, eb, ey]
          (try simp (disch := omega) only [nI_clamp, pz_in_nI2, pz_in_nI2L, pv_gt, nI_add, nI_addL, nI_Ladd, pk_mul, nI_mulL, nI_Lmul, pk_sub, nI_subL, nI_Lsub, nI_inc, nI_clampL, Nat.add_sub_cancel, pz_wi_else, pz_wl_else, vu_eq, vu_ne, pz_wi_gc, pz_wi_ga, pz_wi_gn, pz_wi_gl, pz_wi_gr, pz_wi_same, pz_wi_X, pz_wl_gc, pz_wl_ga, pz_wl_gn, pz_wl_gi, pz_wl_gr, pz_wl_same, pz_wl_X, pz_wr_gc, pz_wr_ga, pz_wr_gn, pz_wr_gi, pz_wr_gl, pz_wr_same, pz_wr_X, hn, eb, ey])
          (try refine po_gP (Nat.le_of_ble_eq_true rfl) ?_)
          refine po_call (by omega) (m_counts hS.ledgP (by omega) (fun z => absurd z (by rw [hld]; decide)) (fun _ => ?_))
          refine pw_blk (mi := mz_169) (b := bz_169_22) rfl rfl ?_
          simp only [bz_169_22, pz_cut_t, pz_cut_f, pz_cut_n, pv_gt, pv_ts, pv_tn, ev_ifeq, pz_wi_gc, pz_wi_ga, pz_wi_gn, pz_wi_gl, pz_wi_gr, pz_wi_same, pz_wi_X, pz_wl_gc, pz_wl_ga, pz_wl_gn, pz_wl_gi, pz_wl_gr, pz_wl_same, pz_wl_X, pz_wr_gc, pz_wr_ga, pz_wr_gn, pz_wr_gi, pz_wr_gl, pz_wr_same, pz_wr_X, hn, eb, ey]
          (try simp (disch := omega) only [nI_clamp, pz_in_nI2, pz_in_nI2L, pv_gt, nI_add, nI_addL, nI_Ladd, pk_mul, nI_mulL, nI_Lmul, pk_sub, nI_subL, nI_Lsub, nI_inc, nI_clampL, Nat.add_sub_cancel, pz_wi_else, pz_wl_else, vu_eq, vu_ne, pz_wi_gc, pz_wi_ga, pz_wi_gn, pz_wi_gl, pz_wi_gr, pz_wi_same, pz_wi_X, pz_wl_gc, pz_wl_ga, pz_wl_gn, pz_wl_gi, pz_wl_gr, pz_wl_same, pz_wl_X, pz_wr_gc, pz_wr_ga, pz_wr_gn, pz_wr_gi, pz_wr_gl, pz_wr_same, pz_wr_X, hn, eb, ey])
          refine po_brP (fun q22 => ?_) (fun q22 => ?_)
          · skip
            (try simp (disch := omega) only [nI_ltI, nI_leI, nI_eq, nI_ltL, nI_leL, nI_eqL, nI_Llt, nI_Lle, nI_Leq, nI_eqm, nI_meq, nI_ltm, nI_lem, nI_mlt, nI_mle, lg0, lgl, lgg, lgle, lgge, Int32.not_lt, Int32.not_le, Int64.not_lt, Int64.not_le, not_false_eq_true, not_true_eq_false, Decidable.not_not, ge_iff_le, gt_iff_lt] at q22)
            refine pw_blk (mi := mz_169) (b := bz_169_84) rfl rfl ?_
            simp only [bz_169_84, pz_cut_t, pz_cut_f, pz_cut_n, pv_gt, pv_ts, pv_tn, ev_inc3n, ev_inc3i, ev_inc3r, ev_inc3e, ev_goto, pz_wi_gc, pz_wi_ga, pz_wi_gn, pz_wi_gl, pz_wi_gr, pz_wi_same, pz_wi_X, pz_wl_gc, pz_wl_ga, pz_wl_gn, pz_wl_gi, pz_wl_gr, pz_wl_same, pz_wl_X, pz_wr_gc, pz_wr_ga, pz_wr_gn, pz_wr_gi, pz_wr_gl, pz_wr_same, pz_wr_X, hn, eb, ey]
            (try simp (disch := omega) only [nI_clamp, pz_in_nI2, pz_in_nI2L, pv_gt, nI_add, nI_addL, nI_Ladd, pk_mul, nI_mulL, nI_Lmul, pk_sub, nI_subL, nI_Lsub, nI_inc, nI_clampL, Nat.add_sub_cancel, pz_wi_else, pz_wl_else, vu_eq, vu_ne, pz_wi_gc, pz_wi_ga, pz_wi_gn, pz_wi_gl, pz_wi_gr, pz_wi_same, pz_wi_X, pz_wl_gc, pz_wl_ga, pz_wl_gn, pz_wl_gi, pz_wl_gr, pz_wl_same, pz_wl_X, pz_wr_gc, pz_wr_ga, pz_wr_gn, pz_wr_gi, pz_wr_gl, pz_wr_same, pz_wr_X, hn, eb, ey])
            refine po_go ?_
            exact pw_cut (mi := mz_169) (b := bz_169_2) rfl rfl (ih (i + 1) (by omega) h) rfl
          · first
            | exact absurd q22 (by decide)
            | exact absurd trivial q22
            | exact q22.elim
            | (exfalso; (try simp (disch := omega) only [nI_ltI, nI_leI, nI_eq, nI_ltL, nI_leL, nI_eqL, nI_Llt, nI_Lle, nI_Leq, nI_eqm, nI_meq, nI_ltm, nI_lem, nI_mlt, nI_mle, lg0, lgl, lgg, lgle, lgge, Int32.not_lt, Int32.not_le, Int64.not_lt, Int64.not_le, not_false_eq_true, not_true_eq_false, Decidable.not_not, ge_iff_le, gt_iff_lt] at q22) <;> omega)
            | exact absurd q22 (by with_reducible assumption)
            | exact absurd (by with_reducible assumption) q22
            | exact absurd (Decidable.not_not.mp q22) (by with_reducible assumption)
            | exact absurd (by with_reducible assumption) (Int32.not_le.mpr q22)
            | exact absurd (by with_reducible assumption) (Int32.not_lt.mpr q22)
  refine pm_ent (L := [some (.ref 0), some (.int f), some (.int k), none, none]) rfl (Nat.le_of_ble_eq_true rfl) ?_
  refine pw_blk (mi := mz_169) (b := bz_169_0) rfl rfl ?_
  simp only [bz_169_0, pz_cut_t, pz_cut_f, pz_cut_n, pv_gt, pv_ts, pv_tn, ev_ic0, ev_ist3n, ev_ist3i, ev_ist3r, ev_ist3e, ev_ist3l, ev_nil, pz_wi_gc, pz_wi_ga, pz_wi_gn, pz_wi_gl, pz_wi_gr, pz_wi_same, pz_wi_X, pz_wl_gc, pz_wl_ga, pz_wl_gn, pz_wl_gi, pz_wl_gr, pz_wl_same, pz_wl_X, pz_wr_gc, pz_wr_ga, pz_wr_gn, pz_wr_gi, pz_wr_gl, pz_wr_same, pz_wr_X]
  (try simp (disch := omega) only [nI_clamp, pz_in_nI2, pz_in_nI2L, pv_gt, nI_add, nI_addL, nI_Ladd, pk_mul, nI_mulL, nI_Lmul, pk_sub, nI_subL, nI_Lsub, nI_inc, nI_clampL, Nat.add_sub_cancel, pz_wi_else, pz_wl_else, vu_eq, vu_ne, pz_wi_gc, pz_wi_ga, pz_wi_gn, pz_wi_gl, pz_wi_gr, pz_wi_same, pz_wi_X, pz_wl_gc, pz_wl_ga, pz_wl_gn, pz_wl_gi, pz_wl_gr, pz_wl_same, pz_wl_X, pz_wr_gc, pz_wr_ga, pz_wr_gn, pz_wr_gi, pz_wr_gl, pz_wr_same, pz_wr_X])
  refine po_go ?_
  exact key n 0 (by omega) h
theorem r_lets (hd : 2 ≤ d) (hS : SH M) {n B : Nat} {k f : Int32} (hn : gi M 120 90 = nI n) (hn40 : n ≤ 40) (hB : B ≤ 24) (hp : ∀ i, i < n → isUn (gi M 174 i) ∧ (∃ b, b < B ∧ gi M 172 i = nI b) ∧ (∃ y, y ≤ 999 ∧ gi M 171 i = nI y) ∧ (gi M 175 i = 0 ∨ gi M 175 i = 1)) (h : Q (some (.int (bI (alB (pap (gi M 150) (gi M 172) (gi M 171) (gi M 175) (gi M 173) (gi M 174) k f) n 0))), M)) : pm d 170 [.ref 120, .int f, .int k] M Q := by
  have key : ∀ c i, i + c = n → Q (some (.int (bI (alB (pap (gi M 150) (gi M 172) (gi M 171) (gi M 175) (gi M 173) (gi M 174) k f) c i))), M) → pw d 170 (2, [some (.ref 120), some (.int f), some (.int k), some (.int (nI i)), none, none], [], M) Q := by
    intro c
    induction c with
    | zero =>
      intro i hi h
      refine pw_blk (mi := mz_170) (b := bz_170_2) rfl rfl ?_
      simp only [bz_170_2, pz_cut_t, pz_cut_f, pz_cut_n, pv_gt, pv_ts, pv_tn, ev_ild3, ev_ald0, ev_eld0, ev_gf11_0, ev_ic_ge, pz_wi_gc, pz_wi_ga, pz_wi_gn, pz_wi_gl, pz_wi_gr, pz_wi_same, pz_wi_X, pz_wl_gc, pz_wl_ga, pz_wl_gn, pz_wl_gi, pz_wl_gr, pz_wl_same, pz_wl_X, pz_wr_gc, pz_wr_ga, pz_wr_gn, pz_wr_gi, pz_wr_gl, pz_wr_same, pz_wr_X, so_120 hS, hn]
      (try simp (disch := omega) only [nI_clamp, pz_in_nI2, pz_in_nI2L, pv_gt, nI_add, nI_addL, nI_Ladd, pk_mul, nI_mulL, nI_Lmul, pk_sub, nI_subL, nI_Lsub, nI_inc, nI_clampL, Nat.add_sub_cancel, pz_wi_else, pz_wl_else, vu_eq, vu_ne, pz_wi_gc, pz_wi_ga, pz_wi_gn, pz_wi_gl, pz_wi_gr, pz_wi_same, pz_wi_X, pz_wl_gc, pz_wl_ga, pz_wl_gn, pz_wl_gi, pz_wl_gr, pz_wl_same, pz_wl_X, pz_wr_gc, pz_wr_ga, pz_wr_gn, pz_wr_gi, pz_wr_gl, pz_wr_same, pz_wr_X, hn])
      refine po_brP (fun q2 => ?_) (fun q2 => ?_)
      · skip
        (try simp (disch := omega) only [nI_ltI, nI_leI, nI_eq, nI_ltL, nI_leL, nI_eqL, nI_Llt, nI_Lle, nI_Leq, nI_eqm, nI_meq, nI_ltm, nI_lem, nI_mlt, nI_mle, lg0, lgl, lgg, lgle, lgge, Int32.not_lt, Int32.not_le, Int64.not_lt, Int64.not_le, not_false_eq_true, not_true_eq_false, Decidable.not_not, ge_iff_le, gt_iff_lt] at q2)
        refine pw_blk (mi := mz_170) (b := bz_170_108) rfl rfl ?_
        simp only [bz_170_108, pz_cut_t, pz_cut_f, pz_cut_n, pv_gt, pv_ts, pv_tn, ev_ic1, ev_iret1, pz_wi_gc, pz_wi_ga, pz_wi_gn, pz_wi_gl, pz_wi_gr, pz_wi_same, pz_wi_X, pz_wl_gc, pz_wl_ga, pz_wl_gn, pz_wl_gi, pz_wl_gr, pz_wl_same, pz_wl_X, pz_wr_gc, pz_wr_ga, pz_wr_gn, pz_wr_gi, pz_wr_gl, pz_wr_same, pz_wr_X, hn]
        (try simp (disch := omega) only [nI_clamp, pz_in_nI2, pz_in_nI2L, pv_gt, nI_add, nI_addL, nI_Ladd, pk_mul, nI_mulL, nI_Lmul, pk_sub, nI_subL, nI_Lsub, nI_inc, nI_clampL, Nat.add_sub_cancel, pz_wi_else, pz_wl_else, vu_eq, vu_ne, pz_wi_gc, pz_wi_ga, pz_wi_gn, pz_wi_gl, pz_wi_gr, pz_wi_same, pz_wi_X, pz_wl_gc, pz_wl_ga, pz_wl_gn, pz_wl_gi, pz_wl_gr, pz_wl_same, pz_wl_X, pz_wr_gc, pz_wr_ga, pz_wr_gn, pz_wr_gi, pz_wr_gl, pz_wr_same, pz_wr_X, hn])
        (try refine po_gP (by first | decide | assumption) ?_)
        exact po_ret h
      · first
        | exact absurd q2 (by decide)
        | exact absurd trivial q2
        | exact q2.elim
        | (exfalso; (try simp (disch := omega) only [nI_ltI, nI_leI, nI_eq, nI_ltL, nI_leL, nI_eqL, nI_Llt, nI_Lle, nI_Leq, nI_eqm, nI_meq, nI_ltm, nI_lem, nI_mlt, nI_mle, lg0, lgl, lgg, lgle, lgge, Int32.not_lt, Int32.not_le, Int64.not_lt, Int64.not_le, not_false_eq_true, not_true_eq_false, Decidable.not_not, ge_iff_le, gt_iff_lt] at q2) <;> omega)
        | exact absurd q2 (by with_reducible assumption)
        | exact absurd (by with_reducible assumption) q2
        | exact absurd (Decidable.not_not.mp q2) (by with_reducible assumption)
        | exact absurd (by with_reducible assumption) (Int32.not_le.mpr q2)
        | exact absurd (by with_reducible assumption) (Int32.not_lt.mpr q2)
    | succ c ih =>
      intro i hi h
      rw [alB] at h
      obtain ⟨u, ⟨b, hb, eb⟩, ⟨y, hy, ey⟩, ek⟩ := hp i (by omega)
      by_cases hk : kn (gi M 173 i) (gi M 174 i) k = true
      · have hpp : pap (gi M 150) (gi M 172) (gi M 171) (gi M 175) (gi M 173) (gi M 174) k f i = decide ((if 300 ≤ it (f_fade f) y (gi M 150 b) then (1 : Int32) else 0) = gi M 175 i) := by
          unfold pap
          rw [hk, eb, ey, nI_clamp (by omega), nI_clamp (by omega)]
          rfl
        rw [hpp] at h
        have key2 : ∀ c2 j x, j + c2 = y → it (f_fade f) c2 x = it (f_fade f) y (gi M 150 b) → pw d 170 (48, [some (.ref 120), some (.int f), some (.int k), some (.int (nI i)), some (.int x), some (.int (nI j))], [], M) Q := by
          intro c2
          induction c2 with
          | zero =>
            intro j x hj hx
            have hx' : x = it (f_fade f) y (gi M 150 b) := hx
            rw [← hx'] at h
            refine pw_blk (mi := mz_170) (b := bz_170_48) rfl rfl ?_
            simp only [bz_170_48, pz_cut_t, pz_cut_f, pz_cut_n, pv_gt, pv_ts, pv_tn, ev_ild5, ev_ald0, ev_eld0, ev_gf11_2, ev_ild3, ea_iald, ev_ic_ge, pz_wi_gc, pz_wi_ga, pz_wi_gn, pz_wi_gl, pz_wi_gr, pz_wi_same, pz_wi_X, pz_wl_gc, pz_wl_ga, pz_wl_gn, pz_wl_gi, pz_wl_gr, pz_wl_same, pz_wl_X, pz_wr_gc, pz_wr_ga, pz_wr_gn, pz_wr_gi, pz_wr_gl, pz_wr_same, pz_wr_X, so_120 hS, sr_120_84 hS, sa_171 hS, sn_171 hS, ey, sa_173 hS, sn_173 hS, sa_174 hS, sn_174 hS, sa_150 hS, sn_150 hS, sa_172 hS, sn_172 hS, sa_175 hS, sn_175 hS]
            (try simp (disch := omega) only [nI_clamp, pz_in_nI2, pz_in_nI2L, pv_gt, nI_add, nI_addL, nI_Ladd, pk_mul, nI_mulL, nI_Lmul, pk_sub, nI_subL, nI_Lsub, nI_inc, nI_clampL, Nat.add_sub_cancel, pz_wi_else, pz_wl_else, vu_eq, vu_ne, pz_wi_gc, pz_wi_ga, pz_wi_gn, pz_wi_gl, pz_wi_gr, pz_wi_same, pz_wi_X, pz_wl_gc, pz_wl_ga, pz_wl_gn, pz_wl_gi, pz_wl_gr, pz_wl_same, pz_wl_X, pz_wr_gc, pz_wr_ga, pz_wr_gn, pz_wr_gi, pz_wr_gl, pz_wr_same, pz_wr_X, ey])
            (try refine po_gI (by first | exact pz_in_nI (by omega) (by decide) | decide | assumption) ?_)
            refine po_brP (fun q48 => ?_) (fun q48 => ?_)
            · skip
              (try simp (disch := omega) only [nI_ltI, nI_leI, nI_eq, nI_ltL, nI_leL, nI_eqL, nI_Llt, nI_Lle, nI_Leq, nI_eqm, nI_meq, nI_ltm, nI_lem, nI_mlt, nI_mle, lg0, lgl, lgg, lgle, lgge, Int32.not_lt, Int32.not_le, Int64.not_lt, Int64.not_le, not_false_eq_true, not_true_eq_false, Decidable.not_not, ge_iff_le, gt_iff_lt] at q48)
              refine pw_blk (mi := mz_170) (b := bz_170_78) rfl rfl ?_
              simp only [bz_170_78, pz_cut_t, pz_cut_f, pz_cut_n, pv_gt, pv_ts, pv_tn, ev_ild4, ev_sp300, ev_ic_lt, pz_wi_gc, pz_wi_ga, pz_wi_gn, pz_wi_gl, pz_wi_gr, pz_wi_same, pz_wi_X, pz_wl_gc, pz_wl_ga, pz_wl_gn, pz_wl_gi, pz_wl_gr, pz_wl_same, pz_wl_X, pz_wr_gc, pz_wr_ga, pz_wr_gn, pz_wr_gi, pz_wr_gl, pz_wr_same, pz_wr_X, ey]
              (try simp (disch := omega) only [nI_clamp, pz_in_nI2, pz_in_nI2L, pv_gt, nI_add, nI_addL, nI_Ladd, pk_mul, nI_mulL, nI_Lmul, pk_sub, nI_subL, nI_Lsub, nI_inc, nI_clampL, Nat.add_sub_cancel, pz_wi_else, pz_wl_else, vu_eq, vu_ne, pz_wi_gc, pz_wi_ga, pz_wi_gn, pz_wi_gl, pz_wi_gr, pz_wi_same, pz_wi_X, pz_wl_gc, pz_wl_ga, pz_wl_gn, pz_wl_gi, pz_wl_gr, pz_wl_same, pz_wl_X, pz_wr_gc, pz_wr_ga, pz_wr_gn, pz_wr_gi, pz_wr_gl, pz_wr_same, pz_wr_X, ey])
              refine po_brP (fun q78 => ?_) (fun q78 => ?_)
              · first
                | exact absurd q78 (by decide)
                | exact absurd trivial q78
                | exact q78.elim
                | (exfalso; (try simp (disch := omega) only [nI_ltI, nI_leI, nI_eq, nI_ltL, nI_leL, nI_eqL, nI_Llt, nI_Lle, nI_Leq, nI_eqm, nI_meq, nI_ltm, nI_lem, nI_mlt, nI_mle, lg0, lgl, lgg, lgle, lgge, Int32.not_lt, Int32.not_le, Int64.not_lt, Int64.not_le, not_false_eq_true, not_true_eq_false, Decidable.not_not, ge_iff_le, gt_iff_lt] at q78) <;> omega)
                | exact absurd q78 (by with_reducible assumption)
                | exact absurd (by with_reducible assumption) q78
                | exact absurd (Decidable.not_not.mp q78) (by with_reducible assumption)
                | exact absurd (by with_reducible assumption) (Int32.not_le.mpr q78)
                | exact absurd (by with_reducible assumption) (Int32.not_lt.mpr q78)
                | skip
                  (try simp (disch := omega) only [nI_ltI, nI_leI, nI_eq, nI_ltL, nI_leL, nI_eqL, nI_Llt, nI_Lle, nI_Leq, nI_eqm, nI_meq, nI_ltm, nI_lem, nI_mlt, nI_mle, lg0, lgl, lgg, lgle, lgge, Int32.not_lt, Int32.not_le, Int64.not_lt, Int64.not_le, not_false_eq_true, not_true_eq_false, Decidable.not_not, ge_iff_le, gt_iff_lt] at q78)
                  rw [if_neg (Int32.not_le.mpr q78)] at h
                  refine pw_blk (mi := mz_170) (b := bz_170_90) rfl rfl ?_
                  simp only [bz_170_90, pz_cut_t, pz_cut_f, pz_cut_n, pv_gt, pv_ts, pv_tn, ev_ic0, ev_nil, pz_wi_gc, pz_wi_ga, pz_wi_gn, pz_wi_gl, pz_wi_gr, pz_wi_same, pz_wi_X, pz_wl_gc, pz_wl_ga, pz_wl_gn, pz_wl_gi, pz_wl_gr, pz_wl_same, pz_wl_X, pz_wr_gc, pz_wr_ga, pz_wr_gn, pz_wr_gi, pz_wr_gl, pz_wr_same, pz_wr_X, ey]
                  (try simp (disch := omega) only [nI_clamp, pz_in_nI2, pz_in_nI2L, pv_gt, nI_add, nI_addL, nI_Ladd, pk_mul, nI_mulL, nI_Lmul, pk_sub, nI_subL, nI_Lsub, nI_inc, nI_clampL, Nat.add_sub_cancel, pz_wi_else, pz_wl_else, vu_eq, vu_ne, pz_wi_gc, pz_wi_ga, pz_wi_gn, pz_wi_gl, pz_wi_gr, pz_wi_same, pz_wi_X, pz_wl_gc, pz_wl_ga, pz_wl_gn, pz_wl_gi, pz_wl_gr, pz_wl_same, pz_wl_X, pz_wr_gc, pz_wr_ga, pz_wr_gn, pz_wr_gi, pz_wr_gl, pz_wr_same, pz_wr_X, ey])
                  refine po_go ?_
                  refine pw_blk (mi := mz_170) (b := bz_170_91) rfl rfl ?_
                  simp only [bz_170_91, pz_cut_t, pz_cut_f, pz_cut_n, pv_gt, pv_ts, pv_tn, ev_ald0, ev_eld0, ev_gf11_2, ev_ild3, ea_bald, ea_zald, ev_ic_eq, pz_wi_gc, pz_wi_ga, pz_wi_gn, pz_wi_gl, pz_wi_gr, pz_wi_same, pz_wi_X, pz_wl_gc, pz_wl_ga, pz_wl_gn, pz_wl_gi, pz_wl_gr, pz_wl_same, pz_wl_X, pz_wr_gc, pz_wr_ga, pz_wr_gn, pz_wr_gi, pz_wr_gl, pz_wr_same, pz_wr_X, so_120 hS, sr_120_88 hS, sa_175 hS, sn_175 hS, ey, sa_173 hS, sn_173 hS, sa_174 hS, sn_174 hS, sa_150 hS, sn_150 hS, sa_172 hS, sn_172 hS, sa_171 hS, sn_171 hS]
                  (try simp (disch := omega) only [nI_clamp, pz_in_nI2, pz_in_nI2L, pv_gt, nI_add, nI_addL, nI_Ladd, pk_mul, nI_mulL, nI_Lmul, pk_sub, nI_subL, nI_Lsub, nI_inc, nI_clampL, Nat.add_sub_cancel, pz_wi_else, pz_wl_else, vu_eq, vu_ne, pz_wi_gc, pz_wi_ga, pz_wi_gn, pz_wi_gl, pz_wi_gr, pz_wi_same, pz_wi_X, pz_wl_gc, pz_wl_ga, pz_wl_gn, pz_wl_gi, pz_wl_gr, pz_wl_same, pz_wl_X, pz_wr_gc, pz_wr_ga, pz_wr_gn, pz_wr_gi, pz_wr_gl, pz_wr_same, pz_wr_X, ey])
                  (try refine po_gI (by first | exact pz_in_nI (by omega) (by decide) | decide | assumption) ?_)
                  refine po_brP (fun q91 => ?_) (fun q91 => ?_)
                  · first
                    | exact absurd q91 (by decide)
                    | exact absurd trivial q91
                    | exact q91.elim
                    | (exfalso; (try simp (disch := omega) only [nI_ltI, nI_leI, nI_eq, nI_ltL, nI_leL, nI_eqL, nI_Llt, nI_Lle, nI_Leq, nI_eqm, nI_meq, nI_ltm, nI_lem, nI_mlt, nI_mle, lg0, lgl, lgg, lgle, lgge, Int32.not_lt, Int32.not_le, Int64.not_lt, Int64.not_le, not_false_eq_true, not_true_eq_false, Decidable.not_not, ge_iff_le, gt_iff_lt] at q91) <;> omega)
                    | exact absurd q91 (by with_reducible assumption)
                    | exact absurd (by with_reducible assumption) q91
                    | exact absurd (Decidable.not_not.mp q91) (by with_reducible assumption)
                    | exact absurd (by with_reducible assumption) (Int32.not_le.mpr q91)
                    | exact absurd (by with_reducible assumption) (Int32.not_lt.mpr q91)
                    | skip
                      (try simp (disch := omega) only [nI_ltI, nI_leI, nI_eq, nI_ltL, nI_leL, nI_eqL, nI_Llt, nI_Lle, nI_Leq, nI_eqm, nI_meq, nI_ltm, nI_lem, nI_mlt, nI_mle, lg0, lgl, lgg, lgle, lgge, Int32.not_lt, Int32.not_le, Int64.not_lt, Int64.not_le, not_false_eq_true, not_true_eq_false, Decidable.not_not, ge_iff_le, gt_iff_lt] at q91)
                      rw [decide_eq_true q91] at h
                      refine pw_blk (mi := mz_170) (b := bz_170_102) rfl rfl ?_
                      simp only [bz_170_102, pz_cut_t, pz_cut_f, pz_cut_n, pv_gt, pv_ts, pv_tn, ev_inc3n, ev_inc3i, ev_inc3r, ev_inc3e, ev_goto, pz_wi_gc, pz_wi_ga, pz_wi_gn, pz_wi_gl, pz_wi_gr, pz_wi_same, pz_wi_X, pz_wl_gc, pz_wl_ga, pz_wl_gn, pz_wl_gi, pz_wl_gr, pz_wl_same, pz_wl_X, pz_wr_gc, pz_wr_ga, pz_wr_gn, pz_wr_gi, pz_wr_gl, pz_wr_same, pz_wr_X, ey]
                      (try simp (disch := omega) only [nI_clamp, pz_in_nI2, pz_in_nI2L, pv_gt, nI_add, nI_addL, nI_Ladd, pk_mul, nI_mulL, nI_Lmul, pk_sub, nI_subL, nI_Lsub, nI_inc, nI_clampL, Nat.add_sub_cancel, pz_wi_else, pz_wl_else, vu_eq, vu_ne, pz_wi_gc, pz_wi_ga, pz_wi_gn, pz_wi_gl, pz_wi_gr, pz_wi_same, pz_wi_X, pz_wl_gc, pz_wl_ga, pz_wl_gn, pz_wl_gi, pz_wl_gr, pz_wl_same, pz_wl_X, pz_wr_gc, pz_wr_ga, pz_wr_gn, pz_wr_gi, pz_wr_gl, pz_wr_same, pz_wr_X, ey])
                      refine po_go ?_
                      exact pw_cut (mi := mz_170) (b := bz_170_2) rfl rfl (ih (i + 1) (by omega) h) rfl
                  · first
                    | exact absurd q91 (by decide)
                    | exact absurd trivial q91
                    | exact q91.elim
                    | (exfalso; (try simp (disch := omega) only [nI_ltI, nI_leI, nI_eq, nI_ltL, nI_leL, nI_eqL, nI_Llt, nI_Lle, nI_Leq, nI_eqm, nI_meq, nI_ltm, nI_lem, nI_mlt, nI_mle, lg0, lgl, lgg, lgle, lgge, Int32.not_lt, Int32.not_le, Int64.not_lt, Int64.not_le, not_false_eq_true, not_true_eq_false, Decidable.not_not, ge_iff_le, gt_iff_lt] at q91) <;> omega)
                    | exact absurd q91 (by with_reducible assumption)
                    | exact absurd (by with_reducible assumption) q91
                    | exact absurd (Decidable.not_not.mp q91) (by with_reducible assumption)
                    | exact absurd (by with_reducible assumption) (Int32.not_le.mpr q91)
                    | exact absurd (by with_reducible assumption) (Int32.not_lt.mpr q91)
                    | skip
                      (try simp (disch := omega) only [nI_ltI, nI_leI, nI_eq, nI_ltL, nI_leL, nI_eqL, nI_Llt, nI_Lle, nI_Leq, nI_eqm, nI_meq, nI_ltm, nI_lem, nI_mlt, nI_mle, lg0, lgl, lgg, lgle, lgge, Int32.not_lt, Int32.not_le, Int64.not_lt, Int64.not_le, not_false_eq_true, not_true_eq_false, Decidable.not_not, ge_iff_le, gt_iff_lt] at q91)
                      rw [decide_eq_false q91] at h
                      refine pw_blk (mi := mz_170) (b := bz_170_100) rfl rfl ?_
                      simp only [bz_170_100, pz_cut_t, pz_cut_f, pz_cut_n, pv_gt, pv_ts, pv_tn, ev_ic0, ev_iret1, pz_wi_gc, pz_wi_ga, pz_wi_gn, pz_wi_gl, pz_wi_gr, pz_wi_same, pz_wi_X, pz_wl_gc, pz_wl_ga, pz_wl_gn, pz_wl_gi, pz_wl_gr, pz_wl_same, pz_wl_X, pz_wr_gc, pz_wr_ga, pz_wr_gn, pz_wr_gi, pz_wr_gl, pz_wr_same, pz_wr_X, ey]
                      (try simp (disch := omega) only [nI_clamp, pz_in_nI2, pz_in_nI2L, pv_gt, nI_add, nI_addL, nI_Ladd, pk_mul, nI_mulL, nI_Lmul, pk_sub, nI_subL, nI_Lsub, nI_inc, nI_clampL, Nat.add_sub_cancel, pz_wi_else, pz_wl_else, vu_eq, vu_ne, pz_wi_gc, pz_wi_ga, pz_wi_gn, pz_wi_gl, pz_wi_gr, pz_wi_same, pz_wi_X, pz_wl_gc, pz_wl_ga, pz_wl_gn, pz_wl_gi, pz_wl_gr, pz_wl_same, pz_wl_X, pz_wr_gc, pz_wr_ga, pz_wr_gn, pz_wr_gi, pz_wr_gl, pz_wr_same, pz_wr_X, ey])
                      (try refine po_gP (by first | decide | assumption) ?_)
                      exact po_ret h
              · first
                | exact absurd q78 (by decide)
                | exact absurd trivial q78
                | exact q78.elim
                | (exfalso; (try simp (disch := omega) only [nI_ltI, nI_leI, nI_eq, nI_ltL, nI_leL, nI_eqL, nI_Llt, nI_Lle, nI_Leq, nI_eqm, nI_meq, nI_ltm, nI_lem, nI_mlt, nI_mle, lg0, lgl, lgg, lgle, lgge, Int32.not_lt, Int32.not_le, Int64.not_lt, Int64.not_le, not_false_eq_true, not_true_eq_false, Decidable.not_not, ge_iff_le, gt_iff_lt] at q78) <;> omega)
                | exact absurd q78 (by with_reducible assumption)
                | exact absurd (by with_reducible assumption) q78
                | exact absurd (Decidable.not_not.mp q78) (by with_reducible assumption)
                | exact absurd (by with_reducible assumption) (Int32.not_le.mpr q78)
                | exact absurd (by with_reducible assumption) (Int32.not_lt.mpr q78)
                | skip
                  (try simp (disch := omega) only [nI_ltI, nI_leI, nI_eq, nI_ltL, nI_leL, nI_eqL, nI_Llt, nI_Lle, nI_Leq, nI_eqm, nI_meq, nI_ltm, nI_lem, nI_mlt, nI_mle, lg0, lgl, lgg, lgle, lgge, Int32.not_lt, Int32.not_le, Int64.not_lt, Int64.not_le, not_false_eq_true, not_true_eq_false, Decidable.not_not, ge_iff_le, gt_iff_lt] at q78)
                  rw [if_pos q78] at h
                  refine pw_blk (mi := mz_170) (b := bz_170_86) rfl rfl ?_
                  simp only [bz_170_86, pz_cut_t, pz_cut_f, pz_cut_n, pv_gt, pv_ts, pv_tn, ev_ic1, ev_goto, pz_wi_gc, pz_wi_ga, pz_wi_gn, pz_wi_gl, pz_wi_gr, pz_wi_same, pz_wi_X, pz_wl_gc, pz_wl_ga, pz_wl_gn, pz_wl_gi, pz_wl_gr, pz_wl_same, pz_wl_X, pz_wr_gc, pz_wr_ga, pz_wr_gn, pz_wr_gi, pz_wr_gl, pz_wr_same, pz_wr_X, ey]
                  (try simp (disch := omega) only [nI_clamp, pz_in_nI2, pz_in_nI2L, pv_gt, nI_add, nI_addL, nI_Ladd, pk_mul, nI_mulL, nI_Lmul, pk_sub, nI_subL, nI_Lsub, nI_inc, nI_clampL, Nat.add_sub_cancel, pz_wi_else, pz_wl_else, vu_eq, vu_ne, pz_wi_gc, pz_wi_ga, pz_wi_gn, pz_wi_gl, pz_wi_gr, pz_wi_same, pz_wi_X, pz_wl_gc, pz_wl_ga, pz_wl_gn, pz_wl_gi, pz_wl_gr, pz_wl_same, pz_wl_X, pz_wr_gc, pz_wr_ga, pz_wr_gn, pz_wr_gi, pz_wr_gl, pz_wr_same, pz_wr_X, ey])
                  refine po_go ?_
                  refine pw_blk (mi := mz_170) (b := bz_170_91) rfl rfl ?_
                  simp only [bz_170_91, pz_cut_t, pz_cut_f, pz_cut_n, pv_gt, pv_ts, pv_tn, ev_ald0, ev_eld0, ev_gf11_2, ev_ild3, ea_bald, ea_zald, ev_ic_eq, pz_wi_gc, pz_wi_ga, pz_wi_gn, pz_wi_gl, pz_wi_gr, pz_wi_same, pz_wi_X, pz_wl_gc, pz_wl_ga, pz_wl_gn, pz_wl_gi, pz_wl_gr, pz_wl_same, pz_wl_X, pz_wr_gc, pz_wr_ga, pz_wr_gn, pz_wr_gi, pz_wr_gl, pz_wr_same, pz_wr_X, so_120 hS, sr_120_88 hS, sa_175 hS, sn_175 hS, ey, sa_173 hS, sn_173 hS, sa_174 hS, sn_174 hS, sa_150 hS, sn_150 hS, sa_172 hS, sn_172 hS, sa_171 hS, sn_171 hS]
                  (try simp (disch := omega) only [nI_clamp, pz_in_nI2, pz_in_nI2L, pv_gt, nI_add, nI_addL, nI_Ladd, pk_mul, nI_mulL, nI_Lmul, pk_sub, nI_subL, nI_Lsub, nI_inc, nI_clampL, Nat.add_sub_cancel, pz_wi_else, pz_wl_else, vu_eq, vu_ne, pz_wi_gc, pz_wi_ga, pz_wi_gn, pz_wi_gl, pz_wi_gr, pz_wi_same, pz_wi_X, pz_wl_gc, pz_wl_ga, pz_wl_gn, pz_wl_gi, pz_wl_gr, pz_wl_same, pz_wl_X, pz_wr_gc, pz_wr_ga, pz_wr_gn, pz_wr_gi, pz_wr_gl, pz_wr_same, pz_wr_X, ey])
                  (try refine po_gI (by first | exact pz_in_nI (by omega) (by decide) | decide | assumption) ?_)
                  refine po_brP (fun q91 => ?_) (fun q91 => ?_)
                  · first
                    | exact absurd q91 (by decide)
                    | exact absurd trivial q91
                    | exact q91.elim
                    | (exfalso; (try simp (disch := omega) only [nI_ltI, nI_leI, nI_eq, nI_ltL, nI_leL, nI_eqL, nI_Llt, nI_Lle, nI_Leq, nI_eqm, nI_meq, nI_ltm, nI_lem, nI_mlt, nI_mle, lg0, lgl, lgg, lgle, lgge, Int32.not_lt, Int32.not_le, Int64.not_lt, Int64.not_le, not_false_eq_true, not_true_eq_false, Decidable.not_not, ge_iff_le, gt_iff_lt] at q91) <;> omega)
                    | exact absurd q91 (by with_reducible assumption)
                    | exact absurd (by with_reducible assumption) q91
                    | exact absurd (Decidable.not_not.mp q91) (by with_reducible assumption)
                    | exact absurd (by with_reducible assumption) (Int32.not_le.mpr q91)
                    | exact absurd (by with_reducible assumption) (Int32.not_lt.mpr q91)
                    | skip
                      (try simp (disch := omega) only [nI_ltI, nI_leI, nI_eq, nI_ltL, nI_leL, nI_eqL, nI_Llt, nI_Lle, nI_Leq, nI_eqm, nI_meq, nI_ltm, nI_lem, nI_mlt, nI_mle, lg0, lgl, lgg, lgle, lgge, Int32.not_lt, Int32.not_le, Int64.not_lt, Int64.not_le, not_false_eq_true, not_true_eq_false, Decidable.not_not, ge_iff_le, gt_iff_lt] at q91)
                      rw [decide_eq_true q91] at h
                      refine pw_blk (mi := mz_170) (b := bz_170_102) rfl rfl ?_
                      simp only [bz_170_102, pz_cut_t, pz_cut_f, pz_cut_n, pv_gt, pv_ts, pv_tn, ev_inc3n, ev_inc3i, ev_inc3r, ev_inc3e, ev_goto, pz_wi_gc, pz_wi_ga, pz_wi_gn, pz_wi_gl, pz_wi_gr, pz_wi_same, pz_wi_X, pz_wl_gc, pz_wl_ga, pz_wl_gn, pz_wl_gi, pz_wl_gr, pz_wl_same, pz_wl_X, pz_wr_gc, pz_wr_ga, pz_wr_gn, pz_wr_gi, pz_wr_gl, pz_wr_same, pz_wr_X, ey]
                      (try simp (disch := omega) only [nI_clamp, pz_in_nI2, pz_in_nI2L, pv_gt, nI_add, nI_addL, nI_Ladd, pk_mul, nI_mulL, nI_Lmul, pk_sub, nI_subL, nI_Lsub, nI_inc, nI_clampL, Nat.add_sub_cancel, pz_wi_else, pz_wl_else, vu_eq, vu_ne, pz_wi_gc, pz_wi_ga, pz_wi_gn, pz_wi_gl, pz_wi_gr, pz_wi_same, pz_wi_X, pz_wl_gc, pz_wl_ga, pz_wl_gn, pz_wl_gi, pz_wl_gr, pz_wl_same, pz_wl_X, pz_wr_gc, pz_wr_ga, pz_wr_gn, pz_wr_gi, pz_wr_gl, pz_wr_same, pz_wr_X, ey])
                      refine po_go ?_
                      exact pw_cut (mi := mz_170) (b := bz_170_2) rfl rfl (ih (i + 1) (by omega) h) rfl
                  · first
                    | exact absurd q91 (by decide)
                    | exact absurd trivial q91
                    | exact q91.elim
                    | (exfalso; (try simp (disch := omega) only [nI_ltI, nI_leI, nI_eq, nI_ltL, nI_leL, nI_eqL, nI_Llt, nI_Lle, nI_Leq, nI_eqm, nI_meq, nI_ltm, nI_lem, nI_mlt, nI_mle, lg0, lgl, lgg, lgle, lgge, Int32.not_lt, Int32.not_le, Int64.not_lt, Int64.not_le, not_false_eq_true, not_true_eq_false, Decidable.not_not, ge_iff_le, gt_iff_lt] at q91) <;> omega)
                    | exact absurd q91 (by with_reducible assumption)
                    | exact absurd (by with_reducible assumption) q91
                    | exact absurd (Decidable.not_not.mp q91) (by with_reducible assumption)
                    | exact absurd (by with_reducible assumption) (Int32.not_le.mpr q91)
                    | exact absurd (by with_reducible assumption) (Int32.not_lt.mpr q91)
                    | skip
                      (try simp (disch := omega) only [nI_ltI, nI_leI, nI_eq, nI_ltL, nI_leL, nI_eqL, nI_Llt, nI_Lle, nI_Leq, nI_eqm, nI_meq, nI_ltm, nI_lem, nI_mlt, nI_mle, lg0, lgl, lgg, lgle, lgge, Int32.not_lt, Int32.not_le, Int64.not_lt, Int64.not_le, not_false_eq_true, not_true_eq_false, Decidable.not_not, ge_iff_le, gt_iff_lt] at q91)
                      rw [decide_eq_false q91] at h
                      refine pw_blk (mi := mz_170) (b := bz_170_100) rfl rfl ?_
                      simp only [bz_170_100, pz_cut_t, pz_cut_f, pz_cut_n, pv_gt, pv_ts, pv_tn, ev_ic0, ev_iret1, pz_wi_gc, pz_wi_ga, pz_wi_gn, pz_wi_gl, pz_wi_gr, pz_wi_same, pz_wi_X, pz_wl_gc, pz_wl_ga, pz_wl_gn, pz_wl_gi, pz_wl_gr, pz_wl_same, pz_wl_X, pz_wr_gc, pz_wr_ga, pz_wr_gn, pz_wr_gi, pz_wr_gl, pz_wr_same, pz_wr_X, ey]
                      (try simp (disch := omega) only [nI_clamp, pz_in_nI2, pz_in_nI2L, pv_gt, nI_add, nI_addL, nI_Ladd, pk_mul, nI_mulL, nI_Lmul, pk_sub, nI_subL, nI_Lsub, nI_inc, nI_clampL, Nat.add_sub_cancel, pz_wi_else, pz_wl_else, vu_eq, vu_ne, pz_wi_gc, pz_wi_ga, pz_wi_gn, pz_wi_gl, pz_wi_gr, pz_wi_same, pz_wi_X, pz_wl_gc, pz_wl_ga, pz_wl_gn, pz_wl_gi, pz_wl_gr, pz_wl_same, pz_wl_X, pz_wr_gc, pz_wr_ga, pz_wr_gn, pz_wr_gi, pz_wr_gl, pz_wr_same, pz_wr_X, ey])
                      (try refine po_gP (by first | decide | assumption) ?_)
                      exact po_ret h
            · first
              | exact absurd q48 (by decide)
              | exact absurd trivial q48
              | exact q48.elim
              | (exfalso; (try simp (disch := omega) only [nI_ltI, nI_leI, nI_eq, nI_ltL, nI_leL, nI_eqL, nI_Llt, nI_Lle, nI_Leq, nI_eqm, nI_meq, nI_ltm, nI_lem, nI_mlt, nI_mle, lg0, lgl, lgg, lgle, lgge, Int32.not_lt, Int32.not_le, Int64.not_lt, Int64.not_le, not_false_eq_true, not_true_eq_false, Decidable.not_not, ge_iff_le, gt_iff_lt] at q48) <;> omega)
              | exact absurd q48 (by with_reducible assumption)
              | exact absurd (by with_reducible assumption) q48
              | exact absurd (Decidable.not_not.mp q48) (by with_reducible assumption)
              | exact absurd (by with_reducible assumption) (Int32.not_le.mpr q48)
              | exact absurd (by with_reducible assumption) (Int32.not_lt.mpr q48)
          | succ c2 ih2 =>
            intro j x hj hx
            refine pw_blk (mi := mz_170) (b := bz_170_48) rfl rfl ?_
            simp only [bz_170_48, pz_cut_t, pz_cut_f, pz_cut_n, pv_gt, pv_ts, pv_tn, ev_ild5, ev_ald0, ev_eld0, ev_gf11_2, ev_ild3, ea_iald, ev_ic_ge, pz_wi_gc, pz_wi_ga, pz_wi_gn, pz_wi_gl, pz_wi_gr, pz_wi_same, pz_wi_X, pz_wl_gc, pz_wl_ga, pz_wl_gn, pz_wl_gi, pz_wl_gr, pz_wl_same, pz_wl_X, pz_wr_gc, pz_wr_ga, pz_wr_gn, pz_wr_gi, pz_wr_gl, pz_wr_same, pz_wr_X, so_120 hS, sr_120_84 hS, sa_171 hS, sn_171 hS, ey, sa_173 hS, sn_173 hS, sa_174 hS, sn_174 hS, sa_150 hS, sn_150 hS, sa_172 hS, sn_172 hS, sa_175 hS, sn_175 hS]
            (try simp (disch := omega) only [nI_clamp, pz_in_nI2, pz_in_nI2L, pv_gt, nI_add, nI_addL, nI_Ladd, pk_mul, nI_mulL, nI_Lmul, pk_sub, nI_subL, nI_Lsub, nI_inc, nI_clampL, Nat.add_sub_cancel, pz_wi_else, pz_wl_else, vu_eq, vu_ne, pz_wi_gc, pz_wi_ga, pz_wi_gn, pz_wi_gl, pz_wi_gr, pz_wi_same, pz_wi_X, pz_wl_gc, pz_wl_ga, pz_wl_gn, pz_wl_gi, pz_wl_gr, pz_wl_same, pz_wl_X, pz_wr_gc, pz_wr_ga, pz_wr_gn, pz_wr_gi, pz_wr_gl, pz_wr_same, pz_wr_X, ey])
            (try refine po_gI (by first | exact pz_in_nI (by omega) (by decide) | decide | assumption) ?_)
            refine po_brP (fun q48 => ?_) (fun q48 => ?_)
            · first
              | exact absurd q48 (by decide)
              | exact absurd trivial q48
              | exact q48.elim
              | (exfalso; (try simp (disch := omega) only [nI_ltI, nI_leI, nI_eq, nI_ltL, nI_leL, nI_eqL, nI_Llt, nI_Lle, nI_Leq, nI_eqm, nI_meq, nI_ltm, nI_lem, nI_mlt, nI_mle, lg0, lgl, lgg, lgle, lgge, Int32.not_lt, Int32.not_le, Int64.not_lt, Int64.not_le, not_false_eq_true, not_true_eq_false, Decidable.not_not, ge_iff_le, gt_iff_lt] at q48) <;> omega)
              | exact absurd q48 (by with_reducible assumption)
              | exact absurd (by with_reducible assumption) q48
              | exact absurd (Decidable.not_not.mp q48) (by with_reducible assumption)
              | exact absurd (by with_reducible assumption) (Int32.not_le.mpr q48)
              | exact absurd (by with_reducible assumption) (Int32.not_lt.mpr q48)
            · skip
              (try simp (disch := omega) only [nI_ltI, nI_leI, nI_eq, nI_ltL, nI_leL, nI_eqL, nI_Llt, nI_Lle, nI_Leq, nI_eqm, nI_meq, nI_ltm, nI_lem, nI_mlt, nI_mle, lg0, lgl, lgg, lgle, lgge, Int32.not_lt, Int32.not_le, Int64.not_lt, Int64.not_le, not_false_eq_true, not_true_eq_false, Decidable.not_not, ge_iff_le, gt_iff_lt] at q48)
              refine pw_blk (mi := mz_170) (b := bz_170_59) rfl rfl ?_
              simp only [bz_170_59, pz_cut_t, pz_cut_f, pz_cut_n, pv_gt, pv_ts, pv_tn, ev_ild4, ev_ild1, ev_imul, ev_sp1000, ev_idiv, ev_isub, ev_ist4n, ev_ist4i, ev_ist4r, ev_ist4e, ev_ist4l, ev_inc5n, ev_inc5i, ev_inc5r, ev_inc5e, ev_goto, pz_wi_gc, pz_wi_ga, pz_wi_gn, pz_wi_gl, pz_wi_gr, pz_wi_same, pz_wi_X, pz_wl_gc, pz_wl_ga, pz_wl_gn, pz_wl_gi, pz_wl_gr, pz_wl_same, pz_wl_X, pz_wr_gc, pz_wr_ga, pz_wr_gn, pz_wr_gi, pz_wr_gl, pz_wr_same, pz_wr_X, ey]
              (try simp (disch := omega) only [nI_clamp, pz_in_nI2, pz_in_nI2L, pv_gt, nI_add, nI_addL, nI_Ladd, pk_mul, nI_mulL, nI_Lmul, pk_sub, nI_subL, nI_Lsub, nI_inc, nI_clampL, Nat.add_sub_cancel, pz_wi_else, pz_wl_else, vu_eq, vu_ne, pz_wi_gc, pz_wi_ga, pz_wi_gn, pz_wi_gl, pz_wi_gr, pz_wi_same, pz_wi_X, pz_wl_gc, pz_wl_ga, pz_wl_gn, pz_wl_gi, pz_wl_gr, pz_wl_same, pz_wl_X, pz_wr_gc, pz_wr_ga, pz_wr_gn, pz_wr_gi, pz_wr_gl, pz_wr_same, pz_wr_X, ey])
              (try refine po_gP (by first | decide | assumption) ?_)
              refine po_go ?_
              exact ih2 (j + 1) _ (by omega) hx
        refine pw_blk (mi := mz_170) (b := bz_170_2) rfl rfl ?_
        simp only [bz_170_2, pz_cut_t, pz_cut_f, pz_cut_n, pv_gt, pv_ts, pv_tn, ev_ild3, ev_ald0, ev_eld0, ev_gf11_0, ev_ic_ge, pz_wi_gc, pz_wi_ga, pz_wi_gn, pz_wi_gl, pz_wi_gr, pz_wi_same, pz_wi_X, pz_wl_gc, pz_wl_ga, pz_wl_gn, pz_wl_gi, pz_wl_gr, pz_wl_same, pz_wl_X, pz_wr_gc, pz_wr_ga, pz_wr_gn, pz_wr_gi, pz_wr_gl, pz_wr_same, pz_wr_X, so_120 hS, hn, eb, ey]
        (try simp (disch := omega) only [nI_clamp, pz_in_nI2, pz_in_nI2L, pv_gt, nI_add, nI_addL, nI_Ladd, pk_mul, nI_mulL, nI_Lmul, pk_sub, nI_subL, nI_Lsub, nI_inc, nI_clampL, Nat.add_sub_cancel, pz_wi_else, pz_wl_else, vu_eq, vu_ne, pz_wi_gc, pz_wi_ga, pz_wi_gn, pz_wi_gl, pz_wi_gr, pz_wi_same, pz_wi_X, pz_wl_gc, pz_wl_ga, pz_wl_gn, pz_wl_gi, pz_wl_gr, pz_wl_same, pz_wl_X, pz_wr_gc, pz_wr_ga, pz_wr_gn, pz_wr_gi, pz_wr_gl, pz_wr_same, pz_wr_X, hn, eb, ey])
        refine po_brP (fun q2 => ?_) (fun q2 => ?_)
        · first
          | exact absurd q2 (by decide)
          | exact absurd trivial q2
          | exact q2.elim
          | (exfalso; (try simp (disch := omega) only [nI_ltI, nI_leI, nI_eq, nI_ltL, nI_leL, nI_eqL, nI_Llt, nI_Lle, nI_Leq, nI_eqm, nI_meq, nI_ltm, nI_lem, nI_mlt, nI_mle, lg0, lgl, lgg, lgle, lgge, Int32.not_lt, Int32.not_le, Int64.not_lt, Int64.not_le, not_false_eq_true, not_true_eq_false, Decidable.not_not, ge_iff_le, gt_iff_lt] at q2) <;> omega)
          | exact absurd q2 (by with_reducible assumption)
          | exact absurd (by with_reducible assumption) q2
          | exact absurd (Decidable.not_not.mp q2) (by with_reducible assumption)
          | exact absurd (by with_reducible assumption) (Int32.not_le.mpr q2)
          | exact absurd (by with_reducible assumption) (Int32.not_lt.mpr q2)
        · skip
          (try simp (disch := omega) only [nI_ltI, nI_leI, nI_eq, nI_ltL, nI_leL, nI_eqL, nI_Llt, nI_Lle, nI_Leq, nI_eqm, nI_meq, nI_ltm, nI_lem, nI_mlt, nI_mle, lg0, lgl, lgg, lgle, lgge, Int32.not_lt, Int32.not_le, Int64.not_lt, Int64.not_le, not_false_eq_true, not_true_eq_false, Decidable.not_not, ge_iff_le, gt_iff_lt] at q2)
          refine pw_blk (mi := mz_170) (b := bz_170_10) rfl rfl ?_
          simp only [bz_170_10, pz_cut_t, pz_cut_f, pz_cut_n, pv_gt, pv_ts, pv_tn, ev_ald0, ev_eld0, ev_gf11_2, ev_ild3, ea_iald, ev_ild2, ev_cs3, pz_wi_gc, pz_wi_ga, pz_wi_gn, pz_wi_gl, pz_wi_gr, pz_wi_same, pz_wi_X, pz_wl_gc, pz_wl_ga, pz_wl_gn, pz_wl_gi, pz_wl_gr, pz_wl_same, pz_wl_X, pz_wr_gc, pz_wr_ga, pz_wr_gn, pz_wr_gi, pz_wr_gl, pz_wr_same, pz_wr_X, so_120 hS, sr_120_86 hS, sa_173 hS, sn_173 hS, sr_120_87 hS, sa_174 hS, sn_174 hS, hn, eb, ey, sa_150 hS, sn_150 hS, sa_172 hS, sn_172 hS, sa_171 hS, sn_171 hS, sa_175 hS, sn_175 hS]
          (try simp (disch := omega) only [nI_clamp, pz_in_nI2, pz_in_nI2L, pv_gt, nI_add, nI_addL, nI_Ladd, pk_mul, nI_mulL, nI_Lmul, pk_sub, nI_subL, nI_Lsub, nI_inc, nI_clampL, Nat.add_sub_cancel, pz_wi_else, pz_wl_else, vu_eq, vu_ne, pz_wi_gc, pz_wi_ga, pz_wi_gn, pz_wi_gl, pz_wi_gr, pz_wi_same, pz_wi_X, pz_wl_gc, pz_wl_ga, pz_wl_gn, pz_wl_gi, pz_wl_gr, pz_wl_same, pz_wl_X, pz_wr_gc, pz_wr_ga, pz_wr_gn, pz_wr_gi, pz_wr_gl, pz_wr_same, pz_wr_X, hn, eb, ey])
          (try refine po_gI (by first | exact pz_in_nI (by omega) (by decide) | decide | assumption) ?_)
          (try refine po_gI (by first | exact pz_in_nI (by omega) (by decide) | decide | assumption) ?_)
          (try refine po_gP (Nat.le_of_ble_eq_true rfl) ?_)
          refine po_call (by omega) (r_isKnownAt (fun _ => ?_) (fun z => absurd hk (by rw [z]; decide)))
          refine pw_blk (mi := mz_170) (b := bz_170_26) rfl rfl ?_
          simp only [bz_170_26, pz_cut_t, pz_cut_f, pz_cut_n, pv_gt, pv_ts, pv_tn, ev_ifne, pz_wi_gc, pz_wi_ga, pz_wi_gn, pz_wi_gl, pz_wi_gr, pz_wi_same, pz_wi_X, pz_wl_gc, pz_wl_ga, pz_wl_gn, pz_wl_gi, pz_wl_gr, pz_wl_same, pz_wl_X, pz_wr_gc, pz_wr_ga, pz_wr_gn, pz_wr_gi, pz_wr_gl, pz_wr_same, pz_wr_X, hn, eb, ey]
          (try simp (disch := omega) only [nI_clamp, pz_in_nI2, pz_in_nI2L, pv_gt, nI_add, nI_addL, nI_Ladd, pk_mul, nI_mulL, nI_Lmul, pk_sub, nI_subL, nI_Lsub, nI_inc, nI_clampL, Nat.add_sub_cancel, pz_wi_else, pz_wl_else, vu_eq, vu_ne, pz_wi_gc, pz_wi_ga, pz_wi_gn, pz_wi_gl, pz_wi_gr, pz_wi_same, pz_wi_X, pz_wl_gc, pz_wl_ga, pz_wl_gn, pz_wl_gi, pz_wl_gr, pz_wl_same, pz_wl_X, pz_wr_gc, pz_wr_ga, pz_wr_gn, pz_wr_gi, pz_wr_gl, pz_wr_same, pz_wr_X, hn, eb, ey])
          refine po_brP (fun q26 => ?_) (fun q26 => ?_)
          · skip
            (try simp (disch := omega) only [nI_ltI, nI_leI, nI_eq, nI_ltL, nI_leL, nI_eqL, nI_Llt, nI_Lle, nI_Leq, nI_eqm, nI_meq, nI_ltm, nI_lem, nI_mlt, nI_mle, lg0, lgl, lgg, lgle, lgge, Int32.not_lt, Int32.not_le, Int64.not_lt, Int64.not_le, not_false_eq_true, not_true_eq_false, Decidable.not_not, ge_iff_le, gt_iff_lt] at q26)
            refine pw_blk (mi := mz_170) (b := bz_170_32) rfl rfl ?_
            simp only [bz_170_32, pz_cut_t, pz_cut_f, pz_cut_n, pv_gt, pv_ts, pv_tn, ev_ald0, ev_eld0, ev_gf11_2, ev_ild3, ea_iald, ev_ist4n, ev_ist4i, ev_ist4r, ev_ist4e, ev_ist4l, ev_ic0, ev_ist5n, ev_ist5i, ev_ist5r, ev_ist5e, ev_ist5l, ev_nil, pz_wi_gc, pz_wi_ga, pz_wi_gn, pz_wi_gl, pz_wi_gr, pz_wi_same, pz_wi_X, pz_wl_gc, pz_wl_ga, pz_wl_gn, pz_wl_gi, pz_wl_gr, pz_wl_same, pz_wl_X, pz_wr_gc, pz_wr_ga, pz_wr_gn, pz_wr_gi, pz_wr_gl, pz_wr_same, pz_wr_X, so_120 hS, sr_120_41 hS, sa_150 hS, sn_150 hS, sr_120_85 hS, sa_172 hS, sn_172 hS, hn, eb, ey, sa_173 hS, sn_173 hS, sa_174 hS, sn_174 hS, sa_171 hS, sn_171 hS, sa_175 hS, sn_175 hS]
            (try simp (disch := omega) only [nI_clamp, pz_in_nI2, pz_in_nI2L, pv_gt, nI_add, nI_addL, nI_Ladd, pk_mul, nI_mulL, nI_Lmul, pk_sub, nI_subL, nI_Lsub, nI_inc, nI_clampL, Nat.add_sub_cancel, pz_wi_else, pz_wl_else, vu_eq, vu_ne, pz_wi_gc, pz_wi_ga, pz_wi_gn, pz_wi_gl, pz_wi_gr, pz_wi_same, pz_wi_X, pz_wl_gc, pz_wl_ga, pz_wl_gn, pz_wl_gi, pz_wl_gr, pz_wl_same, pz_wl_X, pz_wr_gc, pz_wr_ga, pz_wr_gn, pz_wr_gi, pz_wr_gl, pz_wr_same, pz_wr_X, hn, eb, ey])
            (try refine po_gI (by first | exact pz_in_nI (by omega) (by decide) | decide | assumption) ?_)
            (try refine po_gI (by first | exact pz_in_nI (by omega) (by decide) | decide | assumption) ?_)
            refine po_go ?_
            exact key2 y 0 _ (by omega) rfl
          · first
            | exact absurd q26 (by decide)
            | exact absurd trivial q26
            | exact q26.elim
            | (exfalso; (try simp (disch := omega) only [nI_ltI, nI_leI, nI_eq, nI_ltL, nI_leL, nI_eqL, nI_Llt, nI_Lle, nI_Leq, nI_eqm, nI_meq, nI_ltm, nI_lem, nI_mlt, nI_mle, lg0, lgl, lgg, lgle, lgge, Int32.not_lt, Int32.not_le, Int64.not_lt, Int64.not_le, not_false_eq_true, not_true_eq_false, Decidable.not_not, ge_iff_le, gt_iff_lt] at q26) <;> omega)
            | exact absurd q26 (by with_reducible assumption)
            | exact absurd (by with_reducible assumption) q26
            | exact absurd (Decidable.not_not.mp q26) (by with_reducible assumption)
            | exact absurd (by with_reducible assumption) (Int32.not_le.mpr q26)
            | exact absurd (by with_reducible assumption) (Int32.not_lt.mpr q26)
      · have hk2 : kn (gi M 173 i) (gi M 174 i) k = false := by simpa using hk
        have hpp : pap (gi M 150) (gi M 172) (gi M 171) (gi M 175) (gi M 173) (gi M 174) k f i = true := by
          unfold pap
          rw [hk2]
          rfl
        rw [hpp] at h
        refine pw_blk (mi := mz_170) (b := bz_170_2) rfl rfl ?_
        simp only [bz_170_2, pz_cut_t, pz_cut_f, pz_cut_n, pv_gt, pv_ts, pv_tn, ev_ild3, ev_ald0, ev_eld0, ev_gf11_0, ev_ic_ge, pz_wi_gc, pz_wi_ga, pz_wi_gn, pz_wi_gl, pz_wi_gr, pz_wi_same, pz_wi_X, pz_wl_gc, pz_wl_ga, pz_wl_gn, pz_wl_gi, pz_wl_gr, pz_wl_same, pz_wl_X, pz_wr_gc, pz_wr_ga, pz_wr_gn, pz_wr_gi, pz_wr_gl, pz_wr_same, pz_wr_X, so_120 hS, hn, eb, ey]
        (try simp (disch := omega) only [nI_clamp, pz_in_nI2, pz_in_nI2L, pv_gt, nI_add, nI_addL, nI_Ladd, pk_mul, nI_mulL, nI_Lmul, pk_sub, nI_subL, nI_Lsub, nI_inc, nI_clampL, Nat.add_sub_cancel, pz_wi_else, pz_wl_else, vu_eq, vu_ne, pz_wi_gc, pz_wi_ga, pz_wi_gn, pz_wi_gl, pz_wi_gr, pz_wi_same, pz_wi_X, pz_wl_gc, pz_wl_ga, pz_wl_gn, pz_wl_gi, pz_wl_gr, pz_wl_same, pz_wl_X, pz_wr_gc, pz_wr_ga, pz_wr_gn, pz_wr_gi, pz_wr_gl, pz_wr_same, pz_wr_X, hn, eb, ey])
        refine po_brP (fun q2 => ?_) (fun q2 => ?_)
        · first
          | exact absurd q2 (by decide)
          | exact absurd trivial q2
          | exact q2.elim
          | (exfalso; (try simp (disch := omega) only [nI_ltI, nI_leI, nI_eq, nI_ltL, nI_leL, nI_eqL, nI_Llt, nI_Lle, nI_Leq, nI_eqm, nI_meq, nI_ltm, nI_lem, nI_mlt, nI_mle, lg0, lgl, lgg, lgle, lgge, Int32.not_lt, Int32.not_le, Int64.not_lt, Int64.not_le, not_false_eq_true, not_true_eq_false, Decidable.not_not, ge_iff_le, gt_iff_lt] at q2) <;> omega)
          | exact absurd q2 (by with_reducible assumption)
          | exact absurd (by with_reducible assumption) q2
          | exact absurd (Decidable.not_not.mp q2) (by with_reducible assumption)
          | exact absurd (by with_reducible assumption) (Int32.not_le.mpr q2)
          | exact absurd (by with_reducible assumption) (Int32.not_lt.mpr q2)
        · skip
          (try simp (disch := omega) only [nI_ltI, nI_leI, nI_eq, nI_ltL, nI_leL, nI_eqL, nI_Llt, nI_Lle, nI_Leq, nI_eqm, nI_meq, nI_ltm, nI_lem, nI_mlt, nI_mle, lg0, lgl, lgg, lgle, lgge, Int32.not_lt, Int32.not_le, Int64.not_lt, Int64.not_le, not_false_eq_true, not_true_eq_false, Decidable.not_not, ge_iff_le, gt_iff_lt] at q2)
          refine pw_blk (mi := mz_170) (b := bz_170_10) rfl rfl ?_
          simp only [bz_170_10, pz_cut_t, pz_cut_f, pz_cut_n, pv_gt, pv_ts, pv_tn, ev_ald0, ev_eld0, ev_gf11_2, ev_ild3, ea_iald, ev_ild2, ev_cs3, pz_wi_gc, pz_wi_ga, pz_wi_gn, pz_wi_gl, pz_wi_gr, pz_wi_same, pz_wi_X, pz_wl_gc, pz_wl_ga, pz_wl_gn, pz_wl_gi, pz_wl_gr, pz_wl_same, pz_wl_X, pz_wr_gc, pz_wr_ga, pz_wr_gn, pz_wr_gi, pz_wr_gl, pz_wr_same, pz_wr_X, so_120 hS, sr_120_86 hS, sa_173 hS, sn_173 hS, sr_120_87 hS, sa_174 hS, sn_174 hS, hn, eb, ey, sa_150 hS, sn_150 hS, sa_172 hS, sn_172 hS, sa_171 hS, sn_171 hS, sa_175 hS, sn_175 hS]
          (try simp (disch := omega) only [nI_clamp, pz_in_nI2, pz_in_nI2L, pv_gt, nI_add, nI_addL, nI_Ladd, pk_mul, nI_mulL, nI_Lmul, pk_sub, nI_subL, nI_Lsub, nI_inc, nI_clampL, Nat.add_sub_cancel, pz_wi_else, pz_wl_else, vu_eq, vu_ne, pz_wi_gc, pz_wi_ga, pz_wi_gn, pz_wi_gl, pz_wi_gr, pz_wi_same, pz_wi_X, pz_wl_gc, pz_wl_ga, pz_wl_gn, pz_wl_gi, pz_wl_gr, pz_wl_same, pz_wl_X, pz_wr_gc, pz_wr_ga, pz_wr_gn, pz_wr_gi, pz_wr_gl, pz_wr_same, pz_wr_X, hn, eb, ey])
          (try refine po_gI (by first | exact pz_in_nI (by omega) (by decide) | decide | assumption) ?_)
          (try refine po_gI (by first | exact pz_in_nI (by omega) (by decide) | decide | assumption) ?_)
          (try refine po_gP (Nat.le_of_ble_eq_true rfl) ?_)
          refine po_call (by omega) (r_isKnownAt (fun z => absurd z (by rw [hk2]; decide)) (fun _ => ?_))
          refine pw_blk (mi := mz_170) (b := bz_170_26) rfl rfl ?_
          simp only [bz_170_26, pz_cut_t, pz_cut_f, pz_cut_n, pv_gt, pv_ts, pv_tn, ev_ifne, pz_wi_gc, pz_wi_ga, pz_wi_gn, pz_wi_gl, pz_wi_gr, pz_wi_same, pz_wi_X, pz_wl_gc, pz_wl_ga, pz_wl_gn, pz_wl_gi, pz_wl_gr, pz_wl_same, pz_wl_X, pz_wr_gc, pz_wr_ga, pz_wr_gn, pz_wr_gi, pz_wr_gl, pz_wr_same, pz_wr_X, hn, eb, ey]
          (try simp (disch := omega) only [nI_clamp, pz_in_nI2, pz_in_nI2L, pv_gt, nI_add, nI_addL, nI_Ladd, pk_mul, nI_mulL, nI_Lmul, pk_sub, nI_subL, nI_Lsub, nI_inc, nI_clampL, Nat.add_sub_cancel, pz_wi_else, pz_wl_else, vu_eq, vu_ne, pz_wi_gc, pz_wi_ga, pz_wi_gn, pz_wi_gl, pz_wi_gr, pz_wi_same, pz_wi_X, pz_wl_gc, pz_wl_ga, pz_wl_gn, pz_wl_gi, pz_wl_gr, pz_wl_same, pz_wl_X, pz_wr_gc, pz_wr_ga, pz_wr_gn, pz_wr_gi, pz_wr_gl, pz_wr_same, pz_wr_X, hn, eb, ey])
          refine po_brP (fun q26 => ?_) (fun q26 => ?_)
          · first
            | exact absurd q26 (by decide)
            | exact absurd trivial q26
            | exact q26.elim
            | (exfalso; (try simp (disch := omega) only [nI_ltI, nI_leI, nI_eq, nI_ltL, nI_leL, nI_eqL, nI_Llt, nI_Lle, nI_Leq, nI_eqm, nI_meq, nI_ltm, nI_lem, nI_mlt, nI_mle, lg0, lgl, lgg, lgle, lgge, Int32.not_lt, Int32.not_le, Int64.not_lt, Int64.not_le, not_false_eq_true, not_true_eq_false, Decidable.not_not, ge_iff_le, gt_iff_lt] at q26) <;> omega)
            | exact absurd q26 (by with_reducible assumption)
            | exact absurd (by with_reducible assumption) q26
            | exact absurd (Decidable.not_not.mp q26) (by with_reducible assumption)
            | exact absurd (by with_reducible assumption) (Int32.not_le.mpr q26)
            | exact absurd (by with_reducible assumption) (Int32.not_lt.mpr q26)
          · skip
            (try simp (disch := omega) only [nI_ltI, nI_leI, nI_eq, nI_ltL, nI_leL, nI_eqL, nI_Llt, nI_Lle, nI_Leq, nI_eqm, nI_meq, nI_ltm, nI_lem, nI_mlt, nI_mle, lg0, lgl, lgg, lgle, lgge, Int32.not_lt, Int32.not_le, Int64.not_lt, Int64.not_le, not_false_eq_true, not_true_eq_false, Decidable.not_not, ge_iff_le, gt_iff_lt] at q26)
            refine pw_blk (mi := mz_170) (b := bz_170_29) rfl rfl ?_
            simp only [bz_170_29, pz_cut_t, pz_cut_f, pz_cut_n, pv_gt, pv_ts, pv_tn, ev_goto, pz_wi_gc, pz_wi_ga, pz_wi_gn, pz_wi_gl, pz_wi_gr, pz_wi_same, pz_wi_X, pz_wl_gc, pz_wl_ga, pz_wl_gn, pz_wl_gi, pz_wl_gr, pz_wl_same, pz_wl_X, pz_wr_gc, pz_wr_ga, pz_wr_gn, pz_wr_gi, pz_wr_gl, pz_wr_same, pz_wr_X, hn, eb, ey]
            (try simp (disch := omega) only [nI_clamp, pz_in_nI2, pz_in_nI2L, pv_gt, nI_add, nI_addL, nI_Ladd, pk_mul, nI_mulL, nI_Lmul, pk_sub, nI_subL, nI_Lsub, nI_inc, nI_clampL, Nat.add_sub_cancel, pz_wi_else, pz_wl_else, vu_eq, vu_ne, pz_wi_gc, pz_wi_ga, pz_wi_gn, pz_wi_gl, pz_wi_gr, pz_wi_same, pz_wi_X, pz_wl_gc, pz_wl_ga, pz_wl_gn, pz_wl_gi, pz_wl_gr, pz_wl_same, pz_wl_X, pz_wr_gc, pz_wr_ga, pz_wr_gn, pz_wr_gi, pz_wr_gl, pz_wr_same, pz_wr_X, hn, eb, ey])
            refine po_go ?_
            refine pw_blk (mi := mz_170) (b := bz_170_102) rfl rfl ?_
            simp only [bz_170_102, pz_cut_t, pz_cut_f, pz_cut_n, pv_gt, pv_ts, pv_tn, ev_inc3n, ev_inc3i, ev_inc3r, ev_inc3e, ev_goto, pz_wi_gc, pz_wi_ga, pz_wi_gn, pz_wi_gl, pz_wi_gr, pz_wi_same, pz_wi_X, pz_wl_gc, pz_wl_ga, pz_wl_gn, pz_wl_gi, pz_wl_gr, pz_wl_same, pz_wl_X, pz_wr_gc, pz_wr_ga, pz_wr_gn, pz_wr_gi, pz_wr_gl, pz_wr_same, pz_wr_X, hn, eb, ey]
            (try simp (disch := omega) only [nI_clamp, pz_in_nI2, pz_in_nI2L, pv_gt, nI_add, nI_addL, nI_Ladd, pk_mul, nI_mulL, nI_Lmul, pk_sub, nI_subL, nI_Lsub, nI_inc, nI_clampL, Nat.add_sub_cancel, pz_wi_else, pz_wl_else, vu_eq, vu_ne, pz_wi_gc, pz_wi_ga, pz_wi_gn, pz_wi_gl, pz_wi_gr, pz_wi_same, pz_wi_X, pz_wl_gc, pz_wl_ga, pz_wl_gn, pz_wl_gi, pz_wl_gr, pz_wl_same, pz_wl_X, pz_wr_gc, pz_wr_ga, pz_wr_gn, pz_wr_gi, pz_wr_gl, pz_wr_same, pz_wr_X, hn, eb, ey])
            refine po_go ?_
            exact pw_cut (mi := mz_170) (b := bz_170_2) rfl rfl (ih (i + 1) (by omega) h) rfl
  refine pm_ent (L := [some (.ref 120), some (.int f), some (.int k), none, none, none]) rfl (Nat.le_of_ble_eq_true rfl) ?_
  refine pw_blk (mi := mz_170) (b := bz_170_0) rfl rfl ?_
  simp only [bz_170_0, pz_cut_t, pz_cut_f, pz_cut_n, pv_gt, pv_ts, pv_tn, ev_ic0, ev_ist3n, ev_ist3i, ev_ist3r, ev_ist3e, ev_ist3l, ev_nil, pz_wi_gc, pz_wi_ga, pz_wi_gn, pz_wi_gl, pz_wi_gr, pz_wi_same, pz_wi_X, pz_wl_gc, pz_wl_ga, pz_wl_gn, pz_wl_gi, pz_wl_gr, pz_wl_same, pz_wl_X, pz_wr_gc, pz_wr_ga, pz_wr_gn, pz_wr_gi, pz_wr_gl, pz_wr_same, pz_wr_X]
  (try simp (disch := omega) only [nI_clamp, pz_in_nI2, pz_in_nI2L, pv_gt, nI_add, nI_addL, nI_Ladd, pk_mul, nI_mulL, nI_Lmul, pk_sub, nI_subL, nI_Lsub, nI_inc, nI_clampL, Nat.add_sub_cancel, pz_wi_else, pz_wl_else, vu_eq, vu_ne, pz_wi_gc, pz_wi_ga, pz_wi_gn, pz_wi_gl, pz_wi_gr, pz_wi_same, pz_wi_X, pz_wl_gc, pz_wl_ga, pz_wl_gn, pz_wl_gi, pz_wl_gr, pz_wl_same, pz_wl_X, pz_wr_gc, pz_wr_ga, pz_wr_gn, pz_wr_gi, pz_wr_gl, pz_wr_same, pz_wr_X])
  refine po_go ?_
  exact key n 0 (by omega) h
/-- how many fades, the least, the greatest -/
def lwF (p : Nat → Bool) : Nat → Nat → Nat → Option Nat → Option Nat → Nat × Option Nat × Option Nat
  | 0, _, n, l, g => (n, l, g)
  | c + 1, i, n, l, g => if p i = true then lwF p c (i + 1) (n + 1) (some (l.getD i)) (some i) else lwF p c (i + 1) n l g
def lwA (w : Nat) (s : Nat × Option Nat × Option Nat) : Int32 := if w = 0 then nI s.1 else if w = 1 then oI s.2.1 else oI s.2.2
theorem m_laws (hd : 3 ≤ d) (hS : SH M) {n B w : Nat} {k : Int32} (hw : w < 3) (hn : gi M 87 5 = nI n) (hn40 : n ≤ 40) (hB : B ≤ 24) (hp : ∀ i, i < n → isUn (gi M 92 i) ∧ (∃ b, b < B ∧ gi M 88 i = nI b) ∧ (∃ y, y ≤ 999 ∧ gi M 89 i = nI y) ∧ (gi M 90 i = 0 ∨ gi M 90 i = 1)) (h : Q (some (.int (lwA w (lwF (fun f => alB (pap (gi M 35) (gi M 88) (gi M 89) (gi M 90) (gi M 91) (gi M 92) k (nI f)) n 0) 201 0 0 none none))), M)) : pm d 69 [.ref 0, .int (nI w), .int k] M Q := by
  have key : ∀ c i m l g, i + c = 201 → m ≤ i → (∀ j, l = some j → j < i) → Q (some (.int (lwA w (lwF (fun f => alB (pap (gi M 35) (gi M 88) (gi M 89) (gi M 90) (gi M 91) (gi M 92) k (nI f)) n 0) c i m l g))), M) → pw d 69 (22, [some (.ref 0), some (.int (nI w)), some (.int k), some (.int (nI m)), some (.int (oI l)), some (.int (oI g)), some (.int (nI i))], [], M) Q := by
    intro c
    induction c with
    | zero =>
      intro i m l g hi hm hl h
      rw [lwF, lwA] at h
      refine pw_blk (mi := mz_69) (b := bz_69_22) rfl rfl ?_
      simp only [bz_69_22, pz_cut_t, pz_cut_f, pz_cut_n, pv_gt, pv_ts, pv_tn, ev_ild6, ev_sp200, ev_ic_gt, pz_wi_gc, pz_wi_ga, pz_wi_gn, pz_wi_gl, pz_wi_gr, pz_wi_same, pz_wi_X, pz_wl_gc, pz_wl_ga, pz_wl_gn, pz_wl_gi, pz_wl_gr, pz_wl_same, pz_wl_X, pz_wr_gc, pz_wr_ga, pz_wr_gn, pz_wr_gi, pz_wr_gl, pz_wr_same, pz_wr_X]
      (try simp (disch := omega) only [nI_clamp, pz_in_nI2, pz_in_nI2L, pv_gt, nI_add, nI_addL, nI_Ladd, pk_mul, nI_mulL, nI_Lmul, pk_sub, nI_subL, nI_Lsub, nI_inc, nI_clampL, Nat.add_sub_cancel, pz_wi_else, pz_wl_else, vu_eq, vu_ne, pz_wi_gc, pz_wi_ga, pz_wi_gn, pz_wi_gl, pz_wi_gr, pz_wi_same, pz_wi_X, pz_wl_gc, pz_wl_ga, pz_wl_gn, pz_wl_gi, pz_wl_gr, pz_wl_same, pz_wl_X, pz_wr_gc, pz_wr_ga, pz_wr_gn, pz_wr_gi, pz_wr_gl, pz_wr_same, pz_wr_X])
      refine po_brP (fun q22 => ?_) (fun q22 => ?_)
      · skip
        (try simp (disch := omega) only [nI_ltI, nI_leI, nI_eq, nI_ltL, nI_leL, nI_eqL, nI_Llt, nI_Lle, nI_Leq, nI_eqm, nI_meq, nI_ltm, nI_lem, nI_mlt, nI_mle, lg0, lgl, lgg, lgle, lgge, Int32.not_lt, Int32.not_le, Int64.not_lt, Int64.not_le, not_false_eq_true, not_true_eq_false, Decidable.not_not, ge_iff_le, gt_iff_lt] at q22)
        refine pw_blk (mi := mz_69) (b := bz_69_68) rfl rfl ?_
        simp only [bz_69_68, pz_cut_t, pz_cut_f, pz_cut_n, pv_gt, pv_ts, pv_tn, ev_ild1, ev_ifne, pz_wi_gc, pz_wi_ga, pz_wi_gn, pz_wi_gl, pz_wi_gr, pz_wi_same, pz_wi_X, pz_wl_gc, pz_wl_ga, pz_wl_gn, pz_wl_gi, pz_wl_gr, pz_wl_same, pz_wl_X, pz_wr_gc, pz_wr_ga, pz_wr_gn, pz_wr_gi, pz_wr_gl, pz_wr_same, pz_wr_X]
        (try simp (disch := omega) only [nI_clamp, pz_in_nI2, pz_in_nI2L, pv_gt, nI_add, nI_addL, nI_Ladd, pk_mul, nI_mulL, nI_Lmul, pk_sub, nI_subL, nI_Lsub, nI_inc, nI_clampL, Nat.add_sub_cancel, pz_wi_else, pz_wl_else, vu_eq, vu_ne, pz_wi_gc, pz_wi_ga, pz_wi_gn, pz_wi_gl, pz_wi_gr, pz_wi_same, pz_wi_X, pz_wl_gc, pz_wl_ga, pz_wl_gn, pz_wl_gi, pz_wl_gr, pz_wl_same, pz_wl_X, pz_wr_gc, pz_wr_ga, pz_wr_gn, pz_wr_gi, pz_wr_gl, pz_wr_same, pz_wr_X])
        refine po_brP (fun q68 => ?_) (fun q68 => ?_)
        · first
          | exact absurd q68 (by decide)
          | exact absurd trivial q68
          | exact q68.elim
          | (exfalso; (try simp (disch := omega) only [nI_ltI, nI_leI, nI_eq, nI_ltL, nI_leL, nI_eqL, nI_Llt, nI_Lle, nI_Leq, nI_eqm, nI_meq, nI_ltm, nI_lem, nI_mlt, nI_mle, lg0, lgl, lgg, lgle, lgge, Int32.not_lt, Int32.not_le, Int64.not_lt, Int64.not_le, not_false_eq_true, not_true_eq_false, Decidable.not_not, ge_iff_le, gt_iff_lt] at q68) <;> omega)
          | exact absurd q68 (by with_reducible assumption)
          | exact absurd (by with_reducible assumption) q68
          | exact absurd (Decidable.not_not.mp q68) (by with_reducible assumption)
          | exact absurd (by with_reducible assumption) (Int32.not_le.mpr q68)
          | exact absurd (by with_reducible assumption) (Int32.not_lt.mpr q68)
          | skip
            (try simp (disch := omega) only [nI_ltI, nI_leI, nI_eq, nI_ltL, nI_leL, nI_eqL, nI_Llt, nI_Lle, nI_Leq, nI_eqm, nI_meq, nI_ltm, nI_lem, nI_mlt, nI_mle, lg0, lgl, lgg, lgle, lgge, Int32.not_lt, Int32.not_le, Int64.not_lt, Int64.not_le, not_false_eq_true, not_true_eq_false, Decidable.not_not, ge_iff_le, gt_iff_lt] at q68)
            rw [if_neg q68] at h
            refine pw_blk (mi := mz_69) (b := bz_69_74) rfl rfl ?_
            simp only [bz_69_74, pz_cut_t, pz_cut_f, pz_cut_n, pv_gt, pv_ts, pv_tn, ev_ild1, ev_ic1, ev_ic_ne, pz_wi_gc, pz_wi_ga, pz_wi_gn, pz_wi_gl, pz_wi_gr, pz_wi_same, pz_wi_X, pz_wl_gc, pz_wl_ga, pz_wl_gn, pz_wl_gi, pz_wl_gr, pz_wl_same, pz_wl_X, pz_wr_gc, pz_wr_ga, pz_wr_gn, pz_wr_gi, pz_wr_gl, pz_wr_same, pz_wr_X]
            (try simp (disch := omega) only [nI_clamp, pz_in_nI2, pz_in_nI2L, pv_gt, nI_add, nI_addL, nI_Ladd, pk_mul, nI_mulL, nI_Lmul, pk_sub, nI_subL, nI_Lsub, nI_inc, nI_clampL, Nat.add_sub_cancel, pz_wi_else, pz_wl_else, vu_eq, vu_ne, pz_wi_gc, pz_wi_ga, pz_wi_gn, pz_wi_gl, pz_wi_gr, pz_wi_same, pz_wi_X, pz_wl_gc, pz_wl_ga, pz_wl_gn, pz_wl_gi, pz_wl_gr, pz_wl_same, pz_wl_X, pz_wr_gc, pz_wr_ga, pz_wr_gn, pz_wr_gi, pz_wr_gl, pz_wr_same, pz_wr_X])
            refine po_brP (fun q74 => ?_) (fun q74 => ?_)
            · first
              | exact absurd q74 (by decide)
              | exact absurd trivial q74
              | exact q74.elim
              | (exfalso; (try simp (disch := omega) only [nI_ltI, nI_leI, nI_eq, nI_ltL, nI_leL, nI_eqL, nI_Llt, nI_Lle, nI_Leq, nI_eqm, nI_meq, nI_ltm, nI_lem, nI_mlt, nI_mle, lg0, lgl, lgg, lgle, lgge, Int32.not_lt, Int32.not_le, Int64.not_lt, Int64.not_le, not_false_eq_true, not_true_eq_false, Decidable.not_not, ge_iff_le, gt_iff_lt] at q74) <;> omega)
              | exact absurd q74 (by with_reducible assumption)
              | exact absurd (by with_reducible assumption) q74
              | exact absurd (Decidable.not_not.mp q74) (by with_reducible assumption)
              | exact absurd (by with_reducible assumption) (Int32.not_le.mpr q74)
              | exact absurd (by with_reducible assumption) (Int32.not_lt.mpr q74)
              | skip
                (try simp (disch := omega) only [nI_ltI, nI_leI, nI_eq, nI_ltL, nI_leL, nI_eqL, nI_Llt, nI_Lle, nI_Leq, nI_eqm, nI_meq, nI_ltm, nI_lem, nI_mlt, nI_mle, lg0, lgl, lgg, lgle, lgge, Int32.not_lt, Int32.not_le, Int64.not_lt, Int64.not_le, not_false_eq_true, not_true_eq_false, Decidable.not_not, ge_iff_le, gt_iff_lt] at q74)
                rw [if_neg q74] at h
                refine pw_blk (mi := mz_69) (b := bz_69_84) rfl rfl ?_
                simp only [bz_69_84, pz_cut_t, pz_cut_f, pz_cut_n, pv_gt, pv_ts, pv_tn, ev_ild5, ev_nil, pz_wi_gc, pz_wi_ga, pz_wi_gn, pz_wi_gl, pz_wi_gr, pz_wi_same, pz_wi_X, pz_wl_gc, pz_wl_ga, pz_wl_gn, pz_wl_gi, pz_wl_gr, pz_wl_same, pz_wl_X, pz_wr_gc, pz_wr_ga, pz_wr_gn, pz_wr_gi, pz_wr_gl, pz_wr_same, pz_wr_X]
                (try simp (disch := omega) only [nI_clamp, pz_in_nI2, pz_in_nI2L, pv_gt, nI_add, nI_addL, nI_Ladd, pk_mul, nI_mulL, nI_Lmul, pk_sub, nI_subL, nI_Lsub, nI_inc, nI_clampL, Nat.add_sub_cancel, pz_wi_else, pz_wl_else, vu_eq, vu_ne, pz_wi_gc, pz_wi_ga, pz_wi_gn, pz_wi_gl, pz_wi_gr, pz_wi_same, pz_wi_X, pz_wl_gc, pz_wl_ga, pz_wl_gn, pz_wl_gi, pz_wl_gr, pz_wl_same, pz_wl_X, pz_wr_gc, pz_wr_ga, pz_wr_gn, pz_wr_gi, pz_wr_gl, pz_wr_same, pz_wr_X])
                refine po_go ?_
                refine pw_blk (mi := mz_69) (b := bz_69_86) rfl rfl ?_
                simp only [bz_69_86, pz_cut_t, pz_cut_f, pz_cut_n, pv_gt, pv_ts, pv_tn, ev_iret0, pz_wi_gc, pz_wi_ga, pz_wi_gn, pz_wi_gl, pz_wi_gr, pz_wi_same, pz_wi_X, pz_wl_gc, pz_wl_ga, pz_wl_gn, pz_wl_gi, pz_wl_gr, pz_wl_same, pz_wl_X, pz_wr_gc, pz_wr_ga, pz_wr_gn, pz_wr_gi, pz_wr_gl, pz_wr_same, pz_wr_X]
                (try simp (disch := omega) only [nI_clamp, pz_in_nI2, pz_in_nI2L, pv_gt, nI_add, nI_addL, nI_Ladd, pk_mul, nI_mulL, nI_Lmul, pk_sub, nI_subL, nI_Lsub, nI_inc, nI_clampL, Nat.add_sub_cancel, pz_wi_else, pz_wl_else, vu_eq, vu_ne, pz_wi_gc, pz_wi_ga, pz_wi_gn, pz_wi_gl, pz_wi_gr, pz_wi_same, pz_wi_X, pz_wl_gc, pz_wl_ga, pz_wl_gn, pz_wl_gi, pz_wl_gr, pz_wl_same, pz_wl_X, pz_wr_gc, pz_wr_ga, pz_wr_gn, pz_wr_gi, pz_wr_gl, pz_wr_same, pz_wr_X])
                exact po_ret h
            · first
              | exact absurd q74 (by decide)
              | exact absurd trivial q74
              | exact q74.elim
              | (exfalso; (try simp (disch := omega) only [nI_ltI, nI_leI, nI_eq, nI_ltL, nI_leL, nI_eqL, nI_Llt, nI_Lle, nI_Leq, nI_eqm, nI_meq, nI_ltm, nI_lem, nI_mlt, nI_mle, lg0, lgl, lgg, lgle, lgge, Int32.not_lt, Int32.not_le, Int64.not_lt, Int64.not_le, not_false_eq_true, not_true_eq_false, Decidable.not_not, ge_iff_le, gt_iff_lt] at q74) <;> omega)
              | exact absurd q74 (by with_reducible assumption)
              | exact absurd (by with_reducible assumption) q74
              | exact absurd (Decidable.not_not.mp q74) (by with_reducible assumption)
              | exact absurd (by with_reducible assumption) (Int32.not_le.mpr q74)
              | exact absurd (by with_reducible assumption) (Int32.not_lt.mpr q74)
              | skip
                (try simp (disch := omega) only [nI_ltI, nI_leI, nI_eq, nI_ltL, nI_leL, nI_eqL, nI_Llt, nI_Lle, nI_Leq, nI_eqm, nI_meq, nI_ltm, nI_lem, nI_mlt, nI_mle, lg0, lgl, lgg, lgle, lgge, Int32.not_lt, Int32.not_le, Int64.not_lt, Int64.not_le, not_false_eq_true, not_true_eq_false, Decidable.not_not, ge_iff_le, gt_iff_lt] at q74)
                rw [if_pos q74] at h
                refine pw_blk (mi := mz_69) (b := bz_69_79) rfl rfl ?_
                simp only [bz_69_79, pz_cut_t, pz_cut_f, pz_cut_n, pv_gt, pv_ts, pv_tn, ev_ild4, ev_goto, pz_wi_gc, pz_wi_ga, pz_wi_gn, pz_wi_gl, pz_wi_gr, pz_wi_same, pz_wi_X, pz_wl_gc, pz_wl_ga, pz_wl_gn, pz_wl_gi, pz_wl_gr, pz_wl_same, pz_wl_X, pz_wr_gc, pz_wr_ga, pz_wr_gn, pz_wr_gi, pz_wr_gl, pz_wr_same, pz_wr_X]
                (try simp (disch := omega) only [nI_clamp, pz_in_nI2, pz_in_nI2L, pv_gt, nI_add, nI_addL, nI_Ladd, pk_mul, nI_mulL, nI_Lmul, pk_sub, nI_subL, nI_Lsub, nI_inc, nI_clampL, Nat.add_sub_cancel, pz_wi_else, pz_wl_else, vu_eq, vu_ne, pz_wi_gc, pz_wi_ga, pz_wi_gn, pz_wi_gl, pz_wi_gr, pz_wi_same, pz_wi_X, pz_wl_gc, pz_wl_ga, pz_wl_gn, pz_wl_gi, pz_wl_gr, pz_wl_same, pz_wl_X, pz_wr_gc, pz_wr_ga, pz_wr_gn, pz_wr_gi, pz_wr_gl, pz_wr_same, pz_wr_X])
                refine po_go ?_
                refine pw_blk (mi := mz_69) (b := bz_69_86) rfl rfl ?_
                simp only [bz_69_86, pz_cut_t, pz_cut_f, pz_cut_n, pv_gt, pv_ts, pv_tn, ev_iret0, pz_wi_gc, pz_wi_ga, pz_wi_gn, pz_wi_gl, pz_wi_gr, pz_wi_same, pz_wi_X, pz_wl_gc, pz_wl_ga, pz_wl_gn, pz_wl_gi, pz_wl_gr, pz_wl_same, pz_wl_X, pz_wr_gc, pz_wr_ga, pz_wr_gn, pz_wr_gi, pz_wr_gl, pz_wr_same, pz_wr_X]
                (try simp (disch := omega) only [nI_clamp, pz_in_nI2, pz_in_nI2L, pv_gt, nI_add, nI_addL, nI_Ladd, pk_mul, nI_mulL, nI_Lmul, pk_sub, nI_subL, nI_Lsub, nI_inc, nI_clampL, Nat.add_sub_cancel, pz_wi_else, pz_wl_else, vu_eq, vu_ne, pz_wi_gc, pz_wi_ga, pz_wi_gn, pz_wi_gl, pz_wi_gr, pz_wi_same, pz_wi_X, pz_wl_gc, pz_wl_ga, pz_wl_gn, pz_wl_gi, pz_wl_gr, pz_wl_same, pz_wl_X, pz_wr_gc, pz_wr_ga, pz_wr_gn, pz_wr_gi, pz_wr_gl, pz_wr_same, pz_wr_X])
                exact po_ret h
        · first
          | exact absurd q68 (by decide)
          | exact absurd trivial q68
          | exact q68.elim
          | (exfalso; (try simp (disch := omega) only [nI_ltI, nI_leI, nI_eq, nI_ltL, nI_leL, nI_eqL, nI_Llt, nI_Lle, nI_Leq, nI_eqm, nI_meq, nI_ltm, nI_lem, nI_mlt, nI_mle, lg0, lgl, lgg, lgle, lgge, Int32.not_lt, Int32.not_le, Int64.not_lt, Int64.not_le, not_false_eq_true, not_true_eq_false, Decidable.not_not, ge_iff_le, gt_iff_lt] at q68) <;> omega)
          | exact absurd q68 (by with_reducible assumption)
          | exact absurd (by with_reducible assumption) q68
          | exact absurd (Decidable.not_not.mp q68) (by with_reducible assumption)
          | exact absurd (by with_reducible assumption) (Int32.not_le.mpr q68)
          | exact absurd (by with_reducible assumption) (Int32.not_lt.mpr q68)
          | skip
            (try simp (disch := omega) only [nI_ltI, nI_leI, nI_eq, nI_ltL, nI_leL, nI_eqL, nI_Llt, nI_Lle, nI_Leq, nI_eqm, nI_meq, nI_ltm, nI_lem, nI_mlt, nI_mle, lg0, lgl, lgg, lgle, lgge, Int32.not_lt, Int32.not_le, Int64.not_lt, Int64.not_le, not_false_eq_true, not_true_eq_false, Decidable.not_not, ge_iff_le, gt_iff_lt] at q68)
            rw [if_pos q68] at h
            refine pw_blk (mi := mz_69) (b := bz_69_72) rfl rfl ?_
            simp only [bz_69_72, pz_cut_t, pz_cut_f, pz_cut_n, pv_gt, pv_ts, pv_tn, ev_ild3, ev_iret0, pz_wi_gc, pz_wi_ga, pz_wi_gn, pz_wi_gl, pz_wi_gr, pz_wi_same, pz_wi_X, pz_wl_gc, pz_wl_ga, pz_wl_gn, pz_wl_gi, pz_wl_gr, pz_wl_same, pz_wl_X, pz_wr_gc, pz_wr_ga, pz_wr_gn, pz_wr_gi, pz_wr_gl, pz_wr_same, pz_wr_X]
            (try simp (disch := omega) only [nI_clamp, pz_in_nI2, pz_in_nI2L, pv_gt, nI_add, nI_addL, nI_Ladd, pk_mul, nI_mulL, nI_Lmul, pk_sub, nI_subL, nI_Lsub, nI_inc, nI_clampL, Nat.add_sub_cancel, pz_wi_else, pz_wl_else, vu_eq, vu_ne, pz_wi_gc, pz_wi_ga, pz_wi_gn, pz_wi_gl, pz_wi_gr, pz_wi_same, pz_wi_X, pz_wl_gc, pz_wl_ga, pz_wl_gn, pz_wl_gi, pz_wl_gr, pz_wl_same, pz_wl_X, pz_wr_gc, pz_wr_ga, pz_wr_gn, pz_wr_gi, pz_wr_gl, pz_wr_same, pz_wr_X])
            exact po_ret h
      · first
        | exact absurd q22 (by decide)
        | exact absurd trivial q22
        | exact q22.elim
        | (exfalso; (try simp (disch := omega) only [nI_ltI, nI_leI, nI_eq, nI_ltL, nI_leL, nI_eqL, nI_Llt, nI_Lle, nI_Leq, nI_eqm, nI_meq, nI_ltm, nI_lem, nI_mlt, nI_mle, lg0, lgl, lgg, lgle, lgge, Int32.not_lt, Int32.not_le, Int64.not_lt, Int64.not_le, not_false_eq_true, not_true_eq_false, Decidable.not_not, ge_iff_le, gt_iff_lt] at q22) <;> omega)
        | exact absurd q22 (by with_reducible assumption)
        | exact absurd (by with_reducible assumption) q22
        | exact absurd (Decidable.not_not.mp q22) (by with_reducible assumption)
        | exact absurd (by with_reducible assumption) (Int32.not_le.mpr q22)
        | exact absurd (by with_reducible assumption) (Int32.not_lt.mpr q22)
    | succ c ih =>
      intro i m l g hi hm hl h
      rw [lwF] at h
      cases hb : alB (pap (gi M 35) (gi M 88) (gi M 89) (gi M 90) (gi M 91) (gi M 92) k (nI i)) n 0 with
      | true =>
        simp only [hb, if_true] at h
        cases l with
        | none =>
          refine pw_blk (mi := mz_69) (b := bz_69_22) rfl rfl ?_
          simp only [bz_69_22, pz_cut_t, pz_cut_f, pz_cut_n, pv_gt, pv_ts, pv_tn, ev_ild6, ev_sp200, ev_ic_gt, pz_wi_gc, pz_wi_ga, pz_wi_gn, pz_wi_gl, pz_wi_gr, pz_wi_same, pz_wi_X, pz_wl_gc, pz_wl_ga, pz_wl_gn, pz_wl_gi, pz_wl_gr, pz_wl_same, pz_wl_X, pz_wr_gc, pz_wr_ga, pz_wr_gn, pz_wr_gi, pz_wr_gl, pz_wr_same, pz_wr_X, hb, bI_t, oI]
          (try simp (disch := omega) only [nI_clamp, pz_in_nI2, pz_in_nI2L, pv_gt, nI_add, nI_addL, nI_Ladd, pk_mul, nI_mulL, nI_Lmul, pk_sub, nI_subL, nI_Lsub, nI_inc, nI_clampL, Nat.add_sub_cancel, pz_wi_else, pz_wl_else, vu_eq, vu_ne, pz_wi_gc, pz_wi_ga, pz_wi_gn, pz_wi_gl, pz_wi_gr, pz_wi_same, pz_wi_X, pz_wl_gc, pz_wl_ga, pz_wl_gn, pz_wl_gi, pz_wl_gr, pz_wl_same, pz_wl_X, pz_wr_gc, pz_wr_ga, pz_wr_gn, pz_wr_gi, pz_wr_gl, pz_wr_same, pz_wr_X, hb, bI_t, oI])
          refine po_brP (fun q22 => ?_) (fun q22 => ?_)
          · first
            | exact absurd q22 (by decide)
            | exact absurd trivial q22
            | exact q22.elim
            | (exfalso; (try simp (disch := omega) only [nI_ltI, nI_leI, nI_eq, nI_ltL, nI_leL, nI_eqL, nI_Llt, nI_Lle, nI_Leq, nI_eqm, nI_meq, nI_ltm, nI_lem, nI_mlt, nI_mle, lg0, lgl, lgg, lgle, lgge, Int32.not_lt, Int32.not_le, Int64.not_lt, Int64.not_le, not_false_eq_true, not_true_eq_false, Decidable.not_not, ge_iff_le, gt_iff_lt] at q22) <;> omega)
            | exact absurd q22 (by with_reducible assumption)
            | exact absurd (by with_reducible assumption) q22
            | exact absurd (Decidable.not_not.mp q22) (by with_reducible assumption)
            | exact absurd (by with_reducible assumption) (Int32.not_le.mpr q22)
            | exact absurd (by with_reducible assumption) (Int32.not_lt.mpr q22)
          · skip
            (try simp (disch := omega) only [nI_ltI, nI_leI, nI_eq, nI_ltL, nI_leL, nI_eqL, nI_Llt, nI_Lle, nI_Leq, nI_eqm, nI_meq, nI_ltm, nI_lem, nI_mlt, nI_mle, lg0, lgl, lgg, lgle, lgge, Int32.not_lt, Int32.not_le, Int64.not_lt, Int64.not_le, not_false_eq_true, not_true_eq_false, Decidable.not_not, ge_iff_le, gt_iff_lt] at q22)
            refine pw_blk (mi := mz_69) (b := bz_69_30) rfl rfl ?_
            simp only [bz_69_30, pz_cut_t, pz_cut_f, pz_cut_n, pv_gt, pv_ts, pv_tn, ev_ald0, ev_eld0, ev_ild6, ev_ild2, ev_cv2_0, pz_wi_gc, pz_wi_ga, pz_wi_gn, pz_wi_gl, pz_wi_gr, pz_wi_same, pz_wi_X, pz_wl_gc, pz_wl_ga, pz_wl_gn, pz_wl_gi, pz_wl_gr, pz_wl_same, pz_wl_X, pz_wr_gc, pz_wr_ga, pz_wr_gn, pz_wr_gi, pz_wr_gl, pz_wr_same, pz_wr_X, so_0 hS, hb, bI_t, oI]
            (try simp (disch := omega) only [nI_clamp, pz_in_nI2, pz_in_nI2L, pv_gt, nI_add, nI_addL, nI_Ladd, pk_mul, nI_mulL, nI_Lmul, pk_sub, nI_subL, nI_Lsub, nI_inc, nI_clampL, Nat.add_sub_cancel, pz_wi_else, pz_wl_else, vu_eq, vu_ne, pz_wi_gc, pz_wi_ga, pz_wi_gn, pz_wi_gl, pz_wi_gr, pz_wi_same, pz_wi_X, pz_wl_gc, pz_wl_ga, pz_wl_gn, pz_wl_gi, pz_wl_gr, pz_wl_same, pz_wl_X, pz_wr_gc, pz_wr_ga, pz_wr_gn, pz_wr_gi, pz_wr_gl, pz_wr_same, pz_wr_X, hb, bI_t, oI])
            (try refine po_gP (Nat.le_of_ble_eq_true rfl) ?_)
            refine po_call (by omega) (m_lets (by omega) hS hn hn40 hB hp ?_)
            refine pw_blk (mi := mz_69) (b := bz_69_37) rfl rfl ?_
            simp only [bz_69_37, pz_cut_t, pz_cut_f, pz_cut_n, pv_gt, pv_ts, pv_tn, ev_ifeq, pz_wi_gc, pz_wi_ga, pz_wi_gn, pz_wi_gl, pz_wi_gr, pz_wi_same, pz_wi_X, pz_wl_gc, pz_wl_ga, pz_wl_gn, pz_wl_gi, pz_wl_gr, pz_wl_same, pz_wl_X, pz_wr_gc, pz_wr_ga, pz_wr_gn, pz_wr_gi, pz_wr_gl, pz_wr_same, pz_wr_X, hb, bI_t, oI]
            (try simp (disch := omega) only [nI_clamp, pz_in_nI2, pz_in_nI2L, pv_gt, nI_add, nI_addL, nI_Ladd, pk_mul, nI_mulL, nI_Lmul, pk_sub, nI_subL, nI_Lsub, nI_inc, nI_clampL, Nat.add_sub_cancel, pz_wi_else, pz_wl_else, vu_eq, vu_ne, pz_wi_gc, pz_wi_ga, pz_wi_gn, pz_wi_gl, pz_wi_gr, pz_wi_same, pz_wi_X, pz_wl_gc, pz_wl_ga, pz_wl_gn, pz_wl_gi, pz_wl_gr, pz_wl_same, pz_wl_X, pz_wr_gc, pz_wr_ga, pz_wr_gn, pz_wr_gi, pz_wr_gl, pz_wr_same, pz_wr_X, hb, bI_t, oI])
            refine po_brP (fun q37 => ?_) (fun q37 => ?_)
            · first
              | exact absurd q37 (by decide)
              | exact absurd trivial q37
              | exact q37.elim
              | (exfalso; (try simp (disch := omega) only [nI_ltI, nI_leI, nI_eq, nI_ltL, nI_leL, nI_eqL, nI_Llt, nI_Lle, nI_Leq, nI_eqm, nI_meq, nI_ltm, nI_lem, nI_mlt, nI_mle, lg0, lgl, lgg, lgle, lgge, Int32.not_lt, Int32.not_le, Int64.not_lt, Int64.not_le, not_false_eq_true, not_true_eq_false, Decidable.not_not, ge_iff_le, gt_iff_lt] at q37) <;> omega)
              | exact absurd q37 (by with_reducible assumption)
              | exact absurd (by with_reducible assumption) q37
              | exact absurd (Decidable.not_not.mp q37) (by with_reducible assumption)
              | exact absurd (by with_reducible assumption) (Int32.not_le.mpr q37)
              | exact absurd (by with_reducible assumption) (Int32.not_lt.mpr q37)
            · skip
              (try simp (disch := omega) only [nI_ltI, nI_leI, nI_eq, nI_ltL, nI_leL, nI_eqL, nI_Llt, nI_Lle, nI_Leq, nI_eqm, nI_meq, nI_ltm, nI_lem, nI_mlt, nI_mle, lg0, lgl, lgg, lgle, lgge, Int32.not_lt, Int32.not_le, Int64.not_lt, Int64.not_le, not_false_eq_true, not_true_eq_false, Decidable.not_not, ge_iff_le, gt_iff_lt] at q37)
              refine pw_blk (mi := mz_69) (b := bz_69_40) rfl rfl ?_
              simp only [bz_69_40, pz_cut_t, pz_cut_f, pz_cut_n, pv_gt, pv_ts, pv_tn, ev_inc3n, ev_inc3i, ev_inc3r, ev_inc3e, ev_ild4, ev_icm1, ev_ic_ne, pz_wi_gc, pz_wi_ga, pz_wi_gn, pz_wi_gl, pz_wi_gr, pz_wi_same, pz_wi_X, pz_wl_gc, pz_wl_ga, pz_wl_gn, pz_wl_gi, pz_wl_gr, pz_wl_same, pz_wl_X, pz_wr_gc, pz_wr_ga, pz_wr_gn, pz_wr_gi, pz_wr_gl, pz_wr_same, pz_wr_X, hb, bI_t, oI]
              (try simp (disch := omega) only [nI_clamp, pz_in_nI2, pz_in_nI2L, pv_gt, nI_add, nI_addL, nI_Ladd, pk_mul, nI_mulL, nI_Lmul, pk_sub, nI_subL, nI_Lsub, nI_inc, nI_clampL, Nat.add_sub_cancel, pz_wi_else, pz_wl_else, vu_eq, vu_ne, pz_wi_gc, pz_wi_ga, pz_wi_gn, pz_wi_gl, pz_wi_gr, pz_wi_same, pz_wi_X, pz_wl_gc, pz_wl_ga, pz_wl_gn, pz_wl_gi, pz_wl_gr, pz_wl_same, pz_wl_X, pz_wr_gc, pz_wr_ga, pz_wr_gn, pz_wr_gi, pz_wr_gl, pz_wr_same, pz_wr_X, hb, bI_t, oI])
              refine po_brP (fun q40 => ?_) (fun q40 => ?_)
              · first
                | exact absurd q40 (by decide)
                | exact absurd trivial q40
                | exact q40.elim
                | (exfalso; (try simp (disch := omega) only [nI_ltI, nI_leI, nI_eq, nI_ltL, nI_leL, nI_eqL, nI_Llt, nI_Lle, nI_Leq, nI_eqm, nI_meq, nI_ltm, nI_lem, nI_mlt, nI_mle, lg0, lgl, lgg, lgle, lgge, Int32.not_lt, Int32.not_le, Int64.not_lt, Int64.not_le, not_false_eq_true, not_true_eq_false, Decidable.not_not, ge_iff_le, gt_iff_lt] at q40) <;> omega)
                | exact absurd q40 (by with_reducible assumption)
                | exact absurd (by with_reducible assumption) q40
                | exact absurd (Decidable.not_not.mp q40) (by with_reducible assumption)
                | exact absurd (by with_reducible assumption) (Int32.not_le.mpr q40)
                | exact absurd (by with_reducible assumption) (Int32.not_lt.mpr q40)
              · skip
                (try simp (disch := omega) only [nI_ltI, nI_leI, nI_eq, nI_ltL, nI_leL, nI_eqL, nI_Llt, nI_Lle, nI_Leq, nI_eqm, nI_meq, nI_ltm, nI_lem, nI_mlt, nI_mle, lg0, lgl, lgg, lgle, lgge, Int32.not_lt, Int32.not_le, Int64.not_lt, Int64.not_le, not_false_eq_true, not_true_eq_false, Decidable.not_not, ge_iff_le, gt_iff_lt] at q40)
                refine pw_blk (mi := mz_69) (b := bz_69_49) rfl rfl ?_
                simp only [bz_69_49, pz_cut_t, pz_cut_f, pz_cut_n, pv_gt, pv_ts, pv_tn, ev_ild6, ev_goto, pz_wi_gc, pz_wi_ga, pz_wi_gn, pz_wi_gl, pz_wi_gr, pz_wi_same, pz_wi_X, pz_wl_gc, pz_wl_ga, pz_wl_gn, pz_wl_gi, pz_wl_gr, pz_wl_same, pz_wl_X, pz_wr_gc, pz_wr_ga, pz_wr_gn, pz_wr_gi, pz_wr_gl, pz_wr_same, pz_wr_X, hb, bI_t, oI]
                (try simp (disch := omega) only [nI_clamp, pz_in_nI2, pz_in_nI2L, pv_gt, nI_add, nI_addL, nI_Ladd, pk_mul, nI_mulL, nI_Lmul, pk_sub, nI_subL, nI_Lsub, nI_inc, nI_clampL, Nat.add_sub_cancel, pz_wi_else, pz_wl_else, vu_eq, vu_ne, pz_wi_gc, pz_wi_ga, pz_wi_gn, pz_wi_gl, pz_wi_gr, pz_wi_same, pz_wi_X, pz_wl_gc, pz_wl_ga, pz_wl_gn, pz_wl_gi, pz_wl_gr, pz_wl_same, pz_wl_X, pz_wr_gc, pz_wr_ga, pz_wr_gn, pz_wr_gi, pz_wr_gl, pz_wr_same, pz_wr_X, hb, bI_t, oI])
                refine po_go ?_
                refine pw_blk (mi := mz_69) (b := bz_69_56) rfl rfl ?_
                simp only [bz_69_56, pz_cut_t, pz_cut_f, pz_cut_n, pv_gt, pv_ts, pv_tn, ev_ist4n, ev_ist4i, ev_ist4r, ev_ist4e, ev_ist4l, ev_ild6, ev_ist5n, ev_ist5i, ev_ist5r, ev_ist5e, ev_ist5l, ev_nil, pz_wi_gc, pz_wi_ga, pz_wi_gn, pz_wi_gl, pz_wi_gr, pz_wi_same, pz_wi_X, pz_wl_gc, pz_wl_ga, pz_wl_gn, pz_wl_gi, pz_wl_gr, pz_wl_same, pz_wl_X, pz_wr_gc, pz_wr_ga, pz_wr_gn, pz_wr_gi, pz_wr_gl, pz_wr_same, pz_wr_X, hb, bI_t, oI]
                (try simp (disch := omega) only [nI_clamp, pz_in_nI2, pz_in_nI2L, pv_gt, nI_add, nI_addL, nI_Ladd, pk_mul, nI_mulL, nI_Lmul, pk_sub, nI_subL, nI_Lsub, nI_inc, nI_clampL, Nat.add_sub_cancel, pz_wi_else, pz_wl_else, vu_eq, vu_ne, pz_wi_gc, pz_wi_ga, pz_wi_gn, pz_wi_gl, pz_wi_gr, pz_wi_same, pz_wi_X, pz_wl_gc, pz_wl_ga, pz_wl_gn, pz_wl_gi, pz_wl_gr, pz_wl_same, pz_wl_X, pz_wr_gc, pz_wr_ga, pz_wr_gn, pz_wr_gi, pz_wr_gl, pz_wr_same, pz_wr_X, hb, bI_t, oI])
                refine po_go ?_
                refine pw_blk (mi := mz_69) (b := bz_69_62) rfl rfl ?_
                simp only [bz_69_62, pz_cut_t, pz_cut_f, pz_cut_n, pv_gt, pv_ts, pv_tn, ev_inc6n, ev_inc6i, ev_inc6r, ev_inc6e, ev_goto, pz_wi_gc, pz_wi_ga, pz_wi_gn, pz_wi_gl, pz_wi_gr, pz_wi_same, pz_wi_X, pz_wl_gc, pz_wl_ga, pz_wl_gn, pz_wl_gi, pz_wl_gr, pz_wl_same, pz_wl_X, pz_wr_gc, pz_wr_ga, pz_wr_gn, pz_wr_gi, pz_wr_gl, pz_wr_same, pz_wr_X, hb, bI_t, oI]
                (try simp (disch := omega) only [nI_clamp, pz_in_nI2, pz_in_nI2L, pv_gt, nI_add, nI_addL, nI_Ladd, pk_mul, nI_mulL, nI_Lmul, pk_sub, nI_subL, nI_Lsub, nI_inc, nI_clampL, Nat.add_sub_cancel, pz_wi_else, pz_wl_else, vu_eq, vu_ne, pz_wi_gc, pz_wi_ga, pz_wi_gn, pz_wi_gl, pz_wi_gr, pz_wi_same, pz_wi_X, pz_wl_gc, pz_wl_ga, pz_wl_gn, pz_wl_gi, pz_wl_gr, pz_wl_same, pz_wl_X, pz_wr_gc, pz_wr_ga, pz_wr_gn, pz_wr_gi, pz_wr_gl, pz_wr_same, pz_wr_X, hb, bI_t, oI])
                refine po_go ?_
                exact ih (i + 1) (m + 1) (some i) (some i) (by omega) (by omega) (fun j hj => by cases hj; omega) h
        | some j =>
          have hj := hl j rfl
          refine pw_blk (mi := mz_69) (b := bz_69_22) rfl rfl ?_
          simp only [bz_69_22, pz_cut_t, pz_cut_f, pz_cut_n, pv_gt, pv_ts, pv_tn, ev_ild6, ev_sp200, ev_ic_gt, pz_wi_gc, pz_wi_ga, pz_wi_gn, pz_wi_gl, pz_wi_gr, pz_wi_same, pz_wi_X, pz_wl_gc, pz_wl_ga, pz_wl_gn, pz_wl_gi, pz_wl_gr, pz_wl_same, pz_wl_X, pz_wr_gc, pz_wr_ga, pz_wr_gn, pz_wr_gi, pz_wr_gl, pz_wr_same, pz_wr_X, hb, bI_t, oI]
          (try simp (disch := omega) only [nI_clamp, pz_in_nI2, pz_in_nI2L, pv_gt, nI_add, nI_addL, nI_Ladd, pk_mul, nI_mulL, nI_Lmul, pk_sub, nI_subL, nI_Lsub, nI_inc, nI_clampL, Nat.add_sub_cancel, pz_wi_else, pz_wl_else, vu_eq, vu_ne, pz_wi_gc, pz_wi_ga, pz_wi_gn, pz_wi_gl, pz_wi_gr, pz_wi_same, pz_wi_X, pz_wl_gc, pz_wl_ga, pz_wl_gn, pz_wl_gi, pz_wl_gr, pz_wl_same, pz_wl_X, pz_wr_gc, pz_wr_ga, pz_wr_gn, pz_wr_gi, pz_wr_gl, pz_wr_same, pz_wr_X, hb, bI_t, oI])
          refine po_brP (fun q22 => ?_) (fun q22 => ?_)
          · first
            | exact absurd q22 (by decide)
            | exact absurd trivial q22
            | exact q22.elim
            | (exfalso; (try simp (disch := omega) only [nI_ltI, nI_leI, nI_eq, nI_ltL, nI_leL, nI_eqL, nI_Llt, nI_Lle, nI_Leq, nI_eqm, nI_meq, nI_ltm, nI_lem, nI_mlt, nI_mle, lg0, lgl, lgg, lgle, lgge, Int32.not_lt, Int32.not_le, Int64.not_lt, Int64.not_le, not_false_eq_true, not_true_eq_false, Decidable.not_not, ge_iff_le, gt_iff_lt] at q22) <;> omega)
            | exact absurd q22 (by with_reducible assumption)
            | exact absurd (by with_reducible assumption) q22
            | exact absurd (Decidable.not_not.mp q22) (by with_reducible assumption)
            | exact absurd (by with_reducible assumption) (Int32.not_le.mpr q22)
            | exact absurd (by with_reducible assumption) (Int32.not_lt.mpr q22)
          · skip
            (try simp (disch := omega) only [nI_ltI, nI_leI, nI_eq, nI_ltL, nI_leL, nI_eqL, nI_Llt, nI_Lle, nI_Leq, nI_eqm, nI_meq, nI_ltm, nI_lem, nI_mlt, nI_mle, lg0, lgl, lgg, lgle, lgge, Int32.not_lt, Int32.not_le, Int64.not_lt, Int64.not_le, not_false_eq_true, not_true_eq_false, Decidable.not_not, ge_iff_le, gt_iff_lt] at q22)
            refine pw_blk (mi := mz_69) (b := bz_69_30) rfl rfl ?_
            simp only [bz_69_30, pz_cut_t, pz_cut_f, pz_cut_n, pv_gt, pv_ts, pv_tn, ev_ald0, ev_eld0, ev_ild6, ev_ild2, ev_cv2_0, pz_wi_gc, pz_wi_ga, pz_wi_gn, pz_wi_gl, pz_wi_gr, pz_wi_same, pz_wi_X, pz_wl_gc, pz_wl_ga, pz_wl_gn, pz_wl_gi, pz_wl_gr, pz_wl_same, pz_wl_X, pz_wr_gc, pz_wr_ga, pz_wr_gn, pz_wr_gi, pz_wr_gl, pz_wr_same, pz_wr_X, so_0 hS, hb, bI_t, oI]
            (try simp (disch := omega) only [nI_clamp, pz_in_nI2, pz_in_nI2L, pv_gt, nI_add, nI_addL, nI_Ladd, pk_mul, nI_mulL, nI_Lmul, pk_sub, nI_subL, nI_Lsub, nI_inc, nI_clampL, Nat.add_sub_cancel, pz_wi_else, pz_wl_else, vu_eq, vu_ne, pz_wi_gc, pz_wi_ga, pz_wi_gn, pz_wi_gl, pz_wi_gr, pz_wi_same, pz_wi_X, pz_wl_gc, pz_wl_ga, pz_wl_gn, pz_wl_gi, pz_wl_gr, pz_wl_same, pz_wl_X, pz_wr_gc, pz_wr_ga, pz_wr_gn, pz_wr_gi, pz_wr_gl, pz_wr_same, pz_wr_X, hb, bI_t, oI])
            (try refine po_gP (Nat.le_of_ble_eq_true rfl) ?_)
            refine po_call (by omega) (m_lets (by omega) hS hn hn40 hB hp ?_)
            refine pw_blk (mi := mz_69) (b := bz_69_37) rfl rfl ?_
            simp only [bz_69_37, pz_cut_t, pz_cut_f, pz_cut_n, pv_gt, pv_ts, pv_tn, ev_ifeq, pz_wi_gc, pz_wi_ga, pz_wi_gn, pz_wi_gl, pz_wi_gr, pz_wi_same, pz_wi_X, pz_wl_gc, pz_wl_ga, pz_wl_gn, pz_wl_gi, pz_wl_gr, pz_wl_same, pz_wl_X, pz_wr_gc, pz_wr_ga, pz_wr_gn, pz_wr_gi, pz_wr_gl, pz_wr_same, pz_wr_X, hb, bI_t, oI]
            (try simp (disch := omega) only [nI_clamp, pz_in_nI2, pz_in_nI2L, pv_gt, nI_add, nI_addL, nI_Ladd, pk_mul, nI_mulL, nI_Lmul, pk_sub, nI_subL, nI_Lsub, nI_inc, nI_clampL, Nat.add_sub_cancel, pz_wi_else, pz_wl_else, vu_eq, vu_ne, pz_wi_gc, pz_wi_ga, pz_wi_gn, pz_wi_gl, pz_wi_gr, pz_wi_same, pz_wi_X, pz_wl_gc, pz_wl_ga, pz_wl_gn, pz_wl_gi, pz_wl_gr, pz_wl_same, pz_wl_X, pz_wr_gc, pz_wr_ga, pz_wr_gn, pz_wr_gi, pz_wr_gl, pz_wr_same, pz_wr_X, hb, bI_t, oI])
            refine po_brP (fun q37 => ?_) (fun q37 => ?_)
            · first
              | exact absurd q37 (by decide)
              | exact absurd trivial q37
              | exact q37.elim
              | (exfalso; (try simp (disch := omega) only [nI_ltI, nI_leI, nI_eq, nI_ltL, nI_leL, nI_eqL, nI_Llt, nI_Lle, nI_Leq, nI_eqm, nI_meq, nI_ltm, nI_lem, nI_mlt, nI_mle, lg0, lgl, lgg, lgle, lgge, Int32.not_lt, Int32.not_le, Int64.not_lt, Int64.not_le, not_false_eq_true, not_true_eq_false, Decidable.not_not, ge_iff_le, gt_iff_lt] at q37) <;> omega)
              | exact absurd q37 (by with_reducible assumption)
              | exact absurd (by with_reducible assumption) q37
              | exact absurd (Decidable.not_not.mp q37) (by with_reducible assumption)
              | exact absurd (by with_reducible assumption) (Int32.not_le.mpr q37)
              | exact absurd (by with_reducible assumption) (Int32.not_lt.mpr q37)
            · skip
              (try simp (disch := omega) only [nI_ltI, nI_leI, nI_eq, nI_ltL, nI_leL, nI_eqL, nI_Llt, nI_Lle, nI_Leq, nI_eqm, nI_meq, nI_ltm, nI_lem, nI_mlt, nI_mle, lg0, lgl, lgg, lgle, lgge, Int32.not_lt, Int32.not_le, Int64.not_lt, Int64.not_le, not_false_eq_true, not_true_eq_false, Decidable.not_not, ge_iff_le, gt_iff_lt] at q37)
              refine pw_blk (mi := mz_69) (b := bz_69_40) rfl rfl ?_
              simp only [bz_69_40, pz_cut_t, pz_cut_f, pz_cut_n, pv_gt, pv_ts, pv_tn, ev_inc3n, ev_inc3i, ev_inc3r, ev_inc3e, ev_ild4, ev_icm1, ev_ic_ne, pz_wi_gc, pz_wi_ga, pz_wi_gn, pz_wi_gl, pz_wi_gr, pz_wi_same, pz_wi_X, pz_wl_gc, pz_wl_ga, pz_wl_gn, pz_wl_gi, pz_wl_gr, pz_wl_same, pz_wl_X, pz_wr_gc, pz_wr_ga, pz_wr_gn, pz_wr_gi, pz_wr_gl, pz_wr_same, pz_wr_X, hb, bI_t, oI]
              (try simp (disch := omega) only [nI_clamp, pz_in_nI2, pz_in_nI2L, pv_gt, nI_add, nI_addL, nI_Ladd, pk_mul, nI_mulL, nI_Lmul, pk_sub, nI_subL, nI_Lsub, nI_inc, nI_clampL, Nat.add_sub_cancel, pz_wi_else, pz_wl_else, vu_eq, vu_ne, pz_wi_gc, pz_wi_ga, pz_wi_gn, pz_wi_gl, pz_wi_gr, pz_wi_same, pz_wi_X, pz_wl_gc, pz_wl_ga, pz_wl_gn, pz_wl_gi, pz_wl_gr, pz_wl_same, pz_wl_X, pz_wr_gc, pz_wr_ga, pz_wr_gn, pz_wr_gi, pz_wr_gl, pz_wr_same, pz_wr_X, hb, bI_t, oI])
              refine po_brP (fun q40 => ?_) (fun q40 => ?_)
              · skip
                (try simp (disch := omega) only [nI_ltI, nI_leI, nI_eq, nI_ltL, nI_leL, nI_eqL, nI_Llt, nI_Lle, nI_Leq, nI_eqm, nI_meq, nI_ltm, nI_lem, nI_mlt, nI_mle, lg0, lgl, lgg, lgle, lgge, Int32.not_lt, Int32.not_le, Int64.not_lt, Int64.not_le, not_false_eq_true, not_true_eq_false, Decidable.not_not, ge_iff_le, gt_iff_lt] at q40)
                refine pw_blk (mi := mz_69) (b := bz_69_54) rfl rfl ?_
                simp only [bz_69_54, pz_cut_t, pz_cut_f, pz_cut_n, pv_gt, pv_ts, pv_tn, ev_ild4, ev_nil, pz_wi_gc, pz_wi_ga, pz_wi_gn, pz_wi_gl, pz_wi_gr, pz_wi_same, pz_wi_X, pz_wl_gc, pz_wl_ga, pz_wl_gn, pz_wl_gi, pz_wl_gr, pz_wl_same, pz_wl_X, pz_wr_gc, pz_wr_ga, pz_wr_gn, pz_wr_gi, pz_wr_gl, pz_wr_same, pz_wr_X, hb, bI_t, oI]
                (try simp (disch := omega) only [nI_clamp, pz_in_nI2, pz_in_nI2L, pv_gt, nI_add, nI_addL, nI_Ladd, pk_mul, nI_mulL, nI_Lmul, pk_sub, nI_subL, nI_Lsub, nI_inc, nI_clampL, Nat.add_sub_cancel, pz_wi_else, pz_wl_else, vu_eq, vu_ne, pz_wi_gc, pz_wi_ga, pz_wi_gn, pz_wi_gl, pz_wi_gr, pz_wi_same, pz_wi_X, pz_wl_gc, pz_wl_ga, pz_wl_gn, pz_wl_gi, pz_wl_gr, pz_wl_same, pz_wl_X, pz_wr_gc, pz_wr_ga, pz_wr_gn, pz_wr_gi, pz_wr_gl, pz_wr_same, pz_wr_X, hb, bI_t, oI])
                refine po_go ?_
                refine pw_blk (mi := mz_69) (b := bz_69_56) rfl rfl ?_
                simp only [bz_69_56, pz_cut_t, pz_cut_f, pz_cut_n, pv_gt, pv_ts, pv_tn, ev_ist4n, ev_ist4i, ev_ist4r, ev_ist4e, ev_ist4l, ev_ild6, ev_ist5n, ev_ist5i, ev_ist5r, ev_ist5e, ev_ist5l, ev_nil, pz_wi_gc, pz_wi_ga, pz_wi_gn, pz_wi_gl, pz_wi_gr, pz_wi_same, pz_wi_X, pz_wl_gc, pz_wl_ga, pz_wl_gn, pz_wl_gi, pz_wl_gr, pz_wl_same, pz_wl_X, pz_wr_gc, pz_wr_ga, pz_wr_gn, pz_wr_gi, pz_wr_gl, pz_wr_same, pz_wr_X, hb, bI_t, oI]
                (try simp (disch := omega) only [nI_clamp, pz_in_nI2, pz_in_nI2L, pv_gt, nI_add, nI_addL, nI_Ladd, pk_mul, nI_mulL, nI_Lmul, pk_sub, nI_subL, nI_Lsub, nI_inc, nI_clampL, Nat.add_sub_cancel, pz_wi_else, pz_wl_else, vu_eq, vu_ne, pz_wi_gc, pz_wi_ga, pz_wi_gn, pz_wi_gl, pz_wi_gr, pz_wi_same, pz_wi_X, pz_wl_gc, pz_wl_ga, pz_wl_gn, pz_wl_gi, pz_wl_gr, pz_wl_same, pz_wl_X, pz_wr_gc, pz_wr_ga, pz_wr_gn, pz_wr_gi, pz_wr_gl, pz_wr_same, pz_wr_X, hb, bI_t, oI])
                refine po_go ?_
                refine pw_blk (mi := mz_69) (b := bz_69_62) rfl rfl ?_
                simp only [bz_69_62, pz_cut_t, pz_cut_f, pz_cut_n, pv_gt, pv_ts, pv_tn, ev_inc6n, ev_inc6i, ev_inc6r, ev_inc6e, ev_goto, pz_wi_gc, pz_wi_ga, pz_wi_gn, pz_wi_gl, pz_wi_gr, pz_wi_same, pz_wi_X, pz_wl_gc, pz_wl_ga, pz_wl_gn, pz_wl_gi, pz_wl_gr, pz_wl_same, pz_wl_X, pz_wr_gc, pz_wr_ga, pz_wr_gn, pz_wr_gi, pz_wr_gl, pz_wr_same, pz_wr_X, hb, bI_t, oI]
                (try simp (disch := omega) only [nI_clamp, pz_in_nI2, pz_in_nI2L, pv_gt, nI_add, nI_addL, nI_Ladd, pk_mul, nI_mulL, nI_Lmul, pk_sub, nI_subL, nI_Lsub, nI_inc, nI_clampL, Nat.add_sub_cancel, pz_wi_else, pz_wl_else, vu_eq, vu_ne, pz_wi_gc, pz_wi_ga, pz_wi_gn, pz_wi_gl, pz_wi_gr, pz_wi_same, pz_wi_X, pz_wl_gc, pz_wl_ga, pz_wl_gn, pz_wl_gi, pz_wl_gr, pz_wl_same, pz_wl_X, pz_wr_gc, pz_wr_ga, pz_wr_gn, pz_wr_gi, pz_wr_gl, pz_wr_same, pz_wr_X, hb, bI_t, oI])
                refine po_go ?_
                exact ih (i + 1) (m + 1) (some j) (some i) (by omega) (by omega) (fun j' hj' => by cases hj'; omega) h
              · first
                | exact absurd q40 (by decide)
                | exact absurd trivial q40
                | exact q40.elim
                | (exfalso; (try simp (disch := omega) only [nI_ltI, nI_leI, nI_eq, nI_ltL, nI_leL, nI_eqL, nI_Llt, nI_Lle, nI_Leq, nI_eqm, nI_meq, nI_ltm, nI_lem, nI_mlt, nI_mle, lg0, lgl, lgg, lgle, lgge, Int32.not_lt, Int32.not_le, Int64.not_lt, Int64.not_le, not_false_eq_true, not_true_eq_false, Decidable.not_not, ge_iff_le, gt_iff_lt] at q40) <;> omega)
                | exact absurd q40 (by with_reducible assumption)
                | exact absurd (by with_reducible assumption) q40
                | exact absurd (Decidable.not_not.mp q40) (by with_reducible assumption)
                | exact absurd (by with_reducible assumption) (Int32.not_le.mpr q40)
                | exact absurd (by with_reducible assumption) (Int32.not_lt.mpr q40)
      | false =>
        simp only [hb] at h
        refine pw_blk (mi := mz_69) (b := bz_69_22) rfl rfl ?_
        simp only [bz_69_22, pz_cut_t, pz_cut_f, pz_cut_n, pv_gt, pv_ts, pv_tn, ev_ild6, ev_sp200, ev_ic_gt, pz_wi_gc, pz_wi_ga, pz_wi_gn, pz_wi_gl, pz_wi_gr, pz_wi_same, pz_wi_X, pz_wl_gc, pz_wl_ga, pz_wl_gn, pz_wl_gi, pz_wl_gr, pz_wl_same, pz_wl_X, pz_wr_gc, pz_wr_ga, pz_wr_gn, pz_wr_gi, pz_wr_gl, pz_wr_same, pz_wr_X, hb, bI_f]
        (try simp (disch := omega) only [nI_clamp, pz_in_nI2, pz_in_nI2L, pv_gt, nI_add, nI_addL, nI_Ladd, pk_mul, nI_mulL, nI_Lmul, pk_sub, nI_subL, nI_Lsub, nI_inc, nI_clampL, Nat.add_sub_cancel, pz_wi_else, pz_wl_else, vu_eq, vu_ne, pz_wi_gc, pz_wi_ga, pz_wi_gn, pz_wi_gl, pz_wi_gr, pz_wi_same, pz_wi_X, pz_wl_gc, pz_wl_ga, pz_wl_gn, pz_wl_gi, pz_wl_gr, pz_wl_same, pz_wl_X, pz_wr_gc, pz_wr_ga, pz_wr_gn, pz_wr_gi, pz_wr_gl, pz_wr_same, pz_wr_X, hb, bI_f])
        refine po_brP (fun q22 => ?_) (fun q22 => ?_)
        · first
          | exact absurd q22 (by decide)
          | exact absurd trivial q22
          | exact q22.elim
          | (exfalso; (try simp (disch := omega) only [nI_ltI, nI_leI, nI_eq, nI_ltL, nI_leL, nI_eqL, nI_Llt, nI_Lle, nI_Leq, nI_eqm, nI_meq, nI_ltm, nI_lem, nI_mlt, nI_mle, lg0, lgl, lgg, lgle, lgge, Int32.not_lt, Int32.not_le, Int64.not_lt, Int64.not_le, not_false_eq_true, not_true_eq_false, Decidable.not_not, ge_iff_le, gt_iff_lt] at q22) <;> omega)
          | exact absurd q22 (by with_reducible assumption)
          | exact absurd (by with_reducible assumption) q22
          | exact absurd (Decidable.not_not.mp q22) (by with_reducible assumption)
          | exact absurd (by with_reducible assumption) (Int32.not_le.mpr q22)
          | exact absurd (by with_reducible assumption) (Int32.not_lt.mpr q22)
        · skip
          (try simp (disch := omega) only [nI_ltI, nI_leI, nI_eq, nI_ltL, nI_leL, nI_eqL, nI_Llt, nI_Lle, nI_Leq, nI_eqm, nI_meq, nI_ltm, nI_lem, nI_mlt, nI_mle, lg0, lgl, lgg, lgle, lgge, Int32.not_lt, Int32.not_le, Int64.not_lt, Int64.not_le, not_false_eq_true, not_true_eq_false, Decidable.not_not, ge_iff_le, gt_iff_lt] at q22)
          refine pw_blk (mi := mz_69) (b := bz_69_30) rfl rfl ?_
          simp only [bz_69_30, pz_cut_t, pz_cut_f, pz_cut_n, pv_gt, pv_ts, pv_tn, ev_ald0, ev_eld0, ev_ild6, ev_ild2, ev_cv2_0, pz_wi_gc, pz_wi_ga, pz_wi_gn, pz_wi_gl, pz_wi_gr, pz_wi_same, pz_wi_X, pz_wl_gc, pz_wl_ga, pz_wl_gn, pz_wl_gi, pz_wl_gr, pz_wl_same, pz_wl_X, pz_wr_gc, pz_wr_ga, pz_wr_gn, pz_wr_gi, pz_wr_gl, pz_wr_same, pz_wr_X, so_0 hS, hb, bI_f]
          (try simp (disch := omega) only [nI_clamp, pz_in_nI2, pz_in_nI2L, pv_gt, nI_add, nI_addL, nI_Ladd, pk_mul, nI_mulL, nI_Lmul, pk_sub, nI_subL, nI_Lsub, nI_inc, nI_clampL, Nat.add_sub_cancel, pz_wi_else, pz_wl_else, vu_eq, vu_ne, pz_wi_gc, pz_wi_ga, pz_wi_gn, pz_wi_gl, pz_wi_gr, pz_wi_same, pz_wi_X, pz_wl_gc, pz_wl_ga, pz_wl_gn, pz_wl_gi, pz_wl_gr, pz_wl_same, pz_wl_X, pz_wr_gc, pz_wr_ga, pz_wr_gn, pz_wr_gi, pz_wr_gl, pz_wr_same, pz_wr_X, hb, bI_f])
          (try refine po_gP (Nat.le_of_ble_eq_true rfl) ?_)
          refine po_call (by omega) (m_lets (by omega) hS hn hn40 hB hp ?_)
          refine pw_blk (mi := mz_69) (b := bz_69_37) rfl rfl ?_
          simp only [bz_69_37, pz_cut_t, pz_cut_f, pz_cut_n, pv_gt, pv_ts, pv_tn, ev_ifeq, pz_wi_gc, pz_wi_ga, pz_wi_gn, pz_wi_gl, pz_wi_gr, pz_wi_same, pz_wi_X, pz_wl_gc, pz_wl_ga, pz_wl_gn, pz_wl_gi, pz_wl_gr, pz_wl_same, pz_wl_X, pz_wr_gc, pz_wr_ga, pz_wr_gn, pz_wr_gi, pz_wr_gl, pz_wr_same, pz_wr_X, hb, bI_f]
          (try simp (disch := omega) only [nI_clamp, pz_in_nI2, pz_in_nI2L, pv_gt, nI_add, nI_addL, nI_Ladd, pk_mul, nI_mulL, nI_Lmul, pk_sub, nI_subL, nI_Lsub, nI_inc, nI_clampL, Nat.add_sub_cancel, pz_wi_else, pz_wl_else, vu_eq, vu_ne, pz_wi_gc, pz_wi_ga, pz_wi_gn, pz_wi_gl, pz_wi_gr, pz_wi_same, pz_wi_X, pz_wl_gc, pz_wl_ga, pz_wl_gn, pz_wl_gi, pz_wl_gr, pz_wl_same, pz_wl_X, pz_wr_gc, pz_wr_ga, pz_wr_gn, pz_wr_gi, pz_wr_gl, pz_wr_same, pz_wr_X, hb, bI_f])
          refine po_brP (fun q37 => ?_) (fun q37 => ?_)
          · skip
            (try simp (disch := omega) only [nI_ltI, nI_leI, nI_eq, nI_ltL, nI_leL, nI_eqL, nI_Llt, nI_Lle, nI_Leq, nI_eqm, nI_meq, nI_ltm, nI_lem, nI_mlt, nI_mle, lg0, lgl, lgg, lgle, lgge, Int32.not_lt, Int32.not_le, Int64.not_lt, Int64.not_le, not_false_eq_true, not_true_eq_false, Decidable.not_not, ge_iff_le, gt_iff_lt] at q37)
            refine pw_blk (mi := mz_69) (b := bz_69_62) rfl rfl ?_
            simp only [bz_69_62, pz_cut_t, pz_cut_f, pz_cut_n, pv_gt, pv_ts, pv_tn, ev_inc6n, ev_inc6i, ev_inc6r, ev_inc6e, ev_goto, pz_wi_gc, pz_wi_ga, pz_wi_gn, pz_wi_gl, pz_wi_gr, pz_wi_same, pz_wi_X, pz_wl_gc, pz_wl_ga, pz_wl_gn, pz_wl_gi, pz_wl_gr, pz_wl_same, pz_wl_X, pz_wr_gc, pz_wr_ga, pz_wr_gn, pz_wr_gi, pz_wr_gl, pz_wr_same, pz_wr_X, hb, bI_f]
            (try simp (disch := omega) only [nI_clamp, pz_in_nI2, pz_in_nI2L, pv_gt, nI_add, nI_addL, nI_Ladd, pk_mul, nI_mulL, nI_Lmul, pk_sub, nI_subL, nI_Lsub, nI_inc, nI_clampL, Nat.add_sub_cancel, pz_wi_else, pz_wl_else, vu_eq, vu_ne, pz_wi_gc, pz_wi_ga, pz_wi_gn, pz_wi_gl, pz_wi_gr, pz_wi_same, pz_wi_X, pz_wl_gc, pz_wl_ga, pz_wl_gn, pz_wl_gi, pz_wl_gr, pz_wl_same, pz_wl_X, pz_wr_gc, pz_wr_ga, pz_wr_gn, pz_wr_gi, pz_wr_gl, pz_wr_same, pz_wr_X, hb, bI_f])
            refine po_go ?_
            exact ih (i + 1) m l g (by omega) (by omega) (fun j hj => by have := hl j hj; omega) h
          · first
            | exact absurd q37 (by decide)
            | exact absurd trivial q37
            | exact q37.elim
            | (exfalso; (try simp (disch := omega) only [nI_ltI, nI_leI, nI_eq, nI_ltL, nI_leL, nI_eqL, nI_Llt, nI_Lle, nI_Leq, nI_eqm, nI_meq, nI_ltm, nI_lem, nI_mlt, nI_mle, lg0, lgl, lgg, lgle, lgge, Int32.not_lt, Int32.not_le, Int64.not_lt, Int64.not_le, not_false_eq_true, not_true_eq_false, Decidable.not_not, ge_iff_le, gt_iff_lt] at q37) <;> omega)
            | exact absurd q37 (by with_reducible assumption)
            | exact absurd (by with_reducible assumption) q37
            | exact absurd (Decidable.not_not.mp q37) (by with_reducible assumption)
            | exact absurd (by with_reducible assumption) (Int32.not_le.mpr q37)
            | exact absurd (by with_reducible assumption) (Int32.not_lt.mpr q37)
  refine pm_ent (L := [some (.ref 0), some (.int (nI w)), some (.int k), none, none, none, none]) rfl (Nat.le_of_ble_eq_true rfl) ?_
  refine pw_blk (mi := mz_69) (b := bz_69_0) rfl rfl ?_
  simp only [bz_69_0, pz_cut_t, pz_cut_f, pz_cut_n, pv_gt, pv_ts, pv_tn, ev_ild1, ev_iflt, pz_wi_gc, pz_wi_ga, pz_wi_gn, pz_wi_gl, pz_wi_gr, pz_wi_same, pz_wi_X, pz_wl_gc, pz_wl_ga, pz_wl_gn, pz_wl_gi, pz_wl_gr, pz_wl_same, pz_wl_X, pz_wr_gc, pz_wr_ga, pz_wr_gn, pz_wr_gi, pz_wr_gl, pz_wr_same, pz_wr_X]
  (try simp (disch := omega) only [nI_clamp, pz_in_nI2, pz_in_nI2L, pv_gt, nI_add, nI_addL, nI_Ladd, pk_mul, nI_mulL, nI_Lmul, pk_sub, nI_subL, nI_Lsub, nI_inc, nI_clampL, Nat.add_sub_cancel, pz_wi_else, pz_wl_else, vu_eq, vu_ne, pz_wi_gc, pz_wi_ga, pz_wi_gn, pz_wi_gl, pz_wi_gr, pz_wi_same, pz_wi_X, pz_wl_gc, pz_wl_ga, pz_wl_gn, pz_wl_gi, pz_wl_gr, pz_wl_same, pz_wl_X, pz_wr_gc, pz_wr_ga, pz_wr_gn, pz_wr_gi, pz_wr_gl, pz_wr_same, pz_wr_X])
  refine po_brP (fun q0 => ?_) (fun q0 => ?_)
  · first
    | exact absurd q0 (by decide)
    | exact absurd trivial q0
    | exact q0.elim
    | (exfalso; (try simp (disch := omega) only [nI_ltI, nI_leI, nI_eq, nI_ltL, nI_leL, nI_eqL, nI_Llt, nI_Lle, nI_Leq, nI_eqm, nI_meq, nI_ltm, nI_lem, nI_mlt, nI_mle, lg0, lgl, lgg, lgle, lgge, Int32.not_lt, Int32.not_le, Int64.not_lt, Int64.not_le, not_false_eq_true, not_true_eq_false, Decidable.not_not, ge_iff_le, gt_iff_lt] at q0) <;> omega)
    | exact absurd q0 (by with_reducible assumption)
    | exact absurd (by with_reducible assumption) q0
    | exact absurd (Decidable.not_not.mp q0) (by with_reducible assumption)
    | exact absurd (by with_reducible assumption) (Int32.not_le.mpr q0)
    | exact absurd (by with_reducible assumption) (Int32.not_lt.mpr q0)
  · skip
    (try simp (disch := omega) only [nI_ltI, nI_leI, nI_eq, nI_ltL, nI_leL, nI_eqL, nI_Llt, nI_Lle, nI_Leq, nI_eqm, nI_meq, nI_ltm, nI_lem, nI_mlt, nI_mle, lg0, lgl, lgg, lgle, lgge, Int32.not_lt, Int32.not_le, Int64.not_lt, Int64.not_le, not_false_eq_true, not_true_eq_false, Decidable.not_not, ge_iff_le, gt_iff_lt] at q0)
    refine pw_blk (mi := mz_69) (b := bz_69_4) rfl rfl ?_
    simp only [bz_69_4, pz_cut_t, pz_cut_f, pz_cut_n, pv_gt, pv_ts, pv_tn, ev_ild1, ev_ic2, ev_ic_le, pz_wi_gc, pz_wi_ga, pz_wi_gn, pz_wi_gl, pz_wi_gr, pz_wi_same, pz_wi_X, pz_wl_gc, pz_wl_ga, pz_wl_gn, pz_wl_gi, pz_wl_gr, pz_wl_same, pz_wl_X, pz_wr_gc, pz_wr_ga, pz_wr_gn, pz_wr_gi, pz_wr_gl, pz_wr_same, pz_wr_X]
    (try simp (disch := omega) only [nI_clamp, pz_in_nI2, pz_in_nI2L, pv_gt, nI_add, nI_addL, nI_Ladd, pk_mul, nI_mulL, nI_Lmul, pk_sub, nI_subL, nI_Lsub, nI_inc, nI_clampL, Nat.add_sub_cancel, pz_wi_else, pz_wl_else, vu_eq, vu_ne, pz_wi_gc, pz_wi_ga, pz_wi_gn, pz_wi_gl, pz_wi_gr, pz_wi_same, pz_wi_X, pz_wl_gc, pz_wl_ga, pz_wl_gn, pz_wl_gi, pz_wl_gr, pz_wl_same, pz_wl_X, pz_wr_gc, pz_wr_ga, pz_wr_gn, pz_wr_gi, pz_wr_gl, pz_wr_same, pz_wr_X])
    refine po_brP (fun q4 => ?_) (fun q4 => ?_)
    · skip
      (try simp (disch := omega) only [nI_ltI, nI_leI, nI_eq, nI_ltL, nI_leL, nI_eqL, nI_Llt, nI_Lle, nI_Leq, nI_eqm, nI_meq, nI_ltm, nI_lem, nI_mlt, nI_mle, lg0, lgl, lgg, lgle, lgge, Int32.not_lt, Int32.not_le, Int64.not_lt, Int64.not_le, not_false_eq_true, not_true_eq_false, Decidable.not_not, ge_iff_le, gt_iff_lt] at q4)
      refine pw_blk (mi := mz_69) (b := bz_69_11) rfl rfl ?_
      simp only [bz_69_11, pz_cut_t, pz_cut_f, pz_cut_n, pv_gt, pv_ts, pv_tn, ev_ic0, ev_ist3n, ev_ist3i, ev_ist3r, ev_ist3e, ev_ist3l, ev_icm1, ev_ist4n, ev_ist4i, ev_ist4r, ev_ist4e, ev_ist4l, ev_ist5n, ev_ist5i, ev_ist5r, ev_ist5e, ev_ist5l, ev_ist6n, ev_ist6i, ev_ist6r, ev_ist6e, ev_ist6l, ev_nil, pz_wi_gc, pz_wi_ga, pz_wi_gn, pz_wi_gl, pz_wi_gr, pz_wi_same, pz_wi_X, pz_wl_gc, pz_wl_ga, pz_wl_gn, pz_wl_gi, pz_wl_gr, pz_wl_same, pz_wl_X, pz_wr_gc, pz_wr_ga, pz_wr_gn, pz_wr_gi, pz_wr_gl, pz_wr_same, pz_wr_X]
      (try simp (disch := omega) only [nI_clamp, pz_in_nI2, pz_in_nI2L, pv_gt, nI_add, nI_addL, nI_Ladd, pk_mul, nI_mulL, nI_Lmul, pk_sub, nI_subL, nI_Lsub, nI_inc, nI_clampL, Nat.add_sub_cancel, pz_wi_else, pz_wl_else, vu_eq, vu_ne, pz_wi_gc, pz_wi_ga, pz_wi_gn, pz_wi_gl, pz_wi_gr, pz_wi_same, pz_wi_X, pz_wl_gc, pz_wl_ga, pz_wl_gn, pz_wl_gi, pz_wl_gr, pz_wl_same, pz_wl_X, pz_wr_gc, pz_wr_ga, pz_wr_gn, pz_wr_gi, pz_wr_gl, pz_wr_same, pz_wr_X])
      refine po_go ?_
      exact key 201 0 0 none none (by omega) (by omega) (fun j hj => by cases hj) h
    · first
      | exact absurd q4 (by decide)
      | exact absurd trivial q4
      | exact q4.elim
      | (exfalso; (try simp (disch := omega) only [nI_ltI, nI_leI, nI_eq, nI_ltL, nI_leL, nI_eqL, nI_Llt, nI_Lle, nI_Leq, nI_eqm, nI_meq, nI_ltm, nI_lem, nI_mlt, nI_mle, lg0, lgl, lgg, lgle, lgge, Int32.not_lt, Int32.not_le, Int64.not_lt, Int64.not_le, not_false_eq_true, not_true_eq_false, Decidable.not_not, ge_iff_le, gt_iff_lt] at q4) <;> omega)
      | exact absurd q4 (by with_reducible assumption)
      | exact absurd (by with_reducible assumption) q4
      | exact absurd (Decidable.not_not.mp q4) (by with_reducible assumption)
      | exact absurd (by with_reducible assumption) (Int32.not_le.mpr q4)
      | exact absurd (by with_reducible assumption) (Int32.not_lt.mpr q4)
theorem r_laws (hd : 3 ≤ d) (hS : SH M) {n B w : Nat} {k : Int32} (hw : w < 3) (hn : gi M 120 90 = nI n) (hn40 : n ≤ 40) (hB : B ≤ 24) (hp : ∀ i, i < n → isUn (gi M 174 i) ∧ (∃ b, b < B ∧ gi M 172 i = nI b) ∧ (∃ y, y ≤ 999 ∧ gi M 171 i = nI y) ∧ (gi M 175 i = 0 ∨ gi M 175 i = 1)) (h : Q (some (.int (lwA w (lwF (fun f => alB (pap (gi M 150) (gi M 172) (gi M 171) (gi M 175) (gi M 173) (gi M 174) k (nI f)) n 0) 201 0 0 none none))), M)) : pm d 70 [.ref 120, .int (nI w), .int k] M Q := by
  have h02 : (0 : Int32) ≤ nI w ∧ nI w ≤ 2 := isInN1 (n := 3) (by decide) hw
  have key : ∀ c i m l g, i + c = 201 → m ≤ i → (∀ j, l = some j → j < i) → Q (some (.int (lwA w (lwF (fun f => alB (pap (gi M 150) (gi M 172) (gi M 171) (gi M 175) (gi M 173) (gi M 174) k (nI f)) n 0) c i m l g))), M) → pw d 70 (22, [some (.ref 120), some (.int (nI w)), some (.int k), some (.int (nI m)), some (.int (oI l)), some (.int (oI g)), some (.int (nI i))], [], M) Q := by
    intro c
    induction c with
    | zero =>
      intro i m l g hi hm hl h
      rw [lwF, lwA] at h
      refine pw_blk (mi := mz_70) (b := bz_70_22) rfl rfl ?_
      simp only [bz_70_22, pz_cut_t, pz_cut_f, pz_cut_n, pv_gt, pv_ts, pv_tn, ev_ild6, ev_sp200, ev_ic_gt, pz_wi_gc, pz_wi_ga, pz_wi_gn, pz_wi_gl, pz_wi_gr, pz_wi_same, pz_wi_X, pz_wl_gc, pz_wl_ga, pz_wl_gn, pz_wl_gi, pz_wl_gr, pz_wl_same, pz_wl_X, pz_wr_gc, pz_wr_ga, pz_wr_gn, pz_wr_gi, pz_wr_gl, pz_wr_same, pz_wr_X]
      (try simp (disch := omega) only [nI_clamp, pz_in_nI2, pz_in_nI2L, pv_gt, nI_add, nI_addL, nI_Ladd, pk_mul, nI_mulL, nI_Lmul, pk_sub, nI_subL, nI_Lsub, nI_inc, nI_clampL, Nat.add_sub_cancel, pz_wi_else, pz_wl_else, vu_eq, vu_ne, pz_wi_gc, pz_wi_ga, pz_wi_gn, pz_wi_gl, pz_wi_gr, pz_wi_same, pz_wi_X, pz_wl_gc, pz_wl_ga, pz_wl_gn, pz_wl_gi, pz_wl_gr, pz_wl_same, pz_wl_X, pz_wr_gc, pz_wr_ga, pz_wr_gn, pz_wr_gi, pz_wr_gl, pz_wr_same, pz_wr_X])
      refine po_brP (fun q22 => ?_) (fun q22 => ?_)
      · skip
        (try simp (disch := omega) only [nI_ltI, nI_leI, nI_eq, nI_ltL, nI_leL, nI_eqL, nI_Llt, nI_Lle, nI_Leq, nI_eqm, nI_meq, nI_ltm, nI_lem, nI_mlt, nI_mle, lg0, lgl, lgg, lgle, lgge, Int32.not_lt, Int32.not_le, Int64.not_lt, Int64.not_le, not_false_eq_true, not_true_eq_false, Decidable.not_not, ge_iff_le, gt_iff_lt] at q22)
        refine pw_blk (mi := mz_70) (b := bz_70_70) rfl rfl ?_
        simp only [bz_70_70, pz_cut_t, pz_cut_f, pz_cut_n, pv_gt, pv_ts, pv_tn, ev_ild1, ev_ifne, pz_wi_gc, pz_wi_ga, pz_wi_gn, pz_wi_gl, pz_wi_gr, pz_wi_same, pz_wi_X, pz_wl_gc, pz_wl_ga, pz_wl_gn, pz_wl_gi, pz_wl_gr, pz_wl_same, pz_wl_X, pz_wr_gc, pz_wr_ga, pz_wr_gn, pz_wr_gi, pz_wr_gl, pz_wr_same, pz_wr_X]
        (try simp (disch := omega) only [nI_clamp, pz_in_nI2, pz_in_nI2L, pv_gt, nI_add, nI_addL, nI_Ladd, pk_mul, nI_mulL, nI_Lmul, pk_sub, nI_subL, nI_Lsub, nI_inc, nI_clampL, Nat.add_sub_cancel, pz_wi_else, pz_wl_else, vu_eq, vu_ne, pz_wi_gc, pz_wi_ga, pz_wi_gn, pz_wi_gl, pz_wi_gr, pz_wi_same, pz_wi_X, pz_wl_gc, pz_wl_ga, pz_wl_gn, pz_wl_gi, pz_wl_gr, pz_wl_same, pz_wl_X, pz_wr_gc, pz_wr_ga, pz_wr_gn, pz_wr_gi, pz_wr_gl, pz_wr_same, pz_wr_X])
        refine po_brP (fun q70 => ?_) (fun q70 => ?_)
        · first
          | exact absurd q70 (by decide)
          | exact absurd trivial q70
          | exact q70.elim
          | (exfalso; (try simp (disch := omega) only [nI_ltI, nI_leI, nI_eq, nI_ltL, nI_leL, nI_eqL, nI_Llt, nI_Lle, nI_Leq, nI_eqm, nI_meq, nI_ltm, nI_lem, nI_mlt, nI_mle, lg0, lgl, lgg, lgle, lgge, Int32.not_lt, Int32.not_le, Int64.not_lt, Int64.not_le, not_false_eq_true, not_true_eq_false, Decidable.not_not, ge_iff_le, gt_iff_lt] at q70) <;> omega)
          | exact absurd q70 (by with_reducible assumption)
          | exact absurd (by with_reducible assumption) q70
          | exact absurd (Decidable.not_not.mp q70) (by with_reducible assumption)
          | exact absurd (by with_reducible assumption) (Int32.not_le.mpr q70)
          | exact absurd (by with_reducible assumption) (Int32.not_lt.mpr q70)
          | skip
            (try simp (disch := omega) only [nI_ltI, nI_leI, nI_eq, nI_ltL, nI_leL, nI_eqL, nI_Llt, nI_Lle, nI_Leq, nI_eqm, nI_meq, nI_ltm, nI_lem, nI_mlt, nI_mle, lg0, lgl, lgg, lgle, lgge, Int32.not_lt, Int32.not_le, Int64.not_lt, Int64.not_le, not_false_eq_true, not_true_eq_false, Decidable.not_not, ge_iff_le, gt_iff_lt] at q70)
            rw [if_neg q70] at h
            refine pw_blk (mi := mz_70) (b := bz_70_78) rfl rfl ?_
            simp only [bz_70_78, pz_cut_t, pz_cut_f, pz_cut_n, pv_gt, pv_ts, pv_tn, ev_ild1, ev_ic1, ev_ic_ne, pz_wi_gc, pz_wi_ga, pz_wi_gn, pz_wi_gl, pz_wi_gr, pz_wi_same, pz_wi_X, pz_wl_gc, pz_wl_ga, pz_wl_gn, pz_wl_gi, pz_wl_gr, pz_wl_same, pz_wl_X, pz_wr_gc, pz_wr_ga, pz_wr_gn, pz_wr_gi, pz_wr_gl, pz_wr_same, pz_wr_X]
            (try simp (disch := omega) only [nI_clamp, pz_in_nI2, pz_in_nI2L, pv_gt, nI_add, nI_addL, nI_Ladd, pk_mul, nI_mulL, nI_Lmul, pk_sub, nI_subL, nI_Lsub, nI_inc, nI_clampL, Nat.add_sub_cancel, pz_wi_else, pz_wl_else, vu_eq, vu_ne, pz_wi_gc, pz_wi_ga, pz_wi_gn, pz_wi_gl, pz_wi_gr, pz_wi_same, pz_wi_X, pz_wl_gc, pz_wl_ga, pz_wl_gn, pz_wl_gi, pz_wl_gr, pz_wl_same, pz_wl_X, pz_wr_gc, pz_wr_ga, pz_wr_gn, pz_wr_gi, pz_wr_gl, pz_wr_same, pz_wr_X])
            refine po_brP (fun q78 => ?_) (fun q78 => ?_)
            · first
              | exact absurd q78 (by decide)
              | exact absurd trivial q78
              | exact q78.elim
              | (exfalso; (try simp (disch := omega) only [nI_ltI, nI_leI, nI_eq, nI_ltL, nI_leL, nI_eqL, nI_Llt, nI_Lle, nI_Leq, nI_eqm, nI_meq, nI_ltm, nI_lem, nI_mlt, nI_mle, lg0, lgl, lgg, lgle, lgge, Int32.not_lt, Int32.not_le, Int64.not_lt, Int64.not_le, not_false_eq_true, not_true_eq_false, Decidable.not_not, ge_iff_le, gt_iff_lt] at q78) <;> omega)
              | exact absurd q78 (by with_reducible assumption)
              | exact absurd (by with_reducible assumption) q78
              | exact absurd (Decidable.not_not.mp q78) (by with_reducible assumption)
              | exact absurd (by with_reducible assumption) (Int32.not_le.mpr q78)
              | exact absurd (by with_reducible assumption) (Int32.not_lt.mpr q78)
              | skip
                (try simp (disch := omega) only [nI_ltI, nI_leI, nI_eq, nI_ltL, nI_leL, nI_eqL, nI_Llt, nI_Lle, nI_Leq, nI_eqm, nI_meq, nI_ltm, nI_lem, nI_mlt, nI_mle, lg0, lgl, lgg, lgle, lgge, Int32.not_lt, Int32.not_le, Int64.not_lt, Int64.not_le, not_false_eq_true, not_true_eq_false, Decidable.not_not, ge_iff_le, gt_iff_lt] at q78)
                rw [if_neg q78] at h
                refine pw_blk (mi := mz_70) (b := bz_70_88) rfl rfl ?_
                simp only [bz_70_88, pz_cut_t, pz_cut_f, pz_cut_n, pv_gt, pv_ts, pv_tn, ev_ild5, ev_nil, pz_wi_gc, pz_wi_ga, pz_wi_gn, pz_wi_gl, pz_wi_gr, pz_wi_same, pz_wi_X, pz_wl_gc, pz_wl_ga, pz_wl_gn, pz_wl_gi, pz_wl_gr, pz_wl_same, pz_wl_X, pz_wr_gc, pz_wr_ga, pz_wr_gn, pz_wr_gi, pz_wr_gl, pz_wr_same, pz_wr_X]
                (try simp (disch := omega) only [nI_clamp, pz_in_nI2, pz_in_nI2L, pv_gt, nI_add, nI_addL, nI_Ladd, pk_mul, nI_mulL, nI_Lmul, pk_sub, nI_subL, nI_Lsub, nI_inc, nI_clampL, Nat.add_sub_cancel, pz_wi_else, pz_wl_else, vu_eq, vu_ne, pz_wi_gc, pz_wi_ga, pz_wi_gn, pz_wi_gl, pz_wi_gr, pz_wi_same, pz_wi_X, pz_wl_gc, pz_wl_ga, pz_wl_gn, pz_wl_gi, pz_wl_gr, pz_wl_same, pz_wl_X, pz_wr_gc, pz_wr_ga, pz_wr_gn, pz_wr_gi, pz_wr_gl, pz_wr_same, pz_wr_X])
                refine po_go ?_
                refine pw_blk (mi := mz_70) (b := bz_70_90) rfl rfl ?_
                simp only [bz_70_90, pz_cut_t, pz_cut_f, pz_cut_n, pv_gt, pv_ts, pv_tn, ev_iret0, pz_wi_gc, pz_wi_ga, pz_wi_gn, pz_wi_gl, pz_wi_gr, pz_wi_same, pz_wi_X, pz_wl_gc, pz_wl_ga, pz_wl_gn, pz_wl_gi, pz_wl_gr, pz_wl_same, pz_wl_X, pz_wr_gc, pz_wr_ga, pz_wr_gn, pz_wr_gi, pz_wr_gl, pz_wr_same, pz_wr_X]
                (try simp (disch := omega) only [nI_clamp, pz_in_nI2, pz_in_nI2L, pv_gt, nI_add, nI_addL, nI_Ladd, pk_mul, nI_mulL, nI_Lmul, pk_sub, nI_subL, nI_Lsub, nI_inc, nI_clampL, Nat.add_sub_cancel, pz_wi_else, pz_wl_else, vu_eq, vu_ne, pz_wi_gc, pz_wi_ga, pz_wi_gn, pz_wi_gl, pz_wi_gr, pz_wi_same, pz_wi_X, pz_wl_gc, pz_wl_ga, pz_wl_gn, pz_wl_gi, pz_wl_gr, pz_wl_same, pz_wl_X, pz_wr_gc, pz_wr_ga, pz_wr_gn, pz_wr_gi, pz_wr_gl, pz_wr_same, pz_wr_X])
                exact po_ret h
            · first
              | exact absurd q78 (by decide)
              | exact absurd trivial q78
              | exact q78.elim
              | (exfalso; (try simp (disch := omega) only [nI_ltI, nI_leI, nI_eq, nI_ltL, nI_leL, nI_eqL, nI_Llt, nI_Lle, nI_Leq, nI_eqm, nI_meq, nI_ltm, nI_lem, nI_mlt, nI_mle, lg0, lgl, lgg, lgle, lgge, Int32.not_lt, Int32.not_le, Int64.not_lt, Int64.not_le, not_false_eq_true, not_true_eq_false, Decidable.not_not, ge_iff_le, gt_iff_lt] at q78) <;> omega)
              | exact absurd q78 (by with_reducible assumption)
              | exact absurd (by with_reducible assumption) q78
              | exact absurd (Decidable.not_not.mp q78) (by with_reducible assumption)
              | exact absurd (by with_reducible assumption) (Int32.not_le.mpr q78)
              | exact absurd (by with_reducible assumption) (Int32.not_lt.mpr q78)
              | skip
                (try simp (disch := omega) only [nI_ltI, nI_leI, nI_eq, nI_ltL, nI_leL, nI_eqL, nI_Llt, nI_Lle, nI_Leq, nI_eqm, nI_meq, nI_ltm, nI_lem, nI_mlt, nI_mle, lg0, lgl, lgg, lgle, lgge, Int32.not_lt, Int32.not_le, Int64.not_lt, Int64.not_le, not_false_eq_true, not_true_eq_false, Decidable.not_not, ge_iff_le, gt_iff_lt] at q78)
                rw [if_pos q78] at h
                refine pw_blk (mi := mz_70) (b := bz_70_83) rfl rfl ?_
                simp only [bz_70_83, pz_cut_t, pz_cut_f, pz_cut_n, pv_gt, pv_ts, pv_tn, ev_ild4, ev_goto, pz_wi_gc, pz_wi_ga, pz_wi_gn, pz_wi_gl, pz_wi_gr, pz_wi_same, pz_wi_X, pz_wl_gc, pz_wl_ga, pz_wl_gn, pz_wl_gi, pz_wl_gr, pz_wl_same, pz_wl_X, pz_wr_gc, pz_wr_ga, pz_wr_gn, pz_wr_gi, pz_wr_gl, pz_wr_same, pz_wr_X]
                (try simp (disch := omega) only [nI_clamp, pz_in_nI2, pz_in_nI2L, pv_gt, nI_add, nI_addL, nI_Ladd, pk_mul, nI_mulL, nI_Lmul, pk_sub, nI_subL, nI_Lsub, nI_inc, nI_clampL, Nat.add_sub_cancel, pz_wi_else, pz_wl_else, vu_eq, vu_ne, pz_wi_gc, pz_wi_ga, pz_wi_gn, pz_wi_gl, pz_wi_gr, pz_wi_same, pz_wi_X, pz_wl_gc, pz_wl_ga, pz_wl_gn, pz_wl_gi, pz_wl_gr, pz_wl_same, pz_wl_X, pz_wr_gc, pz_wr_ga, pz_wr_gn, pz_wr_gi, pz_wr_gl, pz_wr_same, pz_wr_X])
                refine po_go ?_
                refine pw_blk (mi := mz_70) (b := bz_70_90) rfl rfl ?_
                simp only [bz_70_90, pz_cut_t, pz_cut_f, pz_cut_n, pv_gt, pv_ts, pv_tn, ev_iret0, pz_wi_gc, pz_wi_ga, pz_wi_gn, pz_wi_gl, pz_wi_gr, pz_wi_same, pz_wi_X, pz_wl_gc, pz_wl_ga, pz_wl_gn, pz_wl_gi, pz_wl_gr, pz_wl_same, pz_wl_X, pz_wr_gc, pz_wr_ga, pz_wr_gn, pz_wr_gi, pz_wr_gl, pz_wr_same, pz_wr_X]
                (try simp (disch := omega) only [nI_clamp, pz_in_nI2, pz_in_nI2L, pv_gt, nI_add, nI_addL, nI_Ladd, pk_mul, nI_mulL, nI_Lmul, pk_sub, nI_subL, nI_Lsub, nI_inc, nI_clampL, Nat.add_sub_cancel, pz_wi_else, pz_wl_else, vu_eq, vu_ne, pz_wi_gc, pz_wi_ga, pz_wi_gn, pz_wi_gl, pz_wi_gr, pz_wi_same, pz_wi_X, pz_wl_gc, pz_wl_ga, pz_wl_gn, pz_wl_gi, pz_wl_gr, pz_wl_same, pz_wl_X, pz_wr_gc, pz_wr_ga, pz_wr_gn, pz_wr_gi, pz_wr_gl, pz_wr_same, pz_wr_X])
                exact po_ret h
        · first
          | exact absurd q70 (by decide)
          | exact absurd trivial q70
          | exact q70.elim
          | (exfalso; (try simp (disch := omega) only [nI_ltI, nI_leI, nI_eq, nI_ltL, nI_leL, nI_eqL, nI_Llt, nI_Lle, nI_Leq, nI_eqm, nI_meq, nI_ltm, nI_lem, nI_mlt, nI_mle, lg0, lgl, lgg, lgle, lgge, Int32.not_lt, Int32.not_le, Int64.not_lt, Int64.not_le, not_false_eq_true, not_true_eq_false, Decidable.not_not, ge_iff_le, gt_iff_lt] at q70) <;> omega)
          | exact absurd q70 (by with_reducible assumption)
          | exact absurd (by with_reducible assumption) q70
          | exact absurd (Decidable.not_not.mp q70) (by with_reducible assumption)
          | exact absurd (by with_reducible assumption) (Int32.not_le.mpr q70)
          | exact absurd (by with_reducible assumption) (Int32.not_lt.mpr q70)
          | skip
            (try simp (disch := omega) only [nI_ltI, nI_leI, nI_eq, nI_ltL, nI_leL, nI_eqL, nI_Llt, nI_Lle, nI_Leq, nI_eqm, nI_meq, nI_ltm, nI_lem, nI_mlt, nI_mle, lg0, lgl, lgg, lgle, lgge, Int32.not_lt, Int32.not_le, Int64.not_lt, Int64.not_le, not_false_eq_true, not_true_eq_false, Decidable.not_not, ge_iff_le, gt_iff_lt] at q70)
            rw [if_pos q70] at h
            refine pw_blk (mi := mz_70) (b := bz_70_74) rfl rfl ?_
            simp only [bz_70_74, pz_cut_t, pz_cut_f, pz_cut_n, pv_gt, pv_ts, pv_tn, ev_ild3, ev_goto, pz_wi_gc, pz_wi_ga, pz_wi_gn, pz_wi_gl, pz_wi_gr, pz_wi_same, pz_wi_X, pz_wl_gc, pz_wl_ga, pz_wl_gn, pz_wl_gi, pz_wl_gr, pz_wl_same, pz_wl_X, pz_wr_gc, pz_wr_ga, pz_wr_gn, pz_wr_gi, pz_wr_gl, pz_wr_same, pz_wr_X]
            (try simp (disch := omega) only [nI_clamp, pz_in_nI2, pz_in_nI2L, pv_gt, nI_add, nI_addL, nI_Ladd, pk_mul, nI_mulL, nI_Lmul, pk_sub, nI_subL, nI_Lsub, nI_inc, nI_clampL, Nat.add_sub_cancel, pz_wi_else, pz_wl_else, vu_eq, vu_ne, pz_wi_gc, pz_wi_ga, pz_wi_gn, pz_wi_gl, pz_wi_gr, pz_wi_same, pz_wi_X, pz_wl_gc, pz_wl_ga, pz_wl_gn, pz_wl_gi, pz_wl_gr, pz_wl_same, pz_wl_X, pz_wr_gc, pz_wr_ga, pz_wr_gn, pz_wr_gi, pz_wr_gl, pz_wr_same, pz_wr_X])
            refine po_go ?_
            refine pw_blk (mi := mz_70) (b := bz_70_90) rfl rfl ?_
            simp only [bz_70_90, pz_cut_t, pz_cut_f, pz_cut_n, pv_gt, pv_ts, pv_tn, ev_iret0, pz_wi_gc, pz_wi_ga, pz_wi_gn, pz_wi_gl, pz_wi_gr, pz_wi_same, pz_wi_X, pz_wl_gc, pz_wl_ga, pz_wl_gn, pz_wl_gi, pz_wl_gr, pz_wl_same, pz_wl_X, pz_wr_gc, pz_wr_ga, pz_wr_gn, pz_wr_gi, pz_wr_gl, pz_wr_same, pz_wr_X]
            (try simp (disch := omega) only [nI_clamp, pz_in_nI2, pz_in_nI2L, pv_gt, nI_add, nI_addL, nI_Ladd, pk_mul, nI_mulL, nI_Lmul, pk_sub, nI_subL, nI_Lsub, nI_inc, nI_clampL, Nat.add_sub_cancel, pz_wi_else, pz_wl_else, vu_eq, vu_ne, pz_wi_gc, pz_wi_ga, pz_wi_gn, pz_wi_gl, pz_wi_gr, pz_wi_same, pz_wi_X, pz_wl_gc, pz_wl_ga, pz_wl_gn, pz_wl_gi, pz_wl_gr, pz_wl_same, pz_wl_X, pz_wr_gc, pz_wr_ga, pz_wr_gn, pz_wr_gi, pz_wr_gl, pz_wr_same, pz_wr_X])
            exact po_ret h
      · first
        | exact absurd q22 (by decide)
        | exact absurd trivial q22
        | exact q22.elim
        | (exfalso; (try simp (disch := omega) only [nI_ltI, nI_leI, nI_eq, nI_ltL, nI_leL, nI_eqL, nI_Llt, nI_Lle, nI_Leq, nI_eqm, nI_meq, nI_ltm, nI_lem, nI_mlt, nI_mle, lg0, lgl, lgg, lgle, lgge, Int32.not_lt, Int32.not_le, Int64.not_lt, Int64.not_le, not_false_eq_true, not_true_eq_false, Decidable.not_not, ge_iff_le, gt_iff_lt] at q22) <;> omega)
        | exact absurd q22 (by with_reducible assumption)
        | exact absurd (by with_reducible assumption) q22
        | exact absurd (Decidable.not_not.mp q22) (by with_reducible assumption)
        | exact absurd (by with_reducible assumption) (Int32.not_le.mpr q22)
        | exact absurd (by with_reducible assumption) (Int32.not_lt.mpr q22)
    | succ c ih =>
      intro i m l g hi hm hl h
      rw [lwF] at h
      cases hb : alB (pap (gi M 150) (gi M 172) (gi M 171) (gi M 175) (gi M 173) (gi M 174) k (nI i)) n 0 with
      | true =>
        simp only [hb, if_true] at h
        cases l with
        | none =>
          refine pw_blk (mi := mz_70) (b := bz_70_22) rfl rfl ?_
          simp only [bz_70_22, pz_cut_t, pz_cut_f, pz_cut_n, pv_gt, pv_ts, pv_tn, ev_ild6, ev_sp200, ev_ic_gt, pz_wi_gc, pz_wi_ga, pz_wi_gn, pz_wi_gl, pz_wi_gr, pz_wi_same, pz_wi_X, pz_wl_gc, pz_wl_ga, pz_wl_gn, pz_wl_gi, pz_wl_gr, pz_wl_same, pz_wl_X, pz_wr_gc, pz_wr_ga, pz_wr_gn, pz_wr_gi, pz_wr_gl, pz_wr_same, pz_wr_X, hb, bI_t, oI]
          (try simp (disch := omega) only [nI_clamp, pz_in_nI2, pz_in_nI2L, pv_gt, nI_add, nI_addL, nI_Ladd, pk_mul, nI_mulL, nI_Lmul, pk_sub, nI_subL, nI_Lsub, nI_inc, nI_clampL, Nat.add_sub_cancel, pz_wi_else, pz_wl_else, vu_eq, vu_ne, pz_wi_gc, pz_wi_ga, pz_wi_gn, pz_wi_gl, pz_wi_gr, pz_wi_same, pz_wi_X, pz_wl_gc, pz_wl_ga, pz_wl_gn, pz_wl_gi, pz_wl_gr, pz_wl_same, pz_wl_X, pz_wr_gc, pz_wr_ga, pz_wr_gn, pz_wr_gi, pz_wr_gl, pz_wr_same, pz_wr_X, hb, bI_t, oI])
          refine po_brP (fun q22 => ?_) (fun q22 => ?_)
          · first
            | exact absurd q22 (by decide)
            | exact absurd trivial q22
            | exact q22.elim
            | (exfalso; (try simp (disch := omega) only [nI_ltI, nI_leI, nI_eq, nI_ltL, nI_leL, nI_eqL, nI_Llt, nI_Lle, nI_Leq, nI_eqm, nI_meq, nI_ltm, nI_lem, nI_mlt, nI_mle, lg0, lgl, lgg, lgle, lgge, Int32.not_lt, Int32.not_le, Int64.not_lt, Int64.not_le, not_false_eq_true, not_true_eq_false, Decidable.not_not, ge_iff_le, gt_iff_lt] at q22) <;> omega)
            | exact absurd q22 (by with_reducible assumption)
            | exact absurd (by with_reducible assumption) q22
            | exact absurd (Decidable.not_not.mp q22) (by with_reducible assumption)
            | exact absurd (by with_reducible assumption) (Int32.not_le.mpr q22)
            | exact absurd (by with_reducible assumption) (Int32.not_lt.mpr q22)
          · skip
            (try simp (disch := omega) only [nI_ltI, nI_leI, nI_eq, nI_ltL, nI_leL, nI_eqL, nI_Llt, nI_Lle, nI_Leq, nI_eqm, nI_meq, nI_ltm, nI_lem, nI_mlt, nI_mle, lg0, lgl, lgg, lgle, lgge, Int32.not_lt, Int32.not_le, Int64.not_lt, Int64.not_le, not_false_eq_true, not_true_eq_false, Decidable.not_not, ge_iff_le, gt_iff_lt] at q22)
            refine pw_blk (mi := mz_70) (b := bz_70_30) rfl rfl ?_
            simp only [bz_70_30, pz_cut_t, pz_cut_f, pz_cut_n, pv_gt, pv_ts, pv_tn, ev_ald0, ev_eld0, ev_ild6, ev_ild2, ev_cv2_11, pz_wi_gc, pz_wi_ga, pz_wi_gn, pz_wi_gl, pz_wi_gr, pz_wi_same, pz_wi_X, pz_wl_gc, pz_wl_ga, pz_wl_gn, pz_wl_gi, pz_wl_gr, pz_wl_same, pz_wl_X, pz_wr_gc, pz_wr_ga, pz_wr_gn, pz_wr_gi, pz_wr_gl, pz_wr_same, pz_wr_X, so_120 hS, hb, bI_t, oI]
            (try simp (disch := omega) only [nI_clamp, pz_in_nI2, pz_in_nI2L, pv_gt, nI_add, nI_addL, nI_Ladd, pk_mul, nI_mulL, nI_Lmul, pk_sub, nI_subL, nI_Lsub, nI_inc, nI_clampL, Nat.add_sub_cancel, pz_wi_else, pz_wl_else, vu_eq, vu_ne, pz_wi_gc, pz_wi_ga, pz_wi_gn, pz_wi_gl, pz_wi_gr, pz_wi_same, pz_wi_X, pz_wl_gc, pz_wl_ga, pz_wl_gn, pz_wl_gi, pz_wl_gr, pz_wl_same, pz_wl_X, pz_wr_gc, pz_wr_ga, pz_wr_gn, pz_wr_gi, pz_wr_gl, pz_wr_same, pz_wr_X, hb, bI_t, oI])
            (try refine po_gP (Nat.le_of_ble_eq_true rfl) ?_)
            refine po_call (by omega) (r_lets (by omega) hS hn hn40 hB hp ?_)
            refine pw_blk (mi := mz_70) (b := bz_70_37) rfl rfl ?_
            simp only [bz_70_37, pz_cut_t, pz_cut_f, pz_cut_n, pv_gt, pv_ts, pv_tn, ev_ifne, pz_wi_gc, pz_wi_ga, pz_wi_gn, pz_wi_gl, pz_wi_gr, pz_wi_same, pz_wi_X, pz_wl_gc, pz_wl_ga, pz_wl_gn, pz_wl_gi, pz_wl_gr, pz_wl_same, pz_wl_X, pz_wr_gc, pz_wr_ga, pz_wr_gn, pz_wr_gi, pz_wr_gl, pz_wr_same, pz_wr_X, hb, bI_t, oI]
            (try simp (disch := omega) only [nI_clamp, pz_in_nI2, pz_in_nI2L, pv_gt, nI_add, nI_addL, nI_Ladd, pk_mul, nI_mulL, nI_Lmul, pk_sub, nI_subL, nI_Lsub, nI_inc, nI_clampL, Nat.add_sub_cancel, pz_wi_else, pz_wl_else, vu_eq, vu_ne, pz_wi_gc, pz_wi_ga, pz_wi_gn, pz_wi_gl, pz_wi_gr, pz_wi_same, pz_wi_X, pz_wl_gc, pz_wl_ga, pz_wl_gn, pz_wl_gi, pz_wl_gr, pz_wl_same, pz_wl_X, pz_wr_gc, pz_wr_ga, pz_wr_gn, pz_wr_gi, pz_wr_gl, pz_wr_same, pz_wr_X, hb, bI_t, oI])
            refine po_brP (fun q37 => ?_) (fun q37 => ?_)
            · skip
              (try simp (disch := omega) only [nI_ltI, nI_leI, nI_eq, nI_ltL, nI_leL, nI_eqL, nI_Llt, nI_Lle, nI_Leq, nI_eqm, nI_meq, nI_ltm, nI_lem, nI_mlt, nI_mle, lg0, lgl, lgg, lgle, lgge, Int32.not_lt, Int32.not_le, Int64.not_lt, Int64.not_le, not_false_eq_true, not_true_eq_false, Decidable.not_not, ge_iff_le, gt_iff_lt] at q37)
              refine pw_blk (mi := mz_70) (b := bz_70_43) rfl rfl ?_
              simp only [bz_70_43, pz_cut_t, pz_cut_f, pz_cut_n, pv_gt, pv_ts, pv_tn, ev_inc3n, ev_inc3i, ev_inc3r, ev_inc3e, ev_ild4, ev_ifge, pz_wi_gc, pz_wi_ga, pz_wi_gn, pz_wi_gl, pz_wi_gr, pz_wi_same, pz_wi_X, pz_wl_gc, pz_wl_ga, pz_wl_gn, pz_wl_gi, pz_wl_gr, pz_wl_same, pz_wl_X, pz_wr_gc, pz_wr_ga, pz_wr_gn, pz_wr_gi, pz_wr_gl, pz_wr_same, pz_wr_X, hb, bI_t, oI]
              (try simp (disch := omega) only [nI_clamp, pz_in_nI2, pz_in_nI2L, pv_gt, nI_add, nI_addL, nI_Ladd, pk_mul, nI_mulL, nI_Lmul, pk_sub, nI_subL, nI_Lsub, nI_inc, nI_clampL, Nat.add_sub_cancel, pz_wi_else, pz_wl_else, vu_eq, vu_ne, pz_wi_gc, pz_wi_ga, pz_wi_gn, pz_wi_gl, pz_wi_gr, pz_wi_same, pz_wi_X, pz_wl_gc, pz_wl_ga, pz_wl_gn, pz_wl_gi, pz_wl_gr, pz_wl_same, pz_wl_X, pz_wr_gc, pz_wr_ga, pz_wr_gn, pz_wr_gi, pz_wr_gl, pz_wr_same, pz_wr_X, hb, bI_t, oI])
              refine po_brP (fun q43 => ?_) (fun q43 => ?_)
              · first
                | exact absurd q43 (by decide)
                | exact absurd trivial q43
                | exact q43.elim
                | (exfalso; (try simp (disch := omega) only [nI_ltI, nI_leI, nI_eq, nI_ltL, nI_leL, nI_eqL, nI_Llt, nI_Lle, nI_Leq, nI_eqm, nI_meq, nI_ltm, nI_lem, nI_mlt, nI_mle, lg0, lgl, lgg, lgle, lgge, Int32.not_lt, Int32.not_le, Int64.not_lt, Int64.not_le, not_false_eq_true, not_true_eq_false, Decidable.not_not, ge_iff_le, gt_iff_lt] at q43) <;> omega)
                | exact absurd q43 (by with_reducible assumption)
                | exact absurd (by with_reducible assumption) q43
                | exact absurd (Decidable.not_not.mp q43) (by with_reducible assumption)
                | exact absurd (by with_reducible assumption) (Int32.not_le.mpr q43)
                | exact absurd (by with_reducible assumption) (Int32.not_lt.mpr q43)
              · skip
                (try simp (disch := omega) only [nI_ltI, nI_leI, nI_eq, nI_ltL, nI_leL, nI_eqL, nI_Llt, nI_Lle, nI_Leq, nI_eqm, nI_meq, nI_ltm, nI_lem, nI_mlt, nI_mle, lg0, lgl, lgg, lgle, lgge, Int32.not_lt, Int32.not_le, Int64.not_lt, Int64.not_le, not_false_eq_true, not_true_eq_false, Decidable.not_not, ge_iff_le, gt_iff_lt] at q43)
                refine pw_blk (mi := mz_70) (b := bz_70_51) rfl rfl ?_
                simp only [bz_70_51, pz_cut_t, pz_cut_f, pz_cut_n, pv_gt, pv_ts, pv_tn, ev_ild6, ev_goto, pz_wi_gc, pz_wi_ga, pz_wi_gn, pz_wi_gl, pz_wi_gr, pz_wi_same, pz_wi_X, pz_wl_gc, pz_wl_ga, pz_wl_gn, pz_wl_gi, pz_wl_gr, pz_wl_same, pz_wl_X, pz_wr_gc, pz_wr_ga, pz_wr_gn, pz_wr_gi, pz_wr_gl, pz_wr_same, pz_wr_X, hb, bI_t, oI]
                (try simp (disch := omega) only [nI_clamp, pz_in_nI2, pz_in_nI2L, pv_gt, nI_add, nI_addL, nI_Ladd, pk_mul, nI_mulL, nI_Lmul, pk_sub, nI_subL, nI_Lsub, nI_inc, nI_clampL, Nat.add_sub_cancel, pz_wi_else, pz_wl_else, vu_eq, vu_ne, pz_wi_gc, pz_wi_ga, pz_wi_gn, pz_wi_gl, pz_wi_gr, pz_wi_same, pz_wi_X, pz_wl_gc, pz_wl_ga, pz_wl_gn, pz_wl_gi, pz_wl_gr, pz_wl_same, pz_wl_X, pz_wr_gc, pz_wr_ga, pz_wr_gn, pz_wr_gi, pz_wr_gl, pz_wr_same, pz_wr_X, hb, bI_t, oI])
                refine po_go ?_
                refine pw_blk (mi := mz_70) (b := bz_70_58) rfl rfl ?_
                simp only [bz_70_58, pz_cut_t, pz_cut_f, pz_cut_n, pv_gt, pv_ts, pv_tn, ev_ist4n, ev_ist4i, ev_ist4r, ev_ist4e, ev_ist4l, ev_ild6, ev_ist5n, ev_ist5i, ev_ist5r, ev_ist5e, ev_ist5l, ev_nil, pz_wi_gc, pz_wi_ga, pz_wi_gn, pz_wi_gl, pz_wi_gr, pz_wi_same, pz_wi_X, pz_wl_gc, pz_wl_ga, pz_wl_gn, pz_wl_gi, pz_wl_gr, pz_wl_same, pz_wl_X, pz_wr_gc, pz_wr_ga, pz_wr_gn, pz_wr_gi, pz_wr_gl, pz_wr_same, pz_wr_X, hb, bI_t, oI]
                (try simp (disch := omega) only [nI_clamp, pz_in_nI2, pz_in_nI2L, pv_gt, nI_add, nI_addL, nI_Ladd, pk_mul, nI_mulL, nI_Lmul, pk_sub, nI_subL, nI_Lsub, nI_inc, nI_clampL, Nat.add_sub_cancel, pz_wi_else, pz_wl_else, vu_eq, vu_ne, pz_wi_gc, pz_wi_ga, pz_wi_gn, pz_wi_gl, pz_wi_gr, pz_wi_same, pz_wi_X, pz_wl_gc, pz_wl_ga, pz_wl_gn, pz_wl_gi, pz_wl_gr, pz_wl_same, pz_wl_X, pz_wr_gc, pz_wr_ga, pz_wr_gn, pz_wr_gi, pz_wr_gl, pz_wr_same, pz_wr_X, hb, bI_t, oI])
                refine po_go ?_
                refine pw_blk (mi := mz_70) (b := bz_70_64) rfl rfl ?_
                simp only [bz_70_64, pz_cut_t, pz_cut_f, pz_cut_n, pv_gt, pv_ts, pv_tn, ev_inc6n, ev_inc6i, ev_inc6r, ev_inc6e, ev_goto, pz_wi_gc, pz_wi_ga, pz_wi_gn, pz_wi_gl, pz_wi_gr, pz_wi_same, pz_wi_X, pz_wl_gc, pz_wl_ga, pz_wl_gn, pz_wl_gi, pz_wl_gr, pz_wl_same, pz_wl_X, pz_wr_gc, pz_wr_ga, pz_wr_gn, pz_wr_gi, pz_wr_gl, pz_wr_same, pz_wr_X, hb, bI_t, oI]
                (try simp (disch := omega) only [nI_clamp, pz_in_nI2, pz_in_nI2L, pv_gt, nI_add, nI_addL, nI_Ladd, pk_mul, nI_mulL, nI_Lmul, pk_sub, nI_subL, nI_Lsub, nI_inc, nI_clampL, Nat.add_sub_cancel, pz_wi_else, pz_wl_else, vu_eq, vu_ne, pz_wi_gc, pz_wi_ga, pz_wi_gn, pz_wi_gl, pz_wi_gr, pz_wi_same, pz_wi_X, pz_wl_gc, pz_wl_ga, pz_wl_gn, pz_wl_gi, pz_wl_gr, pz_wl_same, pz_wl_X, pz_wr_gc, pz_wr_ga, pz_wr_gn, pz_wr_gi, pz_wr_gl, pz_wr_same, pz_wr_X, hb, bI_t, oI])
                refine po_go ?_
                exact ih (i + 1) (m + 1) (some i) (some i) (by omega) (by omega) (fun j hj => by cases hj; omega) h
            · first
              | exact absurd q37 (by decide)
              | exact absurd trivial q37
              | exact q37.elim
              | (exfalso; (try simp (disch := omega) only [nI_ltI, nI_leI, nI_eq, nI_ltL, nI_leL, nI_eqL, nI_Llt, nI_Lle, nI_Leq, nI_eqm, nI_meq, nI_ltm, nI_lem, nI_mlt, nI_mle, lg0, lgl, lgg, lgle, lgge, Int32.not_lt, Int32.not_le, Int64.not_lt, Int64.not_le, not_false_eq_true, not_true_eq_false, Decidable.not_not, ge_iff_le, gt_iff_lt] at q37) <;> omega)
              | exact absurd q37 (by with_reducible assumption)
              | exact absurd (by with_reducible assumption) q37
              | exact absurd (Decidable.not_not.mp q37) (by with_reducible assumption)
              | exact absurd (by with_reducible assumption) (Int32.not_le.mpr q37)
              | exact absurd (by with_reducible assumption) (Int32.not_lt.mpr q37)
        | some j =>
          have hj := hl j rfl
          refine pw_blk (mi := mz_70) (b := bz_70_22) rfl rfl ?_
          simp only [bz_70_22, pz_cut_t, pz_cut_f, pz_cut_n, pv_gt, pv_ts, pv_tn, ev_ild6, ev_sp200, ev_ic_gt, pz_wi_gc, pz_wi_ga, pz_wi_gn, pz_wi_gl, pz_wi_gr, pz_wi_same, pz_wi_X, pz_wl_gc, pz_wl_ga, pz_wl_gn, pz_wl_gi, pz_wl_gr, pz_wl_same, pz_wl_X, pz_wr_gc, pz_wr_ga, pz_wr_gn, pz_wr_gi, pz_wr_gl, pz_wr_same, pz_wr_X, hb, bI_t, oI]
          (try simp (disch := omega) only [nI_clamp, pz_in_nI2, pz_in_nI2L, pv_gt, nI_add, nI_addL, nI_Ladd, pk_mul, nI_mulL, nI_Lmul, pk_sub, nI_subL, nI_Lsub, nI_inc, nI_clampL, Nat.add_sub_cancel, pz_wi_else, pz_wl_else, vu_eq, vu_ne, pz_wi_gc, pz_wi_ga, pz_wi_gn, pz_wi_gl, pz_wi_gr, pz_wi_same, pz_wi_X, pz_wl_gc, pz_wl_ga, pz_wl_gn, pz_wl_gi, pz_wl_gr, pz_wl_same, pz_wl_X, pz_wr_gc, pz_wr_ga, pz_wr_gn, pz_wr_gi, pz_wr_gl, pz_wr_same, pz_wr_X, hb, bI_t, oI])
          refine po_brP (fun q22 => ?_) (fun q22 => ?_)
          · first
            | exact absurd q22 (by decide)
            | exact absurd trivial q22
            | exact q22.elim
            | (exfalso; (try simp (disch := omega) only [nI_ltI, nI_leI, nI_eq, nI_ltL, nI_leL, nI_eqL, nI_Llt, nI_Lle, nI_Leq, nI_eqm, nI_meq, nI_ltm, nI_lem, nI_mlt, nI_mle, lg0, lgl, lgg, lgle, lgge, Int32.not_lt, Int32.not_le, Int64.not_lt, Int64.not_le, not_false_eq_true, not_true_eq_false, Decidable.not_not, ge_iff_le, gt_iff_lt] at q22) <;> omega)
            | exact absurd q22 (by with_reducible assumption)
            | exact absurd (by with_reducible assumption) q22
            | exact absurd (Decidable.not_not.mp q22) (by with_reducible assumption)
            | exact absurd (by with_reducible assumption) (Int32.not_le.mpr q22)
            | exact absurd (by with_reducible assumption) (Int32.not_lt.mpr q22)
          · skip
            (try simp (disch := omega) only [nI_ltI, nI_leI, nI_eq, nI_ltL, nI_leL, nI_eqL, nI_Llt, nI_Lle, nI_Leq, nI_eqm, nI_meq, nI_ltm, nI_lem, nI_mlt, nI_mle, lg0, lgl, lgg, lgle, lgge, Int32.not_lt, Int32.not_le, Int64.not_lt, Int64.not_le, not_false_eq_true, not_true_eq_false, Decidable.not_not, ge_iff_le, gt_iff_lt] at q22)
            refine pw_blk (mi := mz_70) (b := bz_70_30) rfl rfl ?_
            simp only [bz_70_30, pz_cut_t, pz_cut_f, pz_cut_n, pv_gt, pv_ts, pv_tn, ev_ald0, ev_eld0, ev_ild6, ev_ild2, ev_cv2_11, pz_wi_gc, pz_wi_ga, pz_wi_gn, pz_wi_gl, pz_wi_gr, pz_wi_same, pz_wi_X, pz_wl_gc, pz_wl_ga, pz_wl_gn, pz_wl_gi, pz_wl_gr, pz_wl_same, pz_wl_X, pz_wr_gc, pz_wr_ga, pz_wr_gn, pz_wr_gi, pz_wr_gl, pz_wr_same, pz_wr_X, so_120 hS, hb, bI_t, oI]
            (try simp (disch := omega) only [nI_clamp, pz_in_nI2, pz_in_nI2L, pv_gt, nI_add, nI_addL, nI_Ladd, pk_mul, nI_mulL, nI_Lmul, pk_sub, nI_subL, nI_Lsub, nI_inc, nI_clampL, Nat.add_sub_cancel, pz_wi_else, pz_wl_else, vu_eq, vu_ne, pz_wi_gc, pz_wi_ga, pz_wi_gn, pz_wi_gl, pz_wi_gr, pz_wi_same, pz_wi_X, pz_wl_gc, pz_wl_ga, pz_wl_gn, pz_wl_gi, pz_wl_gr, pz_wl_same, pz_wl_X, pz_wr_gc, pz_wr_ga, pz_wr_gn, pz_wr_gi, pz_wr_gl, pz_wr_same, pz_wr_X, hb, bI_t, oI])
            (try refine po_gP (Nat.le_of_ble_eq_true rfl) ?_)
            refine po_call (by omega) (r_lets (by omega) hS hn hn40 hB hp ?_)
            refine pw_blk (mi := mz_70) (b := bz_70_37) rfl rfl ?_
            simp only [bz_70_37, pz_cut_t, pz_cut_f, pz_cut_n, pv_gt, pv_ts, pv_tn, ev_ifne, pz_wi_gc, pz_wi_ga, pz_wi_gn, pz_wi_gl, pz_wi_gr, pz_wi_same, pz_wi_X, pz_wl_gc, pz_wl_ga, pz_wl_gn, pz_wl_gi, pz_wl_gr, pz_wl_same, pz_wl_X, pz_wr_gc, pz_wr_ga, pz_wr_gn, pz_wr_gi, pz_wr_gl, pz_wr_same, pz_wr_X, hb, bI_t, oI]
            (try simp (disch := omega) only [nI_clamp, pz_in_nI2, pz_in_nI2L, pv_gt, nI_add, nI_addL, nI_Ladd, pk_mul, nI_mulL, nI_Lmul, pk_sub, nI_subL, nI_Lsub, nI_inc, nI_clampL, Nat.add_sub_cancel, pz_wi_else, pz_wl_else, vu_eq, vu_ne, pz_wi_gc, pz_wi_ga, pz_wi_gn, pz_wi_gl, pz_wi_gr, pz_wi_same, pz_wi_X, pz_wl_gc, pz_wl_ga, pz_wl_gn, pz_wl_gi, pz_wl_gr, pz_wl_same, pz_wl_X, pz_wr_gc, pz_wr_ga, pz_wr_gn, pz_wr_gi, pz_wr_gl, pz_wr_same, pz_wr_X, hb, bI_t, oI])
            refine po_brP (fun q37 => ?_) (fun q37 => ?_)
            · skip
              (try simp (disch := omega) only [nI_ltI, nI_leI, nI_eq, nI_ltL, nI_leL, nI_eqL, nI_Llt, nI_Lle, nI_Leq, nI_eqm, nI_meq, nI_ltm, nI_lem, nI_mlt, nI_mle, lg0, lgl, lgg, lgle, lgge, Int32.not_lt, Int32.not_le, Int64.not_lt, Int64.not_le, not_false_eq_true, not_true_eq_false, Decidable.not_not, ge_iff_le, gt_iff_lt] at q37)
              refine pw_blk (mi := mz_70) (b := bz_70_43) rfl rfl ?_
              simp only [bz_70_43, pz_cut_t, pz_cut_f, pz_cut_n, pv_gt, pv_ts, pv_tn, ev_inc3n, ev_inc3i, ev_inc3r, ev_inc3e, ev_ild4, ev_ifge, pz_wi_gc, pz_wi_ga, pz_wi_gn, pz_wi_gl, pz_wi_gr, pz_wi_same, pz_wi_X, pz_wl_gc, pz_wl_ga, pz_wl_gn, pz_wl_gi, pz_wl_gr, pz_wl_same, pz_wl_X, pz_wr_gc, pz_wr_ga, pz_wr_gn, pz_wr_gi, pz_wr_gl, pz_wr_same, pz_wr_X, hb, bI_t, oI]
              (try simp (disch := omega) only [nI_clamp, pz_in_nI2, pz_in_nI2L, pv_gt, nI_add, nI_addL, nI_Ladd, pk_mul, nI_mulL, nI_Lmul, pk_sub, nI_subL, nI_Lsub, nI_inc, nI_clampL, Nat.add_sub_cancel, pz_wi_else, pz_wl_else, vu_eq, vu_ne, pz_wi_gc, pz_wi_ga, pz_wi_gn, pz_wi_gl, pz_wi_gr, pz_wi_same, pz_wi_X, pz_wl_gc, pz_wl_ga, pz_wl_gn, pz_wl_gi, pz_wl_gr, pz_wl_same, pz_wl_X, pz_wr_gc, pz_wr_ga, pz_wr_gn, pz_wr_gi, pz_wr_gl, pz_wr_same, pz_wr_X, hb, bI_t, oI])
              refine po_brP (fun q43 => ?_) (fun q43 => ?_)
              · skip
                (try simp (disch := omega) only [nI_ltI, nI_leI, nI_eq, nI_ltL, nI_leL, nI_eqL, nI_Llt, nI_Lle, nI_Leq, nI_eqm, nI_meq, nI_ltm, nI_lem, nI_mlt, nI_mle, lg0, lgl, lgg, lgle, lgge, Int32.not_lt, Int32.not_le, Int64.not_lt, Int64.not_le, not_false_eq_true, not_true_eq_false, Decidable.not_not, ge_iff_le, gt_iff_lt] at q43)
                refine pw_blk (mi := mz_70) (b := bz_70_56) rfl rfl ?_
                simp only [bz_70_56, pz_cut_t, pz_cut_f, pz_cut_n, pv_gt, pv_ts, pv_tn, ev_ild4, ev_nil, pz_wi_gc, pz_wi_ga, pz_wi_gn, pz_wi_gl, pz_wi_gr, pz_wi_same, pz_wi_X, pz_wl_gc, pz_wl_ga, pz_wl_gn, pz_wl_gi, pz_wl_gr, pz_wl_same, pz_wl_X, pz_wr_gc, pz_wr_ga, pz_wr_gn, pz_wr_gi, pz_wr_gl, pz_wr_same, pz_wr_X, hb, bI_t, oI]
                (try simp (disch := omega) only [nI_clamp, pz_in_nI2, pz_in_nI2L, pv_gt, nI_add, nI_addL, nI_Ladd, pk_mul, nI_mulL, nI_Lmul, pk_sub, nI_subL, nI_Lsub, nI_inc, nI_clampL, Nat.add_sub_cancel, pz_wi_else, pz_wl_else, vu_eq, vu_ne, pz_wi_gc, pz_wi_ga, pz_wi_gn, pz_wi_gl, pz_wi_gr, pz_wi_same, pz_wi_X, pz_wl_gc, pz_wl_ga, pz_wl_gn, pz_wl_gi, pz_wl_gr, pz_wl_same, pz_wl_X, pz_wr_gc, pz_wr_ga, pz_wr_gn, pz_wr_gi, pz_wr_gl, pz_wr_same, pz_wr_X, hb, bI_t, oI])
                refine po_go ?_
                refine pw_blk (mi := mz_70) (b := bz_70_58) rfl rfl ?_
                simp only [bz_70_58, pz_cut_t, pz_cut_f, pz_cut_n, pv_gt, pv_ts, pv_tn, ev_ist4n, ev_ist4i, ev_ist4r, ev_ist4e, ev_ist4l, ev_ild6, ev_ist5n, ev_ist5i, ev_ist5r, ev_ist5e, ev_ist5l, ev_nil, pz_wi_gc, pz_wi_ga, pz_wi_gn, pz_wi_gl, pz_wi_gr, pz_wi_same, pz_wi_X, pz_wl_gc, pz_wl_ga, pz_wl_gn, pz_wl_gi, pz_wl_gr, pz_wl_same, pz_wl_X, pz_wr_gc, pz_wr_ga, pz_wr_gn, pz_wr_gi, pz_wr_gl, pz_wr_same, pz_wr_X, hb, bI_t, oI]
                (try simp (disch := omega) only [nI_clamp, pz_in_nI2, pz_in_nI2L, pv_gt, nI_add, nI_addL, nI_Ladd, pk_mul, nI_mulL, nI_Lmul, pk_sub, nI_subL, nI_Lsub, nI_inc, nI_clampL, Nat.add_sub_cancel, pz_wi_else, pz_wl_else, vu_eq, vu_ne, pz_wi_gc, pz_wi_ga, pz_wi_gn, pz_wi_gl, pz_wi_gr, pz_wi_same, pz_wi_X, pz_wl_gc, pz_wl_ga, pz_wl_gn, pz_wl_gi, pz_wl_gr, pz_wl_same, pz_wl_X, pz_wr_gc, pz_wr_ga, pz_wr_gn, pz_wr_gi, pz_wr_gl, pz_wr_same, pz_wr_X, hb, bI_t, oI])
                refine po_go ?_
                refine pw_blk (mi := mz_70) (b := bz_70_64) rfl rfl ?_
                simp only [bz_70_64, pz_cut_t, pz_cut_f, pz_cut_n, pv_gt, pv_ts, pv_tn, ev_inc6n, ev_inc6i, ev_inc6r, ev_inc6e, ev_goto, pz_wi_gc, pz_wi_ga, pz_wi_gn, pz_wi_gl, pz_wi_gr, pz_wi_same, pz_wi_X, pz_wl_gc, pz_wl_ga, pz_wl_gn, pz_wl_gi, pz_wl_gr, pz_wl_same, pz_wl_X, pz_wr_gc, pz_wr_ga, pz_wr_gn, pz_wr_gi, pz_wr_gl, pz_wr_same, pz_wr_X, hb, bI_t, oI]
                (try simp (disch := omega) only [nI_clamp, pz_in_nI2, pz_in_nI2L, pv_gt, nI_add, nI_addL, nI_Ladd, pk_mul, nI_mulL, nI_Lmul, pk_sub, nI_subL, nI_Lsub, nI_inc, nI_clampL, Nat.add_sub_cancel, pz_wi_else, pz_wl_else, vu_eq, vu_ne, pz_wi_gc, pz_wi_ga, pz_wi_gn, pz_wi_gl, pz_wi_gr, pz_wi_same, pz_wi_X, pz_wl_gc, pz_wl_ga, pz_wl_gn, pz_wl_gi, pz_wl_gr, pz_wl_same, pz_wl_X, pz_wr_gc, pz_wr_ga, pz_wr_gn, pz_wr_gi, pz_wr_gl, pz_wr_same, pz_wr_X, hb, bI_t, oI])
                refine po_go ?_
                exact ih (i + 1) (m + 1) (some j) (some i) (by omega) (by omega) (fun j' hj' => by cases hj'; omega) h
              · first
                | exact absurd q43 (by decide)
                | exact absurd trivial q43
                | exact q43.elim
                | (exfalso; (try simp (disch := omega) only [nI_ltI, nI_leI, nI_eq, nI_ltL, nI_leL, nI_eqL, nI_Llt, nI_Lle, nI_Leq, nI_eqm, nI_meq, nI_ltm, nI_lem, nI_mlt, nI_mle, lg0, lgl, lgg, lgle, lgge, Int32.not_lt, Int32.not_le, Int64.not_lt, Int64.not_le, not_false_eq_true, not_true_eq_false, Decidable.not_not, ge_iff_le, gt_iff_lt] at q43) <;> omega)
                | exact absurd q43 (by with_reducible assumption)
                | exact absurd (by with_reducible assumption) q43
                | exact absurd (Decidable.not_not.mp q43) (by with_reducible assumption)
                | exact absurd (by with_reducible assumption) (Int32.not_le.mpr q43)
                | exact absurd (by with_reducible assumption) (Int32.not_lt.mpr q43)
            · first
              | exact absurd q37 (by decide)
              | exact absurd trivial q37
              | exact q37.elim
              | (exfalso; (try simp (disch := omega) only [nI_ltI, nI_leI, nI_eq, nI_ltL, nI_leL, nI_eqL, nI_Llt, nI_Lle, nI_Leq, nI_eqm, nI_meq, nI_ltm, nI_lem, nI_mlt, nI_mle, lg0, lgl, lgg, lgle, lgge, Int32.not_lt, Int32.not_le, Int64.not_lt, Int64.not_le, not_false_eq_true, not_true_eq_false, Decidable.not_not, ge_iff_le, gt_iff_lt] at q37) <;> omega)
              | exact absurd q37 (by with_reducible assumption)
              | exact absurd (by with_reducible assumption) q37
              | exact absurd (Decidable.not_not.mp q37) (by with_reducible assumption)
              | exact absurd (by with_reducible assumption) (Int32.not_le.mpr q37)
              | exact absurd (by with_reducible assumption) (Int32.not_lt.mpr q37)
      | false =>
        simp only [hb] at h
        refine pw_blk (mi := mz_70) (b := bz_70_22) rfl rfl ?_
        simp only [bz_70_22, pz_cut_t, pz_cut_f, pz_cut_n, pv_gt, pv_ts, pv_tn, ev_ild6, ev_sp200, ev_ic_gt, pz_wi_gc, pz_wi_ga, pz_wi_gn, pz_wi_gl, pz_wi_gr, pz_wi_same, pz_wi_X, pz_wl_gc, pz_wl_ga, pz_wl_gn, pz_wl_gi, pz_wl_gr, pz_wl_same, pz_wl_X, pz_wr_gc, pz_wr_ga, pz_wr_gn, pz_wr_gi, pz_wr_gl, pz_wr_same, pz_wr_X, hb, bI_f]
        (try simp (disch := omega) only [nI_clamp, pz_in_nI2, pz_in_nI2L, pv_gt, nI_add, nI_addL, nI_Ladd, pk_mul, nI_mulL, nI_Lmul, pk_sub, nI_subL, nI_Lsub, nI_inc, nI_clampL, Nat.add_sub_cancel, pz_wi_else, pz_wl_else, vu_eq, vu_ne, pz_wi_gc, pz_wi_ga, pz_wi_gn, pz_wi_gl, pz_wi_gr, pz_wi_same, pz_wi_X, pz_wl_gc, pz_wl_ga, pz_wl_gn, pz_wl_gi, pz_wl_gr, pz_wl_same, pz_wl_X, pz_wr_gc, pz_wr_ga, pz_wr_gn, pz_wr_gi, pz_wr_gl, pz_wr_same, pz_wr_X, hb, bI_f])
        refine po_brP (fun q22 => ?_) (fun q22 => ?_)
        · first
          | exact absurd q22 (by decide)
          | exact absurd trivial q22
          | exact q22.elim
          | (exfalso; (try simp (disch := omega) only [nI_ltI, nI_leI, nI_eq, nI_ltL, nI_leL, nI_eqL, nI_Llt, nI_Lle, nI_Leq, nI_eqm, nI_meq, nI_ltm, nI_lem, nI_mlt, nI_mle, lg0, lgl, lgg, lgle, lgge, Int32.not_lt, Int32.not_le, Int64.not_lt, Int64.not_le, not_false_eq_true, not_true_eq_false, Decidable.not_not, ge_iff_le, gt_iff_lt] at q22) <;> omega)
          | exact absurd q22 (by with_reducible assumption)
          | exact absurd (by with_reducible assumption) q22
          | exact absurd (Decidable.not_not.mp q22) (by with_reducible assumption)
          | exact absurd (by with_reducible assumption) (Int32.not_le.mpr q22)
          | exact absurd (by with_reducible assumption) (Int32.not_lt.mpr q22)
        · skip
          (try simp (disch := omega) only [nI_ltI, nI_leI, nI_eq, nI_ltL, nI_leL, nI_eqL, nI_Llt, nI_Lle, nI_Leq, nI_eqm, nI_meq, nI_ltm, nI_lem, nI_mlt, nI_mle, lg0, lgl, lgg, lgle, lgge, Int32.not_lt, Int32.not_le, Int64.not_lt, Int64.not_le, not_false_eq_true, not_true_eq_false, Decidable.not_not, ge_iff_le, gt_iff_lt] at q22)
          refine pw_blk (mi := mz_70) (b := bz_70_30) rfl rfl ?_
          simp only [bz_70_30, pz_cut_t, pz_cut_f, pz_cut_n, pv_gt, pv_ts, pv_tn, ev_ald0, ev_eld0, ev_ild6, ev_ild2, ev_cv2_11, pz_wi_gc, pz_wi_ga, pz_wi_gn, pz_wi_gl, pz_wi_gr, pz_wi_same, pz_wi_X, pz_wl_gc, pz_wl_ga, pz_wl_gn, pz_wl_gi, pz_wl_gr, pz_wl_same, pz_wl_X, pz_wr_gc, pz_wr_ga, pz_wr_gn, pz_wr_gi, pz_wr_gl, pz_wr_same, pz_wr_X, so_120 hS, hb, bI_f]
          (try simp (disch := omega) only [nI_clamp, pz_in_nI2, pz_in_nI2L, pv_gt, nI_add, nI_addL, nI_Ladd, pk_mul, nI_mulL, nI_Lmul, pk_sub, nI_subL, nI_Lsub, nI_inc, nI_clampL, Nat.add_sub_cancel, pz_wi_else, pz_wl_else, vu_eq, vu_ne, pz_wi_gc, pz_wi_ga, pz_wi_gn, pz_wi_gl, pz_wi_gr, pz_wi_same, pz_wi_X, pz_wl_gc, pz_wl_ga, pz_wl_gn, pz_wl_gi, pz_wl_gr, pz_wl_same, pz_wl_X, pz_wr_gc, pz_wr_ga, pz_wr_gn, pz_wr_gi, pz_wr_gl, pz_wr_same, pz_wr_X, hb, bI_f])
          (try refine po_gP (Nat.le_of_ble_eq_true rfl) ?_)
          refine po_call (by omega) (r_lets (by omega) hS hn hn40 hB hp ?_)
          refine pw_blk (mi := mz_70) (b := bz_70_37) rfl rfl ?_
          simp only [bz_70_37, pz_cut_t, pz_cut_f, pz_cut_n, pv_gt, pv_ts, pv_tn, ev_ifne, pz_wi_gc, pz_wi_ga, pz_wi_gn, pz_wi_gl, pz_wi_gr, pz_wi_same, pz_wi_X, pz_wl_gc, pz_wl_ga, pz_wl_gn, pz_wl_gi, pz_wl_gr, pz_wl_same, pz_wl_X, pz_wr_gc, pz_wr_ga, pz_wr_gn, pz_wr_gi, pz_wr_gl, pz_wr_same, pz_wr_X, hb, bI_f]
          (try simp (disch := omega) only [nI_clamp, pz_in_nI2, pz_in_nI2L, pv_gt, nI_add, nI_addL, nI_Ladd, pk_mul, nI_mulL, nI_Lmul, pk_sub, nI_subL, nI_Lsub, nI_inc, nI_clampL, Nat.add_sub_cancel, pz_wi_else, pz_wl_else, vu_eq, vu_ne, pz_wi_gc, pz_wi_ga, pz_wi_gn, pz_wi_gl, pz_wi_gr, pz_wi_same, pz_wi_X, pz_wl_gc, pz_wl_ga, pz_wl_gn, pz_wl_gi, pz_wl_gr, pz_wl_same, pz_wl_X, pz_wr_gc, pz_wr_ga, pz_wr_gn, pz_wr_gi, pz_wr_gl, pz_wr_same, pz_wr_X, hb, bI_f])
          refine po_brP (fun q37 => ?_) (fun q37 => ?_)
          · first
            | exact absurd q37 (by decide)
            | exact absurd trivial q37
            | exact q37.elim
            | (exfalso; (try simp (disch := omega) only [nI_ltI, nI_leI, nI_eq, nI_ltL, nI_leL, nI_eqL, nI_Llt, nI_Lle, nI_Leq, nI_eqm, nI_meq, nI_ltm, nI_lem, nI_mlt, nI_mle, lg0, lgl, lgg, lgle, lgge, Int32.not_lt, Int32.not_le, Int64.not_lt, Int64.not_le, not_false_eq_true, not_true_eq_false, Decidable.not_not, ge_iff_le, gt_iff_lt] at q37) <;> omega)
            | exact absurd q37 (by with_reducible assumption)
            | exact absurd (by with_reducible assumption) q37
            | exact absurd (Decidable.not_not.mp q37) (by with_reducible assumption)
            | exact absurd (by with_reducible assumption) (Int32.not_le.mpr q37)
            | exact absurd (by with_reducible assumption) (Int32.not_lt.mpr q37)
          · skip
            (try simp (disch := omega) only [nI_ltI, nI_leI, nI_eq, nI_ltL, nI_leL, nI_eqL, nI_Llt, nI_Lle, nI_Leq, nI_eqm, nI_meq, nI_ltm, nI_lem, nI_mlt, nI_mle, lg0, lgl, lgg, lgle, lgge, Int32.not_lt, Int32.not_le, Int64.not_lt, Int64.not_le, not_false_eq_true, not_true_eq_false, Decidable.not_not, ge_iff_le, gt_iff_lt] at q37)
            refine pw_blk (mi := mz_70) (b := bz_70_40) rfl rfl ?_
            simp only [bz_70_40, pz_cut_t, pz_cut_f, pz_cut_n, pv_gt, pv_ts, pv_tn, ev_goto, pz_wi_gc, pz_wi_ga, pz_wi_gn, pz_wi_gl, pz_wi_gr, pz_wi_same, pz_wi_X, pz_wl_gc, pz_wl_ga, pz_wl_gn, pz_wl_gi, pz_wl_gr, pz_wl_same, pz_wl_X, pz_wr_gc, pz_wr_ga, pz_wr_gn, pz_wr_gi, pz_wr_gl, pz_wr_same, pz_wr_X, hb, bI_f]
            (try simp (disch := omega) only [nI_clamp, pz_in_nI2, pz_in_nI2L, pv_gt, nI_add, nI_addL, nI_Ladd, pk_mul, nI_mulL, nI_Lmul, pk_sub, nI_subL, nI_Lsub, nI_inc, nI_clampL, Nat.add_sub_cancel, pz_wi_else, pz_wl_else, vu_eq, vu_ne, pz_wi_gc, pz_wi_ga, pz_wi_gn, pz_wi_gl, pz_wi_gr, pz_wi_same, pz_wi_X, pz_wl_gc, pz_wl_ga, pz_wl_gn, pz_wl_gi, pz_wl_gr, pz_wl_same, pz_wl_X, pz_wr_gc, pz_wr_ga, pz_wr_gn, pz_wr_gi, pz_wr_gl, pz_wr_same, pz_wr_X, hb, bI_f])
            refine po_go ?_
            refine pw_blk (mi := mz_70) (b := bz_70_64) rfl rfl ?_
            simp only [bz_70_64, pz_cut_t, pz_cut_f, pz_cut_n, pv_gt, pv_ts, pv_tn, ev_inc6n, ev_inc6i, ev_inc6r, ev_inc6e, ev_goto, pz_wi_gc, pz_wi_ga, pz_wi_gn, pz_wi_gl, pz_wi_gr, pz_wi_same, pz_wi_X, pz_wl_gc, pz_wl_ga, pz_wl_gn, pz_wl_gi, pz_wl_gr, pz_wl_same, pz_wl_X, pz_wr_gc, pz_wr_ga, pz_wr_gn, pz_wr_gi, pz_wr_gl, pz_wr_same, pz_wr_X, hb, bI_f]
            (try simp (disch := omega) only [nI_clamp, pz_in_nI2, pz_in_nI2L, pv_gt, nI_add, nI_addL, nI_Ladd, pk_mul, nI_mulL, nI_Lmul, pk_sub, nI_subL, nI_Lsub, nI_inc, nI_clampL, Nat.add_sub_cancel, pz_wi_else, pz_wl_else, vu_eq, vu_ne, pz_wi_gc, pz_wi_ga, pz_wi_gn, pz_wi_gl, pz_wi_gr, pz_wi_same, pz_wi_X, pz_wl_gc, pz_wl_ga, pz_wl_gn, pz_wl_gi, pz_wl_gr, pz_wl_same, pz_wl_X, pz_wr_gc, pz_wr_ga, pz_wr_gn, pz_wr_gi, pz_wr_gl, pz_wr_same, pz_wr_X, hb, bI_f])
            refine po_go ?_
            exact ih (i + 1) m l g (by omega) (by omega) (fun j hj => by have := hl j hj; omega) h
  refine pm_ent (L := [some (.ref 120), some (.int (nI w)), some (.int k), none, none, none, none]) rfl (Nat.le_of_ble_eq_true rfl) ?_
  refine pw_blk (mi := mz_70) (b := bz_70_0) rfl rfl ?_
  simp only [bz_70_0, pz_cut_t, pz_cut_f, pz_cut_n, pv_gt, pv_ts, pv_tn, ev_ild1, ev_ic0, ev_ic2, ev_cs3, pz_wi_gc, pz_wi_ga, pz_wi_gn, pz_wi_gl, pz_wi_gr, pz_wi_same, pz_wi_X, pz_wl_gc, pz_wl_ga, pz_wl_gn, pz_wl_gi, pz_wl_gr, pz_wl_same, pz_wl_X, pz_wr_gc, pz_wr_ga, pz_wr_gn, pz_wr_gi, pz_wr_gl, pz_wr_same, pz_wr_X]
  (try simp (disch := omega) only [nI_clamp, pz_in_nI2, pz_in_nI2L, pv_gt, nI_add, nI_addL, nI_Ladd, pk_mul, nI_mulL, nI_Lmul, pk_sub, nI_subL, nI_Lsub, nI_inc, nI_clampL, Nat.add_sub_cancel, pz_wi_else, pz_wl_else, vu_eq, vu_ne, pz_wi_gc, pz_wi_ga, pz_wi_gn, pz_wi_gl, pz_wi_gr, pz_wi_same, pz_wi_X, pz_wl_gc, pz_wl_ga, pz_wl_gn, pz_wl_gi, pz_wl_gr, pz_wl_same, pz_wl_X, pz_wr_gc, pz_wr_ga, pz_wr_gn, pz_wr_gi, pz_wr_gl, pz_wr_same, pz_wr_X])
  (try refine po_gP (Nat.le_of_ble_eq_true rfl) ?_)
  refine po_call (by omega) (r_isIn1 h02.1 h02.2 ?_)
  refine pw_blk (mi := mz_70) (b := bz_70_6) rfl rfl ?_
  simp only [bz_70_6, pz_cut_t, pz_cut_f, pz_cut_n, pv_gt, pv_ts, pv_tn, ev_ifne, pz_wi_gc, pz_wi_ga, pz_wi_gn, pz_wi_gl, pz_wi_gr, pz_wi_same, pz_wi_X, pz_wl_gc, pz_wl_ga, pz_wl_gn, pz_wl_gi, pz_wl_gr, pz_wl_same, pz_wl_X, pz_wr_gc, pz_wr_ga, pz_wr_gn, pz_wr_gi, pz_wr_gl, pz_wr_same, pz_wr_X]
  (try simp (disch := omega) only [nI_clamp, pz_in_nI2, pz_in_nI2L, pv_gt, nI_add, nI_addL, nI_Ladd, pk_mul, nI_mulL, nI_Lmul, pk_sub, nI_subL, nI_Lsub, nI_inc, nI_clampL, Nat.add_sub_cancel, pz_wi_else, pz_wl_else, vu_eq, vu_ne, pz_wi_gc, pz_wi_ga, pz_wi_gn, pz_wi_gl, pz_wi_gr, pz_wi_same, pz_wi_X, pz_wl_gc, pz_wl_ga, pz_wl_gn, pz_wl_gi, pz_wl_gr, pz_wl_same, pz_wl_X, pz_wr_gc, pz_wr_ga, pz_wr_gn, pz_wr_gi, pz_wr_gl, pz_wr_same, pz_wr_X])
  refine po_brP (fun q6 => ?_) (fun q6 => ?_)
  · skip
    (try simp (disch := omega) only [nI_ltI, nI_leI, nI_eq, nI_ltL, nI_leL, nI_eqL, nI_Llt, nI_Lle, nI_Leq, nI_eqm, nI_meq, nI_ltm, nI_lem, nI_mlt, nI_mle, lg0, lgl, lgg, lgle, lgge, Int32.not_lt, Int32.not_le, Int64.not_lt, Int64.not_le, not_false_eq_true, not_true_eq_false, Decidable.not_not, ge_iff_le, gt_iff_lt] at q6)
    refine pw_blk (mi := mz_70) (b := bz_70_11) rfl rfl ?_
    simp only [bz_70_11, pz_cut_t, pz_cut_f, pz_cut_n, pv_gt, pv_ts, pv_tn, ev_ic0, ev_ist3n, ev_ist3i, ev_ist3r, ev_ist3e, ev_ist3l, ev_icm1, ev_ist4n, ev_ist4i, ev_ist4r, ev_ist4e, ev_ist4l, ev_ist5n, ev_ist5i, ev_ist5r, ev_ist5e, ev_ist5l, ev_ist6n, ev_ist6i, ev_ist6r, ev_ist6e, ev_ist6l, ev_nil, pz_wi_gc, pz_wi_ga, pz_wi_gn, pz_wi_gl, pz_wi_gr, pz_wi_same, pz_wi_X, pz_wl_gc, pz_wl_ga, pz_wl_gn, pz_wl_gi, pz_wl_gr, pz_wl_same, pz_wl_X, pz_wr_gc, pz_wr_ga, pz_wr_gn, pz_wr_gi, pz_wr_gl, pz_wr_same, pz_wr_X]
    (try simp (disch := omega) only [nI_clamp, pz_in_nI2, pz_in_nI2L, pv_gt, nI_add, nI_addL, nI_Ladd, pk_mul, nI_mulL, nI_Lmul, pk_sub, nI_subL, nI_Lsub, nI_inc, nI_clampL, Nat.add_sub_cancel, pz_wi_else, pz_wl_else, vu_eq, vu_ne, pz_wi_gc, pz_wi_ga, pz_wi_gn, pz_wi_gl, pz_wi_gr, pz_wi_same, pz_wi_X, pz_wl_gc, pz_wl_ga, pz_wl_gn, pz_wl_gi, pz_wl_gr, pz_wl_same, pz_wl_X, pz_wr_gc, pz_wr_ga, pz_wr_gn, pz_wr_gi, pz_wr_gl, pz_wr_same, pz_wr_X])
    refine po_go ?_
    exact key 201 0 0 none none (by omega) (by omega) (fun j hj => by cases hj) h
  · first
    | exact absurd q6 (by decide)
    | exact absurd trivial q6
    | exact q6.elim
    | (exfalso; (try simp (disch := omega) only [nI_ltI, nI_leI, nI_eq, nI_ltL, nI_leL, nI_eqL, nI_Llt, nI_Lle, nI_Leq, nI_eqm, nI_meq, nI_ltm, nI_lem, nI_mlt, nI_mle, lg0, lgl, lgg, lgle, lgge, Int32.not_lt, Int32.not_le, Int64.not_lt, Int64.not_le, not_false_eq_true, not_true_eq_false, Decidable.not_not, ge_iff_le, gt_iff_lt] at q6) <;> omega)
    | exact absurd q6 (by with_reducible assumption)
    | exact absurd (by with_reducible assumption) q6
    | exact absurd (Decidable.not_not.mp q6) (by with_reducible assumption)
    | exact absurd (by with_reducible assumption) (Int32.not_le.mpr q6)
    | exact absurd (by with_reducible assumption) (Int32.not_lt.mpr q6)
theorem op_laws (hd : 50 ≤ d) (hL : RL M) {x k : Int32} : pm d 69 [.ref 0, .int x, .int k] M (fun r1 => pm d 70 [.ref 120, .int x, .int k] r1.2 (fun r2 => r1.1 = r2.1 ∧ RL r2.2)) := by
  obtain ⟨r, B, H, P, N, D, E, y, t, L, nd, np, nr, hA⟩ := id hL
  have hS := hA.S
  have hO := hA.ok
  have hbk := hA.bk
  have hbank : gi M 120 38 = nI r := hA.X.1
  have hB := hA.B24
  have b1 := hA.b1
  have b2 := hA.b2
  have hr := hA.r1
  have b3 : gi M 123 r = nI B := hA.sc.2.1.2.1
  obtain ⟨g, fd, cr, wk, sv, er, g1, g5, fd2, cr1, wk1, sv2, er2, l0, l1, l2, l3, l4, l5⟩ := hA.sc.2.2.1.1
  have k0 : gi M 127 r = nI g := hA.sc.2.2.1.2.1.symm.trans l0
  have k1 : gi M 128 r = nI fd := hA.sc.2.2.1.2.2.1.symm.trans l1
  have k2 : gi M 129 r = nI cr := hA.sc.2.2.1.2.2.2.1.symm.trans l2
  have k3 : gi M 130 r = nI wk := hA.sc.2.2.1.2.2.2.2.1.symm.trans l3
  have k4 : gi M 131 r = nI sv := hA.sc.2.2.1.2.2.2.2.2.1.symm.trans l4
  have k5 : gi M 132 r = nI er := hA.sc.2.2.1.2.2.2.2.2.2.symm.trans l5
  obtain ⟨-, ⟨xD, xE⟩, ⟨xy1, xy2, xy3⟩, xw, ⟨xt1, xt2, xt3⟩, ⟨xL1, xL2, xL3⟩, ⟨xf1, xf2⟩, ⟨xd1, xd2, xd3⟩, ⟨xp1, xp2, xp3⟩, ⟨xr1, xr2, xr3, xr4⟩, xl⟩ := id hA.X
  obtain ⟨⟨mh, me, mo⟩, ⟨ml, mu⟩, ⟨gh, ge, go⟩, ⟨hD, hE⟩, dD, dE⟩ := id hA.m
  obtain ⟨d1, d2, d3, d4, d5, d6⟩ := hA.pa
  by_cases q : ∃ j, j < 3 ∧ x = nI j
  · obtain ⟨w, hw, rfl⟩ := q
    refine m_laws (by omega) hS hw xp1 xp3 hB d6 (r_laws (by omega) hS hw xp2 xp3 hB ?_ ⟨?_, hL⟩)
    · rw [← d1, ← d2, ← d3, ← d5]
      exact d6
    · rw [d1, d2, d3, d4, d5, me]
  · have w' : ¬ ((0 : Int32) ≤ x ∧ x ≤ 2) := isInN (n := 3) (by decide) q
    refine pm_ent (L := [some (.ref 0), some (.int x), some (.int k), none, none, none, none]) rfl (Nat.le_of_ble_eq_true rfl) ?_
    refine pw_blk (mi := mz_69) (b := bz_69_0) rfl rfl ?_
    simp only [bz_69_0, pz_cut_t, pz_cut_f, pz_cut_n, pv_gt, pv_ts, pv_tn, ev_ild1, ev_iflt, pz_wi_gc, pz_wi_ga, pz_wi_gn, pz_wi_gl, pz_wi_gr, pz_wi_same, pz_wi_X, pz_wl_gc, pz_wl_ga, pz_wl_gn, pz_wl_gi, pz_wl_gr, pz_wl_same, pz_wl_X, pz_wr_gc, pz_wr_ga, pz_wr_gn, pz_wr_gi, pz_wr_gl, pz_wr_same, pz_wr_X]
    (try simp (disch := omega) only [nI_clamp, pz_in_nI2, pz_in_nI2L, pv_gt, nI_add, nI_addL, nI_Ladd, pk_mul, nI_mulL, nI_Lmul, pk_sub, nI_subL, nI_Lsub, nI_inc, nI_clampL, Nat.add_sub_cancel, pz_wi_else, pz_wl_else, vu_eq, vu_ne, pz_wi_gc, pz_wi_ga, pz_wi_gn, pz_wi_gl, pz_wi_gr, pz_wi_same, pz_wi_X, pz_wl_gc, pz_wl_ga, pz_wl_gn, pz_wl_gi, pz_wl_gr, pz_wl_same, pz_wl_X, pz_wr_gc, pz_wr_ga, pz_wr_gn, pz_wr_gi, pz_wr_gl, pz_wr_same, pz_wr_X])
    refine po_brP (fun q0 => ?_) (fun q0 => ?_)
    · first
      | exact absurd q0 (by decide)
      | exact absurd trivial q0
      | exact q0.elim
      | (exfalso; (try simp (disch := omega) only [nI_ltI, nI_leI, nI_eq, nI_ltL, nI_leL, nI_eqL, nI_Llt, nI_Lle, nI_Leq, nI_eqm, nI_meq, nI_ltm, nI_lem, nI_mlt, nI_mle, lg0, lgl, lgg, lgle, lgge, Int32.not_lt, Int32.not_le, Int64.not_lt, Int64.not_le, not_false_eq_true, not_true_eq_false, Decidable.not_not, ge_iff_le, gt_iff_lt] at q0) <;> omega)
      | exact absurd q0 (by with_reducible assumption)
      | exact absurd (by with_reducible assumption) q0
      | exact absurd (Decidable.not_not.mp q0) (by with_reducible assumption)
      | exact absurd (by with_reducible assumption) (Int32.not_le.mpr q0)
      | exact absurd (by with_reducible assumption) (Int32.not_lt.mpr q0)
      | skip
        (try simp (disch := omega) only [nI_ltI, nI_leI, nI_eq, nI_ltL, nI_leL, nI_eqL, nI_Llt, nI_Lle, nI_Leq, nI_eqm, nI_meq, nI_ltm, nI_lem, nI_mlt, nI_mle, lg0, lgl, lgg, lgle, lgge, Int32.not_lt, Int32.not_le, Int64.not_lt, Int64.not_le, not_false_eq_true, not_true_eq_false, Decidable.not_not, ge_iff_le, gt_iff_lt] at q0)
        refine pw_blk (mi := mz_69) (b := bz_69_9) rfl rfl ?_
        simp only [bz_69_9, pz_cut_t, pz_cut_f, pz_cut_n, pv_gt, pv_ts, pv_tn, ev_icm1, ev_iret0, pz_wi_gc, pz_wi_ga, pz_wi_gn, pz_wi_gl, pz_wi_gr, pz_wi_same, pz_wi_X, pz_wl_gc, pz_wl_ga, pz_wl_gn, pz_wl_gi, pz_wl_gr, pz_wl_same, pz_wl_X, pz_wr_gc, pz_wr_ga, pz_wr_gn, pz_wr_gi, pz_wr_gl, pz_wr_same, pz_wr_X]
        (try simp (disch := omega) only [nI_clamp, pz_in_nI2, pz_in_nI2L, pv_gt, nI_add, nI_addL, nI_Ladd, pk_mul, nI_mulL, nI_Lmul, pk_sub, nI_subL, nI_Lsub, nI_inc, nI_clampL, Nat.add_sub_cancel, pz_wi_else, pz_wl_else, vu_eq, vu_ne, pz_wi_gc, pz_wi_ga, pz_wi_gn, pz_wi_gl, pz_wi_gr, pz_wi_same, pz_wi_X, pz_wl_gc, pz_wl_ga, pz_wl_gn, pz_wl_gi, pz_wl_gr, pz_wl_same, pz_wl_X, pz_wr_gc, pz_wr_ga, pz_wr_gn, pz_wr_gi, pz_wr_gl, pz_wr_same, pz_wr_X])
        refine po_ret ?_
        refine pm_ent (L := [some (.ref 120), some (.int x), some (.int k), none, none, none, none]) rfl (Nat.le_of_ble_eq_true rfl) ?_
        refine pw_blk (mi := mz_70) (b := bz_70_0) rfl rfl ?_
        simp only [bz_70_0, pz_cut_t, pz_cut_f, pz_cut_n, pv_gt, pv_ts, pv_tn, ev_ild1, ev_ic0, ev_ic2, ev_cs3, pz_wi_gc, pz_wi_ga, pz_wi_gn, pz_wi_gl, pz_wi_gr, pz_wi_same, pz_wi_X, pz_wl_gc, pz_wl_ga, pz_wl_gn, pz_wl_gi, pz_wl_gr, pz_wl_same, pz_wl_X, pz_wr_gc, pz_wr_ga, pz_wr_gn, pz_wr_gi, pz_wr_gl, pz_wr_same, pz_wr_X]
        (try simp (disch := omega) only [nI_clamp, pz_in_nI2, pz_in_nI2L, pv_gt, nI_add, nI_addL, nI_Ladd, pk_mul, nI_mulL, nI_Lmul, pk_sub, nI_subL, nI_Lsub, nI_inc, nI_clampL, Nat.add_sub_cancel, pz_wi_else, pz_wl_else, vu_eq, vu_ne, pz_wi_gc, pz_wi_ga, pz_wi_gn, pz_wi_gl, pz_wi_gr, pz_wi_same, pz_wi_X, pz_wl_gc, pz_wl_ga, pz_wl_gn, pz_wl_gi, pz_wl_gr, pz_wl_same, pz_wl_X, pz_wr_gc, pz_wr_ga, pz_wr_gn, pz_wr_gi, pz_wr_gl, pz_wr_same, pz_wr_X])
        (try refine po_gP (Nat.le_of_ble_eq_true rfl) ?_)
        refine po_call (by omega) (r_isIn0 w' ?_)
        refine pw_blk (mi := mz_70) (b := bz_70_6) rfl rfl ?_
        simp only [bz_70_6, pz_cut_t, pz_cut_f, pz_cut_n, pv_gt, pv_ts, pv_tn, ev_ifne, pz_wi_gc, pz_wi_ga, pz_wi_gn, pz_wi_gl, pz_wi_gr, pz_wi_same, pz_wi_X, pz_wl_gc, pz_wl_ga, pz_wl_gn, pz_wl_gi, pz_wl_gr, pz_wl_same, pz_wl_X, pz_wr_gc, pz_wr_ga, pz_wr_gn, pz_wr_gi, pz_wr_gl, pz_wr_same, pz_wr_X]
        (try simp (disch := omega) only [nI_clamp, pz_in_nI2, pz_in_nI2L, pv_gt, nI_add, nI_addL, nI_Ladd, pk_mul, nI_mulL, nI_Lmul, pk_sub, nI_subL, nI_Lsub, nI_inc, nI_clampL, Nat.add_sub_cancel, pz_wi_else, pz_wl_else, vu_eq, vu_ne, pz_wi_gc, pz_wi_ga, pz_wi_gn, pz_wi_gl, pz_wi_gr, pz_wi_same, pz_wi_X, pz_wl_gc, pz_wl_ga, pz_wl_gn, pz_wl_gi, pz_wl_gr, pz_wl_same, pz_wl_X, pz_wr_gc, pz_wr_ga, pz_wr_gn, pz_wr_gi, pz_wr_gl, pz_wr_same, pz_wr_X])
        refine po_brP (fun p6 => ?_) (fun p6 => ?_)
        · first
          | exact absurd p6 (by decide)
          | exact absurd trivial p6
          | exact p6.elim
          | (exfalso; (try simp (disch := omega) only [nI_ltI, nI_leI, nI_eq, nI_ltL, nI_leL, nI_eqL, nI_Llt, nI_Lle, nI_Leq, nI_eqm, nI_meq, nI_ltm, nI_lem, nI_mlt, nI_mle, lg0, lgl, lgg, lgle, lgge, Int32.not_lt, Int32.not_le, Int64.not_lt, Int64.not_le, not_false_eq_true, not_true_eq_false, Decidable.not_not, ge_iff_le, gt_iff_lt] at p6) <;> omega)
          | exact absurd p6 (by with_reducible assumption)
          | exact absurd (by with_reducible assumption) p6
          | exact absurd (Decidable.not_not.mp p6) (by with_reducible assumption)
          | exact absurd (by with_reducible assumption) (Int32.not_le.mpr p6)
          | exact absurd (by with_reducible assumption) (Int32.not_lt.mpr p6)
        · skip
          (try simp (disch := omega) only [nI_ltI, nI_leI, nI_eq, nI_ltL, nI_leL, nI_eqL, nI_Llt, nI_Lle, nI_Leq, nI_eqm, nI_meq, nI_ltm, nI_lem, nI_mlt, nI_mle, lg0, lgl, lgg, lgle, lgge, Int32.not_lt, Int32.not_le, Int64.not_lt, Int64.not_le, not_false_eq_true, not_true_eq_false, Decidable.not_not, ge_iff_le, gt_iff_lt] at p6)
          refine pw_blk (mi := mz_70) (b := bz_70_9) rfl rfl ?_
          simp only [bz_70_9, pz_cut_t, pz_cut_f, pz_cut_n, pv_gt, pv_ts, pv_tn, ev_icm1, ev_iret0, pz_wi_gc, pz_wi_ga, pz_wi_gn, pz_wi_gl, pz_wi_gr, pz_wi_same, pz_wi_X, pz_wl_gc, pz_wl_ga, pz_wl_gn, pz_wl_gi, pz_wl_gr, pz_wl_same, pz_wl_X, pz_wr_gc, pz_wr_ga, pz_wr_gn, pz_wr_gi, pz_wr_gl, pz_wr_same, pz_wr_X]
          (try simp (disch := omega) only [nI_clamp, pz_in_nI2, pz_in_nI2L, pv_gt, nI_add, nI_addL, nI_Ladd, pk_mul, nI_mulL, nI_Lmul, pk_sub, nI_subL, nI_Lsub, nI_inc, nI_clampL, Nat.add_sub_cancel, pz_wi_else, pz_wl_else, vu_eq, vu_ne, pz_wi_gc, pz_wi_ga, pz_wi_gn, pz_wi_gl, pz_wi_gr, pz_wi_same, pz_wi_X, pz_wl_gc, pz_wl_ga, pz_wl_gn, pz_wl_gi, pz_wl_gr, pz_wl_same, pz_wl_X, pz_wr_gc, pz_wr_ga, pz_wr_gn, pz_wr_gi, pz_wr_gl, pz_wr_same, pz_wr_X])
          exact po_ret ⟨rfl, hL⟩
    · first
      | exact absurd q0 (by decide)
      | exact absurd trivial q0
      | exact q0.elim
      | (exfalso; (try simp (disch := omega) only [nI_ltI, nI_leI, nI_eq, nI_ltL, nI_leL, nI_eqL, nI_Llt, nI_Lle, nI_Leq, nI_eqm, nI_meq, nI_ltm, nI_lem, nI_mlt, nI_mle, lg0, lgl, lgg, lgle, lgge, Int32.not_lt, Int32.not_le, Int64.not_lt, Int64.not_le, not_false_eq_true, not_true_eq_false, Decidable.not_not, ge_iff_le, gt_iff_lt] at q0) <;> omega)
      | exact absurd q0 (by with_reducible assumption)
      | exact absurd (by with_reducible assumption) q0
      | exact absurd (Decidable.not_not.mp q0) (by with_reducible assumption)
      | exact absurd (by with_reducible assumption) (Int32.not_le.mpr q0)
      | exact absurd (by with_reducible assumption) (Int32.not_lt.mpr q0)
      | skip
        (try simp (disch := omega) only [nI_ltI, nI_leI, nI_eq, nI_ltL, nI_leL, nI_eqL, nI_Llt, nI_Lle, nI_Leq, nI_eqm, nI_meq, nI_ltm, nI_lem, nI_mlt, nI_mle, lg0, lgl, lgg, lgle, lgge, Int32.not_lt, Int32.not_le, Int64.not_lt, Int64.not_le, not_false_eq_true, not_true_eq_false, Decidable.not_not, ge_iff_le, gt_iff_lt] at q0)
        refine pw_blk (mi := mz_69) (b := bz_69_4) rfl rfl ?_
        simp only [bz_69_4, pz_cut_t, pz_cut_f, pz_cut_n, pv_gt, pv_ts, pv_tn, ev_ild1, ev_ic2, ev_ic_le, pz_wi_gc, pz_wi_ga, pz_wi_gn, pz_wi_gl, pz_wi_gr, pz_wi_same, pz_wi_X, pz_wl_gc, pz_wl_ga, pz_wl_gn, pz_wl_gi, pz_wl_gr, pz_wl_same, pz_wl_X, pz_wr_gc, pz_wr_ga, pz_wr_gn, pz_wr_gi, pz_wr_gl, pz_wr_same, pz_wr_X]
        (try simp (disch := omega) only [nI_clamp, pz_in_nI2, pz_in_nI2L, pv_gt, nI_add, nI_addL, nI_Ladd, pk_mul, nI_mulL, nI_Lmul, pk_sub, nI_subL, nI_Lsub, nI_inc, nI_clampL, Nat.add_sub_cancel, pz_wi_else, pz_wl_else, vu_eq, vu_ne, pz_wi_gc, pz_wi_ga, pz_wi_gn, pz_wi_gl, pz_wi_gr, pz_wi_same, pz_wi_X, pz_wl_gc, pz_wl_ga, pz_wl_gn, pz_wl_gi, pz_wl_gr, pz_wl_same, pz_wl_X, pz_wr_gc, pz_wr_ga, pz_wr_gn, pz_wr_gi, pz_wr_gl, pz_wr_same, pz_wr_X])
        refine po_brP (fun q4 => ?_) (fun q4 => ?_)
        · exact absurd ⟨q0, q4⟩ w'
        · first
          | exact absurd q4 (by decide)
          | exact absurd trivial q4
          | exact q4.elim
          | (exfalso; (try simp (disch := omega) only [nI_ltI, nI_leI, nI_eq, nI_ltL, nI_leL, nI_eqL, nI_Llt, nI_Lle, nI_Leq, nI_eqm, nI_meq, nI_ltm, nI_lem, nI_mlt, nI_mle, lg0, lgl, lgg, lgle, lgge, Int32.not_lt, Int32.not_le, Int64.not_lt, Int64.not_le, not_false_eq_true, not_true_eq_false, Decidable.not_not, ge_iff_le, gt_iff_lt] at q4) <;> omega)
          | exact absurd q4 (by with_reducible assumption)
          | exact absurd (by with_reducible assumption) q4
          | exact absurd (Decidable.not_not.mp q4) (by with_reducible assumption)
          | exact absurd (by with_reducible assumption) (Int32.not_le.mpr q4)
          | exact absurd (by with_reducible assumption) (Int32.not_lt.mpr q4)
          | skip
            (try simp (disch := omega) only [nI_ltI, nI_leI, nI_eq, nI_ltL, nI_leL, nI_eqL, nI_Llt, nI_Lle, nI_Leq, nI_eqm, nI_meq, nI_ltm, nI_lem, nI_mlt, nI_mle, lg0, lgl, lgg, lgle, lgge, Int32.not_lt, Int32.not_le, Int64.not_lt, Int64.not_le, not_false_eq_true, not_true_eq_false, Decidable.not_not, ge_iff_le, gt_iff_lt] at q4)
            refine pw_blk (mi := mz_69) (b := bz_69_9) rfl rfl ?_
            simp only [bz_69_9, pz_cut_t, pz_cut_f, pz_cut_n, pv_gt, pv_ts, pv_tn, ev_icm1, ev_iret0, pz_wi_gc, pz_wi_ga, pz_wi_gn, pz_wi_gl, pz_wi_gr, pz_wi_same, pz_wi_X, pz_wl_gc, pz_wl_ga, pz_wl_gn, pz_wl_gi, pz_wl_gr, pz_wl_same, pz_wl_X, pz_wr_gc, pz_wr_ga, pz_wr_gn, pz_wr_gi, pz_wr_gl, pz_wr_same, pz_wr_X]
            (try simp (disch := omega) only [nI_clamp, pz_in_nI2, pz_in_nI2L, pv_gt, nI_add, nI_addL, nI_Ladd, pk_mul, nI_mulL, nI_Lmul, pk_sub, nI_subL, nI_Lsub, nI_inc, nI_clampL, Nat.add_sub_cancel, pz_wi_else, pz_wl_else, vu_eq, vu_ne, pz_wi_gc, pz_wi_ga, pz_wi_gn, pz_wi_gl, pz_wi_gr, pz_wi_same, pz_wi_X, pz_wl_gc, pz_wl_ga, pz_wl_gn, pz_wl_gi, pz_wl_gr, pz_wl_same, pz_wl_X, pz_wr_gc, pz_wr_ga, pz_wr_gn, pz_wr_gi, pz_wr_gl, pz_wr_same, pz_wr_X])
            refine po_ret ?_
            refine pm_ent (L := [some (.ref 120), some (.int x), some (.int k), none, none, none, none]) rfl (Nat.le_of_ble_eq_true rfl) ?_
            refine pw_blk (mi := mz_70) (b := bz_70_0) rfl rfl ?_
            simp only [bz_70_0, pz_cut_t, pz_cut_f, pz_cut_n, pv_gt, pv_ts, pv_tn, ev_ild1, ev_ic0, ev_ic2, ev_cs3, pz_wi_gc, pz_wi_ga, pz_wi_gn, pz_wi_gl, pz_wi_gr, pz_wi_same, pz_wi_X, pz_wl_gc, pz_wl_ga, pz_wl_gn, pz_wl_gi, pz_wl_gr, pz_wl_same, pz_wl_X, pz_wr_gc, pz_wr_ga, pz_wr_gn, pz_wr_gi, pz_wr_gl, pz_wr_same, pz_wr_X]
            (try simp (disch := omega) only [nI_clamp, pz_in_nI2, pz_in_nI2L, pv_gt, nI_add, nI_addL, nI_Ladd, pk_mul, nI_mulL, nI_Lmul, pk_sub, nI_subL, nI_Lsub, nI_inc, nI_clampL, Nat.add_sub_cancel, pz_wi_else, pz_wl_else, vu_eq, vu_ne, pz_wi_gc, pz_wi_ga, pz_wi_gn, pz_wi_gl, pz_wi_gr, pz_wi_same, pz_wi_X, pz_wl_gc, pz_wl_ga, pz_wl_gn, pz_wl_gi, pz_wl_gr, pz_wl_same, pz_wl_X, pz_wr_gc, pz_wr_ga, pz_wr_gn, pz_wr_gi, pz_wr_gl, pz_wr_same, pz_wr_X])
            (try refine po_gP (Nat.le_of_ble_eq_true rfl) ?_)
            refine po_call (by omega) (r_isIn0 w' ?_)
            refine pw_blk (mi := mz_70) (b := bz_70_6) rfl rfl ?_
            simp only [bz_70_6, pz_cut_t, pz_cut_f, pz_cut_n, pv_gt, pv_ts, pv_tn, ev_ifne, pz_wi_gc, pz_wi_ga, pz_wi_gn, pz_wi_gl, pz_wi_gr, pz_wi_same, pz_wi_X, pz_wl_gc, pz_wl_ga, pz_wl_gn, pz_wl_gi, pz_wl_gr, pz_wl_same, pz_wl_X, pz_wr_gc, pz_wr_ga, pz_wr_gn, pz_wr_gi, pz_wr_gl, pz_wr_same, pz_wr_X]
            (try simp (disch := omega) only [nI_clamp, pz_in_nI2, pz_in_nI2L, pv_gt, nI_add, nI_addL, nI_Ladd, pk_mul, nI_mulL, nI_Lmul, pk_sub, nI_subL, nI_Lsub, nI_inc, nI_clampL, Nat.add_sub_cancel, pz_wi_else, pz_wl_else, vu_eq, vu_ne, pz_wi_gc, pz_wi_ga, pz_wi_gn, pz_wi_gl, pz_wi_gr, pz_wi_same, pz_wi_X, pz_wl_gc, pz_wl_ga, pz_wl_gn, pz_wl_gi, pz_wl_gr, pz_wl_same, pz_wl_X, pz_wr_gc, pz_wr_ga, pz_wr_gn, pz_wr_gi, pz_wr_gl, pz_wr_same, pz_wr_X])
            refine po_brP (fun p6 => ?_) (fun p6 => ?_)
            · first
              | exact absurd p6 (by decide)
              | exact absurd trivial p6
              | exact p6.elim
              | (exfalso; (try simp (disch := omega) only [nI_ltI, nI_leI, nI_eq, nI_ltL, nI_leL, nI_eqL, nI_Llt, nI_Lle, nI_Leq, nI_eqm, nI_meq, nI_ltm, nI_lem, nI_mlt, nI_mle, lg0, lgl, lgg, lgle, lgge, Int32.not_lt, Int32.not_le, Int64.not_lt, Int64.not_le, not_false_eq_true, not_true_eq_false, Decidable.not_not, ge_iff_le, gt_iff_lt] at p6) <;> omega)
              | exact absurd p6 (by with_reducible assumption)
              | exact absurd (by with_reducible assumption) p6
              | exact absurd (Decidable.not_not.mp p6) (by with_reducible assumption)
              | exact absurd (by with_reducible assumption) (Int32.not_le.mpr p6)
              | exact absurd (by with_reducible assumption) (Int32.not_lt.mpr p6)
            · skip
              (try simp (disch := omega) only [nI_ltI, nI_leI, nI_eq, nI_ltL, nI_leL, nI_eqL, nI_Llt, nI_Lle, nI_Leq, nI_eqm, nI_meq, nI_ltm, nI_lem, nI_mlt, nI_mle, lg0, lgl, lgg, lgle, lgge, Int32.not_lt, Int32.not_le, Int64.not_lt, Int64.not_le, not_false_eq_true, not_true_eq_false, Decidable.not_not, ge_iff_le, gt_iff_lt] at p6)
              refine pw_blk (mi := mz_70) (b := bz_70_9) rfl rfl ?_
              simp only [bz_70_9, pz_cut_t, pz_cut_f, pz_cut_n, pv_gt, pv_ts, pv_tn, ev_icm1, ev_iret0, pz_wi_gc, pz_wi_ga, pz_wi_gn, pz_wi_gl, pz_wi_gr, pz_wi_same, pz_wi_X, pz_wl_gc, pz_wl_ga, pz_wl_gn, pz_wl_gi, pz_wl_gr, pz_wl_same, pz_wl_X, pz_wr_gc, pz_wr_ga, pz_wr_gn, pz_wr_gi, pz_wr_gl, pz_wr_same, pz_wr_X]
              (try simp (disch := omega) only [nI_clamp, pz_in_nI2, pz_in_nI2L, pv_gt, nI_add, nI_addL, nI_Ladd, pk_mul, nI_mulL, nI_Lmul, pk_sub, nI_subL, nI_Lsub, nI_inc, nI_clampL, Nat.add_sub_cancel, pz_wi_else, pz_wl_else, vu_eq, vu_ne, pz_wi_gc, pz_wi_ga, pz_wi_gn, pz_wi_gl, pz_wi_gr, pz_wi_same, pz_wi_X, pz_wl_gc, pz_wl_ga, pz_wl_gn, pz_wl_gi, pz_wl_gr, pz_wl_same, pz_wl_X, pz_wr_gc, pz_wr_ga, pz_wr_gn, pz_wr_gi, pz_wr_gl, pz_wr_same, pz_wr_X])
              exact po_ret ⟨rfl, hL⟩
end LAWS
