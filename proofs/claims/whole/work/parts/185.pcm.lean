/-! ===== piece, the class's side ===== -/
section PCM
variable {d : Nat} {M M' : pz_M} {Q : Option Value × pz_M → Prop} {T : Nat → Nat} {L : Nat}
def pcK : List Nat := [1, 4, 5, 6, 7, 8, 9, 10, 11, 12, 13, 14, 15, 16, 17, 19, 20, 21, 22, 23, 24, 25, 26, 27, 28, 29, 30, 31, 32, 33, 34, 35, 36, 37, 40, 41, 42, 50, 81, 87, 93, 105, 110, 115]
/-- what the class holds behind a piece that was taken -/
def pcN (M M' : pz_M) (c : Sc) : Prop := (gi M' 1 2 = 0 ∧ gi M' 1 11 = 0 ∧ gi M' 1 12 = -1) ∧ cs4 M' c ∧ (gi M' 34 = rowC 0 24 (gi M 34) ∧ gi M' 35 = rowC 0 24 (gi M 35) ∧ gi M' 36 = rowC 0 24 (gi M 36) ∧ gi M' 37 = rowC (-1) 24 (gi M 37)) ∧ (gi M' 33 4 = nI c.D ∧ gi M' 33 5 = nI c.E ∧ gi M' 33 6 = 0 ∧ gi M' 33 7 = gi M 33 7) ∧ RFl M' c.B ∧ (gi M' 50 4 = 0 ∧ gi M' 81 5 = 0 ∧ gi M' 87 5 = 0 ∧ gi M' 93 0 = 0 ∧ gi M' 93 1 = 0) ∧ (gi M' 105 8 = 0 ∧ gi M' 110 8 = 0 ∧ gi M' 115 8 = 0)
theorem l_box {i o : Nat} (hS : SH M) (hi : i < 3) (e1 : gr M 38 i = .ref o) (e2 : gc M o = some 3) (k : ∀ M', sm [o] M M' → gi M' o = va_up (gi M o) 8 0 → pw d 7 (87, [some (.ref 0), none, some (.int (nI (i + 1)))], [], M') Q) : pw d 7 (87, [some (.ref 0), none, some (.int (nI i))], [], M) Q := by
  have e1' : gr M 38 (nI i).toNatClampNeg = .ref o := by rw [nI_clamp (by omega)]; exact e1
  refine pw_blk (mi := mz_7) (b := bz_7_87) rfl rfl ?_
  simp only [bz_7_87, pz_cut_t, pz_cut_f, pz_cut_n, pv_gt, pv_ts, pv_tn, ev_ild2, ev_ic3, ev_ic_ge, pz_wi_gc, pz_wi_ga, pz_wi_gn, pz_wi_gl, pz_wi_gr, pz_wi_same, pz_wi_X, pz_wl_gc, pz_wl_ga, pz_wl_gn, pz_wl_gi, pz_wl_gr, pz_wl_same, pz_wl_X, pz_wr_gc, pz_wr_ga, pz_wr_gn, pz_wr_gi, pz_wr_gl, pz_wr_same, pz_wr_X, ea_aald (i := nI i) (sa_38 hS) e1', e2]
  (try simp (disch := omega) only [nI_clamp, pz_in_nI2, pz_in_nI2L, pv_gt, nI_add, nI_addL, nI_Ladd, pk_mul, nI_mulL, nI_Lmul, pk_sub, nI_subL, nI_Lsub, nI_inc, nI_clampL, Nat.add_sub_cancel, pz_wi_else, pz_wl_else, vu_eq, vu_ne, pz_wi_gc, pz_wi_ga, pz_wi_gn, pz_wi_gl, pz_wi_gr, pz_wi_same, pz_wi_X, pz_wl_gc, pz_wl_ga, pz_wl_gn, pz_wl_gi, pz_wl_gr, pz_wl_same, pz_wl_X, pz_wr_gc, pz_wr_ga, pz_wr_gn, pz_wr_gi, pz_wr_gl, pz_wr_same, pz_wr_X, ea_aald (i := nI i) (sa_38 hS) e1', e2])
  refine po_brP (fun q87 => ?_) (fun q87 => ?_)
  · first
    | exact absurd q87 (by decide)
    | exact absurd trivial q87
    | exact q87.elim
    | (exfalso; (try simp (disch := omega) only [nI_ltI, nI_leI, nI_eq, nI_ltL, nI_leL, nI_eqL, nI_Llt, nI_Lle, nI_Leq, nI_eqm, nI_meq, nI_ltm, nI_lem, nI_mlt, nI_mle, lg0, lgl, lgg, lgle, lgge, Int32.not_lt, Int32.not_le, Int64.not_lt, Int64.not_le, not_false_eq_true, not_true_eq_false, Decidable.not_not, ge_iff_le, gt_iff_lt] at q87) <;> omega)
    | exact absurd q87 (by with_reducible assumption)
    | exact absurd (by with_reducible assumption) q87
    | exact absurd (Decidable.not_not.mp q87) (by with_reducible assumption)
    | exact absurd (by with_reducible assumption) (Int32.not_le.mpr q87)
    | exact absurd (by with_reducible assumption) (Int32.not_lt.mpr q87)
  · skip
    (try simp (disch := omega) only [nI_ltI, nI_leI, nI_eq, nI_ltL, nI_leL, nI_eqL, nI_Llt, nI_Lle, nI_Leq, nI_eqm, nI_meq, nI_ltm, nI_lem, nI_mlt, nI_mle, lg0, lgl, lgg, lgle, lgge, Int32.not_lt, Int32.not_le, Int64.not_lt, Int64.not_le, not_false_eq_true, not_true_eq_false, Decidable.not_not, ge_iff_le, gt_iff_lt] at q87)
    refine pw_blk (mi := mz_7) (b := bz_7_92) rfl rfl ?_
    simp only [bz_7_92, pz_cut_t, pz_cut_f, pz_cut_n, pv_gt, pv_ts, pv_tn, ev_ald0, ev_eld0, ev_gf0_2, ev_ild2, ev_ic0, ev_pf3_3, ev_inc2n, ev_inc2i, ev_inc2r, ev_inc2e, ev_goto, pz_wi_gc, pz_wi_ga, pz_wi_gn, pz_wi_gl, pz_wi_gr, pz_wi_same, pz_wi_X, pz_wl_gc, pz_wl_ga, pz_wl_gn, pz_wl_gi, pz_wl_gr, pz_wl_same, pz_wl_X, pz_wr_gc, pz_wr_ga, pz_wr_gn, pz_wr_gi, pz_wr_gl, pz_wr_same, pz_wr_X, so_0 hS, sr_0_4 hS, sa_38 hS, sn_38 hS, ea_aald (i := nI i) (sa_38 hS) e1', e2]
    (try simp (disch := omega) only [nI_clamp, pz_in_nI2, pz_in_nI2L, pv_gt, nI_add, nI_addL, nI_Ladd, pk_mul, nI_mulL, nI_Lmul, pk_sub, nI_subL, nI_Lsub, nI_inc, nI_clampL, Nat.add_sub_cancel, pz_wi_else, pz_wl_else, vu_eq, vu_ne, pz_wi_gc, pz_wi_ga, pz_wi_gn, pz_wi_gl, pz_wi_gr, pz_wi_same, pz_wi_X, pz_wl_gc, pz_wl_ga, pz_wl_gn, pz_wl_gi, pz_wl_gr, pz_wl_same, pz_wl_X, pz_wr_gc, pz_wr_ga, pz_wr_gn, pz_wr_gi, pz_wr_gl, pz_wr_same, pz_wr_X, ea_aald (i := nI i) (sa_38 hS) e1', e2])
    (try refine po_gI (by first | exact pz_in_nI (by omega) (by decide) | decide | assumption) ?_)
    (try refine po_gP (by first | decide | assumption) ?_)
    refine po_go ?_
    exact k _ (sm.wi sm.rf (by simp)) pz_wi_same
theorem m_piece (hd : 30 ≤ d) (hS : SH M) (eL : gi M 1 2 = nI L) (hL : L ≤ 1500) (hb : ∀ i, i < L → gi M 2 i = sb_b (T i) ∧ T i < 256) (hw : RWd M) (k0 : ∀ f, (pS false T L 1500 (nxF false T L (.inr tk0)) scE).1 = .inl f → (∃ Mx, txC Mx false T L) → ∀ M', sg (1 :: scK) M M' → gi M' 1 2 = 0 → gi M' 1 11 = nI f.1 → gi M' 1 12 = nI f.2 → Q (some (.int (-1)), M')) (k1 : ∀ t, (pS false T L 1500 (nxF false T L (.inr tk0)) scE).1 = .inr t → (∃ Mx, txC Mx false T L) → okS (pS false T L 1500 (nxF false T L (.inr tk0)) scE).2 → ∀ M', sg pcK M M' → pcN M M' (pS false T L 1500 (nxF false T L (.inr tk0)) scE).2 → Q (some (.int (nI (pS false T L 1500 (nxF false T L (.inr tk0)) scE).2.B)), M')) : pm d 7 [.ref 0] M Q := by
  obtain ⟨R, hR⟩ : ∃ R, R = pS false T L 1500 (nxF false T L (.inr tk0)) scE := ⟨_, rfl⟩
  rw [← hR] at k0 k1
  have bad : ∀ M1 f, R.1 = .inl f → sg (1 :: scK) M M1 → cSt M1 false T L R.1 → pw d 7 (7, [some (.ref 0), none, none], [.int 0], M1) Q := by
    intro M1 f ef g1 t1
    have hS1 := t1.1.1
    rw [ef] at t1
    obtain ⟨xx, -, ⟨-, f1, f2, -⟩⟩ := id t1
    refine pw_blk (mi := mz_7) (b := bz_7_7) rfl rfl ?_
    simp only [bz_7_7, pz_cut_t, pz_cut_f, pz_cut_n, pv_gt, pv_ts, pv_tn, ev_ist1n, ev_ist1i, ev_ist1r, ev_ist1e, ev_ist1l, ev_ald0, ev_eld0, ev_gf0_2, ev_ic0, ev_pf10_0, ev_ild1, ev_ifne, pz_wi_gc, pz_wi_ga, pz_wi_gn, pz_wi_gl, pz_wi_gr, pz_wi_same, pz_wi_X, pz_wl_gc, pz_wl_ga, pz_wl_gn, pz_wl_gi, pz_wl_gr, pz_wl_same, pz_wl_X, pz_wr_gc, pz_wr_ga, pz_wr_gn, pz_wr_gi, pz_wr_gl, pz_wr_same, pz_wr_X, so_0 hS1, sr_0_0 hS1, so_1 hS1]
    (try simp (disch := omega) only [nI_clamp, pz_in_nI2, pz_in_nI2L, pv_gt, nI_add, nI_addL, nI_Ladd, pk_mul, nI_mulL, nI_Lmul, pk_sub, nI_subL, nI_Lsub, nI_inc, nI_clampL, Nat.add_sub_cancel, pz_wi_else, pz_wl_else, vu_eq, vu_ne, pz_wi_gc, pz_wi_ga, pz_wi_gn, pz_wi_gl, pz_wi_gr, pz_wi_same, pz_wi_X, pz_wl_gc, pz_wl_ga, pz_wl_gn, pz_wl_gi, pz_wl_gr, pz_wl_same, pz_wl_X, pz_wr_gc, pz_wr_ga, pz_wr_gn, pz_wr_gi, pz_wr_gl, pz_wr_same, pz_wr_X, so_0 hS1, sr_0_0 hS1, so_1 hS1])
    refine po_brP (fun q7 => ?_) (fun q7 => ?_)
    · first
      | exact absurd q7 (by decide)
      | exact absurd trivial q7
      | exact q7.elim
      | (exfalso; (try simp (disch := omega) only [nI_ltI, nI_leI, nI_eq, nI_ltL, nI_leL, nI_eqL, nI_Llt, nI_Lle, nI_Leq, nI_eqm, nI_meq, nI_ltm, nI_lem, nI_mlt, nI_mle, lg0, lgl, lgg, lgle, lgge, Int32.not_lt, Int32.not_le, Int64.not_lt, Int64.not_le, not_false_eq_true, not_true_eq_false, Decidable.not_not, ge_iff_le, gt_iff_lt] at q7) <;> omega)
      | exact absurd q7 (by with_reducible assumption)
      | exact absurd (by with_reducible assumption) q7
      | exact absurd (Decidable.not_not.mp q7) (by with_reducible assumption)
      | exact absurd (by with_reducible assumption) (Int32.not_le.mpr q7)
      | exact absurd (by with_reducible assumption) (Int32.not_lt.mpr q7)
    · skip
      (try simp (disch := omega) only [nI_ltI, nI_leI, nI_eq, nI_ltL, nI_leL, nI_eqL, nI_Llt, nI_Lle, nI_Leq, nI_eqm, nI_meq, nI_ltm, nI_lem, nI_mlt, nI_mle, lg0, lgl, lgg, lgle, lgge, Int32.not_lt, Int32.not_le, Int64.not_lt, Int64.not_le, not_false_eq_true, not_true_eq_false, Decidable.not_not, ge_iff_le, gt_iff_lt] at q7)
      refine pw_blk (mi := mz_7) (b := bz_7_20) rfl rfl ?_
      simp only [bz_7_20, pz_cut_t, pz_cut_f, pz_cut_n, pv_gt, pv_ts, pv_tn, ev_icm1, ev_iret0, pz_wi_gc, pz_wi_ga, pz_wi_gn, pz_wi_gl, pz_wi_gr, pz_wi_same, pz_wi_X, pz_wl_gc, pz_wl_ga, pz_wl_gn, pz_wl_gi, pz_wl_gr, pz_wl_same, pz_wl_X, pz_wr_gc, pz_wr_ga, pz_wr_gn, pz_wr_gi, pz_wr_gl, pz_wr_same, pz_wr_X, so_0 hS1, sr_0_0 hS1, so_1 hS1]
      (try simp (disch := omega) only [nI_clamp, pz_in_nI2, pz_in_nI2L, pv_gt, nI_add, nI_addL, nI_Ladd, pk_mul, nI_mulL, nI_Lmul, pk_sub, nI_subL, nI_Lsub, nI_inc, nI_clampL, Nat.add_sub_cancel, pz_wi_else, pz_wl_else, vu_eq, vu_ne, pz_wi_gc, pz_wi_ga, pz_wi_gn, pz_wi_gl, pz_wi_gr, pz_wi_same, pz_wi_X, pz_wl_gc, pz_wl_ga, pz_wl_gn, pz_wl_gi, pz_wl_gr, pz_wl_same, pz_wl_X, pz_wr_gc, pz_wr_ga, pz_wr_gn, pz_wr_gi, pz_wr_gl, pz_wr_same, pz_wr_X, so_0 hS1, sr_0_0 hS1, so_1 hS1])
      refine po_then (fun M2 hM2 => ?_)
      have s2 : sm [1] M1 M2 := by rw [hM2]; exact sm.wi sm.rf (by decide)
      have e2 : gi M2 1 = va_up (gi M1 1) 2 0 := by rw [hM2, pz_wi_same]
      refine k0 f ef ⟨M1, xx⟩ M2 (g1.tr (s2.sg hS1) (by decide)) ?_ ?_ ?_
      · rw [e2, vu_eq]
      · rw [e2, vu_ne (by decide)]; exact f1
      · rw [e2, vu_ne (by decide)]; exact f2
  have good : ∀ M1 t, R.1 = .inr t → sg (1 :: scK) M M1 → cSt M1 false T L R.1 → csc M1 R.2 → okS R.2 → pw d 7 (7, [some (.ref 0), none, none], [.int 1], M1) Q := by
    intro M1 t ef g1 t1 x1 o1
    have hS1 := t1.1.1
    rw [ef] at t1
    obtain ⟨xx, -, ⟨⟨-, -, f1, f2⟩, -⟩⟩ := id t1
    have kk := k1 t ef ⟨M1, xx⟩ o1
    generalize R.2 = c at x1 o1 kk
    obtain ⟨Ma, hMa⟩ : ∃ Ma, Ma = pz_wi M1 1 (va_up (gi M1 1) 2 0) := ⟨_, rfl⟩
    have sa : sm [1] M1 Ma := by rw [hMa]; exact sm.wi sm.rf (by decide)
    have ea : gi Ma 1 = va_up (gi M1 1) 2 0 := by rw [hMa, pz_wi_same]
    have hSa := hS1.sm sa
    have xa : csc Ma c := x1.fr ((sa.sg hS1).ag (by decide))
    have ga : sg pcK M Ma := (g1.mono (by decide)).tr (sa.sg hS1) (by decide)
    have hB := o1.1.1
    have lt01 : gi Ma 19 18 = 0 ∨ gi Ma 19 18 = 1 := by rw [xa.1.2.2.2.2.2.2]; exact bI_01 _
    have fin : ∀ M5, sg pcK M M5 → pcN M M5 c → pw d 7 (87, [some (.ref 0), none, some (.int (nI 3))], [], M5) Q := by
      intro M5 g5 n5
      have hS5 := g5.S
      have e0 : gi M5 4 0 = nI c.B := n5.2.1.1.1
      refine pw_blk (mi := mz_7) (b := bz_7_87) rfl rfl ?_
      simp only [bz_7_87, pz_cut_t, pz_cut_f, pz_cut_n, pv_gt, pv_ts, pv_tn, ev_ild2, ev_ic3, ev_ic_ge, pz_wi_gc, pz_wi_ga, pz_wi_gn, pz_wi_gl, pz_wi_gr, pz_wi_same, pz_wi_X, pz_wl_gc, pz_wl_ga, pz_wl_gn, pz_wl_gi, pz_wl_gr, pz_wl_same, pz_wl_X, pz_wr_gc, pz_wr_ga, pz_wr_gn, pz_wr_gi, pz_wr_gl, pz_wr_same, pz_wr_X, e0]
      (try simp (disch := omega) only [nI_clamp, pz_in_nI2, pz_in_nI2L, pv_gt, nI_add, nI_addL, nI_Ladd, pk_mul, nI_mulL, nI_Lmul, pk_sub, nI_subL, nI_Lsub, nI_inc, nI_clampL, Nat.add_sub_cancel, pz_wi_else, pz_wl_else, vu_eq, vu_ne, pz_wi_gc, pz_wi_ga, pz_wi_gn, pz_wi_gl, pz_wi_gr, pz_wi_same, pz_wi_X, pz_wl_gc, pz_wl_ga, pz_wl_gn, pz_wl_gi, pz_wl_gr, pz_wl_same, pz_wl_X, pz_wr_gc, pz_wr_ga, pz_wr_gn, pz_wr_gi, pz_wr_gl, pz_wr_same, pz_wr_X, e0])
      refine po_brP (fun q87 => ?_) (fun q87 => ?_)
      · skip
        (try simp (disch := omega) only [nI_ltI, nI_leI, nI_eq, nI_ltL, nI_leL, nI_eqL, nI_Llt, nI_Lle, nI_Leq, nI_eqm, nI_meq, nI_ltm, nI_lem, nI_mlt, nI_mle, lg0, lgl, lgg, lgle, lgge, Int32.not_lt, Int32.not_le, Int64.not_lt, Int64.not_le, not_false_eq_true, not_true_eq_false, Decidable.not_not, ge_iff_le, gt_iff_lt] at q87)
        refine pw_blk (mi := mz_7) (b := bz_7_108) rfl rfl ?_
        simp only [bz_7_108, pz_cut_t, pz_cut_f, pz_cut_n, pv_gt, pv_ts, pv_tn, ev_ald0, ev_eld0, ev_gf0_2, ev_gf8_0, ev_iret0, pz_wi_gc, pz_wi_ga, pz_wi_gn, pz_wi_gl, pz_wi_gr, pz_wi_same, pz_wi_X, pz_wl_gc, pz_wl_ga, pz_wl_gn, pz_wl_gi, pz_wl_gr, pz_wl_same, pz_wl_X, pz_wr_gc, pz_wr_ga, pz_wr_gn, pz_wr_gi, pz_wr_gl, pz_wr_same, pz_wr_X, so_0 hS5, sr_0_1 hS5, so_4 hS5, e0]
        (try simp (disch := omega) only [nI_clamp, pz_in_nI2, pz_in_nI2L, pv_gt, nI_add, nI_addL, nI_Ladd, pk_mul, nI_mulL, nI_Lmul, pk_sub, nI_subL, nI_Lsub, nI_inc, nI_clampL, Nat.add_sub_cancel, pz_wi_else, pz_wl_else, vu_eq, vu_ne, pz_wi_gc, pz_wi_ga, pz_wi_gn, pz_wi_gl, pz_wi_gr, pz_wi_same, pz_wi_X, pz_wl_gc, pz_wl_ga, pz_wl_gn, pz_wl_gi, pz_wl_gr, pz_wl_same, pz_wl_X, pz_wr_gc, pz_wr_ga, pz_wr_gn, pz_wr_gi, pz_wr_gl, pz_wr_same, pz_wr_X, e0])
        exact po_ret (kk M5 g5 n5)
      · first
        | exact absurd q87 (by decide)
        | exact absurd trivial q87
        | exact q87.elim
        | (exfalso; (try simp (disch := omega) only [nI_ltI, nI_leI, nI_eq, nI_ltL, nI_leL, nI_eqL, nI_Llt, nI_Lle, nI_Leq, nI_eqm, nI_meq, nI_ltm, nI_lem, nI_mlt, nI_mle, lg0, lgl, lgg, lgle, lgge, Int32.not_lt, Int32.not_le, Int64.not_lt, Int64.not_le, not_false_eq_true, not_true_eq_false, Decidable.not_not, ge_iff_le, gt_iff_lt] at q87) <;> omega)
        | exact absurd q87 (by with_reducible assumption)
        | exact absurd (by with_reducible assumption) q87
        | exact absurd (Decidable.not_not.mp q87) (by with_reducible assumption)
        | exact absurd (by with_reducible assumption) (Int32.not_le.mpr q87)
        | exact absurd (by with_reducible assumption) (Int32.not_lt.mpr q87)
    have rest : ∀ M2 M3 M4, sm s4K Ma M2 → cs4 M2 c → sm [33, 34, 35, 36, 37] M2 M3 → gi M3 34 = rowC 0 24 (gi M2 34) → gi M3 35 = rowC 0 24 (gi M2 35) → gi M3 36 = rowC 0 24 (gi M2 36) → gi M3 37 = rowC (-1) 24 (gi M2 37) → gi M3 33 = va_up (va_up (va_up (gi M2 33) 4 (nI c.D)) 5 (nI c.E)) 6 0 → sm [40, 41, 42] M3 M4 → RFl M4 c.B → pw d 7 (54, [some (.ref 0), none, none], [], M4) Q := by
      intro M2 M3 M4 s2 c2 s3 r34 r35 r36 r37 r33 s4 fl
      have hS2 := hSa.sm s2
      have hS3 := hS2.sm s3
      have hS4 := hS3.sm s4
      obtain ⟨Mb, hMb⟩ : ∃ Mb, Mb = pz_wi (pz_wi (pz_wi M4 50 (va_up (gi M4 50) 4 0)) 81 (va_up (gi M4 81) 5 0)) 87 (va_up (gi M4 87) 5 0) := ⟨_, rfl⟩
      have sb : sm [50, 81, 87] M4 Mb := by rw [hMb]; exact sm.wi (sm.wi (sm.wi sm.rf (by decide)) (by decide)) (by decide)
      have hSb := hS4.sm sb
      have b50 : gi Mb 50 = va_up (gi M4 50) 4 0 := by rw [hMb]; simp (disch := decide) only [pz_wi_else, pz_wi_same]
      have b81 : gi Mb 81 = va_up (gi M4 81) 5 0 := by rw [hMb]; simp (disch := decide) only [pz_wi_else, pz_wi_same]
      have b87 : gi Mb 87 = va_up (gi M4 87) 5 0 := by rw [hMb]; simp (disch := decide) only [pz_wi_else, pz_wi_same]
      have go : ∀ M5, sm [93] Mb M5 → gi M5 93 = va_up (va_up (va_up (gi Mb 93) 0 0) 1 0) 2 0 → pw d 7 (87, [some (.ref 0), none, some (.int (nI 0))], [], M5) Q := by
        intro M5 s5 e5
        have hS5 := hSb.sm s5
        refine l_box hS5 (by decide) (sr_38_0 hS5) (so_105 hS5) (fun M6 s6 e6 => ?_)
        have hS6 := hS5.sm s6
        refine l_box hS6 (by decide) (sr_38_1 hS6) (so_110 hS6) (fun M7 s7 e7 => ?_)
        have hS7 := hS6.sm s7
        refine l_box hS7 (by decide) (sr_38_2 hS7) (so_115 hS7) (fun M8 s8 e8 => ?_)
        have g8 : sm [50, 81, 87, 93, 105, 110, 115] M4 M8 := ((((sb.mono (by decide)).tr s5 (by decide)).tr s6 (by decide)).tr s7 (by decide)).tr s8 (by decide)
        have g5 : sm [93, 105, 110, 115] Mb M8 := (((s5.mono (by decide)).tr s6 (by decide)).tr s7 (by decide)).tr s8 (by decide)
        have g68 : sm [105, 110, 115] M5 M8 := ((s6.mono (by decide)).tr s7 (by decide)).tr s8 (by decide)
        refine fin M8 ((((ga.tr (s2.sg hSa) (by decide)).tr (s3.sg hS2) (by decide)).tr (s4.sg hS3) (by decide)).tr (g8.sg hS4) (by decide)) ⟨⟨?_, ?_, ?_⟩, ?_, ⟨?_, ?_, ?_, ?_⟩, ⟨?_, ?_, ?_, ?_⟩, ?_, ⟨?_, ?_, ?_, ?_, ?_⟩, ?_, ?_, ?_⟩
        · rw [g8.i (by decide), s4.i (by decide), s3.i (by decide), s2.i (by decide), ea, vu_eq]
        · rw [g8.i (by decide), s4.i (by decide), s3.i (by decide), s2.i (by decide), ea, vu_ne (by decide)]; exact f1
        · rw [g8.i (by decide), s4.i (by decide), s3.i (by decide), s2.i (by decide), ea, vu_ne (by decide)]; exact f2
        · exact ((c2.fr ((s3.sg hS2).ag (by decide))).fr ((s4.sg hS3).ag (by decide))).fr ((g8.sg hS4).ag (by decide))
        · rw [g8.i (by decide), s4.i (by decide), r34, s2.i (by decide), sa.i (by decide), g1.i (by decide)]
        · rw [g8.i (by decide), s4.i (by decide), r35, s2.i (by decide), sa.i (by decide), g1.i (by decide)]
        · rw [g8.i (by decide), s4.i (by decide), r36, s2.i (by decide), sa.i (by decide), g1.i (by decide)]
        · rw [g8.i (by decide), s4.i (by decide), r37, s2.i (by decide), sa.i (by decide), g1.i (by decide)]
        · rw [g8.i (by decide), s4.i (by decide), r33, vu_ne (by decide), vu_ne (by decide), vu_eq]
        · rw [g8.i (by decide), s4.i (by decide), r33, vu_ne (by decide), vu_eq]
        · rw [g8.i (by decide), s4.i (by decide), r33, vu_eq]
        · rw [g8.i (by decide), s4.i (by decide), r33, vu_ne (by decide), vu_ne (by decide), vu_ne (by decide), s2.i (by decide), sa.i (by decide), g1.i (by decide)]
        · exact fl.fr ((g8.sg hS4).ag (by decide))
        · rw [g5.i (by decide), b50, vu_eq]
        · rw [g5.i (by decide), b81, vu_eq]
        · rw [g5.i (by decide), b87, vu_eq]
        · rw [g68.i (by decide), e5, vu_ne (by decide), vu_ne (by decide), vu_eq]
        · rw [g68.i (by decide), e5, vu_ne (by decide), vu_eq]
        · rw [s8.i (by decide), s7.i (by decide), e6, vu_eq]
        · rw [s8.i (by decide), e7, vu_eq]
        · rw [e8, vu_eq]
      refine pw_blk (mi := mz_7) (b := bz_7_54) rfl rfl ?_
      simp only [bz_7_54, pz_cut_t, pz_cut_f, pz_cut_n, pv_gt, pv_ts, pv_tn, ev_ald0, ev_eld0, ev_gf0_2, ev_ic0, ev_pf5_3, ev_pf2_0, ev_cv0_6, pz_wi_gc, pz_wi_ga, pz_wi_gn, pz_wi_gl, pz_wi_gr, pz_wi_same, pz_wi_X, pz_wl_gc, pz_wl_ga, pz_wl_gn, pz_wl_gi, pz_wl_gr, pz_wl_same, pz_wl_X, pz_wr_gc, pz_wr_ga, pz_wr_gn, pz_wr_gi, pz_wr_gl, pz_wr_same, pz_wr_X, so_0 hS4, sr_0_6 hS4, so_50 hS4, sr_0_8 hS4, so_81 hS4, sr_0_9 hS4, so_87 hS4, sr_0_10 hS4, so_93 hS4]
      (try simp (disch := omega) only [nI_clamp, pz_in_nI2, pz_in_nI2L, pv_gt, nI_add, nI_addL, nI_Ladd, pk_mul, nI_mulL, nI_Lmul, pk_sub, nI_subL, nI_Lsub, nI_inc, nI_clampL, Nat.add_sub_cancel, pz_wi_else, pz_wl_else, vu_eq, vu_ne, pz_wi_gc, pz_wi_ga, pz_wi_gn, pz_wi_gl, pz_wi_gr, pz_wi_same, pz_wi_X, pz_wl_gc, pz_wl_ga, pz_wl_gn, pz_wl_gi, pz_wl_gr, pz_wl_same, pz_wl_X, pz_wr_gc, pz_wr_ga, pz_wr_gn, pz_wr_gi, pz_wr_gl, pz_wr_same, pz_wr_X, so_0 hS4, sr_0_6 hS4, so_50 hS4, sr_0_8 hS4, so_81 hS4, sr_0_9 hS4, so_87 hS4, sr_0_10 hS4, so_93 hS4])
      (try refine po_gP (by first | decide | assumption) ?_)
      (try refine po_gP (Nat.le_of_ble_eq_true rfl) ?_)
      rw [← hMb]
      refine po_call (by omega) (m_rulesEmpty (so_93 hSb) (fun M5 s5 e5 => ?_))
      refine pw_blk (mi := mz_7) (b := bz_7_85) rfl rfl ?_
      simp only [bz_7_85, pz_cut_t, pz_cut_f, pz_cut_n, pv_gt, pv_ts, pv_tn, ev_ic0, ev_ist2n, ev_ist2i, ev_ist2r, ev_ist2e, ev_ist2l, ev_nil, pz_wi_gc, pz_wi_ga, pz_wi_gn, pz_wi_gl, pz_wi_gr, pz_wi_same, pz_wi_X, pz_wl_gc, pz_wl_ga, pz_wl_gn, pz_wl_gi, pz_wl_gr, pz_wl_same, pz_wl_X, pz_wr_gc, pz_wr_ga, pz_wr_gn, pz_wr_gi, pz_wr_gl, pz_wr_same, pz_wr_X, so_0 hS4, sr_0_6 hS4, so_50 hS4, sr_0_8 hS4, so_81 hS4, sr_0_9 hS4, so_87 hS4, sr_0_10 hS4, so_93 hS4]
      (try simp (disch := omega) only [nI_clamp, pz_in_nI2, pz_in_nI2L, pv_gt, nI_add, nI_addL, nI_Ladd, pk_mul, nI_mulL, nI_Lmul, pk_sub, nI_subL, nI_Lsub, nI_inc, nI_clampL, Nat.add_sub_cancel, pz_wi_else, pz_wl_else, vu_eq, vu_ne, pz_wi_gc, pz_wi_ga, pz_wi_gn, pz_wi_gl, pz_wi_gr, pz_wi_same, pz_wi_X, pz_wl_gc, pz_wl_ga, pz_wl_gn, pz_wl_gi, pz_wl_gr, pz_wl_same, pz_wl_X, pz_wr_gc, pz_wr_ga, pz_wr_gn, pz_wr_gi, pz_wr_gl, pz_wr_same, pz_wr_X, so_0 hS4, sr_0_6 hS4, so_50 hS4, sr_0_8 hS4, so_81 hS4, sr_0_9 hS4, so_87 hS4, sr_0_10 hS4, so_93 hS4])
      refine po_go ?_
      exact pw_cut (mi := mz_7) (b := bz_7_87) rfl rfl (go M5 s5 e5) rfl
    refine pw_blk (mi := mz_7) (b := bz_7_7) rfl rfl ?_
    simp only [bz_7_7, pz_cut_t, pz_cut_f, pz_cut_n, pv_gt, pv_ts, pv_tn, ev_ist1n, ev_ist1i, ev_ist1r, ev_ist1e, ev_ist1l, ev_ald0, ev_eld0, ev_gf0_2, ev_ic0, ev_pf10_0, ev_ild1, ev_ifne, pz_wi_gc, pz_wi_ga, pz_wi_gn, pz_wi_gl, pz_wi_gr, pz_wi_same, pz_wi_X, pz_wl_gc, pz_wl_ga, pz_wl_gn, pz_wl_gi, pz_wl_gr, pz_wl_same, pz_wl_X, pz_wr_gc, pz_wr_ga, pz_wr_gn, pz_wr_gi, pz_wr_gl, pz_wr_same, pz_wr_X, so_0 hS1, sr_0_0 hS1, so_1 hS1]
    (try simp (disch := omega) only [nI_clamp, pz_in_nI2, pz_in_nI2L, pv_gt, nI_add, nI_addL, nI_Ladd, pk_mul, nI_mulL, nI_Lmul, pk_sub, nI_subL, nI_Lsub, nI_inc, nI_clampL, Nat.add_sub_cancel, pz_wi_else, pz_wl_else, vu_eq, vu_ne, pz_wi_gc, pz_wi_ga, pz_wi_gn, pz_wi_gl, pz_wi_gr, pz_wi_same, pz_wi_X, pz_wl_gc, pz_wl_ga, pz_wl_gn, pz_wl_gi, pz_wl_gr, pz_wl_same, pz_wl_X, pz_wr_gc, pz_wr_ga, pz_wr_gn, pz_wr_gi, pz_wr_gl, pz_wr_same, pz_wr_X, so_0 hS1, sr_0_0 hS1, so_1 hS1])
    refine po_brP (fun q7 => ?_) (fun q7 => ?_)
    · skip
      (try simp (disch := omega) only [nI_ltI, nI_leI, nI_eq, nI_ltL, nI_leL, nI_eqL, nI_Llt, nI_Lle, nI_Leq, nI_eqm, nI_meq, nI_ltm, nI_lem, nI_mlt, nI_mle, lg0, lgl, lgg, lgle, lgge, Int32.not_lt, Int32.not_le, Int64.not_lt, Int64.not_le, not_false_eq_true, not_true_eq_false, Decidable.not_not, ge_iff_le, gt_iff_lt] at q7)
      rw [← hMa]
      refine pw_blk (mi := mz_7) (b := bz_7_22) rfl rfl ?_
      simp only [bz_7_22, pz_cut_t, pz_cut_f, pz_cut_n, pv_gt, pv_ts, pv_tn, ev_ald0, ev_eld0, ev_gf0_2, ev_gf4_2, ev_cv1_8, pz_wi_gc, pz_wi_ga, pz_wi_gn, pz_wi_gl, pz_wi_gr, pz_wi_same, pz_wi_X, pz_wl_gc, pz_wl_ga, pz_wl_gn, pz_wl_gi, pz_wl_gr, pz_wl_same, pz_wl_X, pz_wr_gc, pz_wr_ga, pz_wr_gn, pz_wr_gi, pz_wr_gl, pz_wr_same, pz_wr_X, so_0 hS1, sr_0_0 hS1, so_1 hS1, so_0 hSa, sr_0_1 hSa, so_4 hSa, sr_0_2 hSa, so_18 hSa, sr_18_1 hSa]
      (try simp (disch := omega) only [nI_clamp, pz_in_nI2, pz_in_nI2L, pv_gt, nI_add, nI_addL, nI_Ladd, pk_mul, nI_mulL, nI_Lmul, pk_sub, nI_subL, nI_Lsub, nI_inc, nI_clampL, Nat.add_sub_cancel, pz_wi_else, pz_wl_else, vu_eq, vu_ne, pz_wi_gc, pz_wi_ga, pz_wi_gn, pz_wi_gl, pz_wi_gr, pz_wi_same, pz_wi_X, pz_wl_gc, pz_wl_ga, pz_wl_gn, pz_wl_gi, pz_wl_gr, pz_wl_same, pz_wl_X, pz_wr_gc, pz_wr_ga, pz_wr_gn, pz_wr_gi, pz_wr_gl, pz_wr_same, pz_wr_X, so_0 hS1, sr_0_0 hS1, so_1 hS1, so_0 hSa, sr_0_1 hSa, so_4 hSa, sr_0_2 hSa, so_18 hSa, sr_18_1 hSa])
      (try refine po_gP (Nat.le_of_ble_eq_true rfl) ?_)
      refine po_call (by omega) (m_scoreCopy hSa o1 xa lt01 (fun M2 s2 c2 => ?_))
      have hS2 := hSa.sm s2
      refine pw_blk (mi := mz_7) (b := bz_7_36) rfl rfl ?_
      simp only [bz_7_36, pz_cut_t, pz_cut_f, pz_cut_n, pv_gt, pv_ts, pv_tn, ev_ald0, ev_eld0, ev_gf0_2, ev_cv1_3, pz_wi_gc, pz_wi_ga, pz_wi_gn, pz_wi_gl, pz_wi_gr, pz_wi_same, pz_wi_X, pz_wl_gc, pz_wl_ga, pz_wl_gn, pz_wl_gi, pz_wl_gr, pz_wl_same, pz_wl_X, pz_wr_gc, pz_wr_ga, pz_wr_gn, pz_wr_gi, pz_wr_gl, pz_wr_same, pz_wr_X, so_0 hS1, sr_0_0 hS1, so_1 hS1, so_0 hS2, sr_0_3 hS2, so_33 hS2, sr_0_1 hS2]
      (try simp (disch := omega) only [nI_clamp, pz_in_nI2, pz_in_nI2L, pv_gt, nI_add, nI_addL, nI_Ladd, pk_mul, nI_mulL, nI_Lmul, pk_sub, nI_subL, nI_Lsub, nI_inc, nI_clampL, Nat.add_sub_cancel, pz_wi_else, pz_wl_else, vu_eq, vu_ne, pz_wi_gc, pz_wi_ga, pz_wi_gn, pz_wi_gl, pz_wi_gr, pz_wi_same, pz_wi_X, pz_wl_gc, pz_wl_ga, pz_wl_gn, pz_wl_gi, pz_wl_gr, pz_wl_same, pz_wl_X, pz_wr_gc, pz_wr_ga, pz_wr_gn, pz_wr_gi, pz_wr_gl, pz_wr_same, pz_wr_X, so_0 hS1, sr_0_0 hS1, so_1 hS1, so_0 hS2, sr_0_3 hS2, so_33 hS2, sr_0_1 hS2])
      (try refine po_gP (Nat.le_of_ble_eq_true rfl) ?_)
      refine po_call (by omega) (m_mindBegin (by omega) hS2 c2.1.2.2.2.2.1 c2.1.2.2.2.2.2 (fun M3 s3 r34 r35 r36 r37 r33 => ?_))
      have hS3 := hS2.sm s3
      refine pw_blk (mi := mz_7) (b := bz_7_47) rfl rfl ?_
      simp only [bz_7_47, pz_cut_t, pz_cut_f, pz_cut_n, pv_gt, pv_ts, pv_tn, ev_ald0, ev_eld0, ev_gf0_2, ev_cv0_1, pz_wi_gc, pz_wi_ga, pz_wi_gn, pz_wi_gl, pz_wi_gr, pz_wi_same, pz_wi_X, pz_wl_gc, pz_wl_ga, pz_wl_gn, pz_wl_gi, pz_wl_gr, pz_wl_same, pz_wl_X, pz_wr_gc, pz_wr_ga, pz_wr_gn, pz_wr_gi, pz_wr_gl, pz_wr_same, pz_wr_X, so_0 hS1, sr_0_0 hS1, so_1 hS1, so_0 hS3, sr_0_5 hS3, so_39 hS3]
      (try simp (disch := omega) only [nI_clamp, pz_in_nI2, pz_in_nI2L, pv_gt, nI_add, nI_addL, nI_Ladd, pk_mul, nI_mulL, nI_Lmul, pk_sub, nI_subL, nI_Lsub, nI_inc, nI_clampL, Nat.add_sub_cancel, pz_wi_else, pz_wl_else, vu_eq, vu_ne, pz_wi_gc, pz_wi_ga, pz_wi_gn, pz_wi_gl, pz_wi_gr, pz_wi_same, pz_wi_X, pz_wl_gc, pz_wl_ga, pz_wl_gn, pz_wl_gi, pz_wl_gr, pz_wl_same, pz_wl_X, pz_wr_gc, pz_wr_ga, pz_wr_gn, pz_wr_gi, pz_wr_gl, pz_wr_same, pz_wr_X, so_0 hS1, sr_0_0 hS1, so_1 hS1, so_0 hS3, sr_0_5 hS3, so_39 hS3])
      (try refine po_gP (Nat.le_of_ble_eq_true rfl) ?_)
      refine po_call (by omega) (m_flowBegin (by omega) hS3 hB (by rw [s3.i (by decide)]; exact c2.1.1) (fun M4 s4 fl => ?_))
      exact pw_cut (mi := mz_7) (b := bz_7_54) rfl rfl (rest M2 M3 M4 s2 c2 s3 r34 r35 r36 r37 r33 s4 fl) rfl
    · first
      | exact absurd q7 (by decide)
      | exact absurd trivial q7
      | exact q7.elim
      | (exfalso; (try simp (disch := omega) only [nI_ltI, nI_leI, nI_eq, nI_ltL, nI_leL, nI_eqL, nI_Llt, nI_Lle, nI_Leq, nI_eqm, nI_meq, nI_ltm, nI_lem, nI_mlt, nI_mle, lg0, lgl, lgg, lgle, lgge, Int32.not_lt, Int32.not_le, Int64.not_lt, Int64.not_le, not_false_eq_true, not_true_eq_false, Decidable.not_not, ge_iff_le, gt_iff_lt] at q7) <;> omega)
      | exact absurd q7 (by with_reducible assumption)
      | exact absurd (by with_reducible assumption) q7
      | exact absurd (Decidable.not_not.mp q7) (by with_reducible assumption)
      | exact absurd (by with_reducible assumption) (Int32.not_le.mpr q7)
      | exact absurd (by with_reducible assumption) (Int32.not_lt.mpr q7)
  refine pm_ent (L := [some (.ref 0), none, none]) rfl (Nat.le_of_ble_eq_true rfl) ?_
  refine pw_blk (mi := mz_7) (b := bz_7_0) rfl rfl ?_
  simp only [bz_7_0, pz_cut_t, pz_cut_f, pz_cut_n, pv_gt, pv_ts, pv_tn, ev_ald0, ev_eld0, ev_gf0_2, ev_cv0_4, pz_wi_gc, pz_wi_ga, pz_wi_gn, pz_wi_gl, pz_wi_gr, pz_wi_same, pz_wi_X, pz_wl_gc, pz_wl_ga, pz_wl_gn, pz_wl_gi, pz_wl_gr, pz_wl_same, pz_wl_X, pz_wr_gc, pz_wr_ga, pz_wr_gn, pz_wr_gi, pz_wr_gl, pz_wr_same, pz_wr_X, so_0 hS, sr_0_2 hS, so_18 hS]
  (try simp (disch := omega) only [nI_clamp, pz_in_nI2, pz_in_nI2L, pv_gt, nI_add, nI_addL, nI_Ladd, pk_mul, nI_mulL, nI_Lmul, pk_sub, nI_subL, nI_Lsub, nI_inc, nI_clampL, Nat.add_sub_cancel, pz_wi_else, pz_wl_else, vu_eq, vu_ne, pz_wi_gc, pz_wi_ga, pz_wi_gn, pz_wi_gl, pz_wi_gr, pz_wi_same, pz_wi_X, pz_wl_gc, pz_wl_ga, pz_wl_gn, pz_wl_gi, pz_wl_gr, pz_wl_same, pz_wl_X, pz_wr_gc, pz_wr_ga, pz_wr_gn, pz_wr_gi, pz_wr_gl, pz_wr_same, pz_wr_X])
  (try refine po_gP (Nat.le_of_ble_eq_true rfl) ?_)
  refine po_call (by omega) (m_readAll (by omega) hS eL hL hb hw (fun M1 g1 e1 t1 h1 => ?_))
  rw [← hR] at t1 h1 ⊢
  cases ef : R.1 with
  | inl f =>
    rw [show isG (.inl f : Sg) = false from rfl, bI_f]
    exact bad M1 f ef g1 t1
  | inr t =>
    rw [ef] at h1
    obtain ⟨x1, o1⟩ := h1 rfl
    rw [show isG (.inr t : Sg) = true from rfl, bI_t]
    exact good M1 t ef g1 t1 x1 o1
end PCM
