/-! ===== the class's reader: names, numbers, heaps ===== -/
section RD
variable {d : Nat} {M M' : pz_M} {Q : Option Value × pz_M → Prop} {ru : Bool} {T : Nat → Nat} {L : Nat}
/-- the first from i on, of c -/
def fi (p : Nat → Bool) : Nat → Nat → Nat
  | 0, i => i
  | c + 1, i => if p i = true then i else fi p c (i + 1)
theorem fi_b {p : Nat → Bool} : ∀ c i, i ≤ fi p c i ∧ fi p c i ≤ i + c ∧ (fi p c i < i + c → p (fi p c i) = true)
  | 0, i => ⟨Nat.le_refl _, Nat.le_refl _, fun h => absurd h (by show ¬ i < i + 0; omega)⟩
  | c + 1, i => by
    unfold fi
    by_cases h : p i = true
    · rw [if_pos h]
      exact ⟨Nat.le_refl _, by omega, fun _ => h⟩
    · rw [if_neg h]
      obtain ⟨a, b, e⟩ := fi_b (p := p) c (i + 1)
      exact ⟨by omega, by omega, fun q => e (by omega)⟩
def fnd (nm : Nat → List Nat) (w : List Nat) (n : Nat) : Nat := fi (fun k => decide (nm k = w)) n 0
theorem fnd_le {nm : Nat → List Nat} {w : List Nat} {n : Nat} : fnd nm w n ≤ n := by
  have := (fi_b (p := fun k => decide (nm k = w)) n 0).2.1
  unfold fnd
  omega
def fdI (nm : Nat → List Nat) (w : List Nat) (n : Nat) : Int32 := if fnd nm w n < n then nI (fnd nm w n) else -1
theorem m_placeOf {k n len : Nat} {nm : Nat → List Nat} {w : List Nat} (ha : ga M k = some 1) (hl : gn M k = len) (hn : n ≤ len) (hl2 : len < 100) (hw : isWd w) (hm : ∀ i, i < n → gl M k i = p5 (nm i) ∧ isWd (nm i)) (h : Q (some (.int (fdI nm w n)), M)) : pm d 268 [.long (p5 w), .ref k, .int (nI n)] M Q := by
  have el : Int32.ofNat len = nI len := rfl
  have key : ∀ c i, i + c = n → fnd nm w n = fi (fun k => decide (nm k = w)) c i → pw d 268 (3, [some (.long (p5 w)), none, some (.ref k), some (.int (nI n)), some (.int (nI i))], [], M) Q := by
    intro c
    induction c with
    | zero =>
      intro i hi e
      have ee : fnd nm w n = n := by rw [e]; show i = n; omega
      have ev : fdI nm w n = -1 := by unfold fdI; rw [if_neg (by omega)]
      rw [ev] at h
      refine pw_blk (mi := mz_268) (b := bz_268_3) rfl rfl ?_
      simp only [bz_268_3, pz_cut_t, pz_cut_f, pz_cut_n, pv_gt, pv_ts, pv_tn, ev_ild4, ev_ild3, ev_ic_ge, pz_wi_gc, pz_wi_ga, pz_wi_gn, pz_wi_gl, pz_wi_gr, pz_wi_same, pz_wi_X, pz_wl_gc, pz_wl_ga, pz_wl_gn, pz_wl_gi, pz_wl_gr, pz_wl_same, pz_wl_X, pz_wr_gc, pz_wr_ga, pz_wr_gn, pz_wr_gi, pz_wr_gl, pz_wr_same, pz_wr_X]
      (try simp (disch := omega) only [nI_clamp, pz_in_nI2, pz_in_nI2L, pv_gt, nI_add, nI_addL, nI_Ladd, pk_mul, nI_mulL, nI_Lmul, pk_sub, nI_subL, nI_Lsub, nI_inc, nI_clampL, Nat.add_sub_cancel, pz_wi_else, pz_wl_else, vu_eq, vu_ne, pz_wi_gc, pz_wi_ga, pz_wi_gn, pz_wi_gl, pz_wi_gr, pz_wi_same, pz_wi_X, pz_wl_gc, pz_wl_ga, pz_wl_gn, pz_wl_gi, pz_wl_gr, pz_wl_same, pz_wl_X, pz_wr_gc, pz_wr_ga, pz_wr_gn, pz_wr_gi, pz_wr_gl, pz_wr_same, pz_wr_X])
      refine po_brP (fun q3 => ?_) (fun q3 => ?_)
      · skip
        (try simp (disch := omega) only [nI_ltI, nI_leI, nI_eq, nI_ltL, nI_leL, nI_eqL, nI_Llt, nI_Lle, nI_Leq, nI_eqm, nI_meq, nI_ltm, nI_lem, nI_mlt, nI_mle, lg0, lgl, lgg, lgle, lgge, Int32.not_lt, Int32.not_le, Int64.not_lt, Int64.not_le, not_false_eq_true, not_true_eq_false, Decidable.not_not, ge_iff_le, gt_iff_lt] at q3)
        refine pw_blk (mi := mz_268) (b := bz_268_34) rfl rfl ?_
        simp only [bz_268_34, pz_cut_t, pz_cut_f, pz_cut_n, pv_gt, pv_ts, pv_tn, ev_icm1, ev_iret0, pz_wi_gc, pz_wi_ga, pz_wi_gn, pz_wi_gl, pz_wi_gr, pz_wi_same, pz_wi_X, pz_wl_gc, pz_wl_ga, pz_wl_gn, pz_wl_gi, pz_wl_gr, pz_wl_same, pz_wl_X, pz_wr_gc, pz_wr_ga, pz_wr_gn, pz_wr_gi, pz_wr_gl, pz_wr_same, pz_wr_X]
        (try simp (disch := omega) only [nI_clamp, pz_in_nI2, pz_in_nI2L, pv_gt, nI_add, nI_addL, nI_Ladd, pk_mul, nI_mulL, nI_Lmul, pk_sub, nI_subL, nI_Lsub, nI_inc, nI_clampL, Nat.add_sub_cancel, pz_wi_else, pz_wl_else, vu_eq, vu_ne, pz_wi_gc, pz_wi_ga, pz_wi_gn, pz_wi_gl, pz_wi_gr, pz_wi_same, pz_wi_X, pz_wl_gc, pz_wl_ga, pz_wl_gn, pz_wl_gi, pz_wl_gr, pz_wl_same, pz_wl_X, pz_wr_gc, pz_wr_ga, pz_wr_gn, pz_wr_gi, pz_wr_gl, pz_wr_same, pz_wr_X])
        exact po_ret h
      · first
        | exact absurd q3 (by decide)
        | exact absurd trivial q3
        | exact q3.elim
        | (exfalso; (try simp (disch := omega) only [nI_ltI, nI_leI, nI_eq, nI_ltL, nI_leL, nI_eqL, nI_Llt, nI_Lle, nI_Leq, nI_eqm, nI_meq, nI_ltm, nI_lem, nI_mlt, nI_mle, lg0, lgl, lgg, lgle, lgge, Int32.not_lt, Int32.not_le, Int64.not_lt, Int64.not_le, not_false_eq_true, not_true_eq_false, Decidable.not_not, ge_iff_le, gt_iff_lt] at q3) <;> omega)
        | exact absurd q3 (by with_reducible assumption)
        | exact absurd (by with_reducible assumption) q3
        | exact absurd (Decidable.not_not.mp q3) (by with_reducible assumption)
        | exact absurd (by with_reducible assumption) (Int32.not_le.mpr q3)
        | exact absurd (by with_reducible assumption) (Int32.not_lt.mpr q3)
    | succ c ih =>
      intro i hi e
      obtain ⟨g1, g2⟩ := hm i (by omega)
      by_cases q : nm i = w
      · have ee : fnd nm w n = i := by rw [e, fi, if_pos (decide_eq_true q)]
        have ev : fdI nm w n = nI i := by unfold fdI; rw [ee, if_pos (by omega)]
        rw [ev] at h
        rw [q] at g1
        refine pw_blk (mi := mz_268) (b := bz_268_3) rfl rfl ?_
        simp only [bz_268_3, pz_cut_t, pz_cut_f, pz_cut_n, pv_gt, pv_ts, pv_tn, ev_ild4, ev_ild3, ev_ic_ge, pz_wi_gc, pz_wi_ga, pz_wi_gn, pz_wi_gl, pz_wi_gr, pz_wi_same, pz_wi_X, pz_wl_gc, pz_wl_ga, pz_wl_gn, pz_wl_gi, pz_wl_gr, pz_wl_same, pz_wl_X, pz_wr_gc, pz_wr_ga, pz_wr_gn, pz_wr_gi, pz_wr_gl, pz_wr_same, pz_wr_X, ha, hl, el, g1]
        (try simp (disch := omega) only [nI_clamp, pz_in_nI2, pz_in_nI2L, pv_gt, nI_add, nI_addL, nI_Ladd, pk_mul, nI_mulL, nI_Lmul, pk_sub, nI_subL, nI_Lsub, nI_inc, nI_clampL, Nat.add_sub_cancel, pz_wi_else, pz_wl_else, vu_eq, vu_ne, pz_wi_gc, pz_wi_ga, pz_wi_gn, pz_wi_gl, pz_wi_gr, pz_wi_same, pz_wi_X, pz_wl_gc, pz_wl_ga, pz_wl_gn, pz_wl_gi, pz_wl_gr, pz_wl_same, pz_wl_X, pz_wr_gc, pz_wr_ga, pz_wr_gn, pz_wr_gi, pz_wr_gl, pz_wr_same, pz_wr_X, ha, hl, el, g1])
        refine po_brP (fun q3 => ?_) (fun q3 => ?_)
        · first
          | exact absurd q3 (by decide)
          | exact absurd trivial q3
          | exact q3.elim
          | (exfalso; (try simp (disch := omega) only [nI_ltI, nI_leI, nI_eq, nI_ltL, nI_leL, nI_eqL, nI_Llt, nI_Lle, nI_Leq, nI_eqm, nI_meq, nI_ltm, nI_lem, nI_mlt, nI_mle, lg0, lgl, lgg, lgle, lgge, Int32.not_lt, Int32.not_le, Int64.not_lt, Int64.not_le, not_false_eq_true, not_true_eq_false, Decidable.not_not, ge_iff_le, gt_iff_lt] at q3) <;> omega)
          | exact absurd q3 (by with_reducible assumption)
          | exact absurd (by with_reducible assumption) q3
          | exact absurd (Decidable.not_not.mp q3) (by with_reducible assumption)
          | exact absurd (by with_reducible assumption) (Int32.not_le.mpr q3)
          | exact absurd (by with_reducible assumption) (Int32.not_lt.mpr q3)
        · skip
          (try simp (disch := omega) only [nI_ltI, nI_leI, nI_eq, nI_ltL, nI_leL, nI_eqL, nI_Llt, nI_Lle, nI_Leq, nI_eqm, nI_meq, nI_ltm, nI_lem, nI_mlt, nI_mle, lg0, lgl, lgg, lgle, lgge, Int32.not_lt, Int32.not_le, Int64.not_lt, Int64.not_le, not_false_eq_true, not_true_eq_false, Decidable.not_not, ge_iff_le, gt_iff_lt] at q3)
          refine pw_blk (mi := mz_268) (b := bz_268_9) rfl rfl ?_
          simp only [bz_268_9, pz_cut_t, pz_cut_f, pz_cut_n, pv_gt, pv_ts, pv_tn, ev_ild4, ev_ald2, ev_eld2, ea_alen0, ea_alen1, ea_alen2, ea_alen3, ev_ic_ge, pz_wi_gc, pz_wi_ga, pz_wi_gn, pz_wi_gl, pz_wi_gr, pz_wi_same, pz_wi_X, pz_wl_gc, pz_wl_ga, pz_wl_gn, pz_wl_gi, pz_wl_gr, pz_wl_same, pz_wl_X, pz_wr_gc, pz_wr_ga, pz_wr_gn, pz_wr_gi, pz_wr_gl, pz_wr_same, pz_wr_X, ha, hl, el, g1]
          (try simp (disch := omega) only [nI_clamp, pz_in_nI2, pz_in_nI2L, pv_gt, nI_add, nI_addL, nI_Ladd, pk_mul, nI_mulL, nI_Lmul, pk_sub, nI_subL, nI_Lsub, nI_inc, nI_clampL, Nat.add_sub_cancel, pz_wi_else, pz_wl_else, vu_eq, vu_ne, pz_wi_gc, pz_wi_ga, pz_wi_gn, pz_wi_gl, pz_wi_gr, pz_wi_same, pz_wi_X, pz_wl_gc, pz_wl_ga, pz_wl_gn, pz_wl_gi, pz_wl_gr, pz_wl_same, pz_wl_X, pz_wr_gc, pz_wr_ga, pz_wr_gn, pz_wr_gi, pz_wr_gl, pz_wr_same, pz_wr_X, ha, hl, el, g1])
          refine po_brP (fun q9 => ?_) (fun q9 => ?_)
          · first
            | exact absurd q9 (by decide)
            | exact absurd trivial q9
            | exact q9.elim
            | (exfalso; (try simp (disch := omega) only [nI_ltI, nI_leI, nI_eq, nI_ltL, nI_leL, nI_eqL, nI_Llt, nI_Lle, nI_Leq, nI_eqm, nI_meq, nI_ltm, nI_lem, nI_mlt, nI_mle, lg0, lgl, lgg, lgle, lgge, Int32.not_lt, Int32.not_le, Int64.not_lt, Int64.not_le, not_false_eq_true, not_true_eq_false, Decidable.not_not, ge_iff_le, gt_iff_lt] at q9) <;> omega)
            | exact absurd q9 (by with_reducible assumption)
            | exact absurd (by with_reducible assumption) q9
            | exact absurd (Decidable.not_not.mp q9) (by with_reducible assumption)
            | exact absurd (by with_reducible assumption) (Int32.not_le.mpr q9)
            | exact absurd (by with_reducible assumption) (Int32.not_lt.mpr q9)
          · skip
            (try simp (disch := omega) only [nI_ltI, nI_leI, nI_eq, nI_ltL, nI_leL, nI_eqL, nI_Llt, nI_Lle, nI_Leq, nI_eqm, nI_meq, nI_ltm, nI_lem, nI_mlt, nI_mle, lg0, lgl, lgg, lgle, lgge, Int32.not_lt, Int32.not_le, Int64.not_lt, Int64.not_le, not_false_eq_true, not_true_eq_false, Decidable.not_not, ge_iff_le, gt_iff_lt] at q9)
            refine pw_blk (mi := mz_268) (b := bz_268_16) rfl rfl ?_
            simp only [bz_268_16, pz_cut_t, pz_cut_f, pz_cut_n, pv_gt, pv_ts, pv_tn, ev_ald2, ev_eld2, ev_ild4, ea_lald, ev_lld0, ev_lcmp, ev_ifne, pz_wi_gc, pz_wi_ga, pz_wi_gn, pz_wi_gl, pz_wi_gr, pz_wi_same, pz_wi_X, pz_wl_gc, pz_wl_ga, pz_wl_gn, pz_wl_gi, pz_wl_gr, pz_wl_same, pz_wl_X, pz_wr_gc, pz_wr_ga, pz_wr_gn, pz_wr_gi, pz_wr_gl, pz_wr_same, pz_wr_X, ha, hl, el, g1]
            (try simp (disch := omega) only [nI_clamp, pz_in_nI2, pz_in_nI2L, pv_gt, nI_add, nI_addL, nI_Ladd, pk_mul, nI_mulL, nI_Lmul, pk_sub, nI_subL, nI_Lsub, nI_inc, nI_clampL, Nat.add_sub_cancel, pz_wi_else, pz_wl_else, vu_eq, vu_ne, pz_wi_gc, pz_wi_ga, pz_wi_gn, pz_wi_gl, pz_wi_gr, pz_wi_same, pz_wi_X, pz_wl_gc, pz_wl_ga, pz_wl_gn, pz_wl_gi, pz_wl_gr, pz_wl_same, pz_wl_X, pz_wr_gc, pz_wr_ga, pz_wr_gn, pz_wr_gi, pz_wr_gl, pz_wr_same, pz_wr_X, ha, hl, el, g1])
            (try refine po_gI (by first | exact pz_in_nI (by omega) (by decide) | decide | assumption) ?_)
            refine po_brP (fun q16 => ?_) (fun q16 => ?_)
            · first
              | exact absurd q16 (by decide)
              | exact absurd trivial q16
              | exact q16.elim
              | (exfalso; (try simp (disch := omega) only [nI_ltI, nI_leI, nI_eq, nI_ltL, nI_leL, nI_eqL, nI_Llt, nI_Lle, nI_Leq, nI_eqm, nI_meq, nI_ltm, nI_lem, nI_mlt, nI_mle, lg0, lgl, lgg, lgle, lgge, Int32.not_lt, Int32.not_le, Int64.not_lt, Int64.not_le, not_false_eq_true, not_true_eq_false, Decidable.not_not, ge_iff_le, gt_iff_lt] at q16) <;> omega)
              | exact absurd q16 (by with_reducible assumption)
              | exact absurd (by with_reducible assumption) q16
              | exact absurd (Decidable.not_not.mp q16) (by with_reducible assumption)
              | exact absurd (by with_reducible assumption) (Int32.not_le.mpr q16)
              | exact absurd (by with_reducible assumption) (Int32.not_lt.mpr q16)
            · skip
              (try simp (disch := omega) only [nI_ltI, nI_leI, nI_eq, nI_ltL, nI_leL, nI_eqL, nI_Llt, nI_Lle, nI_Leq, nI_eqm, nI_meq, nI_ltm, nI_lem, nI_mlt, nI_mle, lg0, lgl, lgg, lgle, lgge, Int32.not_lt, Int32.not_le, Int64.not_lt, Int64.not_le, not_false_eq_true, not_true_eq_false, Decidable.not_not, ge_iff_le, gt_iff_lt] at q16)
              refine pw_blk (mi := mz_268) (b := bz_268_25) rfl rfl ?_
              simp only [bz_268_25, pz_cut_t, pz_cut_f, pz_cut_n, pv_gt, pv_ts, pv_tn, ev_ild4, ev_iret0, pz_wi_gc, pz_wi_ga, pz_wi_gn, pz_wi_gl, pz_wi_gr, pz_wi_same, pz_wi_X, pz_wl_gc, pz_wl_ga, pz_wl_gn, pz_wl_gi, pz_wl_gr, pz_wl_same, pz_wl_X, pz_wr_gc, pz_wr_ga, pz_wr_gn, pz_wr_gi, pz_wr_gl, pz_wr_same, pz_wr_X, ha, hl, el, g1]
              (try simp (disch := omega) only [nI_clamp, pz_in_nI2, pz_in_nI2L, pv_gt, nI_add, nI_addL, nI_Ladd, pk_mul, nI_mulL, nI_Lmul, pk_sub, nI_subL, nI_Lsub, nI_inc, nI_clampL, Nat.add_sub_cancel, pz_wi_else, pz_wl_else, vu_eq, vu_ne, pz_wi_gc, pz_wi_ga, pz_wi_gn, pz_wi_gl, pz_wi_gr, pz_wi_same, pz_wi_X, pz_wl_gc, pz_wl_ga, pz_wl_gn, pz_wl_gi, pz_wl_gr, pz_wl_same, pz_wl_X, pz_wr_gc, pz_wr_ga, pz_wr_gn, pz_wr_gi, pz_wr_gl, pz_wr_same, pz_wr_X, ha, hl, el, g1])
              exact po_ret h
      · have hne : ¬ p5 (nm i) = p5 w := fun z => q (p5_inj g2 hw z)
        have nx := ih (i + 1) (by omega) (by rw [e, fi, if_neg (by rw [decide_eq_false q]; decide)])
        generalize p5 w = pw0 at hne nx
        generalize p5 (nm i) = pv at g1 hne
        refine pw_blk (mi := mz_268) (b := bz_268_3) rfl rfl ?_
        simp only [bz_268_3, pz_cut_t, pz_cut_f, pz_cut_n, pv_gt, pv_ts, pv_tn, ev_ild4, ev_ild3, ev_ic_ge, pz_wi_gc, pz_wi_ga, pz_wi_gn, pz_wi_gl, pz_wi_gr, pz_wi_same, pz_wi_X, pz_wl_gc, pz_wl_ga, pz_wl_gn, pz_wl_gi, pz_wl_gr, pz_wl_same, pz_wl_X, pz_wr_gc, pz_wr_ga, pz_wr_gn, pz_wr_gi, pz_wr_gl, pz_wr_same, pz_wr_X, ha, hl, el, g1]
        (try simp (disch := omega) only [nI_clamp, pz_in_nI2, pz_in_nI2L, pv_gt, nI_add, nI_addL, nI_Ladd, pk_mul, nI_mulL, nI_Lmul, pk_sub, nI_subL, nI_Lsub, nI_inc, nI_clampL, Nat.add_sub_cancel, pz_wi_else, pz_wl_else, vu_eq, vu_ne, pz_wi_gc, pz_wi_ga, pz_wi_gn, pz_wi_gl, pz_wi_gr, pz_wi_same, pz_wi_X, pz_wl_gc, pz_wl_ga, pz_wl_gn, pz_wl_gi, pz_wl_gr, pz_wl_same, pz_wl_X, pz_wr_gc, pz_wr_ga, pz_wr_gn, pz_wr_gi, pz_wr_gl, pz_wr_same, pz_wr_X, ha, hl, el, g1])
        refine po_brP (fun q3 => ?_) (fun q3 => ?_)
        · first
          | exact absurd q3 (by decide)
          | exact absurd trivial q3
          | exact q3.elim
          | (exfalso; (try simp (disch := omega) only [nI_ltI, nI_leI, nI_eq, nI_ltL, nI_leL, nI_eqL, nI_Llt, nI_Lle, nI_Leq, nI_eqm, nI_meq, nI_ltm, nI_lem, nI_mlt, nI_mle, lg0, lgl, lgg, lgle, lgge, Int32.not_lt, Int32.not_le, Int64.not_lt, Int64.not_le, not_false_eq_true, not_true_eq_false, Decidable.not_not, ge_iff_le, gt_iff_lt] at q3) <;> omega)
          | exact absurd q3 (by with_reducible assumption)
          | exact absurd (by with_reducible assumption) q3
          | exact absurd (Decidable.not_not.mp q3) (by with_reducible assumption)
          | exact absurd (by with_reducible assumption) (Int32.not_le.mpr q3)
          | exact absurd (by with_reducible assumption) (Int32.not_lt.mpr q3)
        · skip
          (try simp (disch := omega) only [nI_ltI, nI_leI, nI_eq, nI_ltL, nI_leL, nI_eqL, nI_Llt, nI_Lle, nI_Leq, nI_eqm, nI_meq, nI_ltm, nI_lem, nI_mlt, nI_mle, lg0, lgl, lgg, lgle, lgge, Int32.not_lt, Int32.not_le, Int64.not_lt, Int64.not_le, not_false_eq_true, not_true_eq_false, Decidable.not_not, ge_iff_le, gt_iff_lt] at q3)
          refine pw_blk (mi := mz_268) (b := bz_268_9) rfl rfl ?_
          simp only [bz_268_9, pz_cut_t, pz_cut_f, pz_cut_n, pv_gt, pv_ts, pv_tn, ev_ild4, ev_ald2, ev_eld2, ea_alen0, ea_alen1, ea_alen2, ea_alen3, ev_ic_ge, pz_wi_gc, pz_wi_ga, pz_wi_gn, pz_wi_gl, pz_wi_gr, pz_wi_same, pz_wi_X, pz_wl_gc, pz_wl_ga, pz_wl_gn, pz_wl_gi, pz_wl_gr, pz_wl_same, pz_wl_X, pz_wr_gc, pz_wr_ga, pz_wr_gn, pz_wr_gi, pz_wr_gl, pz_wr_same, pz_wr_X, ha, hl, el, g1]
          (try simp (disch := omega) only [nI_clamp, pz_in_nI2, pz_in_nI2L, pv_gt, nI_add, nI_addL, nI_Ladd, pk_mul, nI_mulL, nI_Lmul, pk_sub, nI_subL, nI_Lsub, nI_inc, nI_clampL, Nat.add_sub_cancel, pz_wi_else, pz_wl_else, vu_eq, vu_ne, pz_wi_gc, pz_wi_ga, pz_wi_gn, pz_wi_gl, pz_wi_gr, pz_wi_same, pz_wi_X, pz_wl_gc, pz_wl_ga, pz_wl_gn, pz_wl_gi, pz_wl_gr, pz_wl_same, pz_wl_X, pz_wr_gc, pz_wr_ga, pz_wr_gn, pz_wr_gi, pz_wr_gl, pz_wr_same, pz_wr_X, ha, hl, el, g1])
          refine po_brP (fun q9 => ?_) (fun q9 => ?_)
          · first
            | exact absurd q9 (by decide)
            | exact absurd trivial q9
            | exact q9.elim
            | (exfalso; (try simp (disch := omega) only [nI_ltI, nI_leI, nI_eq, nI_ltL, nI_leL, nI_eqL, nI_Llt, nI_Lle, nI_Leq, nI_eqm, nI_meq, nI_ltm, nI_lem, nI_mlt, nI_mle, lg0, lgl, lgg, lgle, lgge, Int32.not_lt, Int32.not_le, Int64.not_lt, Int64.not_le, not_false_eq_true, not_true_eq_false, Decidable.not_not, ge_iff_le, gt_iff_lt] at q9) <;> omega)
            | exact absurd q9 (by with_reducible assumption)
            | exact absurd (by with_reducible assumption) q9
            | exact absurd (Decidable.not_not.mp q9) (by with_reducible assumption)
            | exact absurd (by with_reducible assumption) (Int32.not_le.mpr q9)
            | exact absurd (by with_reducible assumption) (Int32.not_lt.mpr q9)
          · skip
            (try simp (disch := omega) only [nI_ltI, nI_leI, nI_eq, nI_ltL, nI_leL, nI_eqL, nI_Llt, nI_Lle, nI_Leq, nI_eqm, nI_meq, nI_ltm, nI_lem, nI_mlt, nI_mle, lg0, lgl, lgg, lgle, lgge, Int32.not_lt, Int32.not_le, Int64.not_lt, Int64.not_le, not_false_eq_true, not_true_eq_false, Decidable.not_not, ge_iff_le, gt_iff_lt] at q9)
            refine pw_blk (mi := mz_268) (b := bz_268_16) rfl rfl ?_
            simp only [bz_268_16, pz_cut_t, pz_cut_f, pz_cut_n, pv_gt, pv_ts, pv_tn, ev_ald2, ev_eld2, ev_ild4, ea_lald, ev_lld0, ev_lcmp, ev_ifne, pz_wi_gc, pz_wi_ga, pz_wi_gn, pz_wi_gl, pz_wi_gr, pz_wi_same, pz_wi_X, pz_wl_gc, pz_wl_ga, pz_wl_gn, pz_wl_gi, pz_wl_gr, pz_wl_same, pz_wl_X, pz_wr_gc, pz_wr_ga, pz_wr_gn, pz_wr_gi, pz_wr_gl, pz_wr_same, pz_wr_X, ha, hl, el, g1]
            (try simp (disch := omega) only [nI_clamp, pz_in_nI2, pz_in_nI2L, pv_gt, nI_add, nI_addL, nI_Ladd, pk_mul, nI_mulL, nI_Lmul, pk_sub, nI_subL, nI_Lsub, nI_inc, nI_clampL, Nat.add_sub_cancel, pz_wi_else, pz_wl_else, vu_eq, vu_ne, pz_wi_gc, pz_wi_ga, pz_wi_gn, pz_wi_gl, pz_wi_gr, pz_wi_same, pz_wi_X, pz_wl_gc, pz_wl_ga, pz_wl_gn, pz_wl_gi, pz_wl_gr, pz_wl_same, pz_wl_X, pz_wr_gc, pz_wr_ga, pz_wr_gn, pz_wr_gi, pz_wr_gl, pz_wr_same, pz_wr_X, ha, hl, el, g1])
            (try refine po_gI (by first | exact pz_in_nI (by omega) (by decide) | decide | assumption) ?_)
            refine po_brP (fun q16 => ?_) (fun q16 => ?_)
            · first
              | exact absurd q16 (by decide)
              | exact absurd trivial q16
              | exact q16.elim
              | (exfalso; (try simp (disch := omega) only [nI_ltI, nI_leI, nI_eq, nI_ltL, nI_leL, nI_eqL, nI_Llt, nI_Lle, nI_Leq, nI_eqm, nI_meq, nI_ltm, nI_lem, nI_mlt, nI_mle, lg0, lgl, lgg, lgle, lgge, Int32.not_lt, Int32.not_le, Int64.not_lt, Int64.not_le, not_false_eq_true, not_true_eq_false, Decidable.not_not, ge_iff_le, gt_iff_lt] at q16) <;> omega)
              | exact absurd q16 (by with_reducible assumption)
              | exact absurd (by with_reducible assumption) q16
              | exact absurd (Decidable.not_not.mp q16) (by with_reducible assumption)
              | exact absurd (by with_reducible assumption) (Int32.not_le.mpr q16)
              | exact absurd (by with_reducible assumption) (Int32.not_lt.mpr q16)
              | skip
                (try simp (disch := omega) only [nI_ltI, nI_leI, nI_eq, nI_ltL, nI_leL, nI_eqL, nI_Llt, nI_Lle, nI_Leq, nI_eqm, nI_meq, nI_ltm, nI_lem, nI_mlt, nI_mle, lg0, lgl, lgg, lgle, lgge, Int32.not_lt, Int32.not_le, Int64.not_lt, Int64.not_le, not_false_eq_true, not_true_eq_false, Decidable.not_not, ge_iff_le, gt_iff_lt] at q16)
                refine pw_blk (mi := mz_268) (b := bz_268_28) rfl rfl ?_
                simp only [bz_268_28, pz_cut_t, pz_cut_f, pz_cut_n, pv_gt, pv_ts, pv_tn, ev_inc4n, ev_inc4i, ev_inc4r, ev_inc4e, ev_goto, pz_wi_gc, pz_wi_ga, pz_wi_gn, pz_wi_gl, pz_wi_gr, pz_wi_same, pz_wi_X, pz_wl_gc, pz_wl_ga, pz_wl_gn, pz_wl_gi, pz_wl_gr, pz_wl_same, pz_wl_X, pz_wr_gc, pz_wr_ga, pz_wr_gn, pz_wr_gi, pz_wr_gl, pz_wr_same, pz_wr_X, ha, hl, el, g1]
                (try simp (disch := omega) only [nI_clamp, pz_in_nI2, pz_in_nI2L, pv_gt, nI_add, nI_addL, nI_Ladd, pk_mul, nI_mulL, nI_Lmul, pk_sub, nI_subL, nI_Lsub, nI_inc, nI_clampL, Nat.add_sub_cancel, pz_wi_else, pz_wl_else, vu_eq, vu_ne, pz_wi_gc, pz_wi_ga, pz_wi_gn, pz_wi_gl, pz_wi_gr, pz_wi_same, pz_wi_X, pz_wl_gc, pz_wl_ga, pz_wl_gn, pz_wl_gi, pz_wl_gr, pz_wl_same, pz_wl_X, pz_wr_gc, pz_wr_ga, pz_wr_gn, pz_wr_gi, pz_wr_gl, pz_wr_same, pz_wr_X, ha, hl, el, g1])
                refine po_go ?_
                exact nx
            · exact absurd ((lg0 _ _).mp (Decidable.not_not.mp q16)) hne
  refine pm_ent (L := [some (.long (p5 w)), none, some (.ref k), some (.int (nI n)), none]) rfl (Nat.le_of_ble_eq_true rfl) ?_
  refine pw_blk (mi := mz_268) (b := bz_268_0) rfl rfl ?_
  simp only [bz_268_0, pz_cut_t, pz_cut_f, pz_cut_n, pv_gt, pv_ts, pv_tn, ev_ic0, ev_ist4n, ev_ist4i, ev_ist4r, ev_ist4e, ev_ist4l, ev_nil, pz_wi_gc, pz_wi_ga, pz_wi_gn, pz_wi_gl, pz_wi_gr, pz_wi_same, pz_wi_X, pz_wl_gc, pz_wl_ga, pz_wl_gn, pz_wl_gi, pz_wl_gr, pz_wl_same, pz_wl_X, pz_wr_gc, pz_wr_ga, pz_wr_gn, pz_wr_gi, pz_wr_gl, pz_wr_same, pz_wr_X]
  (try simp (disch := omega) only [nI_clamp, pz_in_nI2, pz_in_nI2L, pv_gt, nI_add, nI_addL, nI_Ladd, pk_mul, nI_mulL, nI_Lmul, pk_sub, nI_subL, nI_Lsub, nI_inc, nI_clampL, Nat.add_sub_cancel, pz_wi_else, pz_wl_else, vu_eq, vu_ne, pz_wi_gc, pz_wi_ga, pz_wi_gn, pz_wi_gl, pz_wi_gr, pz_wi_same, pz_wi_X, pz_wl_gc, pz_wl_ga, pz_wl_gn, pz_wl_gi, pz_wl_gr, pz_wl_same, pz_wl_X, pz_wr_gc, pz_wr_ga, pz_wr_gn, pz_wr_gi, pz_wr_gl, pz_wr_same, pz_wr_X])
  refine po_go ?_
  exact key n 0 (by omega) rfl
theorem anF_G {σ : Sg} (h : isG (anF σ) = true) : anF σ = σ ∧ ∃ t, σ = .inr t ∧ t.1 = 2 := by
  cases σ with
  | inl f => cases h
  | inr t =>
    by_cases z : t.1 = 2
    · exact ⟨if_pos z, t, rfl, z⟩
    · rw [show anF (.inr t) = .inl (2, t.2.2.2.1) from if_neg z] at h
      cases h
theorem cSt.nm {σ : Sg} (s : cSt M ru T L σ) (h : isG (anF σ) = true) : gl M 1 8 = p5 (nmV σ) ∧ isWd (nmV σ) := by
  obtain ⟨-, t, rfl, z⟩ := anF_G h
  obtain ⟨x, hO, hs⟩ := s
  exact ⟨hs.2.2.2.2.1 (Or.inl z), hO.1.2.2.2.1 (Or.inl z)⟩
theorem atF_G {σ : Sg} {lo hi : Nat} (h : isG (atF lo hi σ) = true) : atF lo hi σ = σ ∧ lo ≤ nuV σ ∧ nuV σ < hi ∧ ∃ t, σ = .inr t ∧ t.1 = 4 := by
  cases σ with
  | inl f => cases h
  | inr t =>
    by_cases z : t.1 = 4
    · by_cases z2 : lo ≤ t.2.1 ∧ t.2.1 < hi
      · exact ⟨(if_pos z).trans (if_pos z2), z2.1, z2.2, t, rfl, z⟩
      · rw [show atF lo hi (.inr t) = .inl (4, t.2.2.2.1) from (if_pos z).trans (if_neg z2)] at h
        cases h
    · rw [show atF lo hi (.inr t) = .inl (2, t.2.2.2.1) from if_neg z] at h
      cases h
theorem cSt.nu {σ : Sg} {lo hi : Nat} (s : cSt M ru T L σ) (h : isG (atF lo hi σ) = true) : gi M 1 9 = nI (nuV σ) := by
  obtain ⟨-, -, -, t, rfl, z⟩ := atF_G h
  obtain ⟨x, hO, hs⟩ := s
  exact hs.2.2.2.2.2.1 z
theorem cSt.sm {K : List Nat} {σ : Sg} (s : cSt M ru T L σ) (h : sm K M M') (h1 : 1 ∉ K) (h2 : 2 ∉ K) (h3 : 3 ∉ K) : cSt M' ru T L σ := by
  obtain ⟨⟨x1, x2, x3, x4, x5, x6⟩, hO, hs⟩ := s
  have e1 : gi M' 1 = gi M 1 := h.i h1
  have l1 : gl M' 1 = gl M 1 := h.l h1
  refine ⟨⟨x1.sm h, by rw [e1]; exact x2, x3, by rw [h.i h2]; exact x4, ?_, ?_⟩, hO, ?_⟩
  · exact x5.fr (fun k hk => by rw [List.mem_singleton] at hk; subst hk; exact ⟨h.i h3, h.l h3⟩)
  · rw [← x6]
    unfold gr
    rw [h.2.2.1]
  · cases σ with
    | inl f =>
      show cF M' f.1 f.2
      unfold cF
      rw [e1]
      exact hs
    | inr t =>
      show cTk M' t
      unfold cTk
      rw [e1, l1]
      exact hs
theorem flF_G {k : Nat} {σ : Sg} : isG (flF k σ) = false := by cases σ <;> rfl
theorem isG_f {σ : Sg} (h : ¬ isG σ = true) : isG σ = false := by
  cases z : isG σ with
  | true => exact absurd z h
  | false => rfl
/-- a line's name: what is at behind it -/
def bgF (ru : Bool) (T : Nat → Nat) (L n m : Nat) (nm : Nat → List Nat) (σ : Sg) : Sg := if n < m then (if isG (anF (nxF ru T L σ)) = true then (if fnd nm (nmV (nxF ru T L σ)) n < n then flF 3 (nxF ru T L σ) else nxF ru T L (nxF ru T L σ)) else anF (nxF ru T L σ)) else flF 2 σ
theorem m_beginNamed (hd : 12 ≤ d) {σ : Sg} {k n m len : Nat} {nm : Nat → List Nat} (s : cSt M ru T L σ) (ha : ga M k = some 1) (hl : gn M k = len) (hml : m ≤ len) (hl2 : len < 100) (hn : n < 100) (hk : k = 22 ∨ k = 24 ∨ k = 27) (hm : ∀ i, i < n → gl M k i = p5 (nm i) ∧ isWd (nm i)) (k1 : n < m → isG (anF (nxF ru T L σ)) = true → ¬ fnd nm (nmV (nxF ru T L σ)) n < n → ∀ M', sm [1, k] M M' → gi M' 1 2 = gi M 1 2 → cSt M' ru T L (nxF ru T L (nxF ru T L σ)) → isWd (nmV (nxF ru T L σ)) → gl M' k = va_up (gl M k) n (p5 (nmV (nxF ru T L σ))) → Q (some (.int 1), M')) (k0 : isG (bgF ru T L n m nm σ) = false → ¬ (n < m ∧ isG (anF (nxF ru T L σ)) = true ∧ ¬ fnd nm (nmV (nxF ru T L σ)) n < n) → ∀ M', cfr M M' → cSt M' ru T L (bgF ru T L n m nm σ) → Q (some (.int 0), M')) : pm d 233 [.ref 18, .int (nI n), .int (nI m), .ref k] M Q := by
  have hS := s.1.1
  unfold bgF at k0
  by_cases hnm : n < m
  · rw [if_pos hnm] at k0
    cases zg : isG (anF (nxF ru T L σ)) with
    | false =>
      rw [if_neg (by rw [zg]; decide)] at k0
      refine pm_ent (L := [some (.ref 18), some (.int (nI n)), some (.int (nI m)), some (.ref k)]) rfl (Nat.le_of_ble_eq_true rfl) ?_
      refine pw_blk (mi := mz_233) (b := bz_233_0) rfl rfl ?_
      simp only [bz_233_0, pz_cut_t, pz_cut_f, pz_cut_n, pv_gt, pv_ts, pv_tn, ev_ild1, ev_ild2, ev_ic_lt, pz_wi_gc, pz_wi_ga, pz_wi_gn, pz_wi_gl, pz_wi_gr, pz_wi_same, pz_wi_X, pz_wl_gc, pz_wl_ga, pz_wl_gn, pz_wl_gi, pz_wl_gr, pz_wl_same, pz_wl_X, pz_wr_gc, pz_wr_ga, pz_wr_gn, pz_wr_gi, pz_wr_gl, pz_wr_same, pz_wr_X]
      (try simp (disch := omega) only [nI_clamp, pz_in_nI2, pz_in_nI2L, pv_gt, nI_add, nI_addL, nI_Ladd, pk_mul, nI_mulL, nI_Lmul, pk_sub, nI_subL, nI_Lsub, nI_inc, nI_clampL, Nat.add_sub_cancel, pz_wi_else, pz_wl_else, vu_eq, vu_ne, pz_wi_gc, pz_wi_ga, pz_wi_gn, pz_wi_gl, pz_wi_gr, pz_wi_same, pz_wi_X, pz_wl_gc, pz_wl_ga, pz_wl_gn, pz_wl_gi, pz_wl_gr, pz_wl_same, pz_wl_X, pz_wr_gc, pz_wr_ga, pz_wr_gn, pz_wr_gi, pz_wr_gl, pz_wr_same, pz_wr_X])
      refine po_brP (fun q0 => ?_) (fun q0 => ?_)
      · skip
        (try simp (disch := omega) only [nI_ltI, nI_leI, nI_eq, nI_ltL, nI_leL, nI_eqL, nI_Llt, nI_Lle, nI_Leq, nI_eqm, nI_meq, nI_ltm, nI_lem, nI_mlt, nI_mle, lg0, lgl, lgg, lgle, lgge, Int32.not_lt, Int32.not_le, Int64.not_lt, Int64.not_le, not_false_eq_true, not_true_eq_false, Decidable.not_not, ge_iff_le, gt_iff_lt] at q0)
        refine pw_blk (mi := mz_233) (b := bz_233_15) rfl rfl ?_
        simp only [bz_233_15, pz_cut_t, pz_cut_f, pz_cut_n, pv_gt, pv_ts, pv_tn, ev_ald0, ev_eld0, ev_gf4_2, ev_cv0_10, pz_wi_gc, pz_wi_ga, pz_wi_gn, pz_wi_gl, pz_wi_gr, pz_wi_same, pz_wi_X, pz_wl_gc, pz_wl_ga, pz_wl_gn, pz_wl_gi, pz_wl_gr, pz_wl_same, pz_wl_X, pz_wr_gc, pz_wr_ga, pz_wr_gn, pz_wr_gi, pz_wr_gl, pz_wr_same, pz_wr_X, so_18 hS, sr_18_0 hS, so_1 hS]
        (try simp (disch := omega) only [nI_clamp, pz_in_nI2, pz_in_nI2L, pv_gt, nI_add, nI_addL, nI_Ladd, pk_mul, nI_mulL, nI_Lmul, pk_sub, nI_subL, nI_Lsub, nI_inc, nI_clampL, Nat.add_sub_cancel, pz_wi_else, pz_wl_else, vu_eq, vu_ne, pz_wi_gc, pz_wi_ga, pz_wi_gn, pz_wi_gl, pz_wi_gr, pz_wi_same, pz_wi_X, pz_wl_gc, pz_wl_ga, pz_wl_gn, pz_wl_gi, pz_wl_gr, pz_wl_same, pz_wl_X, pz_wr_gc, pz_wr_ga, pz_wr_gn, pz_wr_gi, pz_wr_gl, pz_wr_same, pz_wr_X])
        (try refine po_gP (Nat.le_of_ble_eq_true rfl) ?_)
        refine po_call (by omega) (m_adv (by omega) s (fun M1 c1 s1 => ?_))
        have hS1 := s1.1.1
        refine pw_blk (mi := mz_233) (b := bz_233_22) rfl rfl ?_
        simp only [bz_233_22, pz_cut_t, pz_cut_f, pz_cut_n, pv_gt, pv_ts, pv_tn, ev_ald0, ev_eld0, ev_gf4_2, ev_cv0_10, pz_wi_gc, pz_wi_ga, pz_wi_gn, pz_wi_gl, pz_wi_gr, pz_wi_same, pz_wi_X, pz_wl_gc, pz_wl_ga, pz_wl_gn, pz_wl_gi, pz_wl_gr, pz_wl_same, pz_wl_X, pz_wr_gc, pz_wr_ga, pz_wr_gn, pz_wr_gi, pz_wr_gl, pz_wr_same, pz_wr_X, so_18 hS, sr_18_0 hS, so_1 hS, so_18 hS1, sr_18_0 hS1, so_1 hS1]
        (try simp (disch := omega) only [nI_clamp, pz_in_nI2, pz_in_nI2L, pv_gt, nI_add, nI_addL, nI_Ladd, pk_mul, nI_mulL, nI_Lmul, pk_sub, nI_subL, nI_Lsub, nI_inc, nI_clampL, Nat.add_sub_cancel, pz_wi_else, pz_wl_else, vu_eq, vu_ne, pz_wi_gc, pz_wi_ga, pz_wi_gn, pz_wi_gl, pz_wi_gr, pz_wi_same, pz_wi_X, pz_wl_gc, pz_wl_ga, pz_wl_gn, pz_wl_gi, pz_wl_gr, pz_wl_same, pz_wl_X, pz_wr_gc, pz_wr_ga, pz_wr_gn, pz_wr_gi, pz_wr_gl, pz_wr_same, pz_wr_X, so_18 hS1, sr_18_0 hS1, so_1 hS1])
        (try refine po_gP (Nat.le_of_ble_eq_true rfl) ?_)
        refine po_call (by omega) (m_atName (by omega) s1 (fun M2 c2 s2 => ?_))
        rw [zg]
        refine pw_blk (mi := mz_233) (b := bz_233_29) rfl rfl ?_
        simp only [bz_233_29, pz_cut_t, pz_cut_f, pz_cut_n, pv_gt, pv_ts, pv_tn, ev_ifne, pz_wi_gc, pz_wi_ga, pz_wi_gn, pz_wi_gl, pz_wi_gr, pz_wi_same, pz_wi_X, pz_wl_gc, pz_wl_ga, pz_wl_gn, pz_wl_gi, pz_wl_gr, pz_wl_same, pz_wl_X, pz_wr_gc, pz_wr_ga, pz_wr_gn, pz_wr_gi, pz_wr_gl, pz_wr_same, pz_wr_X, bI_f]
        (try simp (disch := omega) only [nI_clamp, pz_in_nI2, pz_in_nI2L, pv_gt, nI_add, nI_addL, nI_Ladd, pk_mul, nI_mulL, nI_Lmul, pk_sub, nI_subL, nI_Lsub, nI_inc, nI_clampL, Nat.add_sub_cancel, pz_wi_else, pz_wl_else, vu_eq, vu_ne, pz_wi_gc, pz_wi_ga, pz_wi_gn, pz_wi_gl, pz_wi_gr, pz_wi_same, pz_wi_X, pz_wl_gc, pz_wl_ga, pz_wl_gn, pz_wl_gi, pz_wl_gr, pz_wl_same, pz_wl_X, pz_wr_gc, pz_wr_ga, pz_wr_gn, pz_wr_gi, pz_wr_gl, pz_wr_same, pz_wr_X, bI_f])
        refine po_brP (fun q29 => ?_) (fun q29 => ?_)
        · first
          | exact absurd q29 (by decide)
          | exact absurd trivial q29
          | exact q29.elim
          | (exfalso; (try simp (disch := omega) only [nI_ltI, nI_leI, nI_eq, nI_ltL, nI_leL, nI_eqL, nI_Llt, nI_Lle, nI_Leq, nI_eqm, nI_meq, nI_ltm, nI_lem, nI_mlt, nI_mle, lg0, lgl, lgg, lgle, lgge, Int32.not_lt, Int32.not_le, Int64.not_lt, Int64.not_le, not_false_eq_true, not_true_eq_false, Decidable.not_not, ge_iff_le, gt_iff_lt] at q29) <;> omega)
          | exact absurd q29 (by with_reducible assumption)
          | exact absurd (by with_reducible assumption) q29
          | exact absurd (Decidable.not_not.mp q29) (by with_reducible assumption)
          | exact absurd (by with_reducible assumption) (Int32.not_le.mpr q29)
          | exact absurd (by with_reducible assumption) (Int32.not_lt.mpr q29)
        · skip
          (try simp (disch := omega) only [nI_ltI, nI_leI, nI_eq, nI_ltL, nI_leL, nI_eqL, nI_Llt, nI_Lle, nI_Leq, nI_eqm, nI_meq, nI_ltm, nI_lem, nI_mlt, nI_mle, lg0, lgl, lgg, lgle, lgge, Int32.not_lt, Int32.not_le, Int64.not_lt, Int64.not_le, not_false_eq_true, not_true_eq_false, Decidable.not_not, ge_iff_le, gt_iff_lt] at q29)
          refine pw_blk (mi := mz_233) (b := bz_233_32) rfl rfl ?_
          simp only [bz_233_32, pz_cut_t, pz_cut_f, pz_cut_n, pv_gt, pv_ts, pv_tn, ev_ic0, ev_iret1, pz_wi_gc, pz_wi_ga, pz_wi_gn, pz_wi_gl, pz_wi_gr, pz_wi_same, pz_wi_X, pz_wl_gc, pz_wl_ga, pz_wl_gn, pz_wl_gi, pz_wl_gr, pz_wl_same, pz_wl_X, pz_wr_gc, pz_wr_ga, pz_wr_gn, pz_wr_gi, pz_wr_gl, pz_wr_same, pz_wr_X]
          (try simp (disch := omega) only [nI_clamp, pz_in_nI2, pz_in_nI2L, pv_gt, nI_add, nI_addL, nI_Ladd, pk_mul, nI_mulL, nI_Lmul, pk_sub, nI_subL, nI_Lsub, nI_inc, nI_clampL, Nat.add_sub_cancel, pz_wi_else, pz_wl_else, vu_eq, vu_ne, pz_wi_gc, pz_wi_ga, pz_wi_gn, pz_wi_gl, pz_wi_gr, pz_wi_same, pz_wi_X, pz_wl_gc, pz_wl_ga, pz_wl_gn, pz_wl_gi, pz_wl_gr, pz_wl_same, pz_wl_X, pz_wr_gc, pz_wr_ga, pz_wr_gn, pz_wr_gi, pz_wr_gl, pz_wr_same, pz_wr_X])
          (try refine po_gP (by first | decide | assumption) ?_)
          exact po_ret (k0 zg (fun z => by rw [zg] at z; exact absurd z.2.1 (by decide)) M2 (c1.tr c2) s2)
      · first
        | exact absurd q0 (by decide)
        | exact absurd trivial q0
        | exact q0.elim
        | (exfalso; (try simp (disch := omega) only [nI_ltI, nI_leI, nI_eq, nI_ltL, nI_leL, nI_eqL, nI_Llt, nI_Lle, nI_Leq, nI_eqm, nI_meq, nI_ltm, nI_lem, nI_mlt, nI_mle, lg0, lgl, lgg, lgle, lgge, Int32.not_lt, Int32.not_le, Int64.not_lt, Int64.not_le, not_false_eq_true, not_true_eq_false, Decidable.not_not, ge_iff_le, gt_iff_lt] at q0) <;> omega)
        | exact absurd q0 (by with_reducible assumption)
        | exact absurd (by with_reducible assumption) q0
        | exact absurd (Decidable.not_not.mp q0) (by with_reducible assumption)
        | exact absurd (by with_reducible assumption) (Int32.not_le.mpr q0)
        | exact absurd (by with_reducible assumption) (Int32.not_lt.mpr q0)
    | true =>
      rw [if_pos zg] at k0
      have ea := (anF_G zg).1
      by_cases zf : fnd nm (nmV (nxF ru T L σ)) n < n
      · rw [if_pos zf] at k0
        have ev : fdI nm (nmV (nxF ru T L σ)) n = nI (fnd nm (nmV (nxF ru T L σ)) n) := if_pos zf
        refine pm_ent (L := [some (.ref 18), some (.int (nI n)), some (.int (nI m)), some (.ref k)]) rfl (Nat.le_of_ble_eq_true rfl) ?_
        refine pw_blk (mi := mz_233) (b := bz_233_0) rfl rfl ?_
        simp only [bz_233_0, pz_cut_t, pz_cut_f, pz_cut_n, pv_gt, pv_ts, pv_tn, ev_ild1, ev_ild2, ev_ic_lt, pz_wi_gc, pz_wi_ga, pz_wi_gn, pz_wi_gl, pz_wi_gr, pz_wi_same, pz_wi_X, pz_wl_gc, pz_wl_ga, pz_wl_gn, pz_wl_gi, pz_wl_gr, pz_wl_same, pz_wl_X, pz_wr_gc, pz_wr_ga, pz_wr_gn, pz_wr_gi, pz_wr_gl, pz_wr_same, pz_wr_X]
        (try simp (disch := omega) only [nI_clamp, pz_in_nI2, pz_in_nI2L, pv_gt, nI_add, nI_addL, nI_Ladd, pk_mul, nI_mulL, nI_Lmul, pk_sub, nI_subL, nI_Lsub, nI_inc, nI_clampL, Nat.add_sub_cancel, pz_wi_else, pz_wl_else, vu_eq, vu_ne, pz_wi_gc, pz_wi_ga, pz_wi_gn, pz_wi_gl, pz_wi_gr, pz_wi_same, pz_wi_X, pz_wl_gc, pz_wl_ga, pz_wl_gn, pz_wl_gi, pz_wl_gr, pz_wl_same, pz_wl_X, pz_wr_gc, pz_wr_ga, pz_wr_gn, pz_wr_gi, pz_wr_gl, pz_wr_same, pz_wr_X])
        refine po_brP (fun q0 => ?_) (fun q0 => ?_)
        · skip
          (try simp (disch := omega) only [nI_ltI, nI_leI, nI_eq, nI_ltL, nI_leL, nI_eqL, nI_Llt, nI_Lle, nI_Leq, nI_eqm, nI_meq, nI_ltm, nI_lem, nI_mlt, nI_mle, lg0, lgl, lgg, lgle, lgge, Int32.not_lt, Int32.not_le, Int64.not_lt, Int64.not_le, not_false_eq_true, not_true_eq_false, Decidable.not_not, ge_iff_le, gt_iff_lt] at q0)
          refine pw_blk (mi := mz_233) (b := bz_233_15) rfl rfl ?_
          simp only [bz_233_15, pz_cut_t, pz_cut_f, pz_cut_n, pv_gt, pv_ts, pv_tn, ev_ald0, ev_eld0, ev_gf4_2, ev_cv0_10, pz_wi_gc, pz_wi_ga, pz_wi_gn, pz_wi_gl, pz_wi_gr, pz_wi_same, pz_wi_X, pz_wl_gc, pz_wl_ga, pz_wl_gn, pz_wl_gi, pz_wl_gr, pz_wl_same, pz_wl_X, pz_wr_gc, pz_wr_ga, pz_wr_gn, pz_wr_gi, pz_wr_gl, pz_wr_same, pz_wr_X, so_18 hS, sr_18_0 hS, so_1 hS]
          (try simp (disch := omega) only [nI_clamp, pz_in_nI2, pz_in_nI2L, pv_gt, nI_add, nI_addL, nI_Ladd, pk_mul, nI_mulL, nI_Lmul, pk_sub, nI_subL, nI_Lsub, nI_inc, nI_clampL, Nat.add_sub_cancel, pz_wi_else, pz_wl_else, vu_eq, vu_ne, pz_wi_gc, pz_wi_ga, pz_wi_gn, pz_wi_gl, pz_wi_gr, pz_wi_same, pz_wi_X, pz_wl_gc, pz_wl_ga, pz_wl_gn, pz_wl_gi, pz_wl_gr, pz_wl_same, pz_wl_X, pz_wr_gc, pz_wr_ga, pz_wr_gn, pz_wr_gi, pz_wr_gl, pz_wr_same, pz_wr_X])
          (try refine po_gP (Nat.le_of_ble_eq_true rfl) ?_)
          refine po_call (by omega) (m_adv (by omega) s (fun M1 c1 s1 => ?_))
          have hS1 := s1.1.1
          refine pw_blk (mi := mz_233) (b := bz_233_22) rfl rfl ?_
          simp only [bz_233_22, pz_cut_t, pz_cut_f, pz_cut_n, pv_gt, pv_ts, pv_tn, ev_ald0, ev_eld0, ev_gf4_2, ev_cv0_10, pz_wi_gc, pz_wi_ga, pz_wi_gn, pz_wi_gl, pz_wi_gr, pz_wi_same, pz_wi_X, pz_wl_gc, pz_wl_ga, pz_wl_gn, pz_wl_gi, pz_wl_gr, pz_wl_same, pz_wl_X, pz_wr_gc, pz_wr_ga, pz_wr_gn, pz_wr_gi, pz_wr_gl, pz_wr_same, pz_wr_X, so_18 hS, sr_18_0 hS, so_1 hS, so_18 hS1, sr_18_0 hS1, so_1 hS1]
          (try simp (disch := omega) only [nI_clamp, pz_in_nI2, pz_in_nI2L, pv_gt, nI_add, nI_addL, nI_Ladd, pk_mul, nI_mulL, nI_Lmul, pk_sub, nI_subL, nI_Lsub, nI_inc, nI_clampL, Nat.add_sub_cancel, pz_wi_else, pz_wl_else, vu_eq, vu_ne, pz_wi_gc, pz_wi_ga, pz_wi_gn, pz_wi_gl, pz_wi_gr, pz_wi_same, pz_wi_X, pz_wl_gc, pz_wl_ga, pz_wl_gn, pz_wl_gi, pz_wl_gr, pz_wl_same, pz_wl_X, pz_wr_gc, pz_wr_ga, pz_wr_gn, pz_wr_gi, pz_wr_gl, pz_wr_same, pz_wr_X, so_18 hS1, sr_18_0 hS1, so_1 hS1])
          (try refine po_gP (Nat.le_of_ble_eq_true rfl) ?_)
          refine po_call (by omega) (m_atName (by omega) s1 (fun M2 c2 s2 => ?_))
          rw [zg]
          rw [ea] at s2
          have hS2 := s2.1.1
          obtain ⟨g8, hwd⟩ := s2.nm zg
          have c12 := c1.tr c2
          refine pw_blk (mi := mz_233) (b := bz_233_29) rfl rfl ?_
          simp only [bz_233_29, pz_cut_t, pz_cut_f, pz_cut_n, pv_gt, pv_ts, pv_tn, ev_ifne, pz_wi_gc, pz_wi_ga, pz_wi_gn, pz_wi_gl, pz_wi_gr, pz_wi_same, pz_wi_X, pz_wl_gc, pz_wl_ga, pz_wl_gn, pz_wl_gi, pz_wl_gr, pz_wl_same, pz_wl_X, pz_wr_gc, pz_wr_ga, pz_wr_gn, pz_wr_gi, pz_wr_gl, pz_wr_same, pz_wr_X, bI_t]
          (try simp (disch := omega) only [nI_clamp, pz_in_nI2, pz_in_nI2L, pv_gt, nI_add, nI_addL, nI_Ladd, pk_mul, nI_mulL, nI_Lmul, pk_sub, nI_subL, nI_Lsub, nI_inc, nI_clampL, Nat.add_sub_cancel, pz_wi_else, pz_wl_else, vu_eq, vu_ne, pz_wi_gc, pz_wi_ga, pz_wi_gn, pz_wi_gl, pz_wi_gr, pz_wi_same, pz_wi_X, pz_wl_gc, pz_wl_ga, pz_wl_gn, pz_wl_gi, pz_wl_gr, pz_wl_same, pz_wl_X, pz_wr_gc, pz_wr_ga, pz_wr_gn, pz_wr_gi, pz_wr_gl, pz_wr_same, pz_wr_X, bI_t])
          refine po_brP (fun q29 => ?_) (fun q29 => ?_)
          · skip
            (try simp (disch := omega) only [nI_ltI, nI_leI, nI_eq, nI_ltL, nI_leL, nI_eqL, nI_Llt, nI_Lle, nI_Leq, nI_eqm, nI_meq, nI_ltm, nI_lem, nI_mlt, nI_mle, lg0, lgl, lgg, lgle, lgge, Int32.not_lt, Int32.not_le, Int64.not_lt, Int64.not_le, not_false_eq_true, not_true_eq_false, Decidable.not_not, ge_iff_le, gt_iff_lt] at q29)
            refine pw_blk (mi := mz_233) (b := bz_233_34) rfl rfl ?_
            simp only [bz_233_34, pz_cut_t, pz_cut_f, pz_cut_n, pv_gt, pv_ts, pv_tn, ev_ald0, ev_eld0, ev_gf4_2, ev_gf10_1, ev_ald3, ev_eld3, ev_ild1, ev_cs3, pz_wi_gc, pz_wi_ga, pz_wi_gn, pz_wi_gl, pz_wi_gr, pz_wi_same, pz_wi_X, pz_wl_gc, pz_wl_ga, pz_wl_gn, pz_wl_gi, pz_wl_gr, pz_wl_same, pz_wl_X, pz_wr_gc, pz_wr_ga, pz_wr_gn, pz_wr_gi, pz_wr_gl, pz_wr_same, pz_wr_X, so_18 hS, sr_18_0 hS, so_1 hS, so_18 hS2, sr_18_0 hS2, so_1 hS2, g8]
            (try simp (disch := omega) only [nI_clamp, pz_in_nI2, pz_in_nI2L, pv_gt, nI_add, nI_addL, nI_Ladd, pk_mul, nI_mulL, nI_Lmul, pk_sub, nI_subL, nI_Lsub, nI_inc, nI_clampL, Nat.add_sub_cancel, pz_wi_else, pz_wl_else, vu_eq, vu_ne, pz_wi_gc, pz_wi_ga, pz_wi_gn, pz_wi_gl, pz_wi_gr, pz_wi_same, pz_wi_X, pz_wl_gc, pz_wl_ga, pz_wl_gn, pz_wl_gi, pz_wl_gr, pz_wl_same, pz_wl_X, pz_wr_gc, pz_wr_ga, pz_wr_gn, pz_wr_gi, pz_wr_gl, pz_wr_same, pz_wr_X, so_18 hS2, sr_18_0 hS2, so_1 hS2, g8])
            (try refine po_gP (Nat.le_of_ble_eq_true rfl) ?_)
            refine po_call (by omega) (m_placeOf (nm := nm) (len := len) (by rw [c12.1.a]; exact ha) (by rw [c12.1.n]; exact hl) (by omega) hl2 hwd (fun i hi => by rw [c12.1.l (by rcases hk with rfl | rfl | rfl <;> decide)]; exact hm i hi) ?_)
            rw [ev]
            refine pw_blk (mi := mz_233) (b := bz_233_46) rfl rfl ?_
            simp only [bz_233_46, pz_cut_t, pz_cut_f, pz_cut_n, pv_gt, pv_ts, pv_tn, ev_icm1, ev_ic_eq, pz_wi_gc, pz_wi_ga, pz_wi_gn, pz_wi_gl, pz_wi_gr, pz_wi_same, pz_wi_X, pz_wl_gc, pz_wl_ga, pz_wl_gn, pz_wl_gi, pz_wl_gr, pz_wl_same, pz_wl_X, pz_wr_gc, pz_wr_ga, pz_wr_gn, pz_wr_gi, pz_wr_gl, pz_wr_same, pz_wr_X]
            (try simp (disch := omega) only [nI_clamp, pz_in_nI2, pz_in_nI2L, pv_gt, nI_add, nI_addL, nI_Ladd, pk_mul, nI_mulL, nI_Lmul, pk_sub, nI_subL, nI_Lsub, nI_inc, nI_clampL, Nat.add_sub_cancel, pz_wi_else, pz_wl_else, vu_eq, vu_ne, pz_wi_gc, pz_wi_ga, pz_wi_gn, pz_wi_gl, pz_wi_gr, pz_wi_same, pz_wi_X, pz_wl_gc, pz_wl_ga, pz_wl_gn, pz_wl_gi, pz_wl_gr, pz_wl_same, pz_wl_X, pz_wr_gc, pz_wr_ga, pz_wr_gn, pz_wr_gi, pz_wr_gl, pz_wr_same, pz_wr_X])
            refine po_brP (fun q46 => ?_) (fun q46 => ?_)
            · first
              | exact absurd q46 (by decide)
              | exact absurd trivial q46
              | exact q46.elim
              | (exfalso; (try simp (disch := omega) only [nI_ltI, nI_leI, nI_eq, nI_ltL, nI_leL, nI_eqL, nI_Llt, nI_Lle, nI_Leq, nI_eqm, nI_meq, nI_ltm, nI_lem, nI_mlt, nI_mle, lg0, lgl, lgg, lgle, lgge, Int32.not_lt, Int32.not_le, Int64.not_lt, Int64.not_le, not_false_eq_true, not_true_eq_false, Decidable.not_not, ge_iff_le, gt_iff_lt] at q46) <;> omega)
              | exact absurd q46 (by with_reducible assumption)
              | exact absurd (by with_reducible assumption) q46
              | exact absurd (Decidable.not_not.mp q46) (by with_reducible assumption)
              | exact absurd (by with_reducible assumption) (Int32.not_le.mpr q46)
              | exact absurd (by with_reducible assumption) (Int32.not_lt.mpr q46)
            · skip
              (try simp (disch := omega) only [nI_ltI, nI_leI, nI_eq, nI_ltL, nI_leL, nI_eqL, nI_Llt, nI_Lle, nI_Leq, nI_eqm, nI_meq, nI_ltm, nI_lem, nI_mlt, nI_mle, lg0, lgl, lgg, lgle, lgge, Int32.not_lt, Int32.not_le, Int64.not_lt, Int64.not_le, not_false_eq_true, not_true_eq_false, Decidable.not_not, ge_iff_le, gt_iff_lt] at q46)
              refine pw_blk (mi := mz_233) (b := bz_233_50) rfl rfl ?_
              simp only [bz_233_50, pz_cut_t, pz_cut_f, pz_cut_n, pv_gt, pv_ts, pv_tn, ev_ald0, ev_eld0, ev_gf4_2, ev_ic3, ev_cv1_10, pz_wi_gc, pz_wi_ga, pz_wi_gn, pz_wi_gl, pz_wi_gr, pz_wi_same, pz_wi_X, pz_wl_gc, pz_wl_ga, pz_wl_gn, pz_wl_gi, pz_wl_gr, pz_wl_same, pz_wl_X, pz_wr_gc, pz_wr_ga, pz_wr_gn, pz_wr_gi, pz_wr_gl, pz_wr_same, pz_wr_X, so_18 hS, sr_18_0 hS, so_1 hS, so_18 hS2, sr_18_0 hS2, so_1 hS2]
              (try simp (disch := omega) only [nI_clamp, pz_in_nI2, pz_in_nI2L, pv_gt, nI_add, nI_addL, nI_Ladd, pk_mul, nI_mulL, nI_Lmul, pk_sub, nI_subL, nI_Lsub, nI_inc, nI_clampL, Nat.add_sub_cancel, pz_wi_else, pz_wl_else, vu_eq, vu_ne, pz_wi_gc, pz_wi_ga, pz_wi_gn, pz_wi_gl, pz_wi_gr, pz_wi_same, pz_wi_X, pz_wl_gc, pz_wl_ga, pz_wl_gn, pz_wl_gi, pz_wl_gr, pz_wl_same, pz_wl_X, pz_wr_gc, pz_wr_ga, pz_wr_gn, pz_wr_gi, pz_wr_gl, pz_wr_same, pz_wr_X, so_18 hS2, sr_18_0 hS2, so_1 hS2])
              (try refine po_gP (Nat.le_of_ble_eq_true rfl) ?_)
              refine po_call (by omega) (m_fail (j := 3) (by decide) (by decide) s2 (fun M3 c3 s3 => ?_))
              refine pw_blk (mi := mz_233) (b := bz_233_58) rfl rfl ?_
              simp only [bz_233_58, pz_cut_t, pz_cut_f, pz_cut_n, pv_gt, pv_ts, pv_tn, ev_ic0, ev_iret1, pz_wi_gc, pz_wi_ga, pz_wi_gn, pz_wi_gl, pz_wi_gr, pz_wi_same, pz_wi_X, pz_wl_gc, pz_wl_ga, pz_wl_gn, pz_wl_gi, pz_wl_gr, pz_wl_same, pz_wl_X, pz_wr_gc, pz_wr_ga, pz_wr_gn, pz_wr_gi, pz_wr_gl, pz_wr_same, pz_wr_X]
              (try simp (disch := omega) only [nI_clamp, pz_in_nI2, pz_in_nI2L, pv_gt, nI_add, nI_addL, nI_Ladd, pk_mul, nI_mulL, nI_Lmul, pk_sub, nI_subL, nI_Lsub, nI_inc, nI_clampL, Nat.add_sub_cancel, pz_wi_else, pz_wl_else, vu_eq, vu_ne, pz_wi_gc, pz_wi_ga, pz_wi_gn, pz_wi_gl, pz_wi_gr, pz_wi_same, pz_wi_X, pz_wl_gc, pz_wl_ga, pz_wl_gn, pz_wl_gi, pz_wl_gr, pz_wl_same, pz_wl_X, pz_wr_gc, pz_wr_ga, pz_wr_gn, pz_wr_gi, pz_wr_gl, pz_wr_same, pz_wr_X])
              (try refine po_gP (by first | decide | assumption) ?_)
              exact po_ret (k0 flF_G (fun z => z.2.2 zf) M3 (c12.tr c3) s3)
          · first
            | exact absurd q29 (by decide)
            | exact absurd trivial q29
            | exact q29.elim
            | (exfalso; (try simp (disch := omega) only [nI_ltI, nI_leI, nI_eq, nI_ltL, nI_leL, nI_eqL, nI_Llt, nI_Lle, nI_Leq, nI_eqm, nI_meq, nI_ltm, nI_lem, nI_mlt, nI_mle, lg0, lgl, lgg, lgle, lgge, Int32.not_lt, Int32.not_le, Int64.not_lt, Int64.not_le, not_false_eq_true, not_true_eq_false, Decidable.not_not, ge_iff_le, gt_iff_lt] at q29) <;> omega)
            | exact absurd q29 (by with_reducible assumption)
            | exact absurd (by with_reducible assumption) q29
            | exact absurd (Decidable.not_not.mp q29) (by with_reducible assumption)
            | exact absurd (by with_reducible assumption) (Int32.not_le.mpr q29)
            | exact absurd (by with_reducible assumption) (Int32.not_lt.mpr q29)
        · first
          | exact absurd q0 (by decide)
          | exact absurd trivial q0
          | exact q0.elim
          | (exfalso; (try simp (disch := omega) only [nI_ltI, nI_leI, nI_eq, nI_ltL, nI_leL, nI_eqL, nI_Llt, nI_Lle, nI_Leq, nI_eqm, nI_meq, nI_ltm, nI_lem, nI_mlt, nI_mle, lg0, lgl, lgg, lgle, lgge, Int32.not_lt, Int32.not_le, Int64.not_lt, Int64.not_le, not_false_eq_true, not_true_eq_false, Decidable.not_not, ge_iff_le, gt_iff_lt] at q0) <;> omega)
          | exact absurd q0 (by with_reducible assumption)
          | exact absurd (by with_reducible assumption) q0
          | exact absurd (Decidable.not_not.mp q0) (by with_reducible assumption)
          | exact absurd (by with_reducible assumption) (Int32.not_le.mpr q0)
          | exact absurd (by with_reducible assumption) (Int32.not_lt.mpr q0)
      · rw [if_neg zf] at k0
        have ev : fdI nm (nmV (nxF ru T L σ)) n = -1 := if_neg zf
        refine pm_ent (L := [some (.ref 18), some (.int (nI n)), some (.int (nI m)), some (.ref k)]) rfl (Nat.le_of_ble_eq_true rfl) ?_
        refine pw_blk (mi := mz_233) (b := bz_233_0) rfl rfl ?_
        simp only [bz_233_0, pz_cut_t, pz_cut_f, pz_cut_n, pv_gt, pv_ts, pv_tn, ev_ild1, ev_ild2, ev_ic_lt, pz_wi_gc, pz_wi_ga, pz_wi_gn, pz_wi_gl, pz_wi_gr, pz_wi_same, pz_wi_X, pz_wl_gc, pz_wl_ga, pz_wl_gn, pz_wl_gi, pz_wl_gr, pz_wl_same, pz_wl_X, pz_wr_gc, pz_wr_ga, pz_wr_gn, pz_wr_gi, pz_wr_gl, pz_wr_same, pz_wr_X]
        (try simp (disch := omega) only [nI_clamp, pz_in_nI2, pz_in_nI2L, pv_gt, nI_add, nI_addL, nI_Ladd, pk_mul, nI_mulL, nI_Lmul, pk_sub, nI_subL, nI_Lsub, nI_inc, nI_clampL, Nat.add_sub_cancel, pz_wi_else, pz_wl_else, vu_eq, vu_ne, pz_wi_gc, pz_wi_ga, pz_wi_gn, pz_wi_gl, pz_wi_gr, pz_wi_same, pz_wi_X, pz_wl_gc, pz_wl_ga, pz_wl_gn, pz_wl_gi, pz_wl_gr, pz_wl_same, pz_wl_X, pz_wr_gc, pz_wr_ga, pz_wr_gn, pz_wr_gi, pz_wr_gl, pz_wr_same, pz_wr_X])
        refine po_brP (fun q0 => ?_) (fun q0 => ?_)
        · skip
          (try simp (disch := omega) only [nI_ltI, nI_leI, nI_eq, nI_ltL, nI_leL, nI_eqL, nI_Llt, nI_Lle, nI_Leq, nI_eqm, nI_meq, nI_ltm, nI_lem, nI_mlt, nI_mle, lg0, lgl, lgg, lgle, lgge, Int32.not_lt, Int32.not_le, Int64.not_lt, Int64.not_le, not_false_eq_true, not_true_eq_false, Decidable.not_not, ge_iff_le, gt_iff_lt] at q0)
          refine pw_blk (mi := mz_233) (b := bz_233_15) rfl rfl ?_
          simp only [bz_233_15, pz_cut_t, pz_cut_f, pz_cut_n, pv_gt, pv_ts, pv_tn, ev_ald0, ev_eld0, ev_gf4_2, ev_cv0_10, pz_wi_gc, pz_wi_ga, pz_wi_gn, pz_wi_gl, pz_wi_gr, pz_wi_same, pz_wi_X, pz_wl_gc, pz_wl_ga, pz_wl_gn, pz_wl_gi, pz_wl_gr, pz_wl_same, pz_wl_X, pz_wr_gc, pz_wr_ga, pz_wr_gn, pz_wr_gi, pz_wr_gl, pz_wr_same, pz_wr_X, so_18 hS, sr_18_0 hS, so_1 hS]
          (try simp (disch := omega) only [nI_clamp, pz_in_nI2, pz_in_nI2L, pv_gt, nI_add, nI_addL, nI_Ladd, pk_mul, nI_mulL, nI_Lmul, pk_sub, nI_subL, nI_Lsub, nI_inc, nI_clampL, Nat.add_sub_cancel, pz_wi_else, pz_wl_else, vu_eq, vu_ne, pz_wi_gc, pz_wi_ga, pz_wi_gn, pz_wi_gl, pz_wi_gr, pz_wi_same, pz_wi_X, pz_wl_gc, pz_wl_ga, pz_wl_gn, pz_wl_gi, pz_wl_gr, pz_wl_same, pz_wl_X, pz_wr_gc, pz_wr_ga, pz_wr_gn, pz_wr_gi, pz_wr_gl, pz_wr_same, pz_wr_X])
          (try refine po_gP (Nat.le_of_ble_eq_true rfl) ?_)
          refine po_call (by omega) (m_adv (by omega) s (fun M1 c1 s1 => ?_))
          have hS1 := s1.1.1
          refine pw_blk (mi := mz_233) (b := bz_233_22) rfl rfl ?_
          simp only [bz_233_22, pz_cut_t, pz_cut_f, pz_cut_n, pv_gt, pv_ts, pv_tn, ev_ald0, ev_eld0, ev_gf4_2, ev_cv0_10, pz_wi_gc, pz_wi_ga, pz_wi_gn, pz_wi_gl, pz_wi_gr, pz_wi_same, pz_wi_X, pz_wl_gc, pz_wl_ga, pz_wl_gn, pz_wl_gi, pz_wl_gr, pz_wl_same, pz_wl_X, pz_wr_gc, pz_wr_ga, pz_wr_gn, pz_wr_gi, pz_wr_gl, pz_wr_same, pz_wr_X, so_18 hS, sr_18_0 hS, so_1 hS, so_18 hS1, sr_18_0 hS1, so_1 hS1]
          (try simp (disch := omega) only [nI_clamp, pz_in_nI2, pz_in_nI2L, pv_gt, nI_add, nI_addL, nI_Ladd, pk_mul, nI_mulL, nI_Lmul, pk_sub, nI_subL, nI_Lsub, nI_inc, nI_clampL, Nat.add_sub_cancel, pz_wi_else, pz_wl_else, vu_eq, vu_ne, pz_wi_gc, pz_wi_ga, pz_wi_gn, pz_wi_gl, pz_wi_gr, pz_wi_same, pz_wi_X, pz_wl_gc, pz_wl_ga, pz_wl_gn, pz_wl_gi, pz_wl_gr, pz_wl_same, pz_wl_X, pz_wr_gc, pz_wr_ga, pz_wr_gn, pz_wr_gi, pz_wr_gl, pz_wr_same, pz_wr_X, so_18 hS1, sr_18_0 hS1, so_1 hS1])
          (try refine po_gP (Nat.le_of_ble_eq_true rfl) ?_)
          refine po_call (by omega) (m_atName (by omega) s1 (fun M2 c2 s2 => ?_))
          rw [zg]
          rw [ea] at s2
          have hS2 := s2.1.1
          obtain ⟨g8, hwd⟩ := s2.nm zg
          have c12 := c1.tr c2
          have ha2 : ga M2 k = some 1 := by rw [c12.1.a]; exact ha
          have hl2' : gn M2 k = len := by rw [c12.1.n]; exact hl
          refine pw_blk (mi := mz_233) (b := bz_233_29) rfl rfl ?_
          simp only [bz_233_29, pz_cut_t, pz_cut_f, pz_cut_n, pv_gt, pv_ts, pv_tn, ev_ifne, pz_wi_gc, pz_wi_ga, pz_wi_gn, pz_wi_gl, pz_wi_gr, pz_wi_same, pz_wi_X, pz_wl_gc, pz_wl_ga, pz_wl_gn, pz_wl_gi, pz_wl_gr, pz_wl_same, pz_wl_X, pz_wr_gc, pz_wr_ga, pz_wr_gn, pz_wr_gi, pz_wr_gl, pz_wr_same, pz_wr_X, bI_t]
          (try simp (disch := omega) only [nI_clamp, pz_in_nI2, pz_in_nI2L, pv_gt, nI_add, nI_addL, nI_Ladd, pk_mul, nI_mulL, nI_Lmul, pk_sub, nI_subL, nI_Lsub, nI_inc, nI_clampL, Nat.add_sub_cancel, pz_wi_else, pz_wl_else, vu_eq, vu_ne, pz_wi_gc, pz_wi_ga, pz_wi_gn, pz_wi_gl, pz_wi_gr, pz_wi_same, pz_wi_X, pz_wl_gc, pz_wl_ga, pz_wl_gn, pz_wl_gi, pz_wl_gr, pz_wl_same, pz_wl_X, pz_wr_gc, pz_wr_ga, pz_wr_gn, pz_wr_gi, pz_wr_gl, pz_wr_same, pz_wr_X, bI_t])
          refine po_brP (fun q29 => ?_) (fun q29 => ?_)
          · skip
            (try simp (disch := omega) only [nI_ltI, nI_leI, nI_eq, nI_ltL, nI_leL, nI_eqL, nI_Llt, nI_Lle, nI_Leq, nI_eqm, nI_meq, nI_ltm, nI_lem, nI_mlt, nI_mle, lg0, lgl, lgg, lgle, lgge, Int32.not_lt, Int32.not_le, Int64.not_lt, Int64.not_le, not_false_eq_true, not_true_eq_false, Decidable.not_not, ge_iff_le, gt_iff_lt] at q29)
            refine pw_blk (mi := mz_233) (b := bz_233_34) rfl rfl ?_
            simp only [bz_233_34, pz_cut_t, pz_cut_f, pz_cut_n, pv_gt, pv_ts, pv_tn, ev_ald0, ev_eld0, ev_gf4_2, ev_gf10_1, ev_ald3, ev_eld3, ev_ild1, ev_cs3, pz_wi_gc, pz_wi_ga, pz_wi_gn, pz_wi_gl, pz_wi_gr, pz_wi_same, pz_wi_X, pz_wl_gc, pz_wl_ga, pz_wl_gn, pz_wl_gi, pz_wl_gr, pz_wl_same, pz_wl_X, pz_wr_gc, pz_wr_ga, pz_wr_gn, pz_wr_gi, pz_wr_gl, pz_wr_same, pz_wr_X, so_18 hS, sr_18_0 hS, so_1 hS, so_18 hS2, sr_18_0 hS2, so_1 hS2, g8]
            (try simp (disch := omega) only [nI_clamp, pz_in_nI2, pz_in_nI2L, pv_gt, nI_add, nI_addL, nI_Ladd, pk_mul, nI_mulL, nI_Lmul, pk_sub, nI_subL, nI_Lsub, nI_inc, nI_clampL, Nat.add_sub_cancel, pz_wi_else, pz_wl_else, vu_eq, vu_ne, pz_wi_gc, pz_wi_ga, pz_wi_gn, pz_wi_gl, pz_wi_gr, pz_wi_same, pz_wi_X, pz_wl_gc, pz_wl_ga, pz_wl_gn, pz_wl_gi, pz_wl_gr, pz_wl_same, pz_wl_X, pz_wr_gc, pz_wr_ga, pz_wr_gn, pz_wr_gi, pz_wr_gl, pz_wr_same, pz_wr_X, so_18 hS2, sr_18_0 hS2, so_1 hS2, g8])
            (try refine po_gP (Nat.le_of_ble_eq_true rfl) ?_)
            refine po_call (by omega) (m_placeOf (nm := nm) (len := len) ha2 hl2' (by omega) hl2 hwd (fun i hi => by rw [c12.1.l (by rcases hk with rfl | rfl | rfl <;> decide)]; exact hm i hi) ?_)
            rw [ev]
            refine pw_blk (mi := mz_233) (b := bz_233_46) rfl rfl ?_
            simp only [bz_233_46, pz_cut_t, pz_cut_f, pz_cut_n, pv_gt, pv_ts, pv_tn, ev_icm1, ev_ic_eq, pz_wi_gc, pz_wi_ga, pz_wi_gn, pz_wi_gl, pz_wi_gr, pz_wi_same, pz_wi_X, pz_wl_gc, pz_wl_ga, pz_wl_gn, pz_wl_gi, pz_wl_gr, pz_wl_same, pz_wl_X, pz_wr_gc, pz_wr_ga, pz_wr_gn, pz_wr_gi, pz_wr_gl, pz_wr_same, pz_wr_X]
            (try simp (disch := omega) only [nI_clamp, pz_in_nI2, pz_in_nI2L, pv_gt, nI_add, nI_addL, nI_Ladd, pk_mul, nI_mulL, nI_Lmul, pk_sub, nI_subL, nI_Lsub, nI_inc, nI_clampL, Nat.add_sub_cancel, pz_wi_else, pz_wl_else, vu_eq, vu_ne, pz_wi_gc, pz_wi_ga, pz_wi_gn, pz_wi_gl, pz_wi_gr, pz_wi_same, pz_wi_X, pz_wl_gc, pz_wl_ga, pz_wl_gn, pz_wl_gi, pz_wl_gr, pz_wl_same, pz_wl_X, pz_wr_gc, pz_wr_ga, pz_wr_gn, pz_wr_gi, pz_wr_gl, pz_wr_same, pz_wr_X])
            refine po_brP (fun q46 => ?_) (fun q46 => ?_)
            · skip
              (try simp (disch := omega) only [nI_ltI, nI_leI, nI_eq, nI_ltL, nI_leL, nI_eqL, nI_Llt, nI_Lle, nI_Leq, nI_eqm, nI_meq, nI_ltm, nI_lem, nI_mlt, nI_mle, lg0, lgl, lgg, lgle, lgge, Int32.not_lt, Int32.not_le, Int64.not_lt, Int64.not_le, not_false_eq_true, not_true_eq_false, Decidable.not_not, ge_iff_le, gt_iff_lt] at q46)
              refine pw_blk (mi := mz_233) (b := bz_233_60) rfl rfl ?_
              simp only [bz_233_60, pz_cut_t, pz_cut_f, pz_cut_n, pv_gt, pv_ts, pv_tn, ev_ald3, ev_eld3, ev_ild1, ev_ald0, ev_eld0, ev_gf4_2, ev_gf10_1, ea_last, ev_cv0_10, pz_wi_gc, pz_wi_ga, pz_wi_gn, pz_wi_gl, pz_wi_gr, pz_wi_same, pz_wi_X, pz_wl_gc, pz_wl_ga, pz_wl_gn, pz_wl_gi, pz_wl_gr, pz_wl_same, pz_wl_X, pz_wr_gc, pz_wr_ga, pz_wr_gn, pz_wr_gi, pz_wr_gl, pz_wr_same, pz_wr_X, so_18 hS, sr_18_0 hS, so_1 hS, so_18 hS2, sr_18_0 hS2, so_1 hS2, g8, ha2, hl2']
              (try simp (disch := omega) only [nI_clamp, pz_in_nI2, pz_in_nI2L, pv_gt, nI_add, nI_addL, nI_Ladd, pk_mul, nI_mulL, nI_Lmul, pk_sub, nI_subL, nI_Lsub, nI_inc, nI_clampL, Nat.add_sub_cancel, pz_wi_else, pz_wl_else, vu_eq, vu_ne, pz_wi_gc, pz_wi_ga, pz_wi_gn, pz_wi_gl, pz_wi_gr, pz_wi_same, pz_wi_X, pz_wl_gc, pz_wl_ga, pz_wl_gn, pz_wl_gi, pz_wl_gr, pz_wl_same, pz_wl_X, pz_wr_gc, pz_wr_ga, pz_wr_gn, pz_wr_gi, pz_wr_gl, pz_wr_same, pz_wr_X, so_18 hS2, sr_18_0 hS2, so_1 hS2, g8, ha2, hl2'])
              (try refine po_gI (by first | exact pz_in_nI (by omega) (by decide) | decide | assumption) ?_)
              (try refine po_gP (Nat.le_of_ble_eq_true rfl) ?_)
              refine po_call (by omega) (m_adv (by omega) (s2.sm (sm.wl (K := [k]) sm.rf (by simp)) (by rcases hk with rfl | rfl | rfl <;> decide) (by rcases hk with rfl | rfl | rfl <;> decide) (by rcases hk with rfl | rfl | rfl <;> decide)) (fun M3 c3 s3 => ?_))
              refine pw_blk (mi := mz_233) (b := bz_233_77) rfl rfl ?_
              simp only [bz_233_77, pz_cut_t, pz_cut_f, pz_cut_n, pv_gt, pv_ts, pv_tn, ev_ic1, ev_iret1, pz_wi_gc, pz_wi_ga, pz_wi_gn, pz_wi_gl, pz_wi_gr, pz_wi_same, pz_wi_X, pz_wl_gc, pz_wl_ga, pz_wl_gn, pz_wl_gi, pz_wl_gr, pz_wl_same, pz_wl_X, pz_wr_gc, pz_wr_ga, pz_wr_gn, pz_wr_gi, pz_wr_gl, pz_wr_same, pz_wr_X]
              (try simp (disch := omega) only [nI_clamp, pz_in_nI2, pz_in_nI2L, pv_gt, nI_add, nI_addL, nI_Ladd, pk_mul, nI_mulL, nI_Lmul, pk_sub, nI_subL, nI_Lsub, nI_inc, nI_clampL, Nat.add_sub_cancel, pz_wi_else, pz_wl_else, vu_eq, vu_ne, pz_wi_gc, pz_wi_ga, pz_wi_gn, pz_wi_gl, pz_wi_gr, pz_wi_same, pz_wi_X, pz_wl_gc, pz_wl_ga, pz_wl_gn, pz_wl_gi, pz_wl_gr, pz_wl_same, pz_wl_X, pz_wr_gc, pz_wr_ga, pz_wr_gn, pz_wr_gi, pz_wr_gl, pz_wr_same, pz_wr_X])
              (try refine po_gP (by first | decide | assumption) ?_)
              refine po_ret (k1 hnm zg zf M3 ?_ ?_ s3 hwd ?_)
              · exact ((c12.1.mono (by simp)).tr (sm.wl (K := [1, k]) sm.rf (by simp)) (fun _ z => z)).tr (c3.1.mono (by simp)) (fun _ z => z)
              · rw [c3.2, pz_wl_gi]; exact c12.2
              · rw [c3.1.l (by rcases hk with rfl | rfl | rfl <;> decide), pz_wl_same, c12.1.l (by rcases hk with rfl | rfl | rfl <;> decide)]
            · first
              | exact absurd q46 (by decide)
              | exact absurd trivial q46
              | exact q46.elim
              | (exfalso; (try simp (disch := omega) only [nI_ltI, nI_leI, nI_eq, nI_ltL, nI_leL, nI_eqL, nI_Llt, nI_Lle, nI_Leq, nI_eqm, nI_meq, nI_ltm, nI_lem, nI_mlt, nI_mle, lg0, lgl, lgg, lgle, lgge, Int32.not_lt, Int32.not_le, Int64.not_lt, Int64.not_le, not_false_eq_true, not_true_eq_false, Decidable.not_not, ge_iff_le, gt_iff_lt] at q46) <;> omega)
              | exact absurd q46 (by with_reducible assumption)
              | exact absurd (by with_reducible assumption) q46
              | exact absurd (Decidable.not_not.mp q46) (by with_reducible assumption)
              | exact absurd (by with_reducible assumption) (Int32.not_le.mpr q46)
              | exact absurd (by with_reducible assumption) (Int32.not_lt.mpr q46)
          · first
            | exact absurd q29 (by decide)
            | exact absurd trivial q29
            | exact q29.elim
            | (exfalso; (try simp (disch := omega) only [nI_ltI, nI_leI, nI_eq, nI_ltL, nI_leL, nI_eqL, nI_Llt, nI_Lle, nI_Leq, nI_eqm, nI_meq, nI_ltm, nI_lem, nI_mlt, nI_mle, lg0, lgl, lgg, lgle, lgge, Int32.not_lt, Int32.not_le, Int64.not_lt, Int64.not_le, not_false_eq_true, not_true_eq_false, Decidable.not_not, ge_iff_le, gt_iff_lt] at q29) <;> omega)
            | exact absurd q29 (by with_reducible assumption)
            | exact absurd (by with_reducible assumption) q29
            | exact absurd (Decidable.not_not.mp q29) (by with_reducible assumption)
            | exact absurd (by with_reducible assumption) (Int32.not_le.mpr q29)
            | exact absurd (by with_reducible assumption) (Int32.not_lt.mpr q29)
        · first
          | exact absurd q0 (by decide)
          | exact absurd trivial q0
          | exact q0.elim
          | (exfalso; (try simp (disch := omega) only [nI_ltI, nI_leI, nI_eq, nI_ltL, nI_leL, nI_eqL, nI_Llt, nI_Lle, nI_Leq, nI_eqm, nI_meq, nI_ltm, nI_lem, nI_mlt, nI_mle, lg0, lgl, lgg, lgle, lgge, Int32.not_lt, Int32.not_le, Int64.not_lt, Int64.not_le, not_false_eq_true, not_true_eq_false, Decidable.not_not, ge_iff_le, gt_iff_lt] at q0) <;> omega)
          | exact absurd q0 (by with_reducible assumption)
          | exact absurd (by with_reducible assumption) q0
          | exact absurd (Decidable.not_not.mp q0) (by with_reducible assumption)
          | exact absurd (by with_reducible assumption) (Int32.not_le.mpr q0)
          | exact absurd (by with_reducible assumption) (Int32.not_lt.mpr q0)
  · rw [if_neg hnm] at k0
    refine pm_ent (L := [some (.ref 18), some (.int (nI n)), some (.int (nI m)), some (.ref k)]) rfl (Nat.le_of_ble_eq_true rfl) ?_
    refine pw_blk (mi := mz_233) (b := bz_233_0) rfl rfl ?_
    simp only [bz_233_0, pz_cut_t, pz_cut_f, pz_cut_n, pv_gt, pv_ts, pv_tn, ev_ild1, ev_ild2, ev_ic_lt, pz_wi_gc, pz_wi_ga, pz_wi_gn, pz_wi_gl, pz_wi_gr, pz_wi_same, pz_wi_X, pz_wl_gc, pz_wl_ga, pz_wl_gn, pz_wl_gi, pz_wl_gr, pz_wl_same, pz_wl_X, pz_wr_gc, pz_wr_ga, pz_wr_gn, pz_wr_gi, pz_wr_gl, pz_wr_same, pz_wr_X]
    (try simp (disch := omega) only [nI_clamp, pz_in_nI2, pz_in_nI2L, pv_gt, nI_add, nI_addL, nI_Ladd, pk_mul, nI_mulL, nI_Lmul, pk_sub, nI_subL, nI_Lsub, nI_inc, nI_clampL, Nat.add_sub_cancel, pz_wi_else, pz_wl_else, vu_eq, vu_ne, pz_wi_gc, pz_wi_ga, pz_wi_gn, pz_wi_gl, pz_wi_gr, pz_wi_same, pz_wi_X, pz_wl_gc, pz_wl_ga, pz_wl_gn, pz_wl_gi, pz_wl_gr, pz_wl_same, pz_wl_X, pz_wr_gc, pz_wr_ga, pz_wr_gn, pz_wr_gi, pz_wr_gl, pz_wr_same, pz_wr_X])
    refine po_brP (fun q0 => ?_) (fun q0 => ?_)
    · first
      | exact absurd q0 (by decide)
      | exact absurd trivial q0
      | exact q0.elim
      | (exfalso; (try simp (disch := omega) only [nI_ltI, nI_leI, nI_eq, nI_ltL, nI_leL, nI_eqL, nI_Llt, nI_Lle, nI_Leq, nI_eqm, nI_meq, nI_ltm, nI_lem, nI_mlt, nI_mle, lg0, lgl, lgg, lgle, lgge, Int32.not_lt, Int32.not_le, Int64.not_lt, Int64.not_le, not_false_eq_true, not_true_eq_false, Decidable.not_not, ge_iff_le, gt_iff_lt] at q0) <;> omega)
      | exact absurd q0 (by with_reducible assumption)
      | exact absurd (by with_reducible assumption) q0
      | exact absurd (Decidable.not_not.mp q0) (by with_reducible assumption)
      | exact absurd (by with_reducible assumption) (Int32.not_le.mpr q0)
      | exact absurd (by with_reducible assumption) (Int32.not_lt.mpr q0)
    · skip
      (try simp (disch := omega) only [nI_ltI, nI_leI, nI_eq, nI_ltL, nI_leL, nI_eqL, nI_Llt, nI_Lle, nI_Leq, nI_eqm, nI_meq, nI_ltm, nI_lem, nI_mlt, nI_mle, lg0, lgl, lgg, lgle, lgge, Int32.not_lt, Int32.not_le, Int64.not_lt, Int64.not_le, not_false_eq_true, not_true_eq_false, Decidable.not_not, ge_iff_le, gt_iff_lt] at q0)
      refine pw_blk (mi := mz_233) (b := bz_233_5) rfl rfl ?_
      simp only [bz_233_5, pz_cut_t, pz_cut_f, pz_cut_n, pv_gt, pv_ts, pv_tn, ev_ald0, ev_eld0, ev_gf4_2, ev_ic2, ev_cv1_10, pz_wi_gc, pz_wi_ga, pz_wi_gn, pz_wi_gl, pz_wi_gr, pz_wi_same, pz_wi_X, pz_wl_gc, pz_wl_ga, pz_wl_gn, pz_wl_gi, pz_wl_gr, pz_wl_same, pz_wl_X, pz_wr_gc, pz_wr_ga, pz_wr_gn, pz_wr_gi, pz_wr_gl, pz_wr_same, pz_wr_X, so_18 hS, sr_18_0 hS, so_1 hS]
      (try simp (disch := omega) only [nI_clamp, pz_in_nI2, pz_in_nI2L, pv_gt, nI_add, nI_addL, nI_Ladd, pk_mul, nI_mulL, nI_Lmul, pk_sub, nI_subL, nI_Lsub, nI_inc, nI_clampL, Nat.add_sub_cancel, pz_wi_else, pz_wl_else, vu_eq, vu_ne, pz_wi_gc, pz_wi_ga, pz_wi_gn, pz_wi_gl, pz_wi_gr, pz_wi_same, pz_wi_X, pz_wl_gc, pz_wl_ga, pz_wl_gn, pz_wl_gi, pz_wl_gr, pz_wl_same, pz_wl_X, pz_wr_gc, pz_wr_ga, pz_wr_gn, pz_wr_gi, pz_wr_gl, pz_wr_same, pz_wr_X])
      (try refine po_gP (Nat.le_of_ble_eq_true rfl) ?_)
      refine po_call (by omega) (m_fail (j := 2) (by decide) (by decide) s (fun M3 c3 s3 => ?_))
      refine pw_blk (mi := mz_233) (b := bz_233_13) rfl rfl ?_
      simp only [bz_233_13, pz_cut_t, pz_cut_f, pz_cut_n, pv_gt, pv_ts, pv_tn, ev_ic0, ev_iret1, pz_wi_gc, pz_wi_ga, pz_wi_gn, pz_wi_gl, pz_wi_gr, pz_wi_same, pz_wi_X, pz_wl_gc, pz_wl_ga, pz_wl_gn, pz_wl_gi, pz_wl_gr, pz_wl_same, pz_wl_X, pz_wr_gc, pz_wr_ga, pz_wr_gn, pz_wr_gi, pz_wr_gl, pz_wr_same, pz_wr_X]
      (try simp (disch := omega) only [nI_clamp, pz_in_nI2, pz_in_nI2L, pv_gt, nI_add, nI_addL, nI_Ladd, pk_mul, nI_mulL, nI_Lmul, pk_sub, nI_subL, nI_Lsub, nI_inc, nI_clampL, Nat.add_sub_cancel, pz_wi_else, pz_wl_else, vu_eq, vu_ne, pz_wi_gc, pz_wi_ga, pz_wi_gn, pz_wi_gl, pz_wi_gr, pz_wi_same, pz_wi_X, pz_wl_gc, pz_wl_ga, pz_wl_gn, pz_wl_gi, pz_wl_gr, pz_wl_same, pz_wl_X, pz_wr_gc, pz_wr_ga, pz_wr_gn, pz_wr_gi, pz_wr_gl, pz_wr_same, pz_wr_X])
      (try refine po_gP (by first | decide | assumption) ?_)
      exact po_ret (k0 flF_G (fun z => hnm z.1) M3 c3 s3)
end RD
