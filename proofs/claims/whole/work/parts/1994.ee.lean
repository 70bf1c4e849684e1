/-! ===== rules: an expression, the reference ===== -/
section REE
variable {d : Nat} {M M' : pz_M} {Q : Option Value × pz_M → Prop} {T : Nat → Nat} {L B : Nat}
/-- where the reference stands behind an expression -/
def eEnd (σ : Sg) : Sg := if rk σ = 4 then flF 2 σ else σ
theorem rk_f {σ : Sg} (h : isG σ = false) : rk σ = 0 := by
  unfold rk
  rw [isWs_f h, isWs_f h, isC_f h, isC_f h, isC_f h, isC_f h, isC_f h, isC_f h]
  decide
theorem eEnd_f {σ : Sg} (h : isG σ = false) : eEnd σ = σ := by unfold eEnd; rw [rk_f h, if_neg (by decide)]
theorem pops_len {r : Nat} : ∀ (S : Pl) (s : Ru), (pops r S s).1.length ≤ S.length := by
  intro S
  induction S with
  | nil => intro s; exact Nat.le_refl _
  | cons x S ih =>
    intro s
    show (if x.1 ≤ 6 ∧ r ≤ x.1 then pops r S (rAdd x.2 0 s) else (x :: S, s)).1.length ≤ _
    split
    · exact Nat.le_trans (ih _) (by rw [List.length_cons]; omega)
    · exact Nat.le_refl _
theorem unit_f {S : Pl} {s : Ru} (h : isG s.1 = false) : unitS T L B S s = (S, true, rFl 2 s) := by
  unfold unitS
  rw [if_pos]
  unfold uBad uNot wuK
  rw [isWs_f h, isWs_f h, isWs_f h, isWs_f h, isWs_f h, isWs_f h, isN_f h, isC_f h]
  simp
theorem beh_f {S : Pl} {s : Ru} (h : isG s.1 = false) (ho : okSt S) (hn : S ≠ []) : ∃ S' s', behS T L S s = (S', false, s') ∧ s'.1 = s.1 ∧ S'.length < S.length := by
  obtain ⟨a1, a2, a3, a4, a5, a6, a7⟩ := pops_ok (r := 0) S s ho hn
  have al := pops_len (r := 0) S s
  refine ⟨_, _, by unfold behS; rw [rk_f h, if_neg (by omega), if_neg (by decide)], ?_, ?_⟩
  · split
    · show tsF true T L 41 (pops 0 S s).2.1 = s.1
      rw [a5]
      exact tsF_f h
    · exact a5
  · cases hP : (pops 0 S s).1 with
    | nil => exact absurd hP a2
    | cons y P =>
      rw [hP, List.length_cons] at al
      show P.length < _
      omega
theorem r_e (hd : 16 ≤ d) {s : Ru} {b : Nat} (hb : b ≤ 1) (hB : B ≤ 24) (e38 : gi M 120 38 = nI b) (eB : gi M 123 b = nI B) (z : gi M 120 4 = 0) (x : rSt M true T L s.1) (e74 : gi M 120 74 = nI s.2.1) (e73 : gi M 120 73 = nI (400 + s.2.2.length)) (hcd : cdL M s.2.2) (hu : s.2.1 ≤ 40) (hl : s.2.2.length ≤ 9 * s.2.1 + 1) (kf : ∀ M', efr M M' → rSt M' true T L (eEnd ((PF T L B 8).1 s).1) → (isG (eEnd ((PF T L B 8).1 s).1) = true → eN M' [] ((PF T L B 8).1 s) ∧ ((PF T L B 8).1 s).2.1 ≤ 40 ∧ ((PF T L B 8).1 s).2.2.length ≤ 9 * ((PF T L B 8).1 s).2.1 + 1) → Q (none, M')) : pm d 221 [.ref 120] M Q := by
  have hS := x.1.1
  have hpf := ((PF_prp (T := T) (L := L) (B := B) 8).2 (by decide)).1
  have hsim := fun K hK => (allSim (T := T) (L := L) (B := B) (K := K) hK 7).1
  generalize (PF T L B 8).1 = E at kf hpf hsim
  -- the loop, from a state
  let K : MS → Prop := fun m => ∀ M', efr M M' → rSt M' true T L m.2.2.1 → (gi M' 120 4 = 0 → eN M' m.1 m.2.2) → okM m → pw d 221 (19, [some (.ref 120), some (.int (bI m.2.1))], [], M') Q
  have stop4 : ∀ M' v, efr M M' → rSt M' true T L (eEnd (E s).1) → ¬ gi M' 120 4 = 0 → pw d 221 (19, [some (.ref 120), some (.int v)], [], M') Q := by
    intro M' v f x' n4
    have hS' := x'.1.1
    have hg := x'.f n4
    have kk := kf M' f x' (fun q => by rw [hg] at q; cases q)
    refine pw_blk (mi := mz_221) (b := bz_221_19) rfl rfl ?_
    simp only [bz_221_19, pz_cut_t, pz_cut_f, pz_cut_n, pv_gt, pv_ts, pv_tn, ev_ald0, ev_eld0, ev_cv0_11, pz_wi_gc, pz_wi_ga, pz_wi_gn, pz_wi_gl, pz_wi_gr, pz_wi_same, pz_wi_X, pz_wl_gc, pz_wl_ga, pz_wl_gn, pz_wl_gi, pz_wl_gr, pz_wl_same, pz_wl_X, pz_wr_gc, pz_wr_ga, pz_wr_gn, pz_wr_gi, pz_wr_gl, pz_wr_same, pz_wr_X, so_120 hS']
    (try simp (disch := omega) only [nI_clamp, pz_in_nI2, pz_in_nI2L, pv_gt, nI_add, nI_addL, nI_Ladd, pk_mul, nI_mulL, nI_Lmul, pk_sub, nI_subL, nI_Lsub, nI_inc, nI_clampL, Nat.add_sub_cancel, pz_wi_else, pz_wl_else, vu_eq, vu_ne, pz_wi_gc, pz_wi_ga, pz_wi_gn, pz_wi_gl, pz_wi_gr, pz_wi_same, pz_wi_X, pz_wl_gc, pz_wl_ga, pz_wl_gn, pz_wl_gi, pz_wl_gr, pz_wl_same, pz_wl_X, pz_wr_gc, pz_wr_ga, pz_wr_gn, pz_wr_gi, pz_wr_gl, pz_wr_same, pz_wr_X])
    (try refine po_gP (Nat.le_of_ble_eq_true rfl) ?_)
    refine po_call (by omega) (r_isGd hS' (fun y => absurd y n4) (fun _ => ?_))
    refine pw_blk (mi := mz_221) (b := bz_221_23) rfl rfl ?_
    simp only [bz_221_23, pz_cut_t, pz_cut_f, pz_cut_n, pv_gt, pv_ts, pv_tn, ev_ifeq, pz_wi_gc, pz_wi_ga, pz_wi_gn, pz_wi_gl, pz_wi_gr, pz_wi_same, pz_wi_X, pz_wl_gc, pz_wl_ga, pz_wl_gn, pz_wl_gi, pz_wl_gr, pz_wl_same, pz_wl_X, pz_wr_gc, pz_wr_ga, pz_wr_gn, pz_wr_gi, pz_wr_gl, pz_wr_same, pz_wr_X]
    (try simp (disch := omega) only [nI_clamp, pz_in_nI2, pz_in_nI2L, pv_gt, nI_add, nI_addL, nI_Ladd, pk_mul, nI_mulL, nI_Lmul, pk_sub, nI_subL, nI_Lsub, nI_inc, nI_clampL, Nat.add_sub_cancel, pz_wi_else, pz_wl_else, vu_eq, vu_ne, pz_wi_gc, pz_wi_ga, pz_wi_gn, pz_wi_gl, pz_wi_gr, pz_wi_same, pz_wi_X, pz_wl_gc, pz_wl_ga, pz_wl_gn, pz_wl_gi, pz_wl_gr, pz_wl_same, pz_wl_X, pz_wr_gc, pz_wr_ga, pz_wr_gn, pz_wr_gi, pz_wr_gl, pz_wr_same, pz_wr_X])
    refine po_brP (fun q23 => ?_) (fun q23 => ?_)
    · skip
      (try simp (disch := omega) only [nI_ltI, nI_leI, nI_eq, nI_ltL, nI_leL, nI_eqL, nI_Llt, nI_Lle, nI_Leq, nI_eqm, nI_meq, nI_ltm, nI_lem, nI_mlt, nI_mle, lg0, lgl, lgg, lgle, lgge, Int32.not_lt, Int32.not_le, Int64.not_lt, Int64.not_le, not_false_eq_true, not_true_eq_false, Decidable.not_not, ge_iff_le, gt_iff_lt] at q23)
      refine pw_blk (mi := mz_221) (b := bz_221_52) rfl rfl ?_
      simp only [bz_221_52, pz_cut_t, pz_cut_f, pz_cut_n, pv_gt, pv_ts, pv_tn, ev_ret, pz_wi_gc, pz_wi_ga, pz_wi_gn, pz_wi_gl, pz_wi_gr, pz_wi_same, pz_wi_X, pz_wl_gc, pz_wl_ga, pz_wl_gn, pz_wl_gi, pz_wl_gr, pz_wl_same, pz_wl_X, pz_wr_gc, pz_wr_ga, pz_wr_gn, pz_wr_gi, pz_wr_gl, pz_wr_same, pz_wr_X]
      (try simp (disch := omega) only [nI_clamp, pz_in_nI2, pz_in_nI2L, pv_gt, nI_add, nI_addL, nI_Ladd, pk_mul, nI_mulL, nI_Lmul, pk_sub, nI_subL, nI_Lsub, nI_inc, nI_clampL, Nat.add_sub_cancel, pz_wi_else, pz_wl_else, vu_eq, vu_ne, pz_wi_gc, pz_wi_ga, pz_wi_gn, pz_wi_gl, pz_wi_gr, pz_wi_same, pz_wi_X, pz_wl_gc, pz_wl_ga, pz_wl_gn, pz_wl_gi, pz_wl_gr, pz_wl_same, pz_wl_X, pz_wr_gc, pz_wr_ga, pz_wr_gn, pz_wr_gi, pz_wr_gl, pz_wr_same, pz_wr_X])
      exact po_ret kk
    · first
      | exact absurd q23 (by decide)
      | exact absurd trivial q23
      | exact q23.elim
      | (exfalso; (try simp (disch := omega) only [nI_ltI, nI_leI, nI_eq, nI_ltL, nI_leL, nI_eqL, nI_Llt, nI_Lle, nI_Leq, nI_eqm, nI_meq, nI_ltm, nI_lem, nI_mlt, nI_mle, lg0, lgl, lgg, lgle, lgge, Int32.not_lt, Int32.not_le, Int64.not_lt, Int64.not_le, not_false_eq_true, not_true_eq_false, Decidable.not_not, ge_iff_le, gt_iff_lt] at q23) <;> omega)
      | exact absurd q23 (by with_reducible assumption)
      | exact absurd (by with_reducible assumption) q23
      | exact absurd (Decidable.not_not.mp q23) (by with_reducible assumption)
      | exact absurd (by with_reducible assumption) (Int32.not_le.mpr q23)
      | exact absurd (by with_reducible assumption) (Int32.not_lt.mpr q23)
  have hU : ∀ S s', S ≠ [] → K (unitS T L B S s') → ∀ M', efr M M' → rSt M' true T L s'.1 → gi M' 120 4 = 0 → eN M' S s' → okM (S, true, s') → isG s'.1 = true → pw d 221 (19, [some (.ref 120), some (.int 1)], [], M') Q := by
    intro S s' hn hK M' f x' z' n' o' hg
    have hS' := x'.1.1
    have e76 := n'.1.1
    have hl := o'.b.1
    have hl1 : 1 ≤ S.length := by
      cases S with
      | nil => exact absurd rfl hn
      | cons y S => rw [List.length_cons]; omega
    have hl2 : S.length ≤ 48 := hl
    generalize hq : S.length = q at e76 hl1 hl2
    refine pw_blk (mi := mz_221) (b := bz_221_19) rfl rfl ?_
    simp only [bz_221_19, pz_cut_t, pz_cut_f, pz_cut_n, pv_gt, pv_ts, pv_tn, ev_ald0, ev_eld0, ev_cv0_11, pz_wi_gc, pz_wi_ga, pz_wi_gn, pz_wi_gl, pz_wi_gr, pz_wi_same, pz_wi_X, pz_wl_gc, pz_wl_ga, pz_wl_gn, pz_wl_gi, pz_wl_gr, pz_wl_same, pz_wl_X, pz_wr_gc, pz_wr_ga, pz_wr_gn, pz_wr_gi, pz_wr_gl, pz_wr_same, pz_wr_X, so_120 hS', e76]
    (try simp (disch := omega) only [nI_clamp, pz_in_nI2, pz_in_nI2L, pv_gt, nI_add, nI_addL, nI_Ladd, pk_mul, nI_mulL, nI_Lmul, pk_sub, nI_subL, nI_Lsub, nI_inc, nI_clampL, Nat.add_sub_cancel, pz_wi_else, pz_wl_else, vu_eq, vu_ne, pz_wi_gc, pz_wi_ga, pz_wi_gn, pz_wi_gl, pz_wi_gr, pz_wi_same, pz_wi_X, pz_wl_gc, pz_wl_ga, pz_wl_gn, pz_wl_gi, pz_wl_gr, pz_wl_same, pz_wl_X, pz_wr_gc, pz_wr_ga, pz_wr_gn, pz_wr_gi, pz_wr_gl, pz_wr_same, pz_wr_X, e76])
    (try refine po_gP (Nat.le_of_ble_eq_true rfl) ?_)
    refine po_call (by omega) (r_isGd hS' (fun _ => ?_) (fun y => absurd z' y))
    refine pw_blk (mi := mz_221) (b := bz_221_23) rfl rfl ?_
    simp only [bz_221_23, pz_cut_t, pz_cut_f, pz_cut_n, pv_gt, pv_ts, pv_tn, ev_ifeq, pz_wi_gc, pz_wi_ga, pz_wi_gn, pz_wi_gl, pz_wi_gr, pz_wi_same, pz_wi_X, pz_wl_gc, pz_wl_ga, pz_wl_gn, pz_wl_gi, pz_wl_gr, pz_wl_same, pz_wl_X, pz_wr_gc, pz_wr_ga, pz_wr_gn, pz_wr_gi, pz_wr_gl, pz_wr_same, pz_wr_X, e76]
    (try simp (disch := omega) only [nI_clamp, pz_in_nI2, pz_in_nI2L, pv_gt, nI_add, nI_addL, nI_Ladd, pk_mul, nI_mulL, nI_Lmul, pk_sub, nI_subL, nI_Lsub, nI_inc, nI_clampL, Nat.add_sub_cancel, pz_wi_else, pz_wl_else, vu_eq, vu_ne, pz_wi_gc, pz_wi_ga, pz_wi_gn, pz_wi_gl, pz_wi_gr, pz_wi_same, pz_wi_X, pz_wl_gc, pz_wl_ga, pz_wl_gn, pz_wl_gi, pz_wl_gr, pz_wl_same, pz_wl_X, pz_wr_gc, pz_wr_ga, pz_wr_gn, pz_wr_gi, pz_wr_gl, pz_wr_same, pz_wr_X, e76])
    refine po_brP (fun q23 => ?_) (fun q23 => ?_)
    · first
      | exact absurd q23 (by decide)
      | exact absurd trivial q23
      | exact q23.elim
      | (exfalso; (try simp (disch := omega) only [nI_ltI, nI_leI, nI_eq, nI_ltL, nI_leL, nI_eqL, nI_Llt, nI_Lle, nI_Leq, nI_eqm, nI_meq, nI_ltm, nI_lem, nI_mlt, nI_mle, lg0, lgl, lgg, lgle, lgge, Int32.not_lt, Int32.not_le, Int64.not_lt, Int64.not_le, not_false_eq_true, not_true_eq_false, Decidable.not_not, ge_iff_le, gt_iff_lt] at q23) <;> omega)
      | exact absurd q23 (by with_reducible assumption)
      | exact absurd (by with_reducible assumption) q23
      | exact absurd (Decidable.not_not.mp q23) (by with_reducible assumption)
      | exact absurd (by with_reducible assumption) (Int32.not_le.mpr q23)
      | exact absurd (by with_reducible assumption) (Int32.not_lt.mpr q23)
    · skip
      (try simp (disch := omega) only [nI_ltI, nI_leI, nI_eq, nI_ltL, nI_leL, nI_eqL, nI_Llt, nI_Lle, nI_Leq, nI_eqm, nI_meq, nI_ltm, nI_lem, nI_mlt, nI_mle, lg0, lgl, lgg, lgle, lgge, Int32.not_lt, Int32.not_le, Int64.not_lt, Int64.not_le, not_false_eq_true, not_true_eq_false, Decidable.not_not, ge_iff_le, gt_iff_lt] at q23)
      refine pw_blk (mi := mz_221) (b := bz_221_26) rfl rfl ?_
      simp only [bz_221_26, pz_cut_t, pz_cut_f, pz_cut_n, pv_gt, pv_ts, pv_tn, ev_ald0, ev_eld0, ev_gf11_0, ev_ifle, pz_wi_gc, pz_wi_ga, pz_wi_gn, pz_wi_gl, pz_wi_gr, pz_wi_same, pz_wi_X, pz_wl_gc, pz_wl_ga, pz_wl_gn, pz_wl_gi, pz_wl_gr, pz_wl_same, pz_wl_X, pz_wr_gc, pz_wr_ga, pz_wr_gn, pz_wr_gi, pz_wr_gl, pz_wr_same, pz_wr_X, so_120 hS', e76]
      (try simp (disch := omega) only [nI_clamp, pz_in_nI2, pz_in_nI2L, pv_gt, nI_add, nI_addL, nI_Ladd, pk_mul, nI_mulL, nI_Lmul, pk_sub, nI_subL, nI_Lsub, nI_inc, nI_clampL, Nat.add_sub_cancel, pz_wi_else, pz_wl_else, vu_eq, vu_ne, pz_wi_gc, pz_wi_ga, pz_wi_gn, pz_wi_gl, pz_wi_gr, pz_wi_same, pz_wi_X, pz_wl_gc, pz_wl_ga, pz_wl_gn, pz_wl_gi, pz_wl_gr, pz_wl_same, pz_wl_X, pz_wr_gc, pz_wr_ga, pz_wr_gn, pz_wr_gi, pz_wr_gl, pz_wr_same, pz_wr_X, e76])
      refine po_brP (fun q26 => ?_) (fun q26 => ?_)
      · first
        | exact absurd q26 (by decide)
        | exact absurd trivial q26
        | exact q26.elim
        | (exfalso; (try simp (disch := omega) only [nI_ltI, nI_leI, nI_eq, nI_ltL, nI_leL, nI_eqL, nI_Llt, nI_Lle, nI_Leq, nI_eqm, nI_meq, nI_ltm, nI_lem, nI_mlt, nI_mle, lg0, lgl, lgg, lgle, lgge, Int32.not_lt, Int32.not_le, Int64.not_lt, Int64.not_le, not_false_eq_true, not_true_eq_false, Decidable.not_not, ge_iff_le, gt_iff_lt] at q26) <;> omega)
        | exact absurd q26 (by with_reducible assumption)
        | exact absurd (by with_reducible assumption) q26
        | exact absurd (Decidable.not_not.mp q26) (by with_reducible assumption)
        | exact absurd (by with_reducible assumption) (Int32.not_le.mpr q26)
        | exact absurd (by with_reducible assumption) (Int32.not_lt.mpr q26)
      · skip
        (try simp (disch := omega) only [nI_ltI, nI_leI, nI_eq, nI_ltL, nI_leL, nI_eqL, nI_Llt, nI_Lle, nI_Leq, nI_eqm, nI_meq, nI_ltm, nI_lem, nI_mlt, nI_mle, lg0, lgl, lgg, lgle, lgge, Int32.not_lt, Int32.not_le, Int64.not_lt, Int64.not_le, not_false_eq_true, not_true_eq_false, Decidable.not_not, ge_iff_le, gt_iff_lt] at q26)
        refine pw_blk (mi := mz_221) (b := bz_221_33) rfl rfl ?_
        simp only [bz_221_33, pz_cut_t, pz_cut_f, pz_cut_n, pv_gt, pv_ts, pv_tn, ev_ild1, ev_ifeq, pz_wi_gc, pz_wi_ga, pz_wi_gn, pz_wi_gl, pz_wi_gr, pz_wi_same, pz_wi_X, pz_wl_gc, pz_wl_ga, pz_wl_gn, pz_wl_gi, pz_wl_gr, pz_wl_same, pz_wl_X, pz_wr_gc, pz_wr_ga, pz_wr_gn, pz_wr_gi, pz_wr_gl, pz_wr_same, pz_wr_X, e76]
        (try simp (disch := omega) only [nI_clamp, pz_in_nI2, pz_in_nI2L, pv_gt, nI_add, nI_addL, nI_Ladd, pk_mul, nI_mulL, nI_Lmul, pk_sub, nI_subL, nI_Lsub, nI_inc, nI_clampL, Nat.add_sub_cancel, pz_wi_else, pz_wl_else, vu_eq, vu_ne, pz_wi_gc, pz_wi_ga, pz_wi_gn, pz_wi_gl, pz_wi_gr, pz_wi_same, pz_wi_X, pz_wl_gc, pz_wl_ga, pz_wl_gn, pz_wl_gi, pz_wl_gr, pz_wl_same, pz_wl_X, pz_wr_gc, pz_wr_ga, pz_wr_gn, pz_wr_gi, pz_wr_gl, pz_wr_same, pz_wr_X, e76])
        refine po_brP (fun q33 => ?_) (fun q33 => ?_)
        · first
          | exact absurd q33 (by decide)
          | exact absurd trivial q33
          | exact q33.elim
          | (exfalso; (try simp (disch := omega) only [nI_ltI, nI_leI, nI_eq, nI_ltL, nI_leL, nI_eqL, nI_Llt, nI_Lle, nI_Leq, nI_eqm, nI_meq, nI_ltm, nI_lem, nI_mlt, nI_mle, lg0, lgl, lgg, lgle, lgge, Int32.not_lt, Int32.not_le, Int64.not_lt, Int64.not_le, not_false_eq_true, not_true_eq_false, Decidable.not_not, ge_iff_le, gt_iff_lt] at q33) <;> omega)
          | exact absurd q33 (by with_reducible assumption)
          | exact absurd (by with_reducible assumption) q33
          | exact absurd (Decidable.not_not.mp q33) (by with_reducible assumption)
          | exact absurd (by with_reducible assumption) (Int32.not_le.mpr q33)
          | exact absurd (by with_reducible assumption) (Int32.not_lt.mpr q33)
        · skip
          (try simp (disch := omega) only [nI_ltI, nI_leI, nI_eq, nI_ltL, nI_leL, nI_eqL, nI_Llt, nI_Lle, nI_Leq, nI_eqm, nI_meq, nI_ltm, nI_lem, nI_mlt, nI_mle, lg0, lgl, lgg, lgle, lgge, Int32.not_lt, Int32.not_le, Int64.not_lt, Int64.not_le, not_false_eq_true, not_true_eq_false, Decidable.not_not, ge_iff_le, gt_iff_lt] at q33)
          refine pw_blk (mi := mz_221) (b := bz_221_37) rfl rfl ?_
          simp only [bz_221_37, pz_cut_t, pz_cut_f, pz_cut_n, pv_gt, pv_ts, pv_tn, ev_ald0, ev_eld0, ev_cv0_11, pz_wi_gc, pz_wi_ga, pz_wi_gn, pz_wi_gl, pz_wi_gr, pz_wi_same, pz_wi_X, pz_wl_gc, pz_wl_ga, pz_wl_gn, pz_wl_gi, pz_wl_gr, pz_wl_same, pz_wl_X, pz_wr_gc, pz_wr_ga, pz_wr_gn, pz_wr_gi, pz_wr_gl, pz_wr_same, pz_wr_X, so_120 hS', e76]
          (try simp (disch := omega) only [nI_clamp, pz_in_nI2, pz_in_nI2L, pv_gt, nI_add, nI_addL, nI_Ladd, pk_mul, nI_mulL, nI_Lmul, pk_sub, nI_subL, nI_Lsub, nI_inc, nI_clampL, Nat.add_sub_cancel, pz_wi_else, pz_wl_else, vu_eq, vu_ne, pz_wi_gc, pz_wi_ga, pz_wi_gn, pz_wi_gl, pz_wi_gr, pz_wi_same, pz_wi_X, pz_wl_gc, pz_wl_ga, pz_wl_gn, pz_wl_gi, pz_wl_gr, pz_wl_same, pz_wl_X, pz_wr_gc, pz_wr_ga, pz_wr_gn, pz_wr_gi, pz_wr_gl, pz_wr_same, pz_wr_X, e76])
          (try refine po_gP (Nat.le_of_ble_eq_true rfl) ?_)
          refine po_call (by omega) (r_unit (B := B) (by omega) hb hB (by rw [f.2.1 38 (by decide) (by decide) (by decide) (by decide) (by decide) (by decide) (by decide) (by decide) (by decide) (by decide)]; exact e38) (by rw [f.1.i (by decide)]; exact eB) z' x' n' o' hn (fun M1 f1 x1 n1 _ => ?_))
          refine pw_blk (mi := mz_221) (b := bz_221_41) rfl rfl ?_
          simp only [bz_221_41, pz_cut_t, pz_cut_f, pz_cut_n, pv_gt, pv_ts, pv_tn, ev_goto, pz_wi_gc, pz_wi_ga, pz_wi_gn, pz_wi_gl, pz_wi_gr, pz_wi_same, pz_wi_X, pz_wl_gc, pz_wl_ga, pz_wl_gn, pz_wl_gi, pz_wl_gr, pz_wl_same, pz_wl_X, pz_wr_gc, pz_wr_ga, pz_wr_gn, pz_wr_gi, pz_wr_gl, pz_wr_same, pz_wr_X, e76]
          (try simp (disch := omega) only [nI_clamp, pz_in_nI2, pz_in_nI2L, pv_gt, nI_add, nI_addL, nI_Ladd, pk_mul, nI_mulL, nI_Lmul, pk_sub, nI_subL, nI_Lsub, nI_inc, nI_clampL, Nat.add_sub_cancel, pz_wi_else, pz_wl_else, vu_eq, vu_ne, pz_wi_gc, pz_wi_ga, pz_wi_gn, pz_wi_gl, pz_wi_gr, pz_wi_same, pz_wi_X, pz_wl_gc, pz_wl_ga, pz_wl_gn, pz_wl_gi, pz_wl_gr, pz_wl_same, pz_wl_X, pz_wr_gc, pz_wr_ga, pz_wr_gn, pz_wr_gi, pz_wr_gl, pz_wr_same, pz_wr_X, e76])
          refine po_go ?_
          refine pw_blk (mi := mz_221) (b := bz_221_48) rfl rfl ?_
          simp only [bz_221_48, pz_cut_t, pz_cut_f, pz_cut_n, pv_gt, pv_ts, pv_tn, ev_ist1n, ev_ist1i, ev_ist1r, ev_ist1e, ev_ist1l, ev_goto, pz_wi_gc, pz_wi_ga, pz_wi_gn, pz_wi_gl, pz_wi_gr, pz_wi_same, pz_wi_X, pz_wl_gc, pz_wl_ga, pz_wl_gn, pz_wl_gi, pz_wl_gr, pz_wl_same, pz_wl_X, pz_wr_gc, pz_wr_ga, pz_wr_gn, pz_wr_gi, pz_wr_gl, pz_wr_same, pz_wr_X, e76]
          (try simp (disch := omega) only [nI_clamp, pz_in_nI2, pz_in_nI2L, pv_gt, nI_add, nI_addL, nI_Ladd, pk_mul, nI_mulL, nI_Lmul, pk_sub, nI_subL, nI_Lsub, nI_inc, nI_clampL, Nat.add_sub_cancel, pz_wi_else, pz_wl_else, vu_eq, vu_ne, pz_wi_gc, pz_wi_ga, pz_wi_gn, pz_wi_gl, pz_wi_gr, pz_wi_same, pz_wi_X, pz_wl_gc, pz_wl_ga, pz_wl_gn, pz_wl_gi, pz_wl_gr, pz_wl_same, pz_wl_X, pz_wr_gc, pz_wr_ga, pz_wr_gn, pz_wr_gi, pz_wr_gl, pz_wr_same, pz_wr_X, e76])
          refine po_go ?_
          exact hK M1 (f.tr f1) x1 n1 (o'.unit hn)
  have hBh : ∀ S s', S ≠ [] → K (behS T L S s') → ∀ M', efr M M' → rSt M' true T L s'.1 → gi M' 120 4 = 0 → eN M' S s' → okM (S, false, s') → pw d 221 (19, [some (.ref 120), some (.int 0)], [], M') Q := by
    intro S s' hn hK M' f x' z' n' o'
    have hS' := x'.1.1
    have e76 := n'.1.1
    have hl := o'.b.1
    have hl1 : 1 ≤ S.length := by
      cases S with
      | nil => exact absurd rfl hn
      | cons y S => rw [List.length_cons]; omega
    have hl2 : S.length ≤ 48 := hl
    generalize hq : S.length = q at e76 hl1 hl2
    refine pw_blk (mi := mz_221) (b := bz_221_19) rfl rfl ?_
    simp only [bz_221_19, pz_cut_t, pz_cut_f, pz_cut_n, pv_gt, pv_ts, pv_tn, ev_ald0, ev_eld0, ev_cv0_11, pz_wi_gc, pz_wi_ga, pz_wi_gn, pz_wi_gl, pz_wi_gr, pz_wi_same, pz_wi_X, pz_wl_gc, pz_wl_ga, pz_wl_gn, pz_wl_gi, pz_wl_gr, pz_wl_same, pz_wl_X, pz_wr_gc, pz_wr_ga, pz_wr_gn, pz_wr_gi, pz_wr_gl, pz_wr_same, pz_wr_X, so_120 hS', e76]
    (try simp (disch := omega) only [nI_clamp, pz_in_nI2, pz_in_nI2L, pv_gt, nI_add, nI_addL, nI_Ladd, pk_mul, nI_mulL, nI_Lmul, pk_sub, nI_subL, nI_Lsub, nI_inc, nI_clampL, Nat.add_sub_cancel, pz_wi_else, pz_wl_else, vu_eq, vu_ne, pz_wi_gc, pz_wi_ga, pz_wi_gn, pz_wi_gl, pz_wi_gr, pz_wi_same, pz_wi_X, pz_wl_gc, pz_wl_ga, pz_wl_gn, pz_wl_gi, pz_wl_gr, pz_wl_same, pz_wl_X, pz_wr_gc, pz_wr_ga, pz_wr_gn, pz_wr_gi, pz_wr_gl, pz_wr_same, pz_wr_X, e76])
    (try refine po_gP (Nat.le_of_ble_eq_true rfl) ?_)
    refine po_call (by omega) (r_isGd hS' (fun _ => ?_) (fun y => absurd z' y))
    refine pw_blk (mi := mz_221) (b := bz_221_23) rfl rfl ?_
    simp only [bz_221_23, pz_cut_t, pz_cut_f, pz_cut_n, pv_gt, pv_ts, pv_tn, ev_ifeq, pz_wi_gc, pz_wi_ga, pz_wi_gn, pz_wi_gl, pz_wi_gr, pz_wi_same, pz_wi_X, pz_wl_gc, pz_wl_ga, pz_wl_gn, pz_wl_gi, pz_wl_gr, pz_wl_same, pz_wl_X, pz_wr_gc, pz_wr_ga, pz_wr_gn, pz_wr_gi, pz_wr_gl, pz_wr_same, pz_wr_X, e76]
    (try simp (disch := omega) only [nI_clamp, pz_in_nI2, pz_in_nI2L, pv_gt, nI_add, nI_addL, nI_Ladd, pk_mul, nI_mulL, nI_Lmul, pk_sub, nI_subL, nI_Lsub, nI_inc, nI_clampL, Nat.add_sub_cancel, pz_wi_else, pz_wl_else, vu_eq, vu_ne, pz_wi_gc, pz_wi_ga, pz_wi_gn, pz_wi_gl, pz_wi_gr, pz_wi_same, pz_wi_X, pz_wl_gc, pz_wl_ga, pz_wl_gn, pz_wl_gi, pz_wl_gr, pz_wl_same, pz_wl_X, pz_wr_gc, pz_wr_ga, pz_wr_gn, pz_wr_gi, pz_wr_gl, pz_wr_same, pz_wr_X, e76])
    refine po_brP (fun q23 => ?_) (fun q23 => ?_)
    · first
      | exact absurd q23 (by decide)
      | exact absurd trivial q23
      | exact q23.elim
      | (exfalso; (try simp (disch := omega) only [nI_ltI, nI_leI, nI_eq, nI_ltL, nI_leL, nI_eqL, nI_Llt, nI_Lle, nI_Leq, nI_eqm, nI_meq, nI_ltm, nI_lem, nI_mlt, nI_mle, lg0, lgl, lgg, lgle, lgge, Int32.not_lt, Int32.not_le, Int64.not_lt, Int64.not_le, not_false_eq_true, not_true_eq_false, Decidable.not_not, ge_iff_le, gt_iff_lt] at q23) <;> omega)
      | exact absurd q23 (by with_reducible assumption)
      | exact absurd (by with_reducible assumption) q23
      | exact absurd (Decidable.not_not.mp q23) (by with_reducible assumption)
      | exact absurd (by with_reducible assumption) (Int32.not_le.mpr q23)
      | exact absurd (by with_reducible assumption) (Int32.not_lt.mpr q23)
    · skip
      (try simp (disch := omega) only [nI_ltI, nI_leI, nI_eq, nI_ltL, nI_leL, nI_eqL, nI_Llt, nI_Lle, nI_Leq, nI_eqm, nI_meq, nI_ltm, nI_lem, nI_mlt, nI_mle, lg0, lgl, lgg, lgle, lgge, Int32.not_lt, Int32.not_le, Int64.not_lt, Int64.not_le, not_false_eq_true, not_true_eq_false, Decidable.not_not, ge_iff_le, gt_iff_lt] at q23)
      refine pw_blk (mi := mz_221) (b := bz_221_26) rfl rfl ?_
      simp only [bz_221_26, pz_cut_t, pz_cut_f, pz_cut_n, pv_gt, pv_ts, pv_tn, ev_ald0, ev_eld0, ev_gf11_0, ev_ifle, pz_wi_gc, pz_wi_ga, pz_wi_gn, pz_wi_gl, pz_wi_gr, pz_wi_same, pz_wi_X, pz_wl_gc, pz_wl_ga, pz_wl_gn, pz_wl_gi, pz_wl_gr, pz_wl_same, pz_wl_X, pz_wr_gc, pz_wr_ga, pz_wr_gn, pz_wr_gi, pz_wr_gl, pz_wr_same, pz_wr_X, so_120 hS', e76]
      (try simp (disch := omega) only [nI_clamp, pz_in_nI2, pz_in_nI2L, pv_gt, nI_add, nI_addL, nI_Ladd, pk_mul, nI_mulL, nI_Lmul, pk_sub, nI_subL, nI_Lsub, nI_inc, nI_clampL, Nat.add_sub_cancel, pz_wi_else, pz_wl_else, vu_eq, vu_ne, pz_wi_gc, pz_wi_ga, pz_wi_gn, pz_wi_gl, pz_wi_gr, pz_wi_same, pz_wi_X, pz_wl_gc, pz_wl_ga, pz_wl_gn, pz_wl_gi, pz_wl_gr, pz_wl_same, pz_wl_X, pz_wr_gc, pz_wr_ga, pz_wr_gn, pz_wr_gi, pz_wr_gl, pz_wr_same, pz_wr_X, e76])
      refine po_brP (fun q26 => ?_) (fun q26 => ?_)
      · first
        | exact absurd q26 (by decide)
        | exact absurd trivial q26
        | exact q26.elim
        | (exfalso; (try simp (disch := omega) only [nI_ltI, nI_leI, nI_eq, nI_ltL, nI_leL, nI_eqL, nI_Llt, nI_Lle, nI_Leq, nI_eqm, nI_meq, nI_ltm, nI_lem, nI_mlt, nI_mle, lg0, lgl, lgg, lgle, lgge, Int32.not_lt, Int32.not_le, Int64.not_lt, Int64.not_le, not_false_eq_true, not_true_eq_false, Decidable.not_not, ge_iff_le, gt_iff_lt] at q26) <;> omega)
        | exact absurd q26 (by with_reducible assumption)
        | exact absurd (by with_reducible assumption) q26
        | exact absurd (Decidable.not_not.mp q26) (by with_reducible assumption)
        | exact absurd (by with_reducible assumption) (Int32.not_le.mpr q26)
        | exact absurd (by with_reducible assumption) (Int32.not_lt.mpr q26)
      · skip
        (try simp (disch := omega) only [nI_ltI, nI_leI, nI_eq, nI_ltL, nI_leL, nI_eqL, nI_Llt, nI_Lle, nI_Leq, nI_eqm, nI_meq, nI_ltm, nI_lem, nI_mlt, nI_mle, lg0, lgl, lgg, lgle, lgge, Int32.not_lt, Int32.not_le, Int64.not_lt, Int64.not_le, not_false_eq_true, not_true_eq_false, Decidable.not_not, ge_iff_le, gt_iff_lt] at q26)
        refine pw_blk (mi := mz_221) (b := bz_221_33) rfl rfl ?_
        simp only [bz_221_33, pz_cut_t, pz_cut_f, pz_cut_n, pv_gt, pv_ts, pv_tn, ev_ild1, ev_ifeq, pz_wi_gc, pz_wi_ga, pz_wi_gn, pz_wi_gl, pz_wi_gr, pz_wi_same, pz_wi_X, pz_wl_gc, pz_wl_ga, pz_wl_gn, pz_wl_gi, pz_wl_gr, pz_wl_same, pz_wl_X, pz_wr_gc, pz_wr_ga, pz_wr_gn, pz_wr_gi, pz_wr_gl, pz_wr_same, pz_wr_X, e76]
        (try simp (disch := omega) only [nI_clamp, pz_in_nI2, pz_in_nI2L, pv_gt, nI_add, nI_addL, nI_Ladd, pk_mul, nI_mulL, nI_Lmul, pk_sub, nI_subL, nI_Lsub, nI_inc, nI_clampL, Nat.add_sub_cancel, pz_wi_else, pz_wl_else, vu_eq, vu_ne, pz_wi_gc, pz_wi_ga, pz_wi_gn, pz_wi_gl, pz_wi_gr, pz_wi_same, pz_wi_X, pz_wl_gc, pz_wl_ga, pz_wl_gn, pz_wl_gi, pz_wl_gr, pz_wl_same, pz_wl_X, pz_wr_gc, pz_wr_ga, pz_wr_gn, pz_wr_gi, pz_wr_gl, pz_wr_same, pz_wr_X, e76])
        refine po_brP (fun q33 => ?_) (fun q33 => ?_)
        · skip
          (try simp (disch := omega) only [nI_ltI, nI_leI, nI_eq, nI_ltL, nI_leL, nI_eqL, nI_Llt, nI_Lle, nI_Leq, nI_eqm, nI_meq, nI_ltm, nI_lem, nI_mlt, nI_mle, lg0, lgl, lgg, lgle, lgge, Int32.not_lt, Int32.not_le, Int64.not_lt, Int64.not_le, not_false_eq_true, not_true_eq_false, Decidable.not_not, ge_iff_le, gt_iff_lt] at q33)
          refine pw_blk (mi := mz_221) (b := bz_221_44) rfl rfl ?_
          simp only [bz_221_44, pz_cut_t, pz_cut_f, pz_cut_n, pv_gt, pv_ts, pv_tn, ev_ald0, ev_eld0, ev_cv0_11, pz_wi_gc, pz_wi_ga, pz_wi_gn, pz_wi_gl, pz_wi_gr, pz_wi_same, pz_wi_X, pz_wl_gc, pz_wl_ga, pz_wl_gn, pz_wl_gi, pz_wl_gr, pz_wl_same, pz_wl_X, pz_wr_gc, pz_wr_ga, pz_wr_gn, pz_wr_gi, pz_wr_gl, pz_wr_same, pz_wr_X, so_120 hS', e76]
          (try simp (disch := omega) only [nI_clamp, pz_in_nI2, pz_in_nI2L, pv_gt, nI_add, nI_addL, nI_Ladd, pk_mul, nI_mulL, nI_Lmul, pk_sub, nI_subL, nI_Lsub, nI_inc, nI_clampL, Nat.add_sub_cancel, pz_wi_else, pz_wl_else, vu_eq, vu_ne, pz_wi_gc, pz_wi_ga, pz_wi_gn, pz_wi_gl, pz_wi_gr, pz_wi_same, pz_wi_X, pz_wl_gc, pz_wl_ga, pz_wl_gn, pz_wl_gi, pz_wl_gr, pz_wl_same, pz_wl_X, pz_wr_gc, pz_wr_ga, pz_wr_gn, pz_wr_gi, pz_wr_gl, pz_wr_same, pz_wr_X, e76])
          (try refine po_gP (Nat.le_of_ble_eq_true rfl) ?_)
          refine po_call (by omega) (r_behind (by omega) z' x' n' o' hn (fun M1 f1 x1 n1 => ?_))
          refine pw_blk (mi := mz_221) (b := bz_221_48) rfl rfl ?_
          simp only [bz_221_48, pz_cut_t, pz_cut_f, pz_cut_n, pv_gt, pv_ts, pv_tn, ev_ist1n, ev_ist1i, ev_ist1r, ev_ist1e, ev_ist1l, ev_goto, pz_wi_gc, pz_wi_ga, pz_wi_gn, pz_wi_gl, pz_wi_gr, pz_wi_same, pz_wi_X, pz_wl_gc, pz_wl_ga, pz_wl_gn, pz_wl_gi, pz_wl_gr, pz_wl_same, pz_wl_X, pz_wr_gc, pz_wr_ga, pz_wr_gn, pz_wr_gi, pz_wr_gl, pz_wr_same, pz_wr_X, e76]
          (try simp (disch := omega) only [nI_clamp, pz_in_nI2, pz_in_nI2L, pv_gt, nI_add, nI_addL, nI_Ladd, pk_mul, nI_mulL, nI_Lmul, pk_sub, nI_subL, nI_Lsub, nI_inc, nI_clampL, Nat.add_sub_cancel, pz_wi_else, pz_wl_else, vu_eq, vu_ne, pz_wi_gc, pz_wi_ga, pz_wi_gn, pz_wi_gl, pz_wi_gr, pz_wi_same, pz_wi_X, pz_wl_gc, pz_wl_ga, pz_wl_gn, pz_wl_gi, pz_wl_gr, pz_wl_same, pz_wl_X, pz_wr_gc, pz_wr_ga, pz_wr_gn, pz_wr_gi, pz_wr_gl, pz_wr_same, pz_wr_X, e76])
          refine po_go ?_
          exact hK M1 (f.tr f1) x1 n1 (o'.beh hn)
        · first
          | exact absurd q33 (by decide)
          | exact absurd trivial q33
          | exact q33.elim
          | (exfalso; (try simp (disch := omega) only [nI_ltI, nI_leI, nI_eq, nI_ltL, nI_leL, nI_eqL, nI_Llt, nI_Lle, nI_Leq, nI_eqm, nI_meq, nI_ltm, nI_lem, nI_mlt, nI_mle, lg0, lgl, lgg, lgle, lgge, Int32.not_lt, Int32.not_le, Int64.not_lt, Int64.not_le, not_false_eq_true, not_true_eq_false, Decidable.not_not, ge_iff_le, gt_iff_lt] at q33) <;> omega)
          | exact absurd q33 (by with_reducible assumption)
          | exact absurd (by with_reducible assumption) q33
          | exact absurd (Decidable.not_not.mp q33) (by with_reducible assumption)
          | exact absurd (by with_reducible assumption) (Int32.not_le.mpr q33)
          | exact absurd (by with_reducible assumption) (Int32.not_lt.mpr q33)
  -- nothing is piled
  have stop0 : ∀ M' v, efr M M' → rSt M' true T L (eEnd (E s).1) → gi M' 120 4 = 0 → gi M' 120 76 = nI 0 → (isG (eEnd (E s).1) = true → eN M' [] (E s) ∧ (E s).2.1 ≤ 40 ∧ (E s).2.2.length ≤ 9 * (E s).2.1 + 1) → pw d 221 (19, [some (.ref 120), some (.int v)], [], M') Q := by
    intro M' v f x' z' e76 hh
    have hS' := x'.1.1
    have kk := kf M' f x' hh
    refine pw_blk (mi := mz_221) (b := bz_221_19) rfl rfl ?_
    simp only [bz_221_19, pz_cut_t, pz_cut_f, pz_cut_n, pv_gt, pv_ts, pv_tn, ev_ald0, ev_eld0, ev_cv0_11, pz_wi_gc, pz_wi_ga, pz_wi_gn, pz_wi_gl, pz_wi_gr, pz_wi_same, pz_wi_X, pz_wl_gc, pz_wl_ga, pz_wl_gn, pz_wl_gi, pz_wl_gr, pz_wl_same, pz_wl_X, pz_wr_gc, pz_wr_ga, pz_wr_gn, pz_wr_gi, pz_wr_gl, pz_wr_same, pz_wr_X, so_120 hS', e76]
    (try simp (disch := omega) only [nI_clamp, pz_in_nI2, pz_in_nI2L, pv_gt, nI_add, nI_addL, nI_Ladd, pk_mul, nI_mulL, nI_Lmul, pk_sub, nI_subL, nI_Lsub, nI_inc, nI_clampL, Nat.add_sub_cancel, pz_wi_else, pz_wl_else, vu_eq, vu_ne, pz_wi_gc, pz_wi_ga, pz_wi_gn, pz_wi_gl, pz_wi_gr, pz_wi_same, pz_wi_X, pz_wl_gc, pz_wl_ga, pz_wl_gn, pz_wl_gi, pz_wl_gr, pz_wl_same, pz_wl_X, pz_wr_gc, pz_wr_ga, pz_wr_gn, pz_wr_gi, pz_wr_gl, pz_wr_same, pz_wr_X, e76])
    (try refine po_gP (Nat.le_of_ble_eq_true rfl) ?_)
    refine po_call (by omega) (r_isGd hS' (fun _ => ?_) (fun y => absurd z' y))
    refine pw_blk (mi := mz_221) (b := bz_221_23) rfl rfl ?_
    simp only [bz_221_23, pz_cut_t, pz_cut_f, pz_cut_n, pv_gt, pv_ts, pv_tn, ev_ifeq, pz_wi_gc, pz_wi_ga, pz_wi_gn, pz_wi_gl, pz_wi_gr, pz_wi_same, pz_wi_X, pz_wl_gc, pz_wl_ga, pz_wl_gn, pz_wl_gi, pz_wl_gr, pz_wl_same, pz_wl_X, pz_wr_gc, pz_wr_ga, pz_wr_gn, pz_wr_gi, pz_wr_gl, pz_wr_same, pz_wr_X, e76]
    (try simp (disch := omega) only [nI_clamp, pz_in_nI2, pz_in_nI2L, pv_gt, nI_add, nI_addL, nI_Ladd, pk_mul, nI_mulL, nI_Lmul, pk_sub, nI_subL, nI_Lsub, nI_inc, nI_clampL, Nat.add_sub_cancel, pz_wi_else, pz_wl_else, vu_eq, vu_ne, pz_wi_gc, pz_wi_ga, pz_wi_gn, pz_wi_gl, pz_wi_gr, pz_wi_same, pz_wi_X, pz_wl_gc, pz_wl_ga, pz_wl_gn, pz_wl_gi, pz_wl_gr, pz_wl_same, pz_wl_X, pz_wr_gc, pz_wr_ga, pz_wr_gn, pz_wr_gi, pz_wr_gl, pz_wr_same, pz_wr_X, e76])
    refine po_brP (fun q23 => ?_) (fun q23 => ?_)
    · first
      | exact absurd q23 (by decide)
      | exact absurd trivial q23
      | exact q23.elim
      | (exfalso; (try simp (disch := omega) only [nI_ltI, nI_leI, nI_eq, nI_ltL, nI_leL, nI_eqL, nI_Llt, nI_Lle, nI_Leq, nI_eqm, nI_meq, nI_ltm, nI_lem, nI_mlt, nI_mle, lg0, lgl, lgg, lgle, lgge, Int32.not_lt, Int32.not_le, Int64.not_lt, Int64.not_le, not_false_eq_true, not_true_eq_false, Decidable.not_not, ge_iff_le, gt_iff_lt] at q23) <;> omega)
      | exact absurd q23 (by with_reducible assumption)
      | exact absurd (by with_reducible assumption) q23
      | exact absurd (Decidable.not_not.mp q23) (by with_reducible assumption)
      | exact absurd (by with_reducible assumption) (Int32.not_le.mpr q23)
      | exact absurd (by with_reducible assumption) (Int32.not_lt.mpr q23)
    · skip
      (try simp (disch := omega) only [nI_ltI, nI_leI, nI_eq, nI_ltL, nI_leL, nI_eqL, nI_Llt, nI_Lle, nI_Leq, nI_eqm, nI_meq, nI_ltm, nI_lem, nI_mlt, nI_mle, lg0, lgl, lgg, lgle, lgge, Int32.not_lt, Int32.not_le, Int64.not_lt, Int64.not_le, not_false_eq_true, not_true_eq_false, Decidable.not_not, ge_iff_le, gt_iff_lt] at q23)
      refine pw_blk (mi := mz_221) (b := bz_221_26) rfl rfl ?_
      simp only [bz_221_26, pz_cut_t, pz_cut_f, pz_cut_n, pv_gt, pv_ts, pv_tn, ev_ald0, ev_eld0, ev_gf11_0, ev_ifle, pz_wi_gc, pz_wi_ga, pz_wi_gn, pz_wi_gl, pz_wi_gr, pz_wi_same, pz_wi_X, pz_wl_gc, pz_wl_ga, pz_wl_gn, pz_wl_gi, pz_wl_gr, pz_wl_same, pz_wl_X, pz_wr_gc, pz_wr_ga, pz_wr_gn, pz_wr_gi, pz_wr_gl, pz_wr_same, pz_wr_X, so_120 hS', e76]
      (try simp (disch := omega) only [nI_clamp, pz_in_nI2, pz_in_nI2L, pv_gt, nI_add, nI_addL, nI_Ladd, pk_mul, nI_mulL, nI_Lmul, pk_sub, nI_subL, nI_Lsub, nI_inc, nI_clampL, Nat.add_sub_cancel, pz_wi_else, pz_wl_else, vu_eq, vu_ne, pz_wi_gc, pz_wi_ga, pz_wi_gn, pz_wi_gl, pz_wi_gr, pz_wi_same, pz_wi_X, pz_wl_gc, pz_wl_ga, pz_wl_gn, pz_wl_gi, pz_wl_gr, pz_wl_same, pz_wl_X, pz_wr_gc, pz_wr_ga, pz_wr_gn, pz_wr_gi, pz_wr_gl, pz_wr_same, pz_wr_X, e76])
      refine po_brP (fun q26 => ?_) (fun q26 => ?_)
      · skip
        (try simp (disch := omega) only [nI_ltI, nI_leI, nI_eq, nI_ltL, nI_leL, nI_eqL, nI_Llt, nI_Lle, nI_Leq, nI_eqm, nI_meq, nI_ltm, nI_lem, nI_mlt, nI_mle, lg0, lgl, lgg, lgle, lgge, Int32.not_lt, Int32.not_le, Int64.not_lt, Int64.not_le, not_false_eq_true, not_true_eq_false, Decidable.not_not, ge_iff_le, gt_iff_lt] at q26)
        refine pw_blk (mi := mz_221) (b := bz_221_52) rfl rfl ?_
        simp only [bz_221_52, pz_cut_t, pz_cut_f, pz_cut_n, pv_gt, pv_ts, pv_tn, ev_ret, pz_wi_gc, pz_wi_ga, pz_wi_gn, pz_wi_gl, pz_wi_gr, pz_wi_same, pz_wi_X, pz_wl_gc, pz_wl_ga, pz_wl_gn, pz_wl_gi, pz_wl_gr, pz_wl_same, pz_wl_X, pz_wr_gc, pz_wr_ga, pz_wr_gn, pz_wr_gi, pz_wr_gl, pz_wr_same, pz_wr_X, e76]
        (try simp (disch := omega) only [nI_clamp, pz_in_nI2, pz_in_nI2L, pv_gt, nI_add, nI_addL, nI_Ladd, pk_mul, nI_mulL, nI_Lmul, pk_sub, nI_subL, nI_Lsub, nI_inc, nI_clampL, Nat.add_sub_cancel, pz_wi_else, pz_wl_else, vu_eq, vu_ne, pz_wi_gc, pz_wi_ga, pz_wi_gn, pz_wi_gl, pz_wi_gr, pz_wi_same, pz_wi_X, pz_wl_gc, pz_wl_ga, pz_wl_gn, pz_wl_gi, pz_wl_gr, pz_wl_same, pz_wl_X, pz_wr_gc, pz_wr_ga, pz_wr_gn, pz_wr_gi, pz_wr_gl, pz_wr_same, pz_wr_X, e76])
        exact po_ret kk
      · first
        | exact absurd q26 (by decide)
        | exact absurd trivial q26
        | exact q26.elim
        | (exfalso; (try simp (disch := omega) only [nI_ltI, nI_leI, nI_eq, nI_ltL, nI_leL, nI_eqL, nI_Llt, nI_Lle, nI_Leq, nI_eqm, nI_meq, nI_ltm, nI_lem, nI_mlt, nI_mle, lg0, lgl, lgg, lgle, lgge, Int32.not_lt, Int32.not_le, Int64.not_lt, Int64.not_le, not_false_eq_true, not_true_eq_false, Decidable.not_not, ge_iff_le, gt_iff_lt] at q26) <;> omega)
        | exact absurd q26 (by with_reducible assumption)
        | exact absurd (by with_reducible assumption) q26
        | exact absurd (Decidable.not_not.mp q26) (by with_reducible assumption)
        | exact absurd (by with_reducible assumption) (Int32.not_le.mpr q26)
        | exact absurd (by with_reducible assumption) (Int32.not_lt.mpr q26)
  have fall : ∀ n (S : Pl) (v : Bool) (s' : Ru), S.length ≤ n → isG s'.1 = false → s'.1 = eEnd (E s).1 → K (S, v, s') := by
    intro n
    induction n with
    | zero =>
      intro S v s' hn hg he M' f x' n' o'
      have hS0 : S = [] := List.eq_nil_of_length_eq_zero (by omega)
      subst hS0
      have x2 : rSt M' true T L (eEnd (E s).1) := by rw [← he]; exact x'
      by_cases z' : gi M' 120 4 = 0
      · exact stop0 M' _ f x2 z' (n' z').1.1 (fun q => by rw [← he, hg] at q; cases q)
      · exact stop4 M' _ f x2 z'
    | succ n ih =>
      intro S v s' hn hg he M' f x' n' o'
      have x2 : rSt M' true T L (eEnd (E s).1) := by rw [← he]; exact x'
      by_cases z' : gi M' 120 4 = 0
      · by_cases hS0 : S = []
        · subst hS0
          exact stop0 M' _ f x2 z' (n' z').1.1 (fun q => by rw [← he, hg] at q; cases q)
        · cases v with
          | false =>
            obtain ⟨S', s2, eb, es, el⟩ := beh_f (T := T) (L := L) (S := S) (s := s') hg o'.1 hS0
            exact hBh S s' hS0 (by rw [eb]; exact ih S' false s2 (by omega) (by rw [es]; exact hg) (by rw [es]; exact he)) M' f x' z' (n' z') o'
          | true =>
            have eu := unit_f (T := T) (L := L) (B := B) (S := S) hg
            have hS' := x'.1.1
            have e76 := (n' z').1.1
            have hl := o'.b.1
            have hl1 : 1 ≤ S.length := by
              cases S with
              | nil => exact absurd rfl hS0
              | cons y S => rw [List.length_cons]; omega
            have hl2 : S.length ≤ 48 := hl
            have nz := n' z'
            have fin : ∀ M1, efr M' M1 → rSt M1 true T L (unitS T L B S s').2.2.1 → ¬ gi M1 120 4 = 0 → pw d 221 (19, [some (.ref 120), some (.int (bI (unitS T L B S s').2.1))], [], M1) Q := fun M1 f1 x1 n4 => by
              rw [eu] at x1
              have x3 : rSt M1 true T L (flF 2 s'.1) := x1
              rw [fl_f hg, he] at x3
              exact stop4 M1 _ (f.tr f1) x3 n4
            generalize hq : S.length = q at e76 hl1 hl2
            show pw d 221 (19, [some (.ref 120), some (.int (bI true))], [], M') Q
            rw [bI_t]
            refine pw_blk (mi := mz_221) (b := bz_221_19) rfl rfl ?_
            simp only [bz_221_19, pz_cut_t, pz_cut_f, pz_cut_n, pv_gt, pv_ts, pv_tn, ev_ald0, ev_eld0, ev_cv0_11, pz_wi_gc, pz_wi_ga, pz_wi_gn, pz_wi_gl, pz_wi_gr, pz_wi_same, pz_wi_X, pz_wl_gc, pz_wl_ga, pz_wl_gn, pz_wl_gi, pz_wl_gr, pz_wl_same, pz_wl_X, pz_wr_gc, pz_wr_ga, pz_wr_gn, pz_wr_gi, pz_wr_gl, pz_wr_same, pz_wr_X, so_120 hS', e76]
            (try simp (disch := omega) only [nI_clamp, pz_in_nI2, pz_in_nI2L, pv_gt, nI_add, nI_addL, nI_Ladd, pk_mul, nI_mulL, nI_Lmul, pk_sub, nI_subL, nI_Lsub, nI_inc, nI_clampL, Nat.add_sub_cancel, pz_wi_else, pz_wl_else, vu_eq, vu_ne, pz_wi_gc, pz_wi_ga, pz_wi_gn, pz_wi_gl, pz_wi_gr, pz_wi_same, pz_wi_X, pz_wl_gc, pz_wl_ga, pz_wl_gn, pz_wl_gi, pz_wl_gr, pz_wl_same, pz_wl_X, pz_wr_gc, pz_wr_ga, pz_wr_gn, pz_wr_gi, pz_wr_gl, pz_wr_same, pz_wr_X, e76])
            (try refine po_gP (Nat.le_of_ble_eq_true rfl) ?_)
            refine po_call (by omega) (r_isGd hS' (fun _ => ?_) (fun y => absurd z' y))
            refine pw_blk (mi := mz_221) (b := bz_221_23) rfl rfl ?_
            simp only [bz_221_23, pz_cut_t, pz_cut_f, pz_cut_n, pv_gt, pv_ts, pv_tn, ev_ifeq, pz_wi_gc, pz_wi_ga, pz_wi_gn, pz_wi_gl, pz_wi_gr, pz_wi_same, pz_wi_X, pz_wl_gc, pz_wl_ga, pz_wl_gn, pz_wl_gi, pz_wl_gr, pz_wl_same, pz_wl_X, pz_wr_gc, pz_wr_ga, pz_wr_gn, pz_wr_gi, pz_wr_gl, pz_wr_same, pz_wr_X, e76]
            (try simp (disch := omega) only [nI_clamp, pz_in_nI2, pz_in_nI2L, pv_gt, nI_add, nI_addL, nI_Ladd, pk_mul, nI_mulL, nI_Lmul, pk_sub, nI_subL, nI_Lsub, nI_inc, nI_clampL, Nat.add_sub_cancel, pz_wi_else, pz_wl_else, vu_eq, vu_ne, pz_wi_gc, pz_wi_ga, pz_wi_gn, pz_wi_gl, pz_wi_gr, pz_wi_same, pz_wi_X, pz_wl_gc, pz_wl_ga, pz_wl_gn, pz_wl_gi, pz_wl_gr, pz_wl_same, pz_wl_X, pz_wr_gc, pz_wr_ga, pz_wr_gn, pz_wr_gi, pz_wr_gl, pz_wr_same, pz_wr_X, e76])
            refine po_brP (fun q23 => ?_) (fun q23 => ?_)
            · first
              | exact absurd q23 (by decide)
              | exact absurd trivial q23
              | exact q23.elim
              | (exfalso; (try simp (disch := omega) only [nI_ltI, nI_leI, nI_eq, nI_ltL, nI_leL, nI_eqL, nI_Llt, nI_Lle, nI_Leq, nI_eqm, nI_meq, nI_ltm, nI_lem, nI_mlt, nI_mle, lg0, lgl, lgg, lgle, lgge, Int32.not_lt, Int32.not_le, Int64.not_lt, Int64.not_le, not_false_eq_true, not_true_eq_false, Decidable.not_not, ge_iff_le, gt_iff_lt] at q23) <;> omega)
              | exact absurd q23 (by with_reducible assumption)
              | exact absurd (by with_reducible assumption) q23
              | exact absurd (Decidable.not_not.mp q23) (by with_reducible assumption)
              | exact absurd (by with_reducible assumption) (Int32.not_le.mpr q23)
              | exact absurd (by with_reducible assumption) (Int32.not_lt.mpr q23)
            · skip
              (try simp (disch := omega) only [nI_ltI, nI_leI, nI_eq, nI_ltL, nI_leL, nI_eqL, nI_Llt, nI_Lle, nI_Leq, nI_eqm, nI_meq, nI_ltm, nI_lem, nI_mlt, nI_mle, lg0, lgl, lgg, lgle, lgge, Int32.not_lt, Int32.not_le, Int64.not_lt, Int64.not_le, not_false_eq_true, not_true_eq_false, Decidable.not_not, ge_iff_le, gt_iff_lt] at q23)
              refine pw_blk (mi := mz_221) (b := bz_221_26) rfl rfl ?_
              simp only [bz_221_26, pz_cut_t, pz_cut_f, pz_cut_n, pv_gt, pv_ts, pv_tn, ev_ald0, ev_eld0, ev_gf11_0, ev_ifle, pz_wi_gc, pz_wi_ga, pz_wi_gn, pz_wi_gl, pz_wi_gr, pz_wi_same, pz_wi_X, pz_wl_gc, pz_wl_ga, pz_wl_gn, pz_wl_gi, pz_wl_gr, pz_wl_same, pz_wl_X, pz_wr_gc, pz_wr_ga, pz_wr_gn, pz_wr_gi, pz_wr_gl, pz_wr_same, pz_wr_X, so_120 hS', e76]
              (try simp (disch := omega) only [nI_clamp, pz_in_nI2, pz_in_nI2L, pv_gt, nI_add, nI_addL, nI_Ladd, pk_mul, nI_mulL, nI_Lmul, pk_sub, nI_subL, nI_Lsub, nI_inc, nI_clampL, Nat.add_sub_cancel, pz_wi_else, pz_wl_else, vu_eq, vu_ne, pz_wi_gc, pz_wi_ga, pz_wi_gn, pz_wi_gl, pz_wi_gr, pz_wi_same, pz_wi_X, pz_wl_gc, pz_wl_ga, pz_wl_gn, pz_wl_gi, pz_wl_gr, pz_wl_same, pz_wl_X, pz_wr_gc, pz_wr_ga, pz_wr_gn, pz_wr_gi, pz_wr_gl, pz_wr_same, pz_wr_X, e76])
              refine po_brP (fun q26 => ?_) (fun q26 => ?_)
              · first
                | exact absurd q26 (by decide)
                | exact absurd trivial q26
                | exact q26.elim
                | (exfalso; (try simp (disch := omega) only [nI_ltI, nI_leI, nI_eq, nI_ltL, nI_leL, nI_eqL, nI_Llt, nI_Lle, nI_Leq, nI_eqm, nI_meq, nI_ltm, nI_lem, nI_mlt, nI_mle, lg0, lgl, lgg, lgle, lgge, Int32.not_lt, Int32.not_le, Int64.not_lt, Int64.not_le, not_false_eq_true, not_true_eq_false, Decidable.not_not, ge_iff_le, gt_iff_lt] at q26) <;> omega)
                | exact absurd q26 (by with_reducible assumption)
                | exact absurd (by with_reducible assumption) q26
                | exact absurd (Decidable.not_not.mp q26) (by with_reducible assumption)
                | exact absurd (by with_reducible assumption) (Int32.not_le.mpr q26)
                | exact absurd (by with_reducible assumption) (Int32.not_lt.mpr q26)
              · skip
                (try simp (disch := omega) only [nI_ltI, nI_leI, nI_eq, nI_ltL, nI_leL, nI_eqL, nI_Llt, nI_Lle, nI_Leq, nI_eqm, nI_meq, nI_ltm, nI_lem, nI_mlt, nI_mle, lg0, lgl, lgg, lgle, lgge, Int32.not_lt, Int32.not_le, Int64.not_lt, Int64.not_le, not_false_eq_true, not_true_eq_false, Decidable.not_not, ge_iff_le, gt_iff_lt] at q26)
                refine pw_blk (mi := mz_221) (b := bz_221_33) rfl rfl ?_
                simp only [bz_221_33, pz_cut_t, pz_cut_f, pz_cut_n, pv_gt, pv_ts, pv_tn, ev_ild1, ev_ifeq, pz_wi_gc, pz_wi_ga, pz_wi_gn, pz_wi_gl, pz_wi_gr, pz_wi_same, pz_wi_X, pz_wl_gc, pz_wl_ga, pz_wl_gn, pz_wl_gi, pz_wl_gr, pz_wl_same, pz_wl_X, pz_wr_gc, pz_wr_ga, pz_wr_gn, pz_wr_gi, pz_wr_gl, pz_wr_same, pz_wr_X, e76]
                (try simp (disch := omega) only [nI_clamp, pz_in_nI2, pz_in_nI2L, pv_gt, nI_add, nI_addL, nI_Ladd, pk_mul, nI_mulL, nI_Lmul, pk_sub, nI_subL, nI_Lsub, nI_inc, nI_clampL, Nat.add_sub_cancel, pz_wi_else, pz_wl_else, vu_eq, vu_ne, pz_wi_gc, pz_wi_ga, pz_wi_gn, pz_wi_gl, pz_wi_gr, pz_wi_same, pz_wi_X, pz_wl_gc, pz_wl_ga, pz_wl_gn, pz_wl_gi, pz_wl_gr, pz_wl_same, pz_wl_X, pz_wr_gc, pz_wr_ga, pz_wr_gn, pz_wr_gi, pz_wr_gl, pz_wr_same, pz_wr_X, e76])
                refine po_brP (fun q33 => ?_) (fun q33 => ?_)
                · first
                  | exact absurd q33 (by decide)
                  | exact absurd trivial q33
                  | exact q33.elim
                  | (exfalso; (try simp (disch := omega) only [nI_ltI, nI_leI, nI_eq, nI_ltL, nI_leL, nI_eqL, nI_Llt, nI_Lle, nI_Leq, nI_eqm, nI_meq, nI_ltm, nI_lem, nI_mlt, nI_mle, lg0, lgl, lgg, lgle, lgge, Int32.not_lt, Int32.not_le, Int64.not_lt, Int64.not_le, not_false_eq_true, not_true_eq_false, Decidable.not_not, ge_iff_le, gt_iff_lt] at q33) <;> omega)
                  | exact absurd q33 (by with_reducible assumption)
                  | exact absurd (by with_reducible assumption) q33
                  | exact absurd (Decidable.not_not.mp q33) (by with_reducible assumption)
                  | exact absurd (by with_reducible assumption) (Int32.not_le.mpr q33)
                  | exact absurd (by with_reducible assumption) (Int32.not_lt.mpr q33)
                · skip
                  (try simp (disch := omega) only [nI_ltI, nI_leI, nI_eq, nI_ltL, nI_leL, nI_eqL, nI_Llt, nI_Lle, nI_Leq, nI_eqm, nI_meq, nI_ltm, nI_lem, nI_mlt, nI_mle, lg0, lgl, lgg, lgle, lgge, Int32.not_lt, Int32.not_le, Int64.not_lt, Int64.not_le, not_false_eq_true, not_true_eq_false, Decidable.not_not, ge_iff_le, gt_iff_lt] at q33)
                  refine pw_blk (mi := mz_221) (b := bz_221_37) rfl rfl ?_
                  simp only [bz_221_37, pz_cut_t, pz_cut_f, pz_cut_n, pv_gt, pv_ts, pv_tn, ev_ald0, ev_eld0, ev_cv0_11, pz_wi_gc, pz_wi_ga, pz_wi_gn, pz_wi_gl, pz_wi_gr, pz_wi_same, pz_wi_X, pz_wl_gc, pz_wl_ga, pz_wl_gn, pz_wl_gi, pz_wl_gr, pz_wl_same, pz_wl_X, pz_wr_gc, pz_wr_ga, pz_wr_gn, pz_wr_gi, pz_wr_gl, pz_wr_same, pz_wr_X, so_120 hS', e76]
                  (try simp (disch := omega) only [nI_clamp, pz_in_nI2, pz_in_nI2L, pv_gt, nI_add, nI_addL, nI_Ladd, pk_mul, nI_mulL, nI_Lmul, pk_sub, nI_subL, nI_Lsub, nI_inc, nI_clampL, Nat.add_sub_cancel, pz_wi_else, pz_wl_else, vu_eq, vu_ne, pz_wi_gc, pz_wi_ga, pz_wi_gn, pz_wi_gl, pz_wi_gr, pz_wi_same, pz_wi_X, pz_wl_gc, pz_wl_ga, pz_wl_gn, pz_wl_gi, pz_wl_gr, pz_wl_same, pz_wl_X, pz_wr_gc, pz_wr_ga, pz_wr_gn, pz_wr_gi, pz_wr_gl, pz_wr_same, pz_wr_X, e76])
                  (try refine po_gP (Nat.le_of_ble_eq_true rfl) ?_)
                  refine po_call (by omega) (r_unit (B := B) (by omega) hb hB (by rw [f.2.1 38 (by decide) (by decide) (by decide) (by decide) (by decide) (by decide) (by decide) (by decide) (by decide) (by decide)]; exact e38) (by rw [f.1.i (by decide)]; exact eB) z' x' nz o' hS0 (fun M1 f1 x1 _ n4 => ?_))
                  refine pw_blk (mi := mz_221) (b := bz_221_41) rfl rfl ?_
                  simp only [bz_221_41, pz_cut_t, pz_cut_f, pz_cut_n, pv_gt, pv_ts, pv_tn, ev_goto, pz_wi_gc, pz_wi_ga, pz_wi_gn, pz_wi_gl, pz_wi_gr, pz_wi_same, pz_wi_X, pz_wl_gc, pz_wl_ga, pz_wl_gn, pz_wl_gi, pz_wl_gr, pz_wl_same, pz_wl_X, pz_wr_gc, pz_wr_ga, pz_wr_gn, pz_wr_gi, pz_wr_gl, pz_wr_same, pz_wr_X, e76]
                  (try simp (disch := omega) only [nI_clamp, pz_in_nI2, pz_in_nI2L, pv_gt, nI_add, nI_addL, nI_Ladd, pk_mul, nI_mulL, nI_Lmul, pk_sub, nI_subL, nI_Lsub, nI_inc, nI_clampL, Nat.add_sub_cancel, pz_wi_else, pz_wl_else, vu_eq, vu_ne, pz_wi_gc, pz_wi_ga, pz_wi_gn, pz_wi_gl, pz_wi_gr, pz_wi_same, pz_wi_X, pz_wl_gc, pz_wl_ga, pz_wl_gn, pz_wl_gi, pz_wl_gr, pz_wl_same, pz_wl_X, pz_wr_gc, pz_wr_ga, pz_wr_gn, pz_wr_gi, pz_wr_gl, pz_wr_same, pz_wr_X, e76])
                  refine po_go ?_
                  refine pw_blk (mi := mz_221) (b := bz_221_48) rfl rfl ?_
                  simp only [bz_221_48, pz_cut_t, pz_cut_f, pz_cut_n, pv_gt, pv_ts, pv_tn, ev_ist1n, ev_ist1i, ev_ist1r, ev_ist1e, ev_ist1l, ev_goto, pz_wi_gc, pz_wi_ga, pz_wi_gn, pz_wi_gl, pz_wi_gr, pz_wi_same, pz_wi_X, pz_wl_gc, pz_wl_ga, pz_wl_gn, pz_wl_gi, pz_wl_gr, pz_wl_same, pz_wl_X, pz_wr_gc, pz_wr_ga, pz_wr_gn, pz_wr_gi, pz_wr_gl, pz_wr_same, pz_wr_X, e76]
                  (try simp (disch := omega) only [nI_clamp, pz_in_nI2, pz_in_nI2L, pv_gt, nI_add, nI_addL, nI_Ladd, pk_mul, nI_mulL, nI_Lmul, pk_sub, nI_subL, nI_Lsub, nI_inc, nI_clampL, Nat.add_sub_cancel, pz_wi_else, pz_wl_else, vu_eq, vu_ne, pz_wi_gc, pz_wi_ga, pz_wi_gn, pz_wi_gl, pz_wi_gr, pz_wi_same, pz_wi_X, pz_wl_gc, pz_wl_ga, pz_wl_gn, pz_wl_gi, pz_wl_gr, pz_wl_same, pz_wl_X, pz_wr_gc, pz_wr_ga, pz_wr_gn, pz_wr_gi, pz_wr_gl, pz_wr_same, pz_wr_X, e76])
                  refine po_go ?_
                  exact fin M1 f1 x1 (n4 hg)
      · exact stop4 M' _ f x2 z'
  have g0 : ∀ σ M', isG σ = true → rSt M' true T L σ → gi M' 120 4 = 0 := fun σ M' hg x' => by
    cases σ with
    | inl f => cases hg
    | inr t => exact x'.2.2.1
  have clo : Clo T L B K := ⟨fun m h M' f x' n' o' => h o'.2.2.1 M' f x' n' o', fun S s' hg hn h M' f x' n' o' => hU S s' hn h M' f x' (g0 _ M' hg x') (n' (g0 _ M' hg x')) o' hg, fun S s' hg hn h M' f x' n' o' => hBh S s' hn h M' f x' (g0 _ M' hg x') (n' (g0 _ M' hg x')) o'⟩
  have start : K ([(8, 0)], true, s) := by
    cases hg : isG s.1 with
    | false => exact fall 1 _ _ s (Nat.le_refl _) hg (by rw [hpf.1 s hg, eEnd_f hg])
    | true =>
      refine hsim K clo [(8, 0)] s rfl (by decide) (by simp) hg (fun m hm => ?_)
      cases hq : isG (E s).1 with
      | false =>
        obtain ⟨S, v, s'⟩ := m
        have e1 : s'.1 = (E s).1 := hm.2 hq
        exact fall S.length S v s' (Nat.le_refl _) (by rw [e1]; exact hq) (by rw [e1, eEnd_f hq])
      | true =>
        obtain ⟨pend, t, rfl, hp, he, hx⟩ := hm.1 hq
        have e2 := emi_1 (P := pend) (s := t)
        rw [he] at e2
        refine clo.2.2 _ _ (by rw [← e2.1]; exact hq) (by simp) ?_
        obtain ⟨x1, x2, x3, x4, x5⟩ := hx
        by_cases r4 : rk t.1 = 4
        · have ic := x3 (by decide) r4
          unfold behS
          rw [if_pos ⟨r4, ic⟩]
          refine fall _ _ _ _ (Nat.le_refl _) (by show isG (flF 2 t.1) = false; exact flF_G) ?_
          show flF 2 t.1 = eEnd (E s).1
          unfold eEnd
          rw [e2.1, if_pos r4]
        · have r0 : rk t.1 = 0 := by
            have y1 := x1 (by decide)
            have y2 := x2 (by decide)
            have y4 := x4 (by decide)
            have y5 := x5 (by decide)
            have y3 := rk_b t.1
            omega
          have eb : behS T L (pend ++ [(8, 0)]) t = ([], false, E s) := by
            unfold behS
            rw [if_neg (by omega), if_neg (by omega), pops_app (S := [(8, 0)]) (by show ¬ (8 ≤ 6 ∧ _); omega) pend t (fun x hx => ⟨Nat.zero_le _, (hp x hx).2⟩), he]
            rfl
          rw [eb]
          have ee : eEnd (E s).1 = (E s).1 := by unfold eEnd; rw [e2.1, if_neg r4]
          intro M' f x' n' o'
          have x6 : rSt M' true T L (E s).1 := x'
          have z' := g0 _ M' hq x6
          have n6 : eN M' [] (E s) := n' z'
          exact stop0 M' _ f (by rw [ee]; exact x6) z' n6.1.1 (fun _ => ⟨n6, o'.2.2.1, o'.2.2.2⟩)
  -- the first pile
  obtain ⟨Ma, hMa⟩ : ∃ Ma, Ma = pz_wi (pz_wi M 120 (va_up (gi M 120) 76 0)) 120 (va_up (va_up (gi M 120) 76 0) 75 0) := ⟨_, rfl⟩
  have sa : sm [120] M Ma := by rw [hMa]; exact sm.wi (sm.wi sm.rf (by decide)) (by decide)
  have ea : gi Ma 120 = va_up (va_up (gi M 120) 76 0) 75 0 := by rw [hMa, pz_wi_same]
  have la : gl Ma 120 = gl M 120 := by rw [hMa]; simp only [pz_wi_gl]
  have hSa := hS.sm sa
  have fa : efr M Ma := ⟨sa.mono (by decide), fun j _ _ _ _ _ _ _ _ h75 h76 => by rw [ea, vu_ne h75, vu_ne h76], fun i _ => by rw [sa.i (by decide), sa.i (by decide)]; exact ⟨rfl, rfl⟩⟩
  have xa : rSt Ma true T L s.1 := rSt_n x sa (by decide) (fun j h1 h2 => by rw [ea, vu_ne (by omega), vu_ne (by omega)]) la
  refine pm_ent (L := [some (.ref 120), none]) rfl (Nat.le_of_ble_eq_true rfl) ?_
  refine pw_blk (mi := mz_221) (b := bz_221_0) rfl rfl ?_
  simp only [bz_221_0, pz_cut_t, pz_cut_f, pz_cut_n, pv_gt, pv_ts, pv_tn, ev_ald0, ev_eld0, ev_ic0, ev_pf11_0, ev_bp8, ev_cv2_11, pz_wi_gc, pz_wi_ga, pz_wi_gn, pz_wi_gl, pz_wi_gr, pz_wi_same, pz_wi_X, pz_wl_gc, pz_wl_ga, pz_wl_gn, pz_wl_gi, pz_wl_gr, pz_wl_same, pz_wl_X, pz_wr_gc, pz_wr_ga, pz_wr_gn, pz_wr_gi, pz_wr_gl, pz_wr_same, pz_wr_X, so_120 hS]
  (try simp (disch := omega) only [nI_clamp, pz_in_nI2, pz_in_nI2L, pv_gt, nI_add, nI_addL, nI_Ladd, pk_mul, nI_mulL, nI_Lmul, pk_sub, nI_subL, nI_Lsub, nI_inc, nI_clampL, Nat.add_sub_cancel, pz_wi_else, pz_wl_else, vu_eq, vu_ne, pz_wi_gc, pz_wi_ga, pz_wi_gn, pz_wi_gl, pz_wi_gr, pz_wi_same, pz_wi_X, pz_wl_gc, pz_wl_ga, pz_wl_gn, pz_wl_gi, pz_wl_gr, pz_wl_same, pz_wl_X, pz_wr_gc, pz_wr_ga, pz_wr_gn, pz_wr_gi, pz_wr_gl, pz_wr_same, pz_wr_X])
  (try refine po_gP (Nat.le_of_ble_eq_true rfl) ?_)
  rw [← hMa]
  refine po_call (by omega) (r_pushE (x := 8) (n := 0) hSa (by rw [ea, vu_ne (by decide), vu_eq]; rfl) (by decide) (fun M2 s2 f0 f1 f2 fl => ?_))
  refine pw_blk (mi := mz_221) (b := bz_221_17) rfl rfl ?_
  simp only [bz_221_17, pz_cut_t, pz_cut_f, pz_cut_n, pv_gt, pv_ts, pv_tn, ev_ic1, ev_ist1n, ev_ist1i, ev_ist1r, ev_ist1e, ev_ist1l, ev_nil, pz_wi_gc, pz_wi_ga, pz_wi_gn, pz_wi_gl, pz_wi_gr, pz_wi_same, pz_wi_X, pz_wl_gc, pz_wl_ga, pz_wl_gn, pz_wl_gi, pz_wl_gr, pz_wl_same, pz_wl_X, pz_wr_gc, pz_wr_ga, pz_wr_gn, pz_wr_gi, pz_wr_gl, pz_wr_same, pz_wr_X]
  (try simp (disch := omega) only [nI_clamp, pz_in_nI2, pz_in_nI2L, pv_gt, nI_add, nI_addL, nI_Ladd, pk_mul, nI_mulL, nI_Lmul, pk_sub, nI_subL, nI_Lsub, nI_inc, nI_clampL, Nat.add_sub_cancel, pz_wi_else, pz_wl_else, vu_eq, vu_ne, pz_wi_gc, pz_wi_ga, pz_wi_gn, pz_wi_gl, pz_wi_gr, pz_wi_same, pz_wi_X, pz_wl_gc, pz_wl_ga, pz_wl_gn, pz_wl_gi, pz_wl_gr, pz_wl_same, pz_wl_X, pz_wr_gc, pz_wr_ga, pz_wr_gn, pz_wr_gi, pz_wr_gl, pz_wr_same, pz_wr_X])
  refine po_go ?_
  refine start M2 (fa.tr ⟨s2.mono (by decide), fun j _ _ _ _ _ _ _ _ _ h76 => by rw [f0, vu_ne h76], fun i _ => by rw [s2.i (by decide), s2.i (by decide)]; exact ⟨rfl, rfl⟩⟩) (rSt_n xa s2 (by decide) (fun j h1 h2 => by rw [f0, vu_ne (by omega)]) fl) (fun _ => ⟨⟨?_, ?_, ?_, ?_⟩, ⟨?_, fun q => absurd q (by decide), trivial⟩, ?_⟩) ⟨⟨trivial, by decide, by decide, by simp, by decide⟩, (show nw [(8, 0)] ≤ 7 by decide), hu, ?_⟩
  · rw [f0, vu_eq]; rfl
  · rw [f0, vu_ne (by decide), ea, vu_eq]; rfl
  · rw [f0, vu_ne (by decide), ea, vu_ne (by decide), vu_ne (by decide)]; exact e74
  · rw [f0, vu_ne (by decide), ea, vu_ne (by decide), vu_ne (by decide)]; exact e73
  · rw [f1]; exact vu_eq
  · exact hcd.fr (fun i _ => by rw [s2.i (by decide), s2.i (by decide), sa.i (by decide), sa.i (by decide)]; exact ⟨rfl, rfl⟩)
  · show s.2.2.length + 1 ≤ 9 * s.2.1 + (2 + 0)
    omega
end REE
