/-! ===== rules: the class's side, whole ===== -/
section RUE
variable {d : Nat} {M M' : pz_M} {Q : Option Value × pz_M → Prop} {T : Nat → Nat} {L B N : Nat} {nm : Nat → List Nat}
theorem m_open7 (hd : 14 ≤ d) (hS : SH M) (eL : gi M 1 2 = nI L) (hL : L ≤ 1500) (hb : ∀ i, i < L → gi M 2 i = sb_b (T i) ∧ T i < 256) (hw : RWd M) (k' : ∀ M', sg [1] M M' → gi M' 1 2 = gi M 1 2 → cSt M' true T L (nxF true T L (.inr tk0)) → Q (none, M')) : pm d 176 [.ref 1, .retAddr 7] M Q := by
  have hSw : SH (cwr M (.retAddr 7)) := sh_cwr hS (by simp)
  have sx : sm [1] (cwr M (.retAddr 7)) (pz_wi (pz_wi (pz_wi (cwr M (.retAddr 7)) 1 (va_up (gi M 1) 4 0)) 1 (va_up (va_up (gi M 1) 4 0) 11 0)) 1 (va_up (va_up (va_up (gi M 1) 4 0) 11 0) 12 (-1))) := sm.wi (sm.wi (sm.wi sm.rf (by decide)) (by decide)) (by decide)
  have ex : gi (pz_wi (pz_wi (pz_wi (cwr M (.retAddr 7)) 1 (va_up (gi M 1) 4 0)) 1 (va_up (va_up (gi M 1) 4 0) 11 0)) 1 (va_up (va_up (va_up (gi M 1) 4 0) 11 0) 12 (-1))) 1 = va_up (va_up (va_up (gi M 1) 4 0) 11 0) 12 (-1) := pz_wi_same
  have hT : ∀ i, i < L → T i < 256 := fun i hi => (hb i hi).2
  have hx := nxS_ok (ru := true) (T := T) (L := L) (t := tk0) ⟨Nat.zero_le _, Nat.zero_le _, by decide, fun z => absurd z (by decide), fun z => absurd z (by decide), fun z => absurd z (by decide), fun z => absurd z (by decide)⟩ hT
  have xx : txC (pz_wi (pz_wi (pz_wi (cwr M (.retAddr 7)) 1 (va_up (gi M 1) 4 0)) 1 (va_up (va_up (gi M 1) 4 0) 11 0)) 1 (va_up (va_up (va_up (gi M 1) 4 0) 11 0) 12 (-1))) true T L := by
    refine ⟨hSw.sm sx, ?_, hL, ?_, ?_, ?_⟩
    · rw [ex, vu_ne (by decide), vu_ne (by decide), vu_ne (by decide)]; exact eL
    · rw [sx.i (by decide)]
      exact hb
    · intro i hi
      rw [sx.l (by decide)]
      exact hw i hi
    · rw [sx.r]
      show va_up (gr M 1) 3 _ 3 = _
      rw [vu_eq]
      rfl
  have gx : sg [1] M (cwr M (.retAddr 7)) := (sg_wr hS hSw).mono (fun _ z => by cases z)
  have body : pm (d - 1) 232 [.ref 1] (pz_wi (pz_wi (pz_wi (cwr M (.retAddr 7)) 1 (va_up (gi M 1) 4 0)) 1 (va_up (va_up (gi M 1) 4 0) 11 0)) 1 (va_up (va_up (va_up (gi M 1) 4 0) 11 0) 12 (-1))) (fun r => r.1 = none ∧ sg [1] M r.2 ∧ gi r.2 1 2 = gi M 1 2 ∧ cSt r.2 true T L (nxF true T L (.inr tk0))) := by
    refine m_advance (p := 0) (by omega) xx (Nat.zero_le _) (by rw [ex, vu_ne (by decide), vu_ne (by decide), vu_eq]; rfl) (by rw [ex, vu_ne (by decide), vu_eq]) (by rw [ex, vu_eq]) (fun z M' s' e' t' => ⟨rfl, (gx.tr (sx.sg hSw) (fun _ z => z)).tr (s'.sg (hSw.sm sx)) (fun _ z => z), ?_, xx.fr s' e', hx, ?_⟩) (fun z M' s' e' f' => ⟨rfl, (gx.tr (sx.sg hSw) (fun _ z => z)).tr (s'.sg (hSw.sm sx)) (fun _ z => z), ?_, xx.fr s' e', hx, ?_⟩)
    · rw [e', ex, vu_ne (by decide), vu_ne (by decide), vu_ne (by decide)]
    · show (match nxS true T L tk0 with | .inl f => cF M' f.1 f.2 | .inr t => cTk M' t)
      rw [show nxS true T L tk0 = .inr (nxt true T L 0) from if_neg z]
      exact t'
    · rw [e', ex, vu_ne (by decide), vu_ne (by decide), vu_ne (by decide)]
    · show (match nxS true T L tk0 with | .inl f => cF M' f.1 f.2 | .inr t => cTk M' t)
      rw [show nxS true T L tk0 = .inl (1, (nxt true T L 0).2.2.2.1) from if_pos z]
      exact f'
  unfold cwr at body
  refine pm_ent (L := [some (.ref 1), some (.retAddr 7)]) rfl (Nat.le_of_ble_eq_true rfl) ?_
  refine pw_blk (mi := mz_176) (b := bz_176_0) rfl rfl ?_
  simp only [bz_176_0, pz_cut_t, pz_cut_f, pz_cut_n, pv_gt, pv_ts, pv_tn, ev_ald0, ev_eld0, ev_ald1, ev_eld1, ev_pf10_2r, ev_pf10_2e, ev_ic0, ev_pf10_0, ev_icm1, ev_cv0_10, pz_wi_gc, pz_wi_ga, pz_wi_gn, pz_wi_gl, pz_wi_gr, pz_wi_same, pz_wi_X, pz_wl_gc, pz_wl_ga, pz_wl_gn, pz_wl_gi, pz_wl_gr, pz_wl_same, pz_wl_X, pz_wr_gc, pz_wr_ga, pz_wr_gn, pz_wr_gi, pz_wr_gl, pz_wr_same, pz_wr_X, so_1 hS]
  (try simp (disch := omega) only [nI_clamp, pz_in_nI2, pz_in_nI2L, pv_gt, nI_add, nI_addL, nI_Ladd, pk_mul, nI_mulL, nI_Lmul, pk_sub, nI_subL, nI_Lsub, nI_inc, nI_clampL, Nat.add_sub_cancel, pz_wi_else, pz_wl_else, vu_eq, vu_ne, pz_wi_gc, pz_wi_ga, pz_wi_gn, pz_wi_gl, pz_wi_gr, pz_wi_same, pz_wi_X, pz_wl_gc, pz_wl_ga, pz_wl_gn, pz_wl_gi, pz_wl_gr, pz_wl_same, pz_wl_X, pz_wr_gc, pz_wr_ga, pz_wr_gn, pz_wr_gi, pz_wr_gl, pz_wr_same, pz_wr_X])
  (try refine po_gP (Nat.le_of_ble_eq_true rfl) ?_)
  refine po_call (by omega) (pm_mono body (fun r hr => ?_))
  obtain ⟨v2, M2⟩ := r
  obtain ⟨h1, g2, e2, t2⟩ := hr
  simp only at h1 g2 e2 t2
  subst h1
  refine pw_blk (mi := mz_176) (b := bz_176_24) rfl rfl ?_
  simp only [bz_176_24, pz_cut_t, pz_cut_f, pz_cut_n, pv_gt, pv_ts, pv_tn, ev_ret, pz_wi_gc, pz_wi_ga, pz_wi_gn, pz_wi_gl, pz_wi_gr, pz_wi_same, pz_wi_X, pz_wl_gc, pz_wl_ga, pz_wl_gn, pz_wl_gi, pz_wl_gr, pz_wl_same, pz_wl_X, pz_wr_gc, pz_wr_ga, pz_wr_gn, pz_wr_gi, pz_wr_gl, pz_wr_same, pz_wr_X]
  (try simp (disch := omega) only [nI_clamp, pz_in_nI2, pz_in_nI2L, pv_gt, nI_add, nI_addL, nI_Ladd, pk_mul, nI_mulL, nI_Lmul, pk_sub, nI_subL, nI_Lsub, nI_inc, nI_clampL, Nat.add_sub_cancel, pz_wi_else, pz_wl_else, vu_eq, vu_ne, pz_wi_gc, pz_wi_ga, pz_wi_gn, pz_wi_gl, pz_wi_gr, pz_wi_same, pz_wi_X, pz_wl_gc, pz_wl_ga, pz_wl_gn, pz_wl_gi, pz_wl_gr, pz_wl_same, pz_wl_X, pz_wr_gc, pz_wr_ga, pz_wr_gn, pz_wr_gi, pz_wr_gl, pz_wr_same, pz_wr_X])
  exact po_ret (k' M2 g2 e2 t2)
/-- where reading of rules begins -/
def rr0 (T : Nat → Nat) (L : Nat) : Rr := ((nxF true T L (.inr tk0), 0, []), 0, fun _ => 0, fun _ => 0)
def ryK : List Nat := [1, 99, 100, 101, 102]
theorem m_readRules (hd : 110 ≤ d) (hS : SH M) (eL : gi M 1 2 = nI L) (hL : L ≤ 1500) (hb : ∀ i, i < L → gi M 2 i = sb_b (T i) ∧ T i < 256) (hw : RWd M) (hB : B ≤ 24) (hN : N ≤ 6) (e0 : gi M 4 0 = nI B) (e10 : gi M 4 10 = nI N) (hm : ∀ i, i < N → gl M 12 i = p5 (nm i) ∧ isWd (nm i)) (k : ∀ M', sg ryK M M' → gi M' 1 2 = gi M 1 2 → cRR M' T L (raF T L B N nm 7 (rr0 T L)) → Q (some (.int (bI (isG (raF T L B N nm 7 (rr0 T L)).1.1))), M')) : pm d 145 [.ref 98] M Q := by
  have fin : ∀ M' x, sg ryK M M' → gi M' 1 2 = gi M 1 2 → cRR M' T L x → x = raF T L B N nm 7 (rr0 T L) → pw d 145 (54, [some (.ref 98), none], [], M') Q := by
    intro M' x g1 e1 r el
    have hS' := r.1.1.1.1
    rw [← el] at k
    have kk := k M' g1 e1 r
    cases zg : isG x.1.1 with
    | true =>
      rw [zg] at kk
      refine pw_blk (mi := mz_145) (b := bz_145_54) rfl rfl ?_
      simp only [bz_145_54, pz_cut_t, pz_cut_f, pz_cut_n, pv_gt, pv_ts, pv_tn, ev_ald0, ev_eld0, ev_gf7_2, ev_cv0_10, pz_wi_gc, pz_wi_ga, pz_wi_gn, pz_wi_gl, pz_wi_gr, pz_wi_same, pz_wi_X, pz_wl_gc, pz_wl_ga, pz_wl_gn, pz_wl_gi, pz_wl_gr, pz_wl_same, pz_wl_X, pz_wr_gc, pz_wr_ga, pz_wr_gn, pz_wr_gi, pz_wr_gl, pz_wr_same, pz_wr_X, so_98 hS', sr_98_0 hS', so_1 hS']
      (try simp (disch := omega) only [nI_clamp, pz_in_nI2, pz_in_nI2L, pv_gt, nI_add, nI_addL, nI_Ladd, pk_mul, nI_mulL, nI_Lmul, pk_sub, nI_subL, nI_Lsub, nI_inc, nI_clampL, Nat.add_sub_cancel, pz_wi_else, pz_wl_else, vu_eq, vu_ne, pz_wi_gc, pz_wi_ga, pz_wi_gn, pz_wi_gl, pz_wi_gr, pz_wi_same, pz_wi_X, pz_wl_gc, pz_wl_ga, pz_wl_gn, pz_wl_gi, pz_wl_gr, pz_wl_same, pz_wl_X, pz_wr_gc, pz_wr_ga, pz_wr_gn, pz_wr_gi, pz_wr_gl, pz_wr_same, pz_wr_X])
      (try refine po_gP (Nat.le_of_ble_eq_true rfl) ?_)
      refine po_call (by omega) (m_isFine r.1.1 ?_)
      rw [zg]
      refine pw_blk (mi := mz_145) (b := bz_145_61) rfl rfl ?_
      simp only [bz_145_61, pz_cut_t, pz_cut_f, pz_cut_n, pv_gt, pv_ts, pv_tn, ev_iret1, pz_wi_gc, pz_wi_ga, pz_wi_gn, pz_wi_gl, pz_wi_gr, pz_wi_same, pz_wi_X, pz_wl_gc, pz_wl_ga, pz_wl_gn, pz_wl_gi, pz_wl_gr, pz_wl_same, pz_wl_X, pz_wr_gc, pz_wr_ga, pz_wr_gn, pz_wr_gi, pz_wr_gl, pz_wr_same, pz_wr_X, bI_t]
      (try simp (disch := omega) only [nI_clamp, pz_in_nI2, pz_in_nI2L, pv_gt, nI_add, nI_addL, nI_Ladd, pk_mul, nI_mulL, nI_Lmul, pk_sub, nI_subL, nI_Lsub, nI_inc, nI_clampL, Nat.add_sub_cancel, pz_wi_else, pz_wl_else, vu_eq, vu_ne, pz_wi_gc, pz_wi_ga, pz_wi_gn, pz_wi_gl, pz_wi_gr, pz_wi_same, pz_wi_X, pz_wl_gc, pz_wl_ga, pz_wl_gn, pz_wl_gi, pz_wl_gr, pz_wl_same, pz_wl_X, pz_wr_gc, pz_wr_ga, pz_wr_gn, pz_wr_gi, pz_wr_gl, pz_wr_same, pz_wr_X, bI_t])
      (try refine po_gP (by first | decide | assumption) ?_)
      exact po_ret kk
    | false =>
      rw [zg] at kk
      refine pw_blk (mi := mz_145) (b := bz_145_54) rfl rfl ?_
      simp only [bz_145_54, pz_cut_t, pz_cut_f, pz_cut_n, pv_gt, pv_ts, pv_tn, ev_ald0, ev_eld0, ev_gf7_2, ev_cv0_10, pz_wi_gc, pz_wi_ga, pz_wi_gn, pz_wi_gl, pz_wi_gr, pz_wi_same, pz_wi_X, pz_wl_gc, pz_wl_ga, pz_wl_gn, pz_wl_gi, pz_wl_gr, pz_wl_same, pz_wl_X, pz_wr_gc, pz_wr_ga, pz_wr_gn, pz_wr_gi, pz_wr_gl, pz_wr_same, pz_wr_X, so_98 hS', sr_98_0 hS', so_1 hS']
      (try simp (disch := omega) only [nI_clamp, pz_in_nI2, pz_in_nI2L, pv_gt, nI_add, nI_addL, nI_Ladd, pk_mul, nI_mulL, nI_Lmul, pk_sub, nI_subL, nI_Lsub, nI_inc, nI_clampL, Nat.add_sub_cancel, pz_wi_else, pz_wl_else, vu_eq, vu_ne, pz_wi_gc, pz_wi_ga, pz_wi_gn, pz_wi_gl, pz_wi_gr, pz_wi_same, pz_wi_X, pz_wl_gc, pz_wl_ga, pz_wl_gn, pz_wl_gi, pz_wl_gr, pz_wl_same, pz_wl_X, pz_wr_gc, pz_wr_ga, pz_wr_gn, pz_wr_gi, pz_wr_gl, pz_wr_same, pz_wr_X])
      (try refine po_gP (Nat.le_of_ble_eq_true rfl) ?_)
      refine po_call (by omega) (m_isFine r.1.1 ?_)
      rw [zg]
      refine pw_blk (mi := mz_145) (b := bz_145_61) rfl rfl ?_
      simp only [bz_145_61, pz_cut_t, pz_cut_f, pz_cut_n, pv_gt, pv_ts, pv_tn, ev_iret1, pz_wi_gc, pz_wi_ga, pz_wi_gn, pz_wi_gl, pz_wi_gr, pz_wi_same, pz_wi_X, pz_wl_gc, pz_wl_ga, pz_wl_gn, pz_wl_gi, pz_wl_gr, pz_wl_same, pz_wl_X, pz_wr_gc, pz_wr_ga, pz_wr_gn, pz_wr_gi, pz_wr_gl, pz_wr_same, pz_wr_X, bI_f]
      (try simp (disch := omega) only [nI_clamp, pz_in_nI2, pz_in_nI2L, pv_gt, nI_add, nI_addL, nI_Ladd, pk_mul, nI_mulL, nI_Lmul, pk_sub, nI_subL, nI_Lsub, nI_inc, nI_clampL, Nat.add_sub_cancel, pz_wi_else, pz_wl_else, vu_eq, vu_ne, pz_wi_gc, pz_wi_ga, pz_wi_gn, pz_wi_gl, pz_wi_gr, pz_wi_same, pz_wi_X, pz_wl_gc, pz_wl_ga, pz_wl_gn, pz_wl_gi, pz_wl_gr, pz_wl_same, pz_wl_X, pz_wr_gc, pz_wr_ga, pz_wr_gn, pz_wr_gi, pz_wr_gl, pz_wr_same, pz_wr_X, bI_f])
      (try refine po_gP (by first | decide | assumption) ?_)
      exact po_ret kk
  have loop : ∀ f i M' x, i + f = 7 → sg ryK M M' → gi M' 1 2 = gi M 1 2 → cRR M' T L x → raF T L B N nm f x = raF T L B N nm 7 (rr0 T L) → pw d 145 (18, [some (.ref 98), some (.int (nI i))], [], M') Q := by
    intro f
    induction f with
    | zero =>
      intro i M' x hi g1 e1 r el
      have ff := fin M' x g1 e1 r el
      refine pw_blk (mi := mz_145) (b := bz_145_18) rfl rfl ?_
      simp only [bz_145_18, pz_cut_t, pz_cut_f, pz_cut_n, pv_gt, pv_ts, pv_tn, ev_ild1, ev_bp6, ev_ic_gt, pz_wi_gc, pz_wi_ga, pz_wi_gn, pz_wi_gl, pz_wi_gr, pz_wi_same, pz_wi_X, pz_wl_gc, pz_wl_ga, pz_wl_gn, pz_wl_gi, pz_wl_gr, pz_wl_same, pz_wl_X, pz_wr_gc, pz_wr_ga, pz_wr_gn, pz_wr_gi, pz_wr_gl, pz_wr_same, pz_wr_X]
      (try simp (disch := omega) only [nI_clamp, pz_in_nI2, pz_in_nI2L, pv_gt, nI_add, nI_addL, nI_Ladd, pk_mul, nI_mulL, nI_Lmul, pk_sub, nI_subL, nI_Lsub, nI_inc, nI_clampL, Nat.add_sub_cancel, pz_wi_else, pz_wl_else, vu_eq, vu_ne, pz_wi_gc, pz_wi_ga, pz_wi_gn, pz_wi_gl, pz_wi_gr, pz_wi_same, pz_wi_X, pz_wl_gc, pz_wl_ga, pz_wl_gn, pz_wl_gi, pz_wl_gr, pz_wl_same, pz_wl_X, pz_wr_gc, pz_wr_ga, pz_wr_gn, pz_wr_gi, pz_wr_gl, pz_wr_same, pz_wr_X])
      refine po_brP (fun q18 => ?_) (fun q18 => ?_)
      · skip
        (try simp (disch := omega) only [nI_ltI, nI_leI, nI_eq, nI_ltL, nI_leL, nI_eqL, nI_Llt, nI_Lle, nI_Leq, nI_eqm, nI_meq, nI_ltm, nI_lem, nI_mlt, nI_mle, lg0, lgl, lgg, lgle, lgge, Int32.not_lt, Int32.not_le, Int64.not_lt, Int64.not_le, not_false_eq_true, not_true_eq_false, Decidable.not_not, ge_iff_le, gt_iff_lt] at q18)
        exact pw_cut (mi := mz_145) (b := bz_145_54) rfl rfl ff rfl
      · first
        | exact absurd q18 (by decide)
        | exact absurd trivial q18
        | exact q18.elim
        | (exfalso; (try simp (disch := omega) only [nI_ltI, nI_leI, nI_eq, nI_ltL, nI_leL, nI_eqL, nI_Llt, nI_Lle, nI_Leq, nI_eqm, nI_meq, nI_ltm, nI_lem, nI_mlt, nI_mle, lg0, lgl, lgg, lgle, lgge, Int32.not_lt, Int32.not_le, Int64.not_lt, Int64.not_le, not_false_eq_true, not_true_eq_false, Decidable.not_not, ge_iff_le, gt_iff_lt] at q18) <;> omega)
        | exact absurd q18 (by with_reducible assumption)
        | exact absurd (by with_reducible assumption) q18
        | exact absurd (Decidable.not_not.mp q18) (by with_reducible assumption)
        | exact absurd (by with_reducible assumption) (Int32.not_le.mpr q18)
        | exact absurd (by with_reducible assumption) (Int32.not_lt.mpr q18)
    | succ f ih =>
      intro i M' x hi g1 e1 r el
      have hS' := r.1.1.1.1
      rw [raF] at el
      cases zg : isG x.1.1 with
      | false =>
        rw [zg, if_neg (by simp)] at el
        have ff := fin M' x g1 e1 r el
        refine pw_blk (mi := mz_145) (b := bz_145_18) rfl rfl ?_
        simp only [bz_145_18, pz_cut_t, pz_cut_f, pz_cut_n, pv_gt, pv_ts, pv_tn, ev_ild1, ev_bp6, ev_ic_gt, pz_wi_gc, pz_wi_ga, pz_wi_gn, pz_wi_gl, pz_wi_gr, pz_wi_same, pz_wi_X, pz_wl_gc, pz_wl_ga, pz_wl_gn, pz_wl_gi, pz_wl_gr, pz_wl_same, pz_wl_X, pz_wr_gc, pz_wr_ga, pz_wr_gn, pz_wr_gi, pz_wr_gl, pz_wr_same, pz_wr_X]
        (try simp (disch := omega) only [nI_clamp, pz_in_nI2, pz_in_nI2L, pv_gt, nI_add, nI_addL, nI_Ladd, pk_mul, nI_mulL, nI_Lmul, pk_sub, nI_subL, nI_Lsub, nI_inc, nI_clampL, Nat.add_sub_cancel, pz_wi_else, pz_wl_else, vu_eq, vu_ne, pz_wi_gc, pz_wi_ga, pz_wi_gn, pz_wi_gl, pz_wi_gr, pz_wi_same, pz_wi_X, pz_wl_gc, pz_wl_ga, pz_wl_gn, pz_wl_gi, pz_wl_gr, pz_wl_same, pz_wl_X, pz_wr_gc, pz_wr_ga, pz_wr_gn, pz_wr_gi, pz_wr_gl, pz_wr_same, pz_wr_X])
        refine po_brP (fun q18 => ?_) (fun q18 => ?_)
        · first
          | exact absurd q18 (by decide)
          | exact absurd trivial q18
          | exact q18.elim
          | (exfalso; (try simp (disch := omega) only [nI_ltI, nI_leI, nI_eq, nI_ltL, nI_leL, nI_eqL, nI_Llt, nI_Lle, nI_Leq, nI_eqm, nI_meq, nI_ltm, nI_lem, nI_mlt, nI_mle, lg0, lgl, lgg, lgle, lgge, Int32.not_lt, Int32.not_le, Int64.not_lt, Int64.not_le, not_false_eq_true, not_true_eq_false, Decidable.not_not, ge_iff_le, gt_iff_lt] at q18) <;> omega)
          | exact absurd q18 (by with_reducible assumption)
          | exact absurd (by with_reducible assumption) q18
          | exact absurd (Decidable.not_not.mp q18) (by with_reducible assumption)
          | exact absurd (by with_reducible assumption) (Int32.not_le.mpr q18)
          | exact absurd (by with_reducible assumption) (Int32.not_lt.mpr q18)
        · skip
          (try simp (disch := omega) only [nI_ltI, nI_leI, nI_eq, nI_ltL, nI_leL, nI_eqL, nI_Llt, nI_Lle, nI_Leq, nI_eqm, nI_meq, nI_ltm, nI_lem, nI_mlt, nI_mle, lg0, lgl, lgg, lgle, lgge, Int32.not_lt, Int32.not_le, Int64.not_lt, Int64.not_le, not_false_eq_true, not_true_eq_false, Decidable.not_not, ge_iff_le, gt_iff_lt] at q18)
          refine pw_blk (mi := mz_145) (b := bz_145_24) rfl rfl ?_
          simp only [bz_145_24, pz_cut_t, pz_cut_f, pz_cut_n, pv_gt, pv_ts, pv_tn, ev_ald0, ev_eld0, ev_gf7_2, ev_cv0_10, pz_wi_gc, pz_wi_ga, pz_wi_gn, pz_wi_gl, pz_wi_gr, pz_wi_same, pz_wi_X, pz_wl_gc, pz_wl_ga, pz_wl_gn, pz_wl_gi, pz_wl_gr, pz_wl_same, pz_wl_X, pz_wr_gc, pz_wr_ga, pz_wr_gn, pz_wr_gi, pz_wr_gl, pz_wr_same, pz_wr_X, so_98 hS', sr_98_0 hS', so_1 hS']
          (try simp (disch := omega) only [nI_clamp, pz_in_nI2, pz_in_nI2L, pv_gt, nI_add, nI_addL, nI_Ladd, pk_mul, nI_mulL, nI_Lmul, pk_sub, nI_subL, nI_Lsub, nI_inc, nI_clampL, Nat.add_sub_cancel, pz_wi_else, pz_wl_else, vu_eq, vu_ne, pz_wi_gc, pz_wi_ga, pz_wi_gn, pz_wi_gl, pz_wi_gr, pz_wi_same, pz_wi_X, pz_wl_gc, pz_wl_ga, pz_wl_gn, pz_wl_gi, pz_wl_gr, pz_wl_same, pz_wl_X, pz_wr_gc, pz_wr_ga, pz_wr_gn, pz_wr_gi, pz_wr_gl, pz_wr_same, pz_wr_X])
          (try refine po_gP (Nat.le_of_ble_eq_true rfl) ?_)
          refine po_call (by omega) (m_isFine r.1.1 ?_)
          rw [zg]
          refine pw_blk (mi := mz_145) (b := bz_145_31) rfl rfl ?_
          simp only [bz_145_31, pz_cut_t, pz_cut_f, pz_cut_n, pv_gt, pv_ts, pv_tn, ev_ifeq, pz_wi_gc, pz_wi_ga, pz_wi_gn, pz_wi_gl, pz_wi_gr, pz_wi_same, pz_wi_X, pz_wl_gc, pz_wl_ga, pz_wl_gn, pz_wl_gi, pz_wl_gr, pz_wl_same, pz_wl_X, pz_wr_gc, pz_wr_ga, pz_wr_gn, pz_wr_gi, pz_wr_gl, pz_wr_same, pz_wr_X, bI_f]
          (try simp (disch := omega) only [nI_clamp, pz_in_nI2, pz_in_nI2L, pv_gt, nI_add, nI_addL, nI_Ladd, pk_mul, nI_mulL, nI_Lmul, pk_sub, nI_subL, nI_Lsub, nI_inc, nI_clampL, Nat.add_sub_cancel, pz_wi_else, pz_wl_else, vu_eq, vu_ne, pz_wi_gc, pz_wi_ga, pz_wi_gn, pz_wi_gl, pz_wi_gr, pz_wi_same, pz_wi_X, pz_wl_gc, pz_wl_ga, pz_wl_gn, pz_wl_gi, pz_wl_gr, pz_wl_same, pz_wl_X, pz_wr_gc, pz_wr_ga, pz_wr_gn, pz_wr_gi, pz_wr_gl, pz_wr_same, pz_wr_X, bI_f])
          refine po_brP (fun q31 => ?_) (fun q31 => ?_)
          · skip
            (try simp (disch := omega) only [nI_ltI, nI_leI, nI_eq, nI_ltL, nI_leL, nI_eqL, nI_Llt, nI_Lle, nI_Leq, nI_eqm, nI_meq, nI_ltm, nI_lem, nI_mlt, nI_mle, lg0, lgl, lgg, lgle, lgge, Int32.not_lt, Int32.not_le, Int64.not_lt, Int64.not_le, not_false_eq_true, not_true_eq_false, Decidable.not_not, ge_iff_le, gt_iff_lt] at q31)
            exact pw_cut (mi := mz_145) (b := bz_145_54) rfl rfl ff rfl
          · first
            | exact absurd q31 (by decide)
            | exact absurd trivial q31
            | exact q31.elim
            | (exfalso; (try simp (disch := omega) only [nI_ltI, nI_leI, nI_eq, nI_ltL, nI_leL, nI_eqL, nI_Llt, nI_Lle, nI_Leq, nI_eqm, nI_meq, nI_ltm, nI_lem, nI_mlt, nI_mle, lg0, lgl, lgg, lgle, lgge, Int32.not_lt, Int32.not_le, Int64.not_lt, Int64.not_le, not_false_eq_true, not_true_eq_false, Decidable.not_not, ge_iff_le, gt_iff_lt] at q31) <;> omega)
            | exact absurd q31 (by with_reducible assumption)
            | exact absurd (by with_reducible assumption) q31
            | exact absurd (Decidable.not_not.mp q31) (by with_reducible assumption)
            | exact absurd (by with_reducible assumption) (Int32.not_le.mpr q31)
            | exact absurd (by with_reducible assumption) (Int32.not_lt.mpr q31)
      | true =>
        cases ze : isE x.1.1 with
        | true =>
          rw [ze, if_neg (by simp)] at el
          have ff := fin M' x g1 e1 r el
          refine pw_blk (mi := mz_145) (b := bz_145_18) rfl rfl ?_
          simp only [bz_145_18, pz_cut_t, pz_cut_f, pz_cut_n, pv_gt, pv_ts, pv_tn, ev_ild1, ev_bp6, ev_ic_gt, pz_wi_gc, pz_wi_ga, pz_wi_gn, pz_wi_gl, pz_wi_gr, pz_wi_same, pz_wi_X, pz_wl_gc, pz_wl_ga, pz_wl_gn, pz_wl_gi, pz_wl_gr, pz_wl_same, pz_wl_X, pz_wr_gc, pz_wr_ga, pz_wr_gn, pz_wr_gi, pz_wr_gl, pz_wr_same, pz_wr_X]
          (try simp (disch := omega) only [nI_clamp, pz_in_nI2, pz_in_nI2L, pv_gt, nI_add, nI_addL, nI_Ladd, pk_mul, nI_mulL, nI_Lmul, pk_sub, nI_subL, nI_Lsub, nI_inc, nI_clampL, Nat.add_sub_cancel, pz_wi_else, pz_wl_else, vu_eq, vu_ne, pz_wi_gc, pz_wi_ga, pz_wi_gn, pz_wi_gl, pz_wi_gr, pz_wi_same, pz_wi_X, pz_wl_gc, pz_wl_ga, pz_wl_gn, pz_wl_gi, pz_wl_gr, pz_wl_same, pz_wl_X, pz_wr_gc, pz_wr_ga, pz_wr_gn, pz_wr_gi, pz_wr_gl, pz_wr_same, pz_wr_X])
          refine po_brP (fun q18 => ?_) (fun q18 => ?_)
          · first
            | exact absurd q18 (by decide)
            | exact absurd trivial q18
            | exact q18.elim
            | (exfalso; (try simp (disch := omega) only [nI_ltI, nI_leI, nI_eq, nI_ltL, nI_leL, nI_eqL, nI_Llt, nI_Lle, nI_Leq, nI_eqm, nI_meq, nI_ltm, nI_lem, nI_mlt, nI_mle, lg0, lgl, lgg, lgle, lgge, Int32.not_lt, Int32.not_le, Int64.not_lt, Int64.not_le, not_false_eq_true, not_true_eq_false, Decidable.not_not, ge_iff_le, gt_iff_lt] at q18) <;> omega)
            | exact absurd q18 (by with_reducible assumption)
            | exact absurd (by with_reducible assumption) q18
            | exact absurd (Decidable.not_not.mp q18) (by with_reducible assumption)
            | exact absurd (by with_reducible assumption) (Int32.not_le.mpr q18)
            | exact absurd (by with_reducible assumption) (Int32.not_lt.mpr q18)
          · skip
            (try simp (disch := omega) only [nI_ltI, nI_leI, nI_eq, nI_ltL, nI_leL, nI_eqL, nI_Llt, nI_Lle, nI_Leq, nI_eqm, nI_meq, nI_ltm, nI_lem, nI_mlt, nI_mle, lg0, lgl, lgg, lgle, lgge, Int32.not_lt, Int32.not_le, Int64.not_lt, Int64.not_le, not_false_eq_true, not_true_eq_false, Decidable.not_not, ge_iff_le, gt_iff_lt] at q18)
            refine pw_blk (mi := mz_145) (b := bz_145_24) rfl rfl ?_
            simp only [bz_145_24, pz_cut_t, pz_cut_f, pz_cut_n, pv_gt, pv_ts, pv_tn, ev_ald0, ev_eld0, ev_gf7_2, ev_cv0_10, pz_wi_gc, pz_wi_ga, pz_wi_gn, pz_wi_gl, pz_wi_gr, pz_wi_same, pz_wi_X, pz_wl_gc, pz_wl_ga, pz_wl_gn, pz_wl_gi, pz_wl_gr, pz_wl_same, pz_wl_X, pz_wr_gc, pz_wr_ga, pz_wr_gn, pz_wr_gi, pz_wr_gl, pz_wr_same, pz_wr_X, so_98 hS', sr_98_0 hS', so_1 hS']
            (try simp (disch := omega) only [nI_clamp, pz_in_nI2, pz_in_nI2L, pv_gt, nI_add, nI_addL, nI_Ladd, pk_mul, nI_mulL, nI_Lmul, pk_sub, nI_subL, nI_Lsub, nI_inc, nI_clampL, Nat.add_sub_cancel, pz_wi_else, pz_wl_else, vu_eq, vu_ne, pz_wi_gc, pz_wi_ga, pz_wi_gn, pz_wi_gl, pz_wi_gr, pz_wi_same, pz_wi_X, pz_wl_gc, pz_wl_ga, pz_wl_gn, pz_wl_gi, pz_wl_gr, pz_wl_same, pz_wl_X, pz_wr_gc, pz_wr_ga, pz_wr_gn, pz_wr_gi, pz_wr_gl, pz_wr_same, pz_wr_X])
            (try refine po_gP (Nat.le_of_ble_eq_true rfl) ?_)
            refine po_call (by omega) (m_isFine r.1.1 ?_)
            rw [zg]
            refine pw_blk (mi := mz_145) (b := bz_145_31) rfl rfl ?_
            simp only [bz_145_31, pz_cut_t, pz_cut_f, pz_cut_n, pv_gt, pv_ts, pv_tn, ev_ifeq, pz_wi_gc, pz_wi_ga, pz_wi_gn, pz_wi_gl, pz_wi_gr, pz_wi_same, pz_wi_X, pz_wl_gc, pz_wl_ga, pz_wl_gn, pz_wl_gi, pz_wl_gr, pz_wl_same, pz_wl_X, pz_wr_gc, pz_wr_ga, pz_wr_gn, pz_wr_gi, pz_wr_gl, pz_wr_same, pz_wr_X, bI_t]
            (try simp (disch := omega) only [nI_clamp, pz_in_nI2, pz_in_nI2L, pv_gt, nI_add, nI_addL, nI_Ladd, pk_mul, nI_mulL, nI_Lmul, pk_sub, nI_subL, nI_Lsub, nI_inc, nI_clampL, Nat.add_sub_cancel, pz_wi_else, pz_wl_else, vu_eq, vu_ne, pz_wi_gc, pz_wi_ga, pz_wi_gn, pz_wi_gl, pz_wi_gr, pz_wi_same, pz_wi_X, pz_wl_gc, pz_wl_ga, pz_wl_gn, pz_wl_gi, pz_wl_gr, pz_wl_same, pz_wl_X, pz_wr_gc, pz_wr_ga, pz_wr_gn, pz_wr_gi, pz_wr_gl, pz_wr_same, pz_wr_X, bI_t])
            refine po_brP (fun q31 => ?_) (fun q31 => ?_)
            · first
              | exact absurd q31 (by decide)
              | exact absurd trivial q31
              | exact q31.elim
              | (exfalso; (try simp (disch := omega) only [nI_ltI, nI_leI, nI_eq, nI_ltL, nI_leL, nI_eqL, nI_Llt, nI_Lle, nI_Leq, nI_eqm, nI_meq, nI_ltm, nI_lem, nI_mlt, nI_mle, lg0, lgl, lgg, lgle, lgge, Int32.not_lt, Int32.not_le, Int64.not_lt, Int64.not_le, not_false_eq_true, not_true_eq_false, Decidable.not_not, ge_iff_le, gt_iff_lt] at q31) <;> omega)
              | exact absurd q31 (by with_reducible assumption)
              | exact absurd (by with_reducible assumption) q31
              | exact absurd (Decidable.not_not.mp q31) (by with_reducible assumption)
              | exact absurd (by with_reducible assumption) (Int32.not_le.mpr q31)
              | exact absurd (by with_reducible assumption) (Int32.not_lt.mpr q31)
            · skip
              (try simp (disch := omega) only [nI_ltI, nI_leI, nI_eq, nI_ltL, nI_leL, nI_eqL, nI_Llt, nI_Lle, nI_Leq, nI_eqm, nI_meq, nI_ltm, nI_lem, nI_mlt, nI_mle, lg0, lgl, lgg, lgle, lgge, Int32.not_lt, Int32.not_le, Int64.not_lt, Int64.not_le, not_false_eq_true, not_true_eq_false, Decidable.not_not, ge_iff_le, gt_iff_lt] at q31)
              refine pw_blk (mi := mz_145) (b := bz_145_34) rfl rfl ?_
              simp only [bz_145_34, pz_cut_t, pz_cut_f, pz_cut_n, pv_gt, pv_ts, pv_tn, ev_ald0, ev_eld0, ev_gf7_2, ev_cv0_10, pz_wi_gc, pz_wi_ga, pz_wi_gn, pz_wi_gl, pz_wi_gr, pz_wi_same, pz_wi_X, pz_wl_gc, pz_wl_ga, pz_wl_gn, pz_wl_gi, pz_wl_gr, pz_wl_same, pz_wl_X, pz_wr_gc, pz_wr_ga, pz_wr_gn, pz_wr_gi, pz_wr_gl, pz_wr_same, pz_wr_X, so_98 hS', sr_98_0 hS', so_1 hS']
              (try simp (disch := omega) only [nI_clamp, pz_in_nI2, pz_in_nI2L, pv_gt, nI_add, nI_addL, nI_Ladd, pk_mul, nI_mulL, nI_Lmul, pk_sub, nI_subL, nI_Lsub, nI_inc, nI_clampL, Nat.add_sub_cancel, pz_wi_else, pz_wl_else, vu_eq, vu_ne, pz_wi_gc, pz_wi_ga, pz_wi_gn, pz_wi_gl, pz_wi_gr, pz_wi_same, pz_wi_X, pz_wl_gc, pz_wl_ga, pz_wl_gn, pz_wl_gi, pz_wl_gr, pz_wl_same, pz_wl_X, pz_wr_gc, pz_wr_ga, pz_wr_gn, pz_wr_gi, pz_wr_gl, pz_wr_same, pz_wr_X])
              (try refine po_gP (Nat.le_of_ble_eq_true rfl) ?_)
              refine po_call (by omega) (m_isAtEnd r.1.1 ?_)
              rw [ze]
              refine pw_blk (mi := mz_145) (b := bz_145_41) rfl rfl ?_
              simp only [bz_145_41, pz_cut_t, pz_cut_f, pz_cut_n, pv_gt, pv_ts, pv_tn, ev_ifne, pz_wi_gc, pz_wi_ga, pz_wi_gn, pz_wi_gl, pz_wi_gr, pz_wi_same, pz_wi_X, pz_wl_gc, pz_wl_ga, pz_wl_gn, pz_wl_gi, pz_wl_gr, pz_wl_same, pz_wl_X, pz_wr_gc, pz_wr_ga, pz_wr_gn, pz_wr_gi, pz_wr_gl, pz_wr_same, pz_wr_X, bI_t]
              (try simp (disch := omega) only [nI_clamp, pz_in_nI2, pz_in_nI2L, pv_gt, nI_add, nI_addL, nI_Ladd, pk_mul, nI_mulL, nI_Lmul, pk_sub, nI_subL, nI_Lsub, nI_inc, nI_clampL, Nat.add_sub_cancel, pz_wi_else, pz_wl_else, vu_eq, vu_ne, pz_wi_gc, pz_wi_ga, pz_wi_gn, pz_wi_gl, pz_wi_gr, pz_wi_same, pz_wi_X, pz_wl_gc, pz_wl_ga, pz_wl_gn, pz_wl_gi, pz_wl_gr, pz_wl_same, pz_wl_X, pz_wr_gc, pz_wr_ga, pz_wr_gn, pz_wr_gi, pz_wr_gl, pz_wr_same, pz_wr_X, bI_t])
              refine po_brP (fun q41 => ?_) (fun q41 => ?_)
              · skip
                (try simp (disch := omega) only [nI_ltI, nI_leI, nI_eq, nI_ltL, nI_leL, nI_eqL, nI_Llt, nI_Lle, nI_Leq, nI_eqm, nI_meq, nI_ltm, nI_lem, nI_mlt, nI_mle, lg0, lgl, lgg, lgle, lgge, Int32.not_lt, Int32.not_le, Int64.not_lt, Int64.not_le, not_false_eq_true, not_true_eq_false, Decidable.not_not, ge_iff_le, gt_iff_lt] at q41)
                exact pw_cut (mi := mz_145) (b := bz_145_54) rfl rfl ff rfl
              · first
                | exact absurd q41 (by decide)
                | exact absurd trivial q41
                | exact q41.elim
                | (exfalso; (try simp (disch := omega) only [nI_ltI, nI_leI, nI_eq, nI_ltL, nI_leL, nI_eqL, nI_Llt, nI_Lle, nI_Leq, nI_eqm, nI_meq, nI_ltm, nI_lem, nI_mlt, nI_mle, lg0, lgl, lgg, lgle, lgge, Int32.not_lt, Int32.not_le, Int64.not_lt, Int64.not_le, not_false_eq_true, not_true_eq_false, Decidable.not_not, ge_iff_le, gt_iff_lt] at q41) <;> omega)
                | exact absurd q41 (by with_reducible assumption)
                | exact absurd (by with_reducible assumption) q41
                | exact absurd (Decidable.not_not.mp q41) (by with_reducible assumption)
                | exact absurd (by with_reducible assumption) (Int32.not_le.mpr q41)
                | exact absurd (by with_reducible assumption) (Int32.not_lt.mpr q41)
        | false =>
          rw [zg, ze, if_pos ⟨rfl, rfl⟩] at el
          refine pw_blk (mi := mz_145) (b := bz_145_18) rfl rfl ?_
          simp only [bz_145_18, pz_cut_t, pz_cut_f, pz_cut_n, pv_gt, pv_ts, pv_tn, ev_ild1, ev_bp6, ev_ic_gt, pz_wi_gc, pz_wi_ga, pz_wi_gn, pz_wi_gl, pz_wi_gr, pz_wi_same, pz_wi_X, pz_wl_gc, pz_wl_ga, pz_wl_gn, pz_wl_gi, pz_wl_gr, pz_wl_same, pz_wl_X, pz_wr_gc, pz_wr_ga, pz_wr_gn, pz_wr_gi, pz_wr_gl, pz_wr_same, pz_wr_X]
          (try simp (disch := omega) only [nI_clamp, pz_in_nI2, pz_in_nI2L, pv_gt, nI_add, nI_addL, nI_Ladd, pk_mul, nI_mulL, nI_Lmul, pk_sub, nI_subL, nI_Lsub, nI_inc, nI_clampL, Nat.add_sub_cancel, pz_wi_else, pz_wl_else, vu_eq, vu_ne, pz_wi_gc, pz_wi_ga, pz_wi_gn, pz_wi_gl, pz_wi_gr, pz_wi_same, pz_wi_X, pz_wl_gc, pz_wl_ga, pz_wl_gn, pz_wl_gi, pz_wl_gr, pz_wl_same, pz_wl_X, pz_wr_gc, pz_wr_ga, pz_wr_gn, pz_wr_gi, pz_wr_gl, pz_wr_same, pz_wr_X])
          refine po_brP (fun q18 => ?_) (fun q18 => ?_)
          · first
            | exact absurd q18 (by decide)
            | exact absurd trivial q18
            | exact q18.elim
            | (exfalso; (try simp (disch := omega) only [nI_ltI, nI_leI, nI_eq, nI_ltL, nI_leL, nI_eqL, nI_Llt, nI_Lle, nI_Leq, nI_eqm, nI_meq, nI_ltm, nI_lem, nI_mlt, nI_mle, lg0, lgl, lgg, lgle, lgge, Int32.not_lt, Int32.not_le, Int64.not_lt, Int64.not_le, not_false_eq_true, not_true_eq_false, Decidable.not_not, ge_iff_le, gt_iff_lt] at q18) <;> omega)
            | exact absurd q18 (by with_reducible assumption)
            | exact absurd (by with_reducible assumption) q18
            | exact absurd (Decidable.not_not.mp q18) (by with_reducible assumption)
            | exact absurd (by with_reducible assumption) (Int32.not_le.mpr q18)
            | exact absurd (by with_reducible assumption) (Int32.not_lt.mpr q18)
          · skip
            (try simp (disch := omega) only [nI_ltI, nI_leI, nI_eq, nI_ltL, nI_leL, nI_eqL, nI_Llt, nI_Lle, nI_Leq, nI_eqm, nI_meq, nI_ltm, nI_lem, nI_mlt, nI_mle, lg0, lgl, lgg, lgle, lgge, Int32.not_lt, Int32.not_le, Int64.not_lt, Int64.not_le, not_false_eq_true, not_true_eq_false, Decidable.not_not, ge_iff_le, gt_iff_lt] at q18)
            refine pw_blk (mi := mz_145) (b := bz_145_24) rfl rfl ?_
            simp only [bz_145_24, pz_cut_t, pz_cut_f, pz_cut_n, pv_gt, pv_ts, pv_tn, ev_ald0, ev_eld0, ev_gf7_2, ev_cv0_10, pz_wi_gc, pz_wi_ga, pz_wi_gn, pz_wi_gl, pz_wi_gr, pz_wi_same, pz_wi_X, pz_wl_gc, pz_wl_ga, pz_wl_gn, pz_wl_gi, pz_wl_gr, pz_wl_same, pz_wl_X, pz_wr_gc, pz_wr_ga, pz_wr_gn, pz_wr_gi, pz_wr_gl, pz_wr_same, pz_wr_X, so_98 hS', sr_98_0 hS', so_1 hS']
            (try simp (disch := omega) only [nI_clamp, pz_in_nI2, pz_in_nI2L, pv_gt, nI_add, nI_addL, nI_Ladd, pk_mul, nI_mulL, nI_Lmul, pk_sub, nI_subL, nI_Lsub, nI_inc, nI_clampL, Nat.add_sub_cancel, pz_wi_else, pz_wl_else, vu_eq, vu_ne, pz_wi_gc, pz_wi_ga, pz_wi_gn, pz_wi_gl, pz_wi_gr, pz_wi_same, pz_wi_X, pz_wl_gc, pz_wl_ga, pz_wl_gn, pz_wl_gi, pz_wl_gr, pz_wl_same, pz_wl_X, pz_wr_gc, pz_wr_ga, pz_wr_gn, pz_wr_gi, pz_wr_gl, pz_wr_same, pz_wr_X])
            (try refine po_gP (Nat.le_of_ble_eq_true rfl) ?_)
            refine po_call (by omega) (m_isFine r.1.1 ?_)
            rw [zg]
            refine pw_blk (mi := mz_145) (b := bz_145_31) rfl rfl ?_
            simp only [bz_145_31, pz_cut_t, pz_cut_f, pz_cut_n, pv_gt, pv_ts, pv_tn, ev_ifeq, pz_wi_gc, pz_wi_ga, pz_wi_gn, pz_wi_gl, pz_wi_gr, pz_wi_same, pz_wi_X, pz_wl_gc, pz_wl_ga, pz_wl_gn, pz_wl_gi, pz_wl_gr, pz_wl_same, pz_wl_X, pz_wr_gc, pz_wr_ga, pz_wr_gn, pz_wr_gi, pz_wr_gl, pz_wr_same, pz_wr_X, bI_t]
            (try simp (disch := omega) only [nI_clamp, pz_in_nI2, pz_in_nI2L, pv_gt, nI_add, nI_addL, nI_Ladd, pk_mul, nI_mulL, nI_Lmul, pk_sub, nI_subL, nI_Lsub, nI_inc, nI_clampL, Nat.add_sub_cancel, pz_wi_else, pz_wl_else, vu_eq, vu_ne, pz_wi_gc, pz_wi_ga, pz_wi_gn, pz_wi_gl, pz_wi_gr, pz_wi_same, pz_wi_X, pz_wl_gc, pz_wl_ga, pz_wl_gn, pz_wl_gi, pz_wl_gr, pz_wl_same, pz_wl_X, pz_wr_gc, pz_wr_ga, pz_wr_gn, pz_wr_gi, pz_wr_gl, pz_wr_same, pz_wr_X, bI_t])
            refine po_brP (fun q31 => ?_) (fun q31 => ?_)
            · first
              | exact absurd q31 (by decide)
              | exact absurd trivial q31
              | exact q31.elim
              | (exfalso; (try simp (disch := omega) only [nI_ltI, nI_leI, nI_eq, nI_ltL, nI_leL, nI_eqL, nI_Llt, nI_Lle, nI_Leq, nI_eqm, nI_meq, nI_ltm, nI_lem, nI_mlt, nI_mle, lg0, lgl, lgg, lgle, lgge, Int32.not_lt, Int32.not_le, Int64.not_lt, Int64.not_le, not_false_eq_true, not_true_eq_false, Decidable.not_not, ge_iff_le, gt_iff_lt] at q31) <;> omega)
              | exact absurd q31 (by with_reducible assumption)
              | exact absurd (by with_reducible assumption) q31
              | exact absurd (Decidable.not_not.mp q31) (by with_reducible assumption)
              | exact absurd (by with_reducible assumption) (Int32.not_le.mpr q31)
              | exact absurd (by with_reducible assumption) (Int32.not_lt.mpr q31)
            · skip
              (try simp (disch := omega) only [nI_ltI, nI_leI, nI_eq, nI_ltL, nI_leL, nI_eqL, nI_Llt, nI_Lle, nI_Leq, nI_eqm, nI_meq, nI_ltm, nI_lem, nI_mlt, nI_mle, lg0, lgl, lgg, lgle, lgge, Int32.not_lt, Int32.not_le, Int64.not_lt, Int64.not_le, not_false_eq_true, not_true_eq_false, Decidable.not_not, ge_iff_le, gt_iff_lt] at q31)
              refine pw_blk (mi := mz_145) (b := bz_145_34) rfl rfl ?_
              simp only [bz_145_34, pz_cut_t, pz_cut_f, pz_cut_n, pv_gt, pv_ts, pv_tn, ev_ald0, ev_eld0, ev_gf7_2, ev_cv0_10, pz_wi_gc, pz_wi_ga, pz_wi_gn, pz_wi_gl, pz_wi_gr, pz_wi_same, pz_wi_X, pz_wl_gc, pz_wl_ga, pz_wl_gn, pz_wl_gi, pz_wl_gr, pz_wl_same, pz_wl_X, pz_wr_gc, pz_wr_ga, pz_wr_gn, pz_wr_gi, pz_wr_gl, pz_wr_same, pz_wr_X, so_98 hS', sr_98_0 hS', so_1 hS']
              (try simp (disch := omega) only [nI_clamp, pz_in_nI2, pz_in_nI2L, pv_gt, nI_add, nI_addL, nI_Ladd, pk_mul, nI_mulL, nI_Lmul, pk_sub, nI_subL, nI_Lsub, nI_inc, nI_clampL, Nat.add_sub_cancel, pz_wi_else, pz_wl_else, vu_eq, vu_ne, pz_wi_gc, pz_wi_ga, pz_wi_gn, pz_wi_gl, pz_wi_gr, pz_wi_same, pz_wi_X, pz_wl_gc, pz_wl_ga, pz_wl_gn, pz_wl_gi, pz_wl_gr, pz_wl_same, pz_wl_X, pz_wr_gc, pz_wr_ga, pz_wr_gn, pz_wr_gi, pz_wr_gl, pz_wr_same, pz_wr_X])
              (try refine po_gP (Nat.le_of_ble_eq_true rfl) ?_)
              refine po_call (by omega) (m_isAtEnd r.1.1 ?_)
              rw [ze]
              refine pw_blk (mi := mz_145) (b := bz_145_41) rfl rfl ?_
              simp only [bz_145_41, pz_cut_t, pz_cut_f, pz_cut_n, pv_gt, pv_ts, pv_tn, ev_ifne, pz_wi_gc, pz_wi_ga, pz_wi_gn, pz_wi_gl, pz_wi_gr, pz_wi_same, pz_wi_X, pz_wl_gc, pz_wl_ga, pz_wl_gn, pz_wl_gi, pz_wl_gr, pz_wl_same, pz_wl_X, pz_wr_gc, pz_wr_ga, pz_wr_gn, pz_wr_gi, pz_wr_gl, pz_wr_same, pz_wr_X, bI_f]
              (try simp (disch := omega) only [nI_clamp, pz_in_nI2, pz_in_nI2L, pv_gt, nI_add, nI_addL, nI_Ladd, pk_mul, nI_mulL, nI_Lmul, pk_sub, nI_subL, nI_Lsub, nI_inc, nI_clampL, Nat.add_sub_cancel, pz_wi_else, pz_wl_else, vu_eq, vu_ne, pz_wi_gc, pz_wi_ga, pz_wi_gn, pz_wi_gl, pz_wi_gr, pz_wi_same, pz_wi_X, pz_wl_gc, pz_wl_ga, pz_wl_gn, pz_wl_gi, pz_wl_gr, pz_wl_same, pz_wl_X, pz_wr_gc, pz_wr_ga, pz_wr_gn, pz_wr_gi, pz_wr_gl, pz_wr_same, pz_wr_X, bI_f])
              refine po_brP (fun q41 => ?_) (fun q41 => ?_)
              · first
                | exact absurd q41 (by decide)
                | exact absurd trivial q41
                | exact q41.elim
                | (exfalso; (try simp (disch := omega) only [nI_ltI, nI_leI, nI_eq, nI_ltL, nI_leL, nI_eqL, nI_Llt, nI_Lle, nI_Leq, nI_eqm, nI_meq, nI_ltm, nI_lem, nI_mlt, nI_mle, lg0, lgl, lgg, lgle, lgge, Int32.not_lt, Int32.not_le, Int64.not_lt, Int64.not_le, not_false_eq_true, not_true_eq_false, Decidable.not_not, ge_iff_le, gt_iff_lt] at q41) <;> omega)
                | exact absurd q41 (by with_reducible assumption)
                | exact absurd (by with_reducible assumption) q41
                | exact absurd (Decidable.not_not.mp q41) (by with_reducible assumption)
                | exact absurd (by with_reducible assumption) (Int32.not_le.mpr q41)
                | exact absurd (by with_reducible assumption) (Int32.not_lt.mpr q41)
              · skip
                (try simp (disch := omega) only [nI_ltI, nI_leI, nI_eq, nI_ltL, nI_leL, nI_eqL, nI_Llt, nI_Lle, nI_Leq, nI_eqm, nI_meq, nI_ltm, nI_lem, nI_mlt, nI_mle, lg0, lgl, lgg, lgle, lgge, Int32.not_lt, Int32.not_le, Int64.not_lt, Int64.not_le, not_false_eq_true, not_true_eq_false, Decidable.not_not, ge_iff_le, gt_iff_lt] at q41)
                refine pw_blk (mi := mz_145) (b := bz_145_44) rfl rfl ?_
                simp only [bz_145_44, pz_cut_t, pz_cut_f, pz_cut_n, pv_gt, pv_ts, pv_tn, ev_ald0, ev_eld0, ev_cv0_7, pz_wi_gc, pz_wi_ga, pz_wi_gn, pz_wi_gl, pz_wi_gr, pz_wi_same, pz_wi_X, pz_wl_gc, pz_wl_ga, pz_wl_gn, pz_wl_gi, pz_wl_gr, pz_wl_same, pz_wl_X, pz_wr_gc, pz_wr_ga, pz_wr_gn, pz_wr_gi, pz_wr_gl, pz_wr_same, pz_wr_X, so_98 hS']
                (try simp (disch := omega) only [nI_clamp, pz_in_nI2, pz_in_nI2L, pv_gt, nI_add, nI_addL, nI_Ladd, pk_mul, nI_mulL, nI_Lmul, pk_sub, nI_subL, nI_Lsub, nI_inc, nI_clampL, Nat.add_sub_cancel, pz_wi_else, pz_wl_else, vu_eq, vu_ne, pz_wi_gc, pz_wi_ga, pz_wi_gn, pz_wi_gl, pz_wi_gr, pz_wi_same, pz_wi_X, pz_wl_gc, pz_wl_ga, pz_wl_gn, pz_wl_gi, pz_wl_gr, pz_wl_same, pz_wl_X, pz_wr_gc, pz_wr_ga, pz_wr_gn, pz_wr_gi, pz_wr_gl, pz_wr_same, pz_wr_X])
                (try refine po_gP (Nat.le_of_ble_eq_true rfl) ?_)
                refine po_call (by omega) (m_readRule (nm := nm) (by omega) hB hN (by rw [g1.i (by decide)]; exact e0) (by rw [g1.i (by decide)]; exact e10) (by rw [g1.l (by decide)]; exact hm) r (fun M2 y2 r2 => ?_))
                refine pw_blk (mi := mz_145) (b := bz_145_48) rfl rfl ?_
                simp only [bz_145_48, pz_cut_t, pz_cut_f, pz_cut_n, pv_gt, pv_ts, pv_tn, ev_inc1n, ev_inc1i, ev_inc1r, ev_inc1e, ev_goto, pz_wi_gc, pz_wi_ga, pz_wi_gn, pz_wi_gl, pz_wi_gr, pz_wi_same, pz_wi_X, pz_wl_gc, pz_wl_ga, pz_wl_gn, pz_wl_gi, pz_wl_gr, pz_wl_same, pz_wl_X, pz_wr_gc, pz_wr_ga, pz_wr_gn, pz_wr_gi, pz_wr_gl, pz_wr_same, pz_wr_X]
                (try simp (disch := omega) only [nI_clamp, pz_in_nI2, pz_in_nI2L, pv_gt, nI_add, nI_addL, nI_Ladd, pk_mul, nI_mulL, nI_Lmul, pk_sub, nI_subL, nI_Lsub, nI_inc, nI_clampL, Nat.add_sub_cancel, pz_wi_else, pz_wl_else, vu_eq, vu_ne, pz_wi_gc, pz_wi_ga, pz_wi_gn, pz_wi_gl, pz_wi_gr, pz_wi_same, pz_wi_X, pz_wl_gc, pz_wl_ga, pz_wl_gn, pz_wl_gi, pz_wl_gr, pz_wl_same, pz_wl_X, pz_wr_gc, pz_wr_ga, pz_wr_gn, pz_wr_gi, pz_wr_gl, pz_wr_same, pz_wr_X])
                refine po_go ?_
                exact ih (i + 1) M2 _ (by omega) (g1.tr (y2.1.sg hS') (fun _ z => z)) (y2.2.trans e1) r2 el
  refine pm_ent (L := [some (.ref 98), none]) rfl (Nat.le_of_ble_eq_true rfl) ?_
  refine pw_blk (mi := mz_145) (b := bz_145_0) rfl rfl ?_
  simp only [bz_145_0, pz_cut_t, pz_cut_f, pz_cut_n, pv_gt, pv_ts, pv_tn, ev_ald0, ev_eld0, ev_gf7_2, ev_cv0_6, pz_wi_gc, pz_wi_ga, pz_wi_gn, pz_wi_gl, pz_wi_gr, pz_wi_same, pz_wi_X, pz_wl_gc, pz_wl_ga, pz_wl_gn, pz_wl_gi, pz_wl_gr, pz_wl_same, pz_wl_X, pz_wr_gc, pz_wr_ga, pz_wr_gn, pz_wr_gi, pz_wr_gl, pz_wr_same, pz_wr_X, so_98 hS, sr_98_2 hS, so_99 hS]
  (try simp (disch := omega) only [nI_clamp, pz_in_nI2, pz_in_nI2L, pv_gt, nI_add, nI_addL, nI_Ladd, pk_mul, nI_mulL, nI_Lmul, pk_sub, nI_subL, nI_Lsub, nI_inc, nI_clampL, Nat.add_sub_cancel, pz_wi_else, pz_wl_else, vu_eq, vu_ne, pz_wi_gc, pz_wi_ga, pz_wi_gn, pz_wi_gl, pz_wi_gr, pz_wi_same, pz_wi_X, pz_wl_gc, pz_wl_ga, pz_wl_gn, pz_wl_gi, pz_wl_gr, pz_wl_same, pz_wl_X, pz_wr_gc, pz_wr_ga, pz_wr_gn, pz_wr_gi, pz_wr_gl, pz_wr_same, pz_wr_X])
  (try refine po_gP (Nat.le_of_ble_eq_true rfl) ?_)
  refine po_call (by omega) (m_rulesEmpty (so_99 hS) (fun M1 s1 f1 => ?_))
  have hS1 := hS.sm s1
  refine pw_blk (mi := mz_145) (b := bz_145_7) rfl rfl ?_
  simp only [bz_145_7, pz_cut_t, pz_cut_f, pz_cut_n, pv_gt, pv_ts, pv_tn, ev_ald0, ev_eld0, ev_gf7_2, ev_ldcs, ev_cv1_10, pz_wi_gc, pz_wi_ga, pz_wi_gn, pz_wi_gl, pz_wi_gr, pz_wi_same, pz_wi_X, pz_wl_gc, pz_wl_ga, pz_wl_gn, pz_wl_gi, pz_wl_gr, pz_wl_same, pz_wl_X, pz_wr_gc, pz_wr_ga, pz_wr_gn, pz_wr_gi, pz_wr_gl, pz_wr_same, pz_wr_X, so_98 hS, sr_98_0 hS, so_1 hS, so_98 hS1, sr_98_0 hS1, so_1 hS1]
  (try simp (disch := omega) only [nI_clamp, pz_in_nI2, pz_in_nI2L, pv_gt, nI_add, nI_addL, nI_Ladd, pk_mul, nI_mulL, nI_Lmul, pk_sub, nI_subL, nI_Lsub, nI_inc, nI_clampL, Nat.add_sub_cancel, pz_wi_else, pz_wl_else, vu_eq, vu_ne, pz_wi_gc, pz_wi_ga, pz_wi_gn, pz_wi_gl, pz_wi_gr, pz_wi_same, pz_wi_X, pz_wl_gc, pz_wl_ga, pz_wl_gn, pz_wl_gi, pz_wl_gr, pz_wl_same, pz_wl_X, pz_wr_gc, pz_wr_ga, pz_wr_gn, pz_wr_gi, pz_wr_gl, pz_wr_same, pz_wr_X, so_98 hS1, sr_98_0 hS1, so_1 hS1])
  (try refine po_gP (Nat.le_of_ble_eq_true rfl) ?_)
  refine po_call (by omega) (m_open7 (T := T) (L := L) (by omega) hS1 (by rw [s1.i (by decide)]; exact eL) hL (by rw [s1.i (by decide)]; exact hb) (hw.fr ((s1.sg hS).ag (by decide))) (fun M2 g2 e2 t2 => ?_))
  refine pw_blk (mi := mz_145) (b := bz_145_16) rfl rfl ?_
  simp only [bz_145_16, pz_cut_t, pz_cut_f, pz_cut_n, pv_gt, pv_ts, pv_tn, ev_ic0, ev_ist1n, ev_ist1i, ev_ist1r, ev_ist1e, ev_ist1l, ev_nil, pz_wi_gc, pz_wi_ga, pz_wi_gn, pz_wi_gl, pz_wi_gr, pz_wi_same, pz_wi_X, pz_wl_gc, pz_wl_ga, pz_wl_gn, pz_wl_gi, pz_wl_gr, pz_wl_same, pz_wl_X, pz_wr_gc, pz_wr_ga, pz_wr_gn, pz_wr_gi, pz_wr_gl, pz_wr_same, pz_wr_X]
  (try simp (disch := omega) only [nI_clamp, pz_in_nI2, pz_in_nI2L, pv_gt, nI_add, nI_addL, nI_Ladd, pk_mul, nI_mulL, nI_Lmul, pk_sub, nI_subL, nI_Lsub, nI_inc, nI_clampL, Nat.add_sub_cancel, pz_wi_else, pz_wl_else, vu_eq, vu_ne, pz_wi_gc, pz_wi_ga, pz_wi_gn, pz_wi_gl, pz_wi_gr, pz_wi_same, pz_wi_X, pz_wl_gc, pz_wl_ga, pz_wl_gn, pz_wl_gi, pz_wl_gr, pz_wl_same, pz_wl_X, pz_wr_gc, pz_wr_ga, pz_wr_gn, pz_wr_gi, pz_wr_gl, pz_wr_same, pz_wr_X])
  refine po_go ?_
  refine loop 7 0 M2 (rr0 T L) rfl (((s1.sg hS).mono (by decide)).tr g2 (by decide)) (by rw [e2, s1.i (by decide)]) ⟨⟨t2, ⟨?_, ?_⟩, trivial, Nat.zero_le _, Nat.zero_le _⟩, ?_, Nat.zero_le _, fun i hi => absurd (show i < 0 from hi) (by omega)⟩ rfl
  · rw [g2.i (by decide), f1, vu_ne (by decide), vu_eq]; rfl
  · rw [g2.i (by decide), f1, vu_eq]; rfl
  · rw [g2.i (by decide), f1, vu_ne (by decide), vu_ne (by decide), vu_eq]; rfl
theorem clamp600 : Int32.toNatClampNeg 600 = 600 := by decide
theorem m_rulesCopy (hS : SH M) (k : ∀ M', sm [93, 94, 95, 96] M M' → gi M' 93 0 = gi M 99 0 → gi M' 93 1 = gi M 99 1 → (∀ i, i < 6 → gi M' 94 i = gi M 100 i ∧ gi M' 95 i = gi M 101 i) → (∀ i, i < 600 → gi M' 96 i = gi M 102 i) → Q (none, M')) : pm d 146 [.ref 93, .ref 99] M Q := by
  refine pm_ent (L := [some (.ref 93), some (.ref 99)]) rfl (Nat.le_of_ble_eq_true rfl) ?_
  refine pw_blk (mi := mz_146) (b := bz_146_0) rfl rfl ?_
  simp only [bz_146_0, pz_cut_t, pz_cut_f, pz_cut_n, pv_gt, pv_ts, pv_tn, ev_ald0, ev_eld0, ev_ald1, ev_eld1, ev_gf6_0, ev_pf6_0, ev_gf6_2, ev_ic0, ev_bp6, ea_cpi, ea_cpl, ea_cpe, ev_sp600, ev_ret, pz_wi_gc, pz_wi_ga, pz_wi_gn, pz_wi_gl, pz_wi_gr, pz_wi_same, pz_wi_X, pz_wl_gc, pz_wl_ga, pz_wl_gn, pz_wl_gi, pz_wl_gr, pz_wl_same, pz_wl_X, pz_wr_gc, pz_wr_ga, pz_wr_gn, pz_wr_gi, pz_wr_gl, pz_wr_same, pz_wr_X, so_93 hS, sr_93_3 hS, sa_94 hS, sn_94 hS, sr_93_4 hS, sa_95 hS, sn_95 hS, sr_93_5 hS, sa_96 hS, sn_96 hS, so_99 hS, sr_99_3 hS, sr_99_4 hS, sr_99_5 hS, sa_100 hS, sn_100 hS, sa_101 hS, sn_101 hS, sa_102 hS, sn_102 hS, clamp6, clamp600, clamp00]
  (try simp (disch := omega) only [nI_clamp, pz_in_nI2, pz_in_nI2L, pv_gt, nI_add, nI_addL, nI_Ladd, pk_mul, nI_mulL, nI_Lmul, pk_sub, nI_subL, nI_Lsub, nI_inc, nI_clampL, Nat.add_sub_cancel, pz_wi_else, pz_wl_else, vu_eq, vu_ne, pz_wi_gc, pz_wi_ga, pz_wi_gn, pz_wi_gl, pz_wi_gr, pz_wi_same, pz_wi_X, pz_wl_gc, pz_wl_ga, pz_wl_gn, pz_wl_gi, pz_wl_gr, pz_wl_same, pz_wl_X, pz_wr_gc, pz_wr_ga, pz_wr_gn, pz_wr_gi, pz_wr_gl, pz_wr_same, pz_wr_X, so_99 hS, sr_99_3 hS, sr_99_4 hS, sr_99_5 hS, sa_100 hS, sn_100 hS, sa_101 hS, sn_101 hS, sa_102 hS, sn_102 hS, clamp6, clamp600, clamp00])
  (try refine po_gP (by first | decide | decide | assumption) ?_)
  (try refine po_gP (by first | decide | decide | assumption) ?_)
  (try refine po_gP (by first | decide | decide | assumption) ?_)
  refine po_then (fun M1 hM1 => ?_)
  have f0 : gi M1 93 = va_up (va_up (va_up (gi M 93) 0 (gi M 99 0)) 1 (gi M 99 1)) 2 (gi M 99 2) := by
    rw [hM1]
    simp (disch := decide) only [pz_wi_same, pz_wi_else]
  have f4 : gi M1 94 = va_cpy (gi M 100) (gi M 94) 0 0 6 := by
    rw [hM1]
    simp (disch := decide) only [pz_wi_same, pz_wi_else]
  have f5 : gi M1 95 = va_cpy (gi M 101) (gi M 95) 0 0 6 := by
    rw [hM1]
    simp (disch := decide) only [pz_wi_same, pz_wi_else]
  have f6 : gi M1 96 = va_cpy (gi M 102) (gi M 96) 0 0 600 := by
    rw [hM1]
    simp (disch := decide) only [pz_wi_same, pz_wi_else]
  refine k M1 ?_ ?_ ?_ (fun i hi => ?_) (fun i hi => ?_)
  · rw [hM1]
    (repeat' first | with_reducible exact sm.rf | with_reducible refine sm.wi ?_ ?_)
    all_goals decide
  · rw [f0]; simp (disch := decide) only [vu_eq, vu_ne]
  · rw [f0]; simp (disch := decide) only [vu_eq, vu_ne]
  · rw [f4, f5, cpy_at hi, cpy_at hi]; exact ⟨rfl, rfl⟩
  · rw [f6, cpy_at hi]
def crG (f : Nat → Int32) : List (Nat × Nat) → Prop
  | [] => True
  | x :: C => f C.length = nI (65536 * x.1 + x.2) ∧ crG f C
theorem crC.g {C : List (Nat × Nat)} (h : crC M C) : crG (gi M 102) C := by
  induction C with
  | nil => trivial
  | cons x C ih => exact ⟨h.1, ih h.2⟩
theorem crG.fr {f g : Nat → Int32} {C : List (Nat × Nat)} (h : crG f C) (e : ∀ i, i < C.length → g i = f i) : crG g C := by
  induction C with
  | nil => trivial
  | cons x C ih => exact ⟨by rw [e _ (by rw [List.length_cons]; omega)]; exact h.1, ih h.2 (fun i hi => e i (by rw [List.length_cons]; omega))⟩
def rzK : List Nat := [1, 93, 94, 95, 96, 99, 100, 101, 102]
/-- what the class holds behind rules that were taken -/
def rzN (M' : pz_M) (x : Rr) : Prop := (gi M' 1 2 = 0 ∧ gi M' 1 11 = 0 ∧ gi M' 1 12 = -1) ∧ (gi M' 93 0 = nI x.2.1 ∧ gi M' 93 1 = nI x.1.2.1 ∧ x.2.1 ≤ 6) ∧ (∀ i, i < x.2.1 → gi M' 94 i = nI (x.2.2.1 i) ∧ gi M' 95 i = nI (x.2.2.2 i)) ∧ crG (gi M' 96) x.1.2.2
theorem m_rules (hd : 120 ≤ d) (hS : SH M) (eL : gi M 1 2 = nI L) (hL : L ≤ 1500) (hb : ∀ i, i < L → gi M 2 i = sb_b (T i) ∧ T i < 256) (hw : RWd M) (hB : B ≤ 24) (hN : N ≤ 6) (e0 : gi M 4 0 = nI B) (e10 : gi M 4 10 = nI N) (hm : ∀ i, i < N → gl M 12 i = p5 (nm i) ∧ isWd (nm i)) (kL : 600 < L → Q (some (.int (-2)), M)) (k0 : ¬ 600 < L → ∀ f, (raF T L B N nm 7 (rr0 T L)).1.1 = .inl f → ∀ M', sg ryK M M' → gi M' 1 2 = 0 → gi M' 1 11 = nI f.1 → gi M' 1 12 = nI f.2 → Q (some (.int (-1)), M')) (k1 : ¬ 600 < L → ∀ t, (raF T L B N nm 7 (rr0 T L)).1.1 = .inr t → ∀ M', sg rzK M M' → rzN M' (raF T L B N nm 7 (rr0 T L)) → Q (some (.int (nI (raF T L B N nm 7 (rr0 T L)).2.1)), M')) : pm d 43 [.ref 0] M Q := by
  by_cases h6 : 600 < L
  · have kk := kL h6
    refine pm_ent (L := [some (.ref 0), none]) rfl (Nat.le_of_ble_eq_true rfl) ?_
    refine pw_blk (mi := mz_43) (b := bz_43_0) rfl rfl ?_
    simp only [bz_43_0, pz_cut_t, pz_cut_f, pz_cut_n, pv_gt, pv_ts, pv_tn, ev_ald0, ev_eld0, ev_gf0_2, ev_gf10_0, ev_sp600, ev_ic_le, pz_wi_gc, pz_wi_ga, pz_wi_gn, pz_wi_gl, pz_wi_gr, pz_wi_same, pz_wi_X, pz_wl_gc, pz_wl_ga, pz_wl_gn, pz_wl_gi, pz_wl_gr, pz_wl_same, pz_wl_X, pz_wr_gc, pz_wr_ga, pz_wr_gn, pz_wr_gi, pz_wr_gl, pz_wr_same, pz_wr_X, so_0 hS, sr_0_0 hS, so_1 hS, eL]
    (try simp (disch := omega) only [nI_clamp, pz_in_nI2, pz_in_nI2L, pv_gt, nI_add, nI_addL, nI_Ladd, pk_mul, nI_mulL, nI_Lmul, pk_sub, nI_subL, nI_Lsub, nI_inc, nI_clampL, Nat.add_sub_cancel, pz_wi_else, pz_wl_else, vu_eq, vu_ne, pz_wi_gc, pz_wi_ga, pz_wi_gn, pz_wi_gl, pz_wi_gr, pz_wi_same, pz_wi_X, pz_wl_gc, pz_wl_ga, pz_wl_gn, pz_wl_gi, pz_wl_gr, pz_wl_same, pz_wl_X, pz_wr_gc, pz_wr_ga, pz_wr_gn, pz_wr_gi, pz_wr_gl, pz_wr_same, pz_wr_X, eL])
    refine po_brP (fun q0 => ?_) (fun q0 => ?_)
    · first
      | exact absurd q0 (by decide)
      | exact absurd trivial q0
      | exact q0.elim
      | (exfalso; (try simp (disch := omega) only [nI_ltI, nI_leI, nI_eq, nI_ltL, nI_leL, nI_eqL, nI_Llt, nI_Lle, nI_Leq, nI_eqm, nI_meq, nI_ltm, nI_lem, nI_mlt, nI_mle, lg0, lgl, lgg, lgle, lgge, Int32.not_lt, Int32.not_le, Int64.not_lt, Int64.not_le, not_false_eq_true, not_true_eq_false, Decidable.not_not, ge_iff_le, gt_iff_lt] at q0) <;> omega)
      | exact absurd q0 (by with_reducible assumption)
      | exact absurd (by with_reducible assumption) q0
      | exact absurd (Decidable.not_not.mp q0) (by with_reducible assumption)
      | exact absurd (by with_reducible assumption) (Int32.not_le.mpr q0)
      | exact absurd (by with_reducible assumption) (Int32.not_lt.mpr q0)
    · skip
      (try simp (disch := omega) only [nI_ltI, nI_leI, nI_eq, nI_ltL, nI_leL, nI_eqL, nI_Llt, nI_Lle, nI_Leq, nI_eqm, nI_meq, nI_ltm, nI_lem, nI_mlt, nI_mle, lg0, lgl, lgg, lgle, lgge, Int32.not_lt, Int32.not_le, Int64.not_lt, Int64.not_le, not_false_eq_true, not_true_eq_false, Decidable.not_not, ge_iff_le, gt_iff_lt] at q0)
      refine pw_blk (mi := mz_43) (b := bz_43_13) rfl rfl ?_
      simp only [bz_43_13, pz_cut_t, pz_cut_f, pz_cut_n, pv_gt, pv_ts, pv_tn, ev_bpm2, ev_iret0, pz_wi_gc, pz_wi_ga, pz_wi_gn, pz_wi_gl, pz_wi_gr, pz_wi_same, pz_wi_X, pz_wl_gc, pz_wl_ga, pz_wl_gn, pz_wl_gi, pz_wl_gr, pz_wl_same, pz_wl_X, pz_wr_gc, pz_wr_ga, pz_wr_gn, pz_wr_gi, pz_wr_gl, pz_wr_same, pz_wr_X, eL]
      (try simp (disch := omega) only [nI_clamp, pz_in_nI2, pz_in_nI2L, pv_gt, nI_add, nI_addL, nI_Ladd, pk_mul, nI_mulL, nI_Lmul, pk_sub, nI_subL, nI_Lsub, nI_inc, nI_clampL, Nat.add_sub_cancel, pz_wi_else, pz_wl_else, vu_eq, vu_ne, pz_wi_gc, pz_wi_ga, pz_wi_gn, pz_wi_gl, pz_wi_gr, pz_wi_same, pz_wi_X, pz_wl_gc, pz_wl_ga, pz_wl_gn, pz_wl_gi, pz_wl_gr, pz_wl_same, pz_wl_X, pz_wr_gc, pz_wr_ga, pz_wr_gn, pz_wr_gi, pz_wr_gl, pz_wr_same, pz_wr_X, eL])
      exact po_ret kk
  · have k0' := k0 h6
    have k1' := k1 h6
    obtain ⟨R, hR⟩ : ∃ R, R = raF T L B N nm 7 (rr0 T L) := ⟨_, rfl⟩
    rw [← hR] at k0' k1'
    have bad : ∀ M1 f, R.1.1 = .inl f → sg ryK M M1 → cRR M1 T L R → pw d 43 (23, [some (.ref 0), none], [.int 0], M1) Q := by
      intro M1 f ef g1 r1
      have t1 := r1.1.1
      have hS1 := t1.1.1
      rw [ef] at t1
      obtain ⟨xx, -, ⟨-, f1, f2, -⟩⟩ := id t1
      refine pw_blk (mi := mz_43) (b := bz_43_23) rfl rfl ?_
      simp only [bz_43_23, pz_cut_t, pz_cut_f, pz_cut_n, pv_gt, pv_ts, pv_tn, ev_ist1n, ev_ist1i, ev_ist1r, ev_ist1e, ev_ist1l, ev_ald0, ev_eld0, ev_gf0_2, ev_ic0, ev_pf10_0, ev_ild1, ev_ifne, pz_wi_gc, pz_wi_ga, pz_wi_gn, pz_wi_gl, pz_wi_gr, pz_wi_same, pz_wi_X, pz_wl_gc, pz_wl_ga, pz_wl_gn, pz_wl_gi, pz_wl_gr, pz_wl_same, pz_wl_X, pz_wr_gc, pz_wr_ga, pz_wr_gn, pz_wr_gi, pz_wr_gl, pz_wr_same, pz_wr_X, so_0 hS1, sr_0_0 hS1, so_1 hS1]
      (try simp (disch := omega) only [nI_clamp, pz_in_nI2, pz_in_nI2L, pv_gt, nI_add, nI_addL, nI_Ladd, pk_mul, nI_mulL, nI_Lmul, pk_sub, nI_subL, nI_Lsub, nI_inc, nI_clampL, Nat.add_sub_cancel, pz_wi_else, pz_wl_else, vu_eq, vu_ne, pz_wi_gc, pz_wi_ga, pz_wi_gn, pz_wi_gl, pz_wi_gr, pz_wi_same, pz_wi_X, pz_wl_gc, pz_wl_ga, pz_wl_gn, pz_wl_gi, pz_wl_gr, pz_wl_same, pz_wl_X, pz_wr_gc, pz_wr_ga, pz_wr_gn, pz_wr_gi, pz_wr_gl, pz_wr_same, pz_wr_X, so_0 hS1, sr_0_0 hS1, so_1 hS1])
      refine po_brP (fun q23 => ?_) (fun q23 => ?_)
      · first
        | exact absurd q23 (by decide)
        | exact absurd trivial q23
        | exact q23.elim
        | (exfalso; (try simp (disch := omega) only [nI_ltI, nI_leI, nI_eq, nI_ltL, nI_leL, nI_eqL, nI_Llt, nI_Lle, nI_Leq, nI_eqm, nI_meq, nI_ltm, nI_lem, nI_mlt, nI_mle, lg0, lgl, lgg, lgle, lgge, Int32.not_lt, Int32.not_le, Int64.not_lt, Int64.not_le, not_false_eq_true, not_true_eq_false, Decidable.not_not, ge_iff_le, gt_iff_lt] at q23) <;> omega)
        | exact absurd q23 (by with_reducible assumption)
        | exact absurd (by with_reducible assumption) q23
        | exact absurd (Decidable.not_not.mp q23) (by with_reducible assumption)
        | exact absurd (by with_reducible assumption) (Int32.not_le.mpr q23)
        | exact absurd (by with_reducible assumption) (Int32.not_lt.mpr q23)
      · skip
        (try simp (disch := omega) only [nI_ltI, nI_leI, nI_eq, nI_ltL, nI_leL, nI_eqL, nI_Llt, nI_Lle, nI_Leq, nI_eqm, nI_meq, nI_ltm, nI_lem, nI_mlt, nI_mle, lg0, lgl, lgg, lgle, lgge, Int32.not_lt, Int32.not_le, Int64.not_lt, Int64.not_le, not_false_eq_true, not_true_eq_false, Decidable.not_not, ge_iff_le, gt_iff_lt] at q23)
        refine pw_blk (mi := mz_43) (b := bz_43_36) rfl rfl ?_
        simp only [bz_43_36, pz_cut_t, pz_cut_f, pz_cut_n, pv_gt, pv_ts, pv_tn, ev_icm1, ev_iret0, pz_wi_gc, pz_wi_ga, pz_wi_gn, pz_wi_gl, pz_wi_gr, pz_wi_same, pz_wi_X, pz_wl_gc, pz_wl_ga, pz_wl_gn, pz_wl_gi, pz_wl_gr, pz_wl_same, pz_wl_X, pz_wr_gc, pz_wr_ga, pz_wr_gn, pz_wr_gi, pz_wr_gl, pz_wr_same, pz_wr_X, so_0 hS1, sr_0_0 hS1, so_1 hS1]
        (try simp (disch := omega) only [nI_clamp, pz_in_nI2, pz_in_nI2L, pv_gt, nI_add, nI_addL, nI_Ladd, pk_mul, nI_mulL, nI_Lmul, pk_sub, nI_subL, nI_Lsub, nI_inc, nI_clampL, Nat.add_sub_cancel, pz_wi_else, pz_wl_else, vu_eq, vu_ne, pz_wi_gc, pz_wi_ga, pz_wi_gn, pz_wi_gl, pz_wi_gr, pz_wi_same, pz_wi_X, pz_wl_gc, pz_wl_ga, pz_wl_gn, pz_wl_gi, pz_wl_gr, pz_wl_same, pz_wl_X, pz_wr_gc, pz_wr_ga, pz_wr_gn, pz_wr_gi, pz_wr_gl, pz_wr_same, pz_wr_X, so_0 hS1, sr_0_0 hS1, so_1 hS1])
        refine po_then (fun M2 hM2 => ?_)
        have s2 : sm [1] M1 M2 := by rw [hM2]; exact sm.wi sm.rf (by decide)
        have e2 : gi M2 1 = va_up (gi M1 1) 2 0 := by rw [hM2, pz_wi_same]
        refine k0' f ef M2 (g1.tr (s2.sg hS1) (by decide)) ?_ ?_ ?_
        · rw [e2, vu_eq]
        · rw [e2, vu_ne (by decide)]; exact f1
        · rw [e2, vu_ne (by decide)]; exact f2
    have good : ∀ M1 t, R.1.1 = .inr t → sg ryK M M1 → cRR M1 T L R → pw d 43 (23, [some (.ref 0), none], [.int 1], M1) Q := by
      intro M1 t ef g1 r1
      have t1 := r1.1.1
      have hS1 := t1.1.1
      rw [ef] at t1
      obtain ⟨xx, -, ⟨⟨-, -, f1, f2⟩, -⟩⟩ := id t1
      have kk := k1' t ef
      obtain ⟨⟨-, ⟨u1, u2⟩, u3, u4, u5⟩, v0, v6, v4⟩ := id r1
      obtain ⟨Ma, hMa⟩ : ∃ Ma, Ma = pz_wi M1 1 (va_up (gi M1 1) 2 0) := ⟨_, rfl⟩
      have sa : sm [1] M1 Ma := by rw [hMa]; exact sm.wi sm.rf (by decide)
      have ea : gi Ma 1 = va_up (gi M1 1) 2 0 := by rw [hMa, pz_wi_same]
      have hSa := hS1.sm sa
      have fin : ∀ M2, sm [93, 94, 95, 96] Ma M2 → gi M2 93 0 = gi Ma 99 0 → gi M2 93 1 = gi Ma 99 1 → (∀ i, i < 6 → gi M2 94 i = gi Ma 100 i ∧ gi M2 95 i = gi Ma 101 i) → (∀ i, i < 600 → gi M2 96 i = gi Ma 102 i) → Q (some (.int (nI R.2.1)), M2) ∧ gi M2 93 0 = nI R.2.1 := by
        intro M2 s2 a0 a1 a2 a3
        have b0 : gi M2 93 0 = nI R.2.1 := by rw [a0, sa.i (by decide)]; exact v0
        refine ⟨kk M2 (((g1.mono (by decide)).tr (sa.sg hS1) (by decide)).tr (s2.sg hSa) (by decide)) ⟨⟨?_, ?_, ?_⟩, ⟨b0, ?_, v6⟩, fun i hi => ?_, ?_⟩, b0⟩
        · rw [s2.i (by decide), ea, vu_eq]
        · rw [s2.i (by decide), ea, vu_ne (by decide)]; exact f1
        · rw [s2.i (by decide), ea, vu_ne (by decide)]; exact f2
        · rw [a1, sa.i (by decide)]; exact u1
        · rw [(a2 i (by omega)).1, (a2 i (by omega)).2, sa.i (by decide), sa.i (by decide)]; exact v4 i hi
        · exact (u3.g).fr (fun i hi => by rw [a3 i (by omega), sa.i (by decide)])
      generalize hq : R.2.1 = q at fin
      refine pw_blk (mi := mz_43) (b := bz_43_23) rfl rfl ?_
      simp only [bz_43_23, pz_cut_t, pz_cut_f, pz_cut_n, pv_gt, pv_ts, pv_tn, ev_ist1n, ev_ist1i, ev_ist1r, ev_ist1e, ev_ist1l, ev_ald0, ev_eld0, ev_gf0_2, ev_ic0, ev_pf10_0, ev_ild1, ev_ifne, pz_wi_gc, pz_wi_ga, pz_wi_gn, pz_wi_gl, pz_wi_gr, pz_wi_same, pz_wi_X, pz_wl_gc, pz_wl_ga, pz_wl_gn, pz_wl_gi, pz_wl_gr, pz_wl_same, pz_wl_X, pz_wr_gc, pz_wr_ga, pz_wr_gn, pz_wr_gi, pz_wr_gl, pz_wr_same, pz_wr_X, so_0 hS1, sr_0_0 hS1, so_1 hS1]
      (try simp (disch := omega) only [nI_clamp, pz_in_nI2, pz_in_nI2L, pv_gt, nI_add, nI_addL, nI_Ladd, pk_mul, nI_mulL, nI_Lmul, pk_sub, nI_subL, nI_Lsub, nI_inc, nI_clampL, Nat.add_sub_cancel, pz_wi_else, pz_wl_else, vu_eq, vu_ne, pz_wi_gc, pz_wi_ga, pz_wi_gn, pz_wi_gl, pz_wi_gr, pz_wi_same, pz_wi_X, pz_wl_gc, pz_wl_ga, pz_wl_gn, pz_wl_gi, pz_wl_gr, pz_wl_same, pz_wl_X, pz_wr_gc, pz_wr_ga, pz_wr_gn, pz_wr_gi, pz_wr_gl, pz_wr_same, pz_wr_X, so_0 hS1, sr_0_0 hS1, so_1 hS1])
      refine po_brP (fun q23 => ?_) (fun q23 => ?_)
      · skip
        (try simp (disch := omega) only [nI_ltI, nI_leI, nI_eq, nI_ltL, nI_leL, nI_eqL, nI_Llt, nI_Lle, nI_Leq, nI_eqm, nI_meq, nI_ltm, nI_lem, nI_mlt, nI_mle, lg0, lgl, lgg, lgle, lgge, Int32.not_lt, Int32.not_le, Int64.not_lt, Int64.not_le, not_false_eq_true, not_true_eq_false, Decidable.not_not, ge_iff_le, gt_iff_lt] at q23)
        rw [← hMa]
        refine pw_blk (mi := mz_43) (b := bz_43_38) rfl rfl ?_
        simp only [bz_43_38, pz_cut_t, pz_cut_f, pz_cut_n, pv_gt, pv_ts, pv_tn, ev_ald0, ev_eld0, ev_gf0_2, ev_gf7_2, ev_cv1_6, pz_wi_gc, pz_wi_ga, pz_wi_gn, pz_wi_gl, pz_wi_gr, pz_wi_same, pz_wi_X, pz_wl_gc, pz_wl_ga, pz_wl_gn, pz_wl_gi, pz_wl_gr, pz_wl_same, pz_wl_X, pz_wr_gc, pz_wr_ga, pz_wr_gn, pz_wr_gi, pz_wr_gl, pz_wr_same, pz_wr_X, so_0 hS1, sr_0_0 hS1, so_1 hS1, so_0 hSa, sr_0_10 hSa, so_93 hSa, sr_0_11 hSa, so_98 hSa, sr_98_2 hSa]
        (try simp (disch := omega) only [nI_clamp, pz_in_nI2, pz_in_nI2L, pv_gt, nI_add, nI_addL, nI_Ladd, pk_mul, nI_mulL, nI_Lmul, pk_sub, nI_subL, nI_Lsub, nI_inc, nI_clampL, Nat.add_sub_cancel, pz_wi_else, pz_wl_else, vu_eq, vu_ne, pz_wi_gc, pz_wi_ga, pz_wi_gn, pz_wi_gl, pz_wi_gr, pz_wi_same, pz_wi_X, pz_wl_gc, pz_wl_ga, pz_wl_gn, pz_wl_gi, pz_wl_gr, pz_wl_same, pz_wl_X, pz_wr_gc, pz_wr_ga, pz_wr_gn, pz_wr_gi, pz_wr_gl, pz_wr_same, pz_wr_X, so_0 hS1, sr_0_0 hS1, so_1 hS1, so_0 hSa, sr_0_10 hSa, so_93 hSa, sr_0_11 hSa, so_98 hSa, sr_98_2 hSa])
        (try refine po_gP (Nat.le_of_ble_eq_true rfl) ?_)
        refine po_call (by omega) (m_rulesCopy hSa (fun M2 s2 a0 a1 a2 a3 => ?_))
        obtain ⟨kq, b0⟩ := fin M2 s2 a0 a1 a2 a3
        have hS2 := hSa.sm s2
        refine pw_blk (mi := mz_43) (b := bz_43_52) rfl rfl ?_
        simp only [bz_43_52, pz_cut_t, pz_cut_f, pz_cut_n, pv_gt, pv_ts, pv_tn, ev_ald0, ev_eld0, ev_gf0_2, ev_gf6_0, ev_iret0, pz_wi_gc, pz_wi_ga, pz_wi_gn, pz_wi_gl, pz_wi_gr, pz_wi_same, pz_wi_X, pz_wl_gc, pz_wl_ga, pz_wl_gn, pz_wl_gi, pz_wl_gr, pz_wl_same, pz_wl_X, pz_wr_gc, pz_wr_ga, pz_wr_gn, pz_wr_gi, pz_wr_gl, pz_wr_same, pz_wr_X, so_0 hS1, sr_0_0 hS1, so_1 hS1, so_0 hS2, sr_0_10 hS2, so_93 hS2, b0]
        (try simp (disch := omega) only [nI_clamp, pz_in_nI2, pz_in_nI2L, pv_gt, nI_add, nI_addL, nI_Ladd, pk_mul, nI_mulL, nI_Lmul, pk_sub, nI_subL, nI_Lsub, nI_inc, nI_clampL, Nat.add_sub_cancel, pz_wi_else, pz_wl_else, vu_eq, vu_ne, pz_wi_gc, pz_wi_ga, pz_wi_gn, pz_wi_gl, pz_wi_gr, pz_wi_same, pz_wi_X, pz_wl_gc, pz_wl_ga, pz_wl_gn, pz_wl_gi, pz_wl_gr, pz_wl_same, pz_wl_X, pz_wr_gc, pz_wr_ga, pz_wr_gn, pz_wr_gi, pz_wr_gl, pz_wr_same, pz_wr_X, so_0 hS1, sr_0_0 hS1, so_1 hS1, so_0 hS2, sr_0_10 hS2, so_93 hS2, b0])
        exact po_ret kq
      · first
        | exact absurd q23 (by decide)
        | exact absurd trivial q23
        | exact q23.elim
        | (exfalso; (try simp (disch := omega) only [nI_ltI, nI_leI, nI_eq, nI_ltL, nI_leL, nI_eqL, nI_Llt, nI_Lle, nI_Leq, nI_eqm, nI_meq, nI_ltm, nI_lem, nI_mlt, nI_mle, lg0, lgl, lgg, lgle, lgge, Int32.not_lt, Int32.not_le, Int64.not_lt, Int64.not_le, not_false_eq_true, not_true_eq_false, Decidable.not_not, ge_iff_le, gt_iff_lt] at q23) <;> omega)
        | exact absurd q23 (by with_reducible assumption)
        | exact absurd (by with_reducible assumption) q23
        | exact absurd (Decidable.not_not.mp q23) (by with_reducible assumption)
        | exact absurd (by with_reducible assumption) (Int32.not_le.mpr q23)
        | exact absurd (by with_reducible assumption) (Int32.not_lt.mpr q23)
    refine pm_ent (L := [some (.ref 0), none]) rfl (Nat.le_of_ble_eq_true rfl) ?_
    refine pw_blk (mi := mz_43) (b := bz_43_0) rfl rfl ?_
    simp only [bz_43_0, pz_cut_t, pz_cut_f, pz_cut_n, pv_gt, pv_ts, pv_tn, ev_ald0, ev_eld0, ev_gf0_2, ev_gf10_0, ev_sp600, ev_ic_le, pz_wi_gc, pz_wi_ga, pz_wi_gn, pz_wi_gl, pz_wi_gr, pz_wi_same, pz_wi_X, pz_wl_gc, pz_wl_ga, pz_wl_gn, pz_wl_gi, pz_wl_gr, pz_wl_same, pz_wl_X, pz_wr_gc, pz_wr_ga, pz_wr_gn, pz_wr_gi, pz_wr_gl, pz_wr_same, pz_wr_X, so_0 hS, sr_0_0 hS, so_1 hS, eL]
    (try simp (disch := omega) only [nI_clamp, pz_in_nI2, pz_in_nI2L, pv_gt, nI_add, nI_addL, nI_Ladd, pk_mul, nI_mulL, nI_Lmul, pk_sub, nI_subL, nI_Lsub, nI_inc, nI_clampL, Nat.add_sub_cancel, pz_wi_else, pz_wl_else, vu_eq, vu_ne, pz_wi_gc, pz_wi_ga, pz_wi_gn, pz_wi_gl, pz_wi_gr, pz_wi_same, pz_wi_X, pz_wl_gc, pz_wl_ga, pz_wl_gn, pz_wl_gi, pz_wl_gr, pz_wl_same, pz_wl_X, pz_wr_gc, pz_wr_ga, pz_wr_gn, pz_wr_gi, pz_wr_gl, pz_wr_same, pz_wr_X, eL])
    refine po_brP (fun q0 => ?_) (fun q0 => ?_)
    · skip
      (try simp (disch := omega) only [nI_ltI, nI_leI, nI_eq, nI_ltL, nI_leL, nI_eqL, nI_Llt, nI_Lle, nI_Leq, nI_eqm, nI_meq, nI_ltm, nI_lem, nI_mlt, nI_mle, lg0, lgl, lgg, lgle, lgge, Int32.not_lt, Int32.not_le, Int64.not_lt, Int64.not_le, not_false_eq_true, not_true_eq_false, Decidable.not_not, ge_iff_le, gt_iff_lt] at q0)
      refine pw_blk (mi := mz_43) (b := bz_43_16) rfl rfl ?_
      simp only [bz_43_16, pz_cut_t, pz_cut_f, pz_cut_n, pv_gt, pv_ts, pv_tn, ev_ald0, ev_eld0, ev_gf0_2, ev_cv0_7, pz_wi_gc, pz_wi_ga, pz_wi_gn, pz_wi_gl, pz_wi_gr, pz_wi_same, pz_wi_X, pz_wl_gc, pz_wl_ga, pz_wl_gn, pz_wl_gi, pz_wl_gr, pz_wl_same, pz_wl_X, pz_wr_gc, pz_wr_ga, pz_wr_gn, pz_wr_gi, pz_wr_gl, pz_wr_same, pz_wr_X, so_0 hS, sr_0_11 hS, so_98 hS, eL, so_98 hS]
      (try simp (disch := omega) only [nI_clamp, pz_in_nI2, pz_in_nI2L, pv_gt, nI_add, nI_addL, nI_Ladd, pk_mul, nI_mulL, nI_Lmul, pk_sub, nI_subL, nI_Lsub, nI_inc, nI_clampL, Nat.add_sub_cancel, pz_wi_else, pz_wl_else, vu_eq, vu_ne, pz_wi_gc, pz_wi_ga, pz_wi_gn, pz_wi_gl, pz_wi_gr, pz_wi_same, pz_wi_X, pz_wl_gc, pz_wl_ga, pz_wl_gn, pz_wl_gi, pz_wl_gr, pz_wl_same, pz_wl_X, pz_wr_gc, pz_wr_ga, pz_wr_gn, pz_wr_gi, pz_wr_gl, pz_wr_same, pz_wr_X, eL, so_98 hS])
      (try refine po_gP (Nat.le_of_ble_eq_true rfl) ?_)
      refine po_call (by omega) (m_readRules (nm := nm) (by omega) hS eL hL hb hw hB hN e0 e10 hm (fun M1 g1 e1 r1 => ?_))
      rw [← hR] at r1 ⊢
      cases ef : R.1.1 with
      | inl f => exact bad M1 f ef g1 r1
      | inr t => exact good M1 t ef g1 r1
    · first
      | exact absurd q0 (by decide)
      | exact absurd trivial q0
      | exact q0.elim
      | (exfalso; (try simp (disch := omega) only [nI_ltI, nI_leI, nI_eq, nI_ltL, nI_leL, nI_eqL, nI_Llt, nI_Lle, nI_Leq, nI_eqm, nI_meq, nI_ltm, nI_lem, nI_mlt, nI_mle, lg0, lgl, lgg, lgle, lgge, Int32.not_lt, Int32.not_le, Int64.not_lt, Int64.not_le, not_false_eq_true, not_true_eq_false, Decidable.not_not, ge_iff_le, gt_iff_lt] at q0) <;> omega)
      | exact absurd q0 (by with_reducible assumption)
      | exact absurd (by with_reducible assumption) q0
      | exact absurd (Decidable.not_not.mp q0) (by with_reducible assumption)
      | exact absurd (by with_reducible assumption) (Int32.not_le.mpr q0)
      | exact absurd (by with_reducible assumption) (Int32.not_lt.mpr q0)
end RUE
