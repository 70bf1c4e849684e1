/-! ===== plans and laws, the class's reader ===== -/
section PL
variable {d : Nat} {M M' : pz_M} {Q : Option Value × pz_M → Prop} {ru : Bool} {T : Nat → Nat} {L : Nat}
def planS (ru : Bool) (T : Nat → Nat) (L : Nat) (σ : Sg) (c : Sc) : Sg × Sc := if c.N < 6 ∧ isG (anF (nxF ru T L σ)) = true ∧ ¬ fnd c.nw (nmV (nxF ru T L σ)) c.N < c.N then (if tnB ru T L 2 0 c.B (nxF ru T L (nxF ru T L σ)) = true then (if tnB ru T L 3 (nuV (nxF ru T L (nxF ru T L (nxF ru T L σ)))) c.B (nxF ru T L (nxF ru T L (nxF ru T L (nxF ru T L σ)))) = true then (if tnB ru T L 14 0 21 (nxF ru T L (nxF ru T L (nxF ru T L (nxF ru T L (nxF ru T L (nxF ru T L σ)))))) = true then (if tnB ru T L 15 0 21 (nxF ru T L (nxF ru T L (nxF ru T L (nxF ru T L (nxF ru T L (nxF ru T L (nxF ru T L (nxF ru T L σ)))))))) = true then (tsF ru T L 59 (nxF ru T L (nxF ru T L (nxF ru T L (nxF ru T L (nxF ru T L (nxF ru T L (nxF ru T L (nxF ru T L (nxF ru T L (nxF ru T L σ)))))))))), c.plan (nmV (nxF ru T L σ)) (nuV (nxF ru T L (nxF ru T L (nxF ru T L σ)))) (nuV (nxF ru T L (nxF ru T L (nxF ru T L (nxF ru T L (nxF ru T L σ)))))) (nuV (nxF ru T L (nxF ru T L (nxF ru T L (nxF ru T L (nxF ru T L (nxF ru T L (nxF ru T L σ)))))))) (nuV (nxF ru T L (nxF ru T L (nxF ru T L (nxF ru T L (nxF ru T L (nxF ru T L (nxF ru T L (nxF ru T L (nxF ru T L σ))))))))))) else (tnF ru T L 15 0 21 (nxF ru T L (nxF ru T L (nxF ru T L (nxF ru T L (nxF ru T L (nxF ru T L (nxF ru T L (nxF ru T L σ)))))))), c)) else (tnF ru T L 14 0 21 (nxF ru T L (nxF ru T L (nxF ru T L (nxF ru T L (nxF ru T L (nxF ru T L σ)))))), c)) else (tnF ru T L 3 (nuV (nxF ru T L (nxF ru T L (nxF ru T L σ)))) c.B (nxF ru T L (nxF ru T L (nxF ru T L (nxF ru T L σ)))), c)) else (tnF ru T L 2 0 c.B (nxF ru T L (nxF ru T L σ)), c)) else (bgF ru T L c.N 6 c.nw σ, c)
theorem okS.plan {c : Sc} {w : List Nat} {a b t s : Nat} (o : okS c) (hN : c.N < 6) (hw : isWd w) (h1 : a ≤ b) (h2 : b < c.B) (h3 : t ≤ 20) (h4 : s ≤ 20) : okS (c.plan w a b t s) := by
  obtain ⟨⟨o1, o2, o3, o4, o5, o6, o7, o8⟩, oB, oH, oP, oN, oL⟩ := o
  refine ⟨⟨o1, o2, o3, ?_, o5, o6, o7, o8⟩, oB, oH, oP, fun i hi => ?_, oL⟩
  · show c.N + 1 ≤ 6
    omega
  · show isWd (va_up c.nw c.N w i) ∧ va_up c.na c.N a i ≤ va_up c.nb c.N b i ∧ va_up c.nb c.N b i < c.B ∧ va_up c.nt c.N t i ≤ 20 ∧ va_up c.ns c.N s i ≤ 20
    have hi' : i < c.N + 1 := hi
    by_cases q : i = c.N
    · subst q
      rw [vu_eq, vu_eq, vu_eq, vu_eq, vu_eq]
      exact ⟨hw, h1, h2, h3, h4⟩
    · rw [vu_ne q, vu_ne q, vu_ne q, vu_ne q, vu_ne q]
      exact oN i (by omega)
theorem tsF_f {c : Nat} {σ : Sg} (h : isG σ = false) : tsF ru T L c σ = σ := by
  cases σ with
  | inl f => rfl
  | inr t => cases h
theorem m_readPlan (hd : 18 ≤ d) {σ : Sg} {c : Sc} (s : cSt M ru T L σ) (o : okS c) (x : csc M c) (k : ∀ M', sm [1, 19, 27, 28, 29, 30, 31] M M' → gi M' 1 2 = gi M 1 2 → cSt M' ru T L (planS ru T L σ c).1 → (isG (planS ru T L σ c).1 = true → csc M' (planS ru T L σ c).2 ∧ okS (planS ru T L σ c).2) → Q (none, M')) : pm d 183 [.ref 18] M Q := by
  have hS := s.1.1
  obtain ⟨⟨x0, x3, x6, x10, x16, x17, x18⟩, xB, xH, xP, xN, xL⟩ := id x
  have oN6 := o.1.2.2.2.1
  have oB := o.1.1
  unfold planS at k
  by_cases hg : c.N < 6 ∧ isG (anF (nxF ru T L σ)) = true ∧ ¬ fnd c.nw (nmV (nxF ru T L σ)) c.N < c.N
  · rw [if_pos hg] at k
    have hN := hg.1
    cases z0 : tnB ru T L 2 0 c.B (nxF ru T L (nxF ru T L σ)) with
    | false =>
      rw [if_neg (by rw [z0]; decide)] at k
      refine pm_ent (L := [some (.ref 18), none]) rfl (Nat.le_of_ble_eq_true rfl) ?_
      refine pw_blk (mi := mz_183) (b := bz_183_0) rfl rfl ?_
      simp only [bz_183_0, pz_cut_t, pz_cut_f, pz_cut_n, pv_gt, pv_ts, pv_tn, ev_ald0, ev_eld0, ev_gf4_2, ev_gf8_0, ev_bp6, ev_gf8_2, ev_cv3_4, pz_wi_gc, pz_wi_ga, pz_wi_gn, pz_wi_gl, pz_wi_gr, pz_wi_same, pz_wi_X, pz_wl_gc, pz_wl_ga, pz_wl_gn, pz_wl_gi, pz_wl_gr, pz_wl_same, pz_wl_X, pz_wr_gc, pz_wr_ga, pz_wr_gn, pz_wr_gi, pz_wr_gl, pz_wr_same, pz_wr_X, so_18 hS, sr_18_1 hS, so_19 hS, sr_19_11 hS, sa_27 hS, sn_27 hS, x10]
      (try simp (disch := omega) only [nI_clamp, pz_in_nI2, pz_in_nI2L, pv_gt, nI_add, nI_addL, nI_Ladd, pk_mul, nI_mulL, nI_Lmul, pk_sub, nI_subL, nI_Lsub, nI_inc, nI_clampL, Nat.add_sub_cancel, pz_wi_else, pz_wl_else, vu_eq, vu_ne, pz_wi_gc, pz_wi_ga, pz_wi_gn, pz_wi_gl, pz_wi_gr, pz_wi_same, pz_wi_X, pz_wl_gc, pz_wl_ga, pz_wl_gn, pz_wl_gi, pz_wl_gr, pz_wl_same, pz_wl_X, pz_wr_gc, pz_wr_ga, pz_wr_gn, pz_wr_gi, pz_wr_gl, pz_wr_same, pz_wr_X, x10])
      (try refine po_gP (Nat.le_of_ble_eq_true rfl) ?_)
      refine po_call (by omega) (m_beginNamed (k := 27) (nm := c.nw) (len := 6) (by omega) s (sa_27 hS) (sn_27 hS) (Nat.le_refl _) (by decide) (by omega) (by decide) (fun i hi => ⟨(xN i hi).1, (o.2.2.2.2.1 i hi).1⟩) (fun _ _ _ M1 s1 f1 t1 hwd g27 => ?_) (fun _ z => absurd hg z))
      refine pw_blk (mi := mz_183) (b := bz_183_20) rfl rfl ?_
      simp only [bz_183_20, pz_cut_t, pz_cut_f, pz_cut_n, pv_gt, pv_ts, pv_tn, ev_ifne, pz_wi_gc, pz_wi_ga, pz_wi_gn, pz_wi_gl, pz_wi_gr, pz_wi_same, pz_wi_X, pz_wl_gc, pz_wl_ga, pz_wl_gn, pz_wl_gi, pz_wl_gr, pz_wl_same, pz_wl_X, pz_wr_gc, pz_wr_ga, pz_wr_gn, pz_wr_gi, pz_wr_gl, pz_wr_same, pz_wr_X, x10]
      (try simp (disch := omega) only [nI_clamp, pz_in_nI2, pz_in_nI2L, pv_gt, nI_add, nI_addL, nI_Ladd, pk_mul, nI_mulL, nI_Lmul, pk_sub, nI_subL, nI_Lsub, nI_inc, nI_clampL, Nat.add_sub_cancel, pz_wi_else, pz_wl_else, vu_eq, vu_ne, pz_wi_gc, pz_wi_ga, pz_wi_gn, pz_wi_gl, pz_wi_gr, pz_wi_same, pz_wi_X, pz_wl_gc, pz_wl_ga, pz_wl_gn, pz_wl_gi, pz_wl_gr, pz_wl_same, pz_wl_X, pz_wr_gc, pz_wr_ga, pz_wr_gn, pz_wr_gi, pz_wr_gl, pz_wr_same, pz_wr_X, x10])
      refine po_brP (fun q20 => ?_) (fun q20 => ?_)
      · skip
        (try simp (disch := omega) only [nI_ltI, nI_leI, nI_eq, nI_ltL, nI_leL, nI_eqL, nI_Llt, nI_Lle, nI_Leq, nI_eqm, nI_meq, nI_ltm, nI_lem, nI_mlt, nI_mle, lg0, lgl, lgg, lgle, lgge, Int32.not_lt, Int32.not_le, Int64.not_lt, Int64.not_le, not_false_eq_true, not_true_eq_false, Decidable.not_not, ge_iff_le, gt_iff_lt] at q20)
        have hS1 := t1.1.1
        have a0 : gi M1 19 0 = nI c.B := by rw [s1.i (by decide)]; exact x0
        have a10 : gi M1 19 10 = nI c.N := by rw [s1.i (by decide)]; exact x10
        have q1 : sm [1, 19, 27, 28, 29, 30, 31] M M1 := s1.mono (by decide)
        refine pw_blk (mi := mz_183) (b := bz_183_24) rfl rfl ?_
        simp only [bz_183_24, pz_cut_t, pz_cut_f, pz_cut_n, pv_gt, pv_ts, pv_tn, ev_ald0, ev_eld0, ev_gf4_2, ev_gf8_0, ev_ist1n, ev_ist1i, ev_ist1r, ev_ist1e, ev_ist1l, ev_gf8_2, ev_ild1, ev_ic2, ev_ic0, ev_ic1, ev_isub, ev_cv3_4, pz_wi_gc, pz_wi_ga, pz_wi_gn, pz_wi_gl, pz_wi_gr, pz_wi_same, pz_wi_X, pz_wl_gc, pz_wl_ga, pz_wl_gn, pz_wl_gi, pz_wl_gr, pz_wl_same, pz_wl_X, pz_wr_gc, pz_wr_ga, pz_wr_gn, pz_wr_gi, pz_wr_gl, pz_wr_same, pz_wr_X, so_18 hS, sr_18_1 hS, so_19 hS, sr_19_12 hS, sa_28 hS, sn_28 hS, x10, so_18 hS1, sr_18_1 hS1, so_19 hS1, sr_19_12 hS1, a0, a10]
        (try simp (disch := omega) only [nI_clamp, pz_in_nI2, pz_in_nI2L, pv_gt, nI_add, nI_addL, nI_Ladd, pk_mul, nI_mulL, nI_Lmul, pk_sub, nI_subL, nI_Lsub, nI_inc, nI_clampL, Nat.add_sub_cancel, pz_wi_else, pz_wl_else, vu_eq, vu_ne, pz_wi_gc, pz_wi_ga, pz_wi_gn, pz_wi_gl, pz_wi_gr, pz_wi_same, pz_wi_X, pz_wl_gc, pz_wl_ga, pz_wl_gn, pz_wl_gi, pz_wl_gr, pz_wl_same, pz_wl_X, pz_wr_gc, pz_wr_ga, pz_wr_gn, pz_wr_gi, pz_wr_gl, pz_wr_same, pz_wr_X, x10, so_18 hS1, sr_18_1 hS1, so_19 hS1, sr_19_12 hS1, a0, a10])
        (try refine po_gP (Nat.le_of_ble_eq_true rfl) ?_)
        refine po_call (by omega) (m_takeNumber (w := 2) (lo := 0) (hi := c.B) (by omega) (by decide) (by decide) (by omega) (by first | rfl | rw [nI_subL (n := 1) (by show 1 ≤ c.B; omega)]) t1 (fun z => by rw [z0] at z; cases z) (fun _ M2 c2 t2 => ?_))
        have q2 : sm [1, 19, 27, 28, 29, 30, 31] M M2 := q1.tr (c2.1.mono (by decide)) (fun _ z => z)
        have f2 : gi M2 1 2 = gi M 1 2 := by rw [c2.2]; exact f1
        have hS2 := t2.1.1
        have a0 : gi M2 19 0 = nI c.B := by rw [c2.1.i (by decide)]; exact a0
        have a10 : gi M2 19 10 = nI c.N := by rw [c2.1.i (by decide)]; exact a10
        refine pw_blk (mi := mz_183) (b := bz_183_55) rfl rfl ?_
        simp only [bz_183_55, pz_cut_t, pz_cut_f, pz_cut_n, pv_gt, pv_ts, pv_tn, ea_iast, ev_ald0, ev_eld0, ev_gf4_2, ev_gf8_2, ev_ild1, ev_ic3, ea_iald, ev_gf8_0, ev_ic1, ev_isub, ev_cv3_4, pz_wi_gc, pz_wi_ga, pz_wi_gn, pz_wi_gl, pz_wi_gr, pz_wi_same, pz_wi_X, pz_wl_gc, pz_wl_ga, pz_wl_gn, pz_wl_gi, pz_wl_gr, pz_wl_same, pz_wl_X, pz_wr_gc, pz_wr_ga, pz_wr_gn, pz_wr_gi, pz_wr_gl, pz_wr_same, pz_wr_X, so_18 hS, sr_18_1 hS, so_19 hS, sr_19_13 hS, sa_29 hS, sn_29 hS, sr_19_12 hS, sa_28 hS, sn_28 hS, x10, so_18 hS2, sr_18_1 hS2, so_19 hS2, sr_19_13 hS2, a0, a10, sa_28 hS2, sn_28 hS2, sr_19_12 hS2, sa_27 hS, sn_27 hS, sa_30 hS, sn_30 hS, sa_31 hS, sn_31 hS]
        (try simp (disch := omega) only [nI_clamp, pz_in_nI2, pz_in_nI2L, pv_gt, nI_add, nI_addL, nI_Ladd, pk_mul, nI_mulL, nI_Lmul, pk_sub, nI_subL, nI_Lsub, nI_inc, nI_clampL, Nat.add_sub_cancel, pz_wi_else, pz_wl_else, vu_eq, vu_ne, pz_wi_gc, pz_wi_ga, pz_wi_gn, pz_wi_gl, pz_wi_gr, pz_wi_same, pz_wi_X, pz_wl_gc, pz_wl_ga, pz_wl_gn, pz_wl_gi, pz_wl_gr, pz_wl_same, pz_wl_X, pz_wr_gc, pz_wr_ga, pz_wr_gn, pz_wr_gi, pz_wr_gl, pz_wr_same, pz_wr_X, x10, so_18 hS2, sr_18_1 hS2, so_19 hS2, sr_19_13 hS2, a0, a10, sa_28 hS2, sn_28 hS2, sr_19_12 hS2])
        (try refine po_gI (by first | exact pz_in_nI (by omega) (by decide) | decide | assumption) ?_)
        (try refine po_gI (by first | exact pz_in_nI (by omega) (by decide) | decide | assumption) ?_)
        (try refine po_gP (Nat.le_of_ble_eq_true rfl) ?_)
        refine po_call (by omega) (m_takeNumberF (w := 3) (by omega) (by decide) (t2.sm (K := [28]) (sm.wi sm.rf (by decide)) (by decide) (by decide) (by decide)) (tnF_G z0) (fun M3 c3 t3 => ?_))
        have q3 : sm [1, 19, 27, 28, 29, 30, 31] M M3 := (q2.tr (sm.wi (K := [1, 19, 27, 28, 29, 30, 31]) sm.rf (by decide)) (fun _ z => z)).tr (c3.1.mono (by decide)) (fun _ z => z)
        have f3 : gi M3 1 2 = gi M 1 2 := by rw [c3.2, pz_wi_else (by decide)]; exact f2
        have r28_3 : gi M3 28 = va_up (gi M2 28) c.N (-1) := by rw [c3.1.i (by decide), pz_wi_same]
        have hS3 := t3.1.1
        have a0 : gi M3 19 0 = nI c.B := by rw [c3.1.i (by decide), pz_wi_else (by decide)]; exact a0
        have a10 : gi M3 19 10 = nI c.N := by rw [c3.1.i (by decide), pz_wi_else (by decide)]; exact a10
        refine pw_blk (mi := mz_183) (b := bz_183_87) rfl rfl ?_
        simp only [bz_183_87, pz_cut_t, pz_cut_f, pz_cut_n, pv_gt, pv_ts, pv_tn, ea_iast, ev_ald0, ev_eld0, ev_gf4_2, ev_gf8_2, ev_ild1, ev_bp14, ev_ic0, ev_bp20, ev_cv3_4, pz_wi_gc, pz_wi_ga, pz_wi_gn, pz_wi_gl, pz_wi_gr, pz_wi_same, pz_wi_X, pz_wl_gc, pz_wl_ga, pz_wl_gn, pz_wl_gi, pz_wl_gr, pz_wl_same, pz_wl_X, pz_wr_gc, pz_wr_ga, pz_wr_gn, pz_wr_gi, pz_wr_gl, pz_wr_same, pz_wr_X, so_18 hS, sr_18_1 hS, so_19 hS, sr_19_14 hS, sa_30 hS, sn_30 hS, x10, so_18 hS3, sr_18_1 hS3, so_19 hS3, sr_19_14 hS3, a0, a10, sa_29 hS3, sn_29 hS3, sa_27 hS, sn_27 hS, sa_28 hS, sn_28 hS, sa_29 hS, sn_29 hS, sa_31 hS, sn_31 hS]
        (try simp (disch := omega) only [nI_clamp, pz_in_nI2, pz_in_nI2L, pv_gt, nI_add, nI_addL, nI_Ladd, pk_mul, nI_mulL, nI_Lmul, pk_sub, nI_subL, nI_Lsub, nI_inc, nI_clampL, Nat.add_sub_cancel, pz_wi_else, pz_wl_else, vu_eq, vu_ne, pz_wi_gc, pz_wi_ga, pz_wi_gn, pz_wi_gl, pz_wi_gr, pz_wi_same, pz_wi_X, pz_wl_gc, pz_wl_ga, pz_wl_gn, pz_wl_gi, pz_wl_gr, pz_wl_same, pz_wl_X, pz_wr_gc, pz_wr_ga, pz_wr_gn, pz_wr_gi, pz_wr_gl, pz_wr_same, pz_wr_X, x10, so_18 hS3, sr_18_1 hS3, so_19 hS3, sr_19_14 hS3, a0, a10, sa_29 hS3, sn_29 hS3])
        (try refine po_gI (by first | exact pz_in_nI (by omega) (by decide) | decide | assumption) ?_)
        (try refine po_gP (Nat.le_of_ble_eq_true rfl) ?_)
        refine po_call (by omega) (m_takeNumberF (w := 14) (by omega) (by decide) (t3.sm (K := [29]) (sm.wi sm.rf (by decide)) (by decide) (by decide) (by decide)) (tnF_G z0) (fun M4 c4 t4 => ?_))
        have q4 : sm [1, 19, 27, 28, 29, 30, 31] M M4 := (q3.tr (sm.wi (K := [1, 19, 27, 28, 29, 30, 31]) sm.rf (by decide)) (fun _ z => z)).tr (c4.1.mono (by decide)) (fun _ z => z)
        have f4 : gi M4 1 2 = gi M 1 2 := by rw [c4.2, pz_wi_else (by decide)]; exact f3
        have r29_4 : gi M4 29 = va_up (gi M3 29) c.N (-1) := by rw [c4.1.i (by decide), pz_wi_same]
        have hS4 := t4.1.1
        have a0 : gi M4 19 0 = nI c.B := by rw [c4.1.i (by decide), pz_wi_else (by decide)]; exact a0
        have a10 : gi M4 19 10 = nI c.N := by rw [c4.1.i (by decide), pz_wi_else (by decide)]; exact a10
        refine pw_blk (mi := mz_183) (b := bz_183_105) rfl rfl ?_
        simp only [bz_183_105, pz_cut_t, pz_cut_f, pz_cut_n, pv_gt, pv_ts, pv_tn, ea_iast, ev_ald0, ev_eld0, ev_gf4_2, ev_gf8_2, ev_ild1, ev_bp15, ev_ic0, ev_bp20, ev_cv3_4, pz_wi_gc, pz_wi_ga, pz_wi_gn, pz_wi_gl, pz_wi_gr, pz_wi_same, pz_wi_X, pz_wl_gc, pz_wl_ga, pz_wl_gn, pz_wl_gi, pz_wl_gr, pz_wl_same, pz_wl_X, pz_wr_gc, pz_wr_ga, pz_wr_gn, pz_wr_gi, pz_wr_gl, pz_wr_same, pz_wr_X, so_18 hS, sr_18_1 hS, so_19 hS, sr_19_15 hS, sa_31 hS, sn_31 hS, x10, so_18 hS4, sr_18_1 hS4, so_19 hS4, sr_19_15 hS4, a0, a10, sa_30 hS4, sn_30 hS4, sa_27 hS, sn_27 hS, sa_28 hS, sn_28 hS, sa_29 hS, sn_29 hS, sa_30 hS, sn_30 hS]
        (try simp (disch := omega) only [nI_clamp, pz_in_nI2, pz_in_nI2L, pv_gt, nI_add, nI_addL, nI_Ladd, pk_mul, nI_mulL, nI_Lmul, pk_sub, nI_subL, nI_Lsub, nI_inc, nI_clampL, Nat.add_sub_cancel, pz_wi_else, pz_wl_else, vu_eq, vu_ne, pz_wi_gc, pz_wi_ga, pz_wi_gn, pz_wi_gl, pz_wi_gr, pz_wi_same, pz_wi_X, pz_wl_gc, pz_wl_ga, pz_wl_gn, pz_wl_gi, pz_wl_gr, pz_wl_same, pz_wl_X, pz_wr_gc, pz_wr_ga, pz_wr_gn, pz_wr_gi, pz_wr_gl, pz_wr_same, pz_wr_X, x10, so_18 hS4, sr_18_1 hS4, so_19 hS4, sr_19_15 hS4, a0, a10, sa_30 hS4, sn_30 hS4])
        (try refine po_gI (by first | exact pz_in_nI (by omega) (by decide) | decide | assumption) ?_)
        (try refine po_gP (Nat.le_of_ble_eq_true rfl) ?_)
        refine po_call (by omega) (m_takeNumberF (w := 15) (by omega) (by decide) (t4.sm (K := [30]) (sm.wi sm.rf (by decide)) (by decide) (by decide) (by decide)) (tnF_G z0) (fun M5 c5 t5 => ?_))
        have q5 : sm [1, 19, 27, 28, 29, 30, 31] M M5 := (q4.tr (sm.wi (K := [1, 19, 27, 28, 29, 30, 31]) sm.rf (by decide)) (fun _ z => z)).tr (c5.1.mono (by decide)) (fun _ z => z)
        have f5 : gi M5 1 2 = gi M 1 2 := by rw [c5.2, pz_wi_else (by decide)]; exact f4
        have r30_5 : gi M5 30 = va_up (gi M4 30) c.N (-1) := by rw [c5.1.i (by decide), pz_wi_same]
        have hS5 := t5.1.1
        have a0 : gi M5 19 0 = nI c.B := by rw [c5.1.i (by decide), pz_wi_else (by decide)]; exact a0
        have a10 : gi M5 19 10 = nI c.N := by rw [c5.1.i (by decide), pz_wi_else (by decide)]; exact a10
        refine pw_blk (mi := mz_183) (b := bz_183_123) rfl rfl ?_
        simp only [bz_183_123, pz_cut_t, pz_cut_f, pz_cut_n, pv_gt, pv_ts, pv_tn, ea_iast, ev_ald0, ev_eld0, ev_gf4_2, ev_bp59, ev_cv1_10, pz_wi_gc, pz_wi_ga, pz_wi_gn, pz_wi_gl, pz_wi_gr, pz_wi_same, pz_wi_X, pz_wl_gc, pz_wl_ga, pz_wl_gn, pz_wl_gi, pz_wl_gr, pz_wl_same, pz_wl_X, pz_wr_gc, pz_wr_ga, pz_wr_gn, pz_wr_gi, pz_wr_gl, pz_wr_same, pz_wr_X, so_18 hS, sr_18_0 hS, so_1 hS, x10, so_18 hS5, sr_18_0 hS5, so_1 hS5, sa_31 hS5, sn_31 hS5, sa_27 hS, sn_27 hS, sa_28 hS, sn_28 hS, sa_29 hS, sn_29 hS, sa_30 hS, sn_30 hS, sa_31 hS, sn_31 hS]
        (try simp (disch := omega) only [nI_clamp, pz_in_nI2, pz_in_nI2L, pv_gt, nI_add, nI_addL, nI_Ladd, pk_mul, nI_mulL, nI_Lmul, pk_sub, nI_subL, nI_Lsub, nI_inc, nI_clampL, Nat.add_sub_cancel, pz_wi_else, pz_wl_else, vu_eq, vu_ne, pz_wi_gc, pz_wi_ga, pz_wi_gn, pz_wi_gl, pz_wi_gr, pz_wi_same, pz_wi_X, pz_wl_gc, pz_wl_ga, pz_wl_gn, pz_wl_gi, pz_wl_gr, pz_wl_same, pz_wl_X, pz_wr_gc, pz_wr_ga, pz_wr_gn, pz_wr_gi, pz_wr_gl, pz_wr_same, pz_wr_X, x10, so_18 hS5, sr_18_0 hS5, so_1 hS5, sa_31 hS5, sn_31 hS5])
        (try refine po_gI (by first | exact pz_in_nI (by omega) (by decide) | decide | assumption) ?_)
        (try refine po_gP (Nat.le_of_ble_eq_true rfl) ?_)
        refine po_call (by omega) (m_takeSign (c := 59) (by omega) (by decide) (t5.sm (K := [31]) (sm.wi sm.rf (by decide)) (by decide) (by decide) (by decide)) (fun M6 c6 t6 => ?_))
        have q6 : sm [1, 19, 27, 28, 29, 30, 31] M M6 := (q5.tr (sm.wi (K := [1, 19, 27, 28, 29, 30, 31]) sm.rf (by decide)) (fun _ z => z)).tr (c6.1.mono (by decide)) (fun _ z => z)
        have f6 : gi M6 1 2 = gi M 1 2 := by rw [c6.2, pz_wi_else (by decide)]; exact f5
        have hS6 := t6.1.1
        have b10 : gi M6 19 10 = nI c.N := by rw [c6.1.i (by decide), pz_wi_else (by decide)]; exact a10
        refine pw_blk (mi := mz_183) (b := bz_183_133) rfl rfl ?_
        simp only [bz_183_133, pz_cut_t, pz_cut_f, pz_cut_n, pv_gt, pv_ts, pv_tn, ev_ald0, ev_eld0, ev_gf4_2, ev_dupi, ev_dupr, ev_dupe, ev_gf8_0, ev_ic1, ev_iadd, ev_pf8_0, ev_ret, pz_wi_gc, pz_wi_ga, pz_wi_gn, pz_wi_gl, pz_wi_gr, pz_wi_same, pz_wi_X, pz_wl_gc, pz_wl_ga, pz_wl_gn, pz_wl_gi, pz_wl_gr, pz_wl_same, pz_wl_X, pz_wr_gc, pz_wr_ga, pz_wr_gn, pz_wr_gi, pz_wr_gl, pz_wr_same, pz_wr_X, so_18 hS, sr_18_1 hS, so_19 hS, x10, so_18 hS6, sr_18_1 hS6, so_19 hS6, b10]
        (try simp (disch := omega) only [nI_clamp, pz_in_nI2, pz_in_nI2L, pv_gt, nI_add, nI_addL, nI_Ladd, pk_mul, nI_mulL, nI_Lmul, pk_sub, nI_subL, nI_Lsub, nI_inc, nI_clampL, Nat.add_sub_cancel, pz_wi_else, pz_wl_else, vu_eq, vu_ne, pz_wi_gc, pz_wi_ga, pz_wi_gn, pz_wi_gl, pz_wi_gr, pz_wi_same, pz_wi_X, pz_wl_gc, pz_wl_ga, pz_wl_gn, pz_wl_gi, pz_wl_gr, pz_wl_same, pz_wl_X, pz_wr_gc, pz_wr_ga, pz_wr_gn, pz_wr_gi, pz_wr_gl, pz_wr_same, pz_wr_X, x10, so_18 hS6, sr_18_1 hS6, so_19 hS6, b10])
        refine po_then (fun M7 hM7 => ?_)
        have s7 : sm [19] M6 M7 := by
          rw [hM7]
          exact sm.wi sm.rf (by decide)
        have et : tsF ru T L 59 (tnF ru T L 2 0 c.B (nxF ru T L (nxF ru T L σ))) = tnF ru T L 2 0 c.B (nxF ru T L (nxF ru T L σ)) := tsF_f (tnF_G z0)
        rw [et] at t6
        exact k M7 (q6.tr s7 (by decide)) (by rw [s7.i (by decide)]; exact f6) (t6.sm s7 (by decide) (by decide) (by decide)) (fun z => by rw [tnF_G z0] at z; cases z)
      · first
        | exact absurd q20 (by decide)
        | exact absurd trivial q20
        | exact q20.elim
        | (exfalso; (try simp (disch := omega) only [nI_ltI, nI_leI, nI_eq, nI_ltL, nI_leL, nI_eqL, nI_Llt, nI_Lle, nI_Leq, nI_eqm, nI_meq, nI_ltm, nI_lem, nI_mlt, nI_mle, lg0, lgl, lgg, lgle, lgge, Int32.not_lt, Int32.not_le, Int64.not_lt, Int64.not_le, not_false_eq_true, not_true_eq_false, Decidable.not_not, ge_iff_le, gt_iff_lt] at q20) <;> omega)
        | exact absurd q20 (by with_reducible assumption)
        | exact absurd (by with_reducible assumption) q20
        | exact absurd (Decidable.not_not.mp q20) (by with_reducible assumption)
        | exact absurd (by with_reducible assumption) (Int32.not_le.mpr q20)
        | exact absurd (by with_reducible assumption) (Int32.not_lt.mpr q20)
    | true =>
      rw [if_pos z0] at k
      cases z1 : tnB ru T L 3 (nuV (nxF ru T L (nxF ru T L (nxF ru T L σ)))) c.B (nxF ru T L (nxF ru T L (nxF ru T L (nxF ru T L σ)))) with
      | false =>
        rw [if_neg (by rw [z1]; decide)] at k
        refine pm_ent (L := [some (.ref 18), none]) rfl (Nat.le_of_ble_eq_true rfl) ?_
        refine pw_blk (mi := mz_183) (b := bz_183_0) rfl rfl ?_
        simp only [bz_183_0, pz_cut_t, pz_cut_f, pz_cut_n, pv_gt, pv_ts, pv_tn, ev_ald0, ev_eld0, ev_gf4_2, ev_gf8_0, ev_bp6, ev_gf8_2, ev_cv3_4, pz_wi_gc, pz_wi_ga, pz_wi_gn, pz_wi_gl, pz_wi_gr, pz_wi_same, pz_wi_X, pz_wl_gc, pz_wl_ga, pz_wl_gn, pz_wl_gi, pz_wl_gr, pz_wl_same, pz_wl_X, pz_wr_gc, pz_wr_ga, pz_wr_gn, pz_wr_gi, pz_wr_gl, pz_wr_same, pz_wr_X, so_18 hS, sr_18_1 hS, so_19 hS, sr_19_11 hS, sa_27 hS, sn_27 hS, x10]
        (try simp (disch := omega) only [nI_clamp, pz_in_nI2, pz_in_nI2L, pv_gt, nI_add, nI_addL, nI_Ladd, pk_mul, nI_mulL, nI_Lmul, pk_sub, nI_subL, nI_Lsub, nI_inc, nI_clampL, Nat.add_sub_cancel, pz_wi_else, pz_wl_else, vu_eq, vu_ne, pz_wi_gc, pz_wi_ga, pz_wi_gn, pz_wi_gl, pz_wi_gr, pz_wi_same, pz_wi_X, pz_wl_gc, pz_wl_ga, pz_wl_gn, pz_wl_gi, pz_wl_gr, pz_wl_same, pz_wl_X, pz_wr_gc, pz_wr_ga, pz_wr_gn, pz_wr_gi, pz_wr_gl, pz_wr_same, pz_wr_X, x10])
        (try refine po_gP (Nat.le_of_ble_eq_true rfl) ?_)
        refine po_call (by omega) (m_beginNamed (k := 27) (nm := c.nw) (len := 6) (by omega) s (sa_27 hS) (sn_27 hS) (Nat.le_refl _) (by decide) (by omega) (by decide) (fun i hi => ⟨(xN i hi).1, (o.2.2.2.2.1 i hi).1⟩) (fun _ _ _ M1 s1 f1 t1 hwd g27 => ?_) (fun _ z => absurd hg z))
        refine pw_blk (mi := mz_183) (b := bz_183_20) rfl rfl ?_
        simp only [bz_183_20, pz_cut_t, pz_cut_f, pz_cut_n, pv_gt, pv_ts, pv_tn, ev_ifne, pz_wi_gc, pz_wi_ga, pz_wi_gn, pz_wi_gl, pz_wi_gr, pz_wi_same, pz_wi_X, pz_wl_gc, pz_wl_ga, pz_wl_gn, pz_wl_gi, pz_wl_gr, pz_wl_same, pz_wl_X, pz_wr_gc, pz_wr_ga, pz_wr_gn, pz_wr_gi, pz_wr_gl, pz_wr_same, pz_wr_X, x10]
        (try simp (disch := omega) only [nI_clamp, pz_in_nI2, pz_in_nI2L, pv_gt, nI_add, nI_addL, nI_Ladd, pk_mul, nI_mulL, nI_Lmul, pk_sub, nI_subL, nI_Lsub, nI_inc, nI_clampL, Nat.add_sub_cancel, pz_wi_else, pz_wl_else, vu_eq, vu_ne, pz_wi_gc, pz_wi_ga, pz_wi_gn, pz_wi_gl, pz_wi_gr, pz_wi_same, pz_wi_X, pz_wl_gc, pz_wl_ga, pz_wl_gn, pz_wl_gi, pz_wl_gr, pz_wl_same, pz_wl_X, pz_wr_gc, pz_wr_ga, pz_wr_gn, pz_wr_gi, pz_wr_gl, pz_wr_same, pz_wr_X, x10])
        refine po_brP (fun q20 => ?_) (fun q20 => ?_)
        · skip
          (try simp (disch := omega) only [nI_ltI, nI_leI, nI_eq, nI_ltL, nI_leL, nI_eqL, nI_Llt, nI_Lle, nI_Leq, nI_eqm, nI_meq, nI_ltm, nI_lem, nI_mlt, nI_mle, lg0, lgl, lgg, lgle, lgge, Int32.not_lt, Int32.not_le, Int64.not_lt, Int64.not_le, not_false_eq_true, not_true_eq_false, Decidable.not_not, ge_iff_le, gt_iff_lt] at q20)
          have hS1 := t1.1.1
          have a0 : gi M1 19 0 = nI c.B := by rw [s1.i (by decide)]; exact x0
          have a10 : gi M1 19 10 = nI c.N := by rw [s1.i (by decide)]; exact x10
          have q1 : sm [1, 19, 27, 28, 29, 30, 31] M M1 := s1.mono (by decide)
          refine pw_blk (mi := mz_183) (b := bz_183_24) rfl rfl ?_
          simp only [bz_183_24, pz_cut_t, pz_cut_f, pz_cut_n, pv_gt, pv_ts, pv_tn, ev_ald0, ev_eld0, ev_gf4_2, ev_gf8_0, ev_ist1n, ev_ist1i, ev_ist1r, ev_ist1e, ev_ist1l, ev_gf8_2, ev_ild1, ev_ic2, ev_ic0, ev_ic1, ev_isub, ev_cv3_4, pz_wi_gc, pz_wi_ga, pz_wi_gn, pz_wi_gl, pz_wi_gr, pz_wi_same, pz_wi_X, pz_wl_gc, pz_wl_ga, pz_wl_gn, pz_wl_gi, pz_wl_gr, pz_wl_same, pz_wl_X, pz_wr_gc, pz_wr_ga, pz_wr_gn, pz_wr_gi, pz_wr_gl, pz_wr_same, pz_wr_X, so_18 hS, sr_18_1 hS, so_19 hS, sr_19_12 hS, sa_28 hS, sn_28 hS, x10, so_18 hS1, sr_18_1 hS1, so_19 hS1, sr_19_12 hS1, a0, a10]
          (try simp (disch := omega) only [nI_clamp, pz_in_nI2, pz_in_nI2L, pv_gt, nI_add, nI_addL, nI_Ladd, pk_mul, nI_mulL, nI_Lmul, pk_sub, nI_subL, nI_Lsub, nI_inc, nI_clampL, Nat.add_sub_cancel, pz_wi_else, pz_wl_else, vu_eq, vu_ne, pz_wi_gc, pz_wi_ga, pz_wi_gn, pz_wi_gl, pz_wi_gr, pz_wi_same, pz_wi_X, pz_wl_gc, pz_wl_ga, pz_wl_gn, pz_wl_gi, pz_wl_gr, pz_wl_same, pz_wl_X, pz_wr_gc, pz_wr_ga, pz_wr_gn, pz_wr_gi, pz_wr_gl, pz_wr_same, pz_wr_X, x10, so_18 hS1, sr_18_1 hS1, so_19 hS1, sr_19_12 hS1, a0, a10])
          (try refine po_gP (Nat.le_of_ble_eq_true rfl) ?_)
          refine po_call (by omega) (m_takeNumber (w := 2) (lo := 0) (hi := c.B) (by omega) (by decide) (by decide) (by omega) (by first | rfl | rw [nI_subL (n := 1) (by show 1 ≤ c.B; omega)]) t1 (fun _ M2 c2 t2 e2 l2 h2 => ?_) (fun z => by rw [z0] at z; cases z))
          rw [e2] at t2
          have q2 : sm [1, 19, 27, 28, 29, 30, 31] M M2 := q1.tr (c2.1.mono (by decide)) (fun _ z => z)
          have f2 : gi M2 1 2 = gi M 1 2 := by rw [c2.2]; exact f1
          have hS2 := t2.1.1
          have a0 : gi M2 19 0 = nI c.B := by rw [c2.1.i (by decide)]; exact a0
          have a10 : gi M2 19 10 = nI c.N := by rw [c2.1.i (by decide)]; exact a10
          refine pw_blk (mi := mz_183) (b := bz_183_55) rfl rfl ?_
          simp only [bz_183_55, pz_cut_t, pz_cut_f, pz_cut_n, pv_gt, pv_ts, pv_tn, ea_iast, ev_ald0, ev_eld0, ev_gf4_2, ev_gf8_2, ev_ild1, ev_ic3, ea_iald, ev_gf8_0, ev_ic1, ev_isub, ev_cv3_4, pz_wi_gc, pz_wi_ga, pz_wi_gn, pz_wi_gl, pz_wi_gr, pz_wi_same, pz_wi_X, pz_wl_gc, pz_wl_ga, pz_wl_gn, pz_wl_gi, pz_wl_gr, pz_wl_same, pz_wl_X, pz_wr_gc, pz_wr_ga, pz_wr_gn, pz_wr_gi, pz_wr_gl, pz_wr_same, pz_wr_X, so_18 hS, sr_18_1 hS, so_19 hS, sr_19_13 hS, sa_29 hS, sn_29 hS, sr_19_12 hS, sa_28 hS, sn_28 hS, x10, so_18 hS2, sr_18_1 hS2, so_19 hS2, sr_19_13 hS2, a0, a10, sa_28 hS2, sn_28 hS2, sr_19_12 hS2, sa_27 hS, sn_27 hS, sa_30 hS, sn_30 hS, sa_31 hS, sn_31 hS]
          (try simp (disch := omega) only [nI_clamp, pz_in_nI2, pz_in_nI2L, pv_gt, nI_add, nI_addL, nI_Ladd, pk_mul, nI_mulL, nI_Lmul, pk_sub, nI_subL, nI_Lsub, nI_inc, nI_clampL, Nat.add_sub_cancel, pz_wi_else, pz_wl_else, vu_eq, vu_ne, pz_wi_gc, pz_wi_ga, pz_wi_gn, pz_wi_gl, pz_wi_gr, pz_wi_same, pz_wi_X, pz_wl_gc, pz_wl_ga, pz_wl_gn, pz_wl_gi, pz_wl_gr, pz_wl_same, pz_wl_X, pz_wr_gc, pz_wr_ga, pz_wr_gn, pz_wr_gi, pz_wr_gl, pz_wr_same, pz_wr_X, x10, so_18 hS2, sr_18_1 hS2, so_19 hS2, sr_19_13 hS2, a0, a10, sa_28 hS2, sn_28 hS2, sr_19_12 hS2])
          (try refine po_gI (by first | exact pz_in_nI (by omega) (by decide) | decide | assumption) ?_)
          (try refine po_gI (by first | exact pz_in_nI (by omega) (by decide) | decide | assumption) ?_)
          (try refine po_gP (Nat.le_of_ble_eq_true rfl) ?_)
          refine po_call (by omega) (m_takeNumber (w := 3) (lo := (nuV (nxF ru T L (nxF ru T L (nxF ru T L σ))))) (hi := c.B) (by omega) (by decide) (by omega) (by omega) (by first | rfl | rw [nI_subL (n := 1) (by show 1 ≤ c.B; omega)]) (t2.sm (K := [28]) (sm.wi sm.rf (by decide)) (by decide) (by decide) (by decide)) (fun z => by rw [z1] at z; cases z) (fun _ M3 c3 t3 => ?_))
          have q3 : sm [1, 19, 27, 28, 29, 30, 31] M M3 := (q2.tr (sm.wi (K := [1, 19, 27, 28, 29, 30, 31]) sm.rf (by decide)) (fun _ z => z)).tr (c3.1.mono (by decide)) (fun _ z => z)
          have f3 : gi M3 1 2 = gi M 1 2 := by rw [c3.2, pz_wi_else (by decide)]; exact f2
          have r28_3 : gi M3 28 = va_up (gi M2 28) c.N (nI (nuV (nxF ru T L (nxF ru T L (nxF ru T L σ))))) := by rw [c3.1.i (by decide), pz_wi_same]
          have hS3 := t3.1.1
          have a0 : gi M3 19 0 = nI c.B := by rw [c3.1.i (by decide), pz_wi_else (by decide)]; exact a0
          have a10 : gi M3 19 10 = nI c.N := by rw [c3.1.i (by decide), pz_wi_else (by decide)]; exact a10
          refine pw_blk (mi := mz_183) (b := bz_183_87) rfl rfl ?_
          simp only [bz_183_87, pz_cut_t, pz_cut_f, pz_cut_n, pv_gt, pv_ts, pv_tn, ea_iast, ev_ald0, ev_eld0, ev_gf4_2, ev_gf8_2, ev_ild1, ev_bp14, ev_ic0, ev_bp20, ev_cv3_4, pz_wi_gc, pz_wi_ga, pz_wi_gn, pz_wi_gl, pz_wi_gr, pz_wi_same, pz_wi_X, pz_wl_gc, pz_wl_ga, pz_wl_gn, pz_wl_gi, pz_wl_gr, pz_wl_same, pz_wl_X, pz_wr_gc, pz_wr_ga, pz_wr_gn, pz_wr_gi, pz_wr_gl, pz_wr_same, pz_wr_X, so_18 hS, sr_18_1 hS, so_19 hS, sr_19_14 hS, sa_30 hS, sn_30 hS, x10, so_18 hS3, sr_18_1 hS3, so_19 hS3, sr_19_14 hS3, a0, a10, sa_29 hS3, sn_29 hS3, sa_27 hS, sn_27 hS, sa_28 hS, sn_28 hS, sa_29 hS, sn_29 hS, sa_31 hS, sn_31 hS]
          (try simp (disch := omega) only [nI_clamp, pz_in_nI2, pz_in_nI2L, pv_gt, nI_add, nI_addL, nI_Ladd, pk_mul, nI_mulL, nI_Lmul, pk_sub, nI_subL, nI_Lsub, nI_inc, nI_clampL, Nat.add_sub_cancel, pz_wi_else, pz_wl_else, vu_eq, vu_ne, pz_wi_gc, pz_wi_ga, pz_wi_gn, pz_wi_gl, pz_wi_gr, pz_wi_same, pz_wi_X, pz_wl_gc, pz_wl_ga, pz_wl_gn, pz_wl_gi, pz_wl_gr, pz_wl_same, pz_wl_X, pz_wr_gc, pz_wr_ga, pz_wr_gn, pz_wr_gi, pz_wr_gl, pz_wr_same, pz_wr_X, x10, so_18 hS3, sr_18_1 hS3, so_19 hS3, sr_19_14 hS3, a0, a10, sa_29 hS3, sn_29 hS3])
          (try refine po_gI (by first | exact pz_in_nI (by omega) (by decide) | decide | assumption) ?_)
          (try refine po_gP (Nat.le_of_ble_eq_true rfl) ?_)
          refine po_call (by omega) (m_takeNumberF (w := 14) (by omega) (by decide) (t3.sm (K := [29]) (sm.wi sm.rf (by decide)) (by decide) (by decide) (by decide)) (tnF_G z1) (fun M4 c4 t4 => ?_))
          have q4 : sm [1, 19, 27, 28, 29, 30, 31] M M4 := (q3.tr (sm.wi (K := [1, 19, 27, 28, 29, 30, 31]) sm.rf (by decide)) (fun _ z => z)).tr (c4.1.mono (by decide)) (fun _ z => z)
          have f4 : gi M4 1 2 = gi M 1 2 := by rw [c4.2, pz_wi_else (by decide)]; exact f3
          have r29_4 : gi M4 29 = va_up (gi M3 29) c.N (-1) := by rw [c4.1.i (by decide), pz_wi_same]
          have hS4 := t4.1.1
          have a0 : gi M4 19 0 = nI c.B := by rw [c4.1.i (by decide), pz_wi_else (by decide)]; exact a0
          have a10 : gi M4 19 10 = nI c.N := by rw [c4.1.i (by decide), pz_wi_else (by decide)]; exact a10
          refine pw_blk (mi := mz_183) (b := bz_183_105) rfl rfl ?_
          simp only [bz_183_105, pz_cut_t, pz_cut_f, pz_cut_n, pv_gt, pv_ts, pv_tn, ea_iast, ev_ald0, ev_eld0, ev_gf4_2, ev_gf8_2, ev_ild1, ev_bp15, ev_ic0, ev_bp20, ev_cv3_4, pz_wi_gc, pz_wi_ga, pz_wi_gn, pz_wi_gl, pz_wi_gr, pz_wi_same, pz_wi_X, pz_wl_gc, pz_wl_ga, pz_wl_gn, pz_wl_gi, pz_wl_gr, pz_wl_same, pz_wl_X, pz_wr_gc, pz_wr_ga, pz_wr_gn, pz_wr_gi, pz_wr_gl, pz_wr_same, pz_wr_X, so_18 hS, sr_18_1 hS, so_19 hS, sr_19_15 hS, sa_31 hS, sn_31 hS, x10, so_18 hS4, sr_18_1 hS4, so_19 hS4, sr_19_15 hS4, a0, a10, sa_30 hS4, sn_30 hS4, sa_27 hS, sn_27 hS, sa_28 hS, sn_28 hS, sa_29 hS, sn_29 hS, sa_30 hS, sn_30 hS]
          (try simp (disch := omega) only [nI_clamp, pz_in_nI2, pz_in_nI2L, pv_gt, nI_add, nI_addL, nI_Ladd, pk_mul, nI_mulL, nI_Lmul, pk_sub, nI_subL, nI_Lsub, nI_inc, nI_clampL, Nat.add_sub_cancel, pz_wi_else, pz_wl_else, vu_eq, vu_ne, pz_wi_gc, pz_wi_ga, pz_wi_gn, pz_wi_gl, pz_wi_gr, pz_wi_same, pz_wi_X, pz_wl_gc, pz_wl_ga, pz_wl_gn, pz_wl_gi, pz_wl_gr, pz_wl_same, pz_wl_X, pz_wr_gc, pz_wr_ga, pz_wr_gn, pz_wr_gi, pz_wr_gl, pz_wr_same, pz_wr_X, x10, so_18 hS4, sr_18_1 hS4, so_19 hS4, sr_19_15 hS4, a0, a10, sa_30 hS4, sn_30 hS4])
          (try refine po_gI (by first | exact pz_in_nI (by omega) (by decide) | decide | assumption) ?_)
          (try refine po_gP (Nat.le_of_ble_eq_true rfl) ?_)
          refine po_call (by omega) (m_takeNumberF (w := 15) (by omega) (by decide) (t4.sm (K := [30]) (sm.wi sm.rf (by decide)) (by decide) (by decide) (by decide)) (tnF_G z1) (fun M5 c5 t5 => ?_))
          have q5 : sm [1, 19, 27, 28, 29, 30, 31] M M5 := (q4.tr (sm.wi (K := [1, 19, 27, 28, 29, 30, 31]) sm.rf (by decide)) (fun _ z => z)).tr (c5.1.mono (by decide)) (fun _ z => z)
          have f5 : gi M5 1 2 = gi M 1 2 := by rw [c5.2, pz_wi_else (by decide)]; exact f4
          have r30_5 : gi M5 30 = va_up (gi M4 30) c.N (-1) := by rw [c5.1.i (by decide), pz_wi_same]
          have hS5 := t5.1.1
          have a0 : gi M5 19 0 = nI c.B := by rw [c5.1.i (by decide), pz_wi_else (by decide)]; exact a0
          have a10 : gi M5 19 10 = nI c.N := by rw [c5.1.i (by decide), pz_wi_else (by decide)]; exact a10
          refine pw_blk (mi := mz_183) (b := bz_183_123) rfl rfl ?_
          simp only [bz_183_123, pz_cut_t, pz_cut_f, pz_cut_n, pv_gt, pv_ts, pv_tn, ea_iast, ev_ald0, ev_eld0, ev_gf4_2, ev_bp59, ev_cv1_10, pz_wi_gc, pz_wi_ga, pz_wi_gn, pz_wi_gl, pz_wi_gr, pz_wi_same, pz_wi_X, pz_wl_gc, pz_wl_ga, pz_wl_gn, pz_wl_gi, pz_wl_gr, pz_wl_same, pz_wl_X, pz_wr_gc, pz_wr_ga, pz_wr_gn, pz_wr_gi, pz_wr_gl, pz_wr_same, pz_wr_X, so_18 hS, sr_18_0 hS, so_1 hS, x10, so_18 hS5, sr_18_0 hS5, so_1 hS5, sa_31 hS5, sn_31 hS5, sa_27 hS, sn_27 hS, sa_28 hS, sn_28 hS, sa_29 hS, sn_29 hS, sa_30 hS, sn_30 hS, sa_31 hS, sn_31 hS]
          (try simp (disch := omega) only [nI_clamp, pz_in_nI2, pz_in_nI2L, pv_gt, nI_add, nI_addL, nI_Ladd, pk_mul, nI_mulL, nI_Lmul, pk_sub, nI_subL, nI_Lsub, nI_inc, nI_clampL, Nat.add_sub_cancel, pz_wi_else, pz_wl_else, vu_eq, vu_ne, pz_wi_gc, pz_wi_ga, pz_wi_gn, pz_wi_gl, pz_wi_gr, pz_wi_same, pz_wi_X, pz_wl_gc, pz_wl_ga, pz_wl_gn, pz_wl_gi, pz_wl_gr, pz_wl_same, pz_wl_X, pz_wr_gc, pz_wr_ga, pz_wr_gn, pz_wr_gi, pz_wr_gl, pz_wr_same, pz_wr_X, x10, so_18 hS5, sr_18_0 hS5, so_1 hS5, sa_31 hS5, sn_31 hS5])
          (try refine po_gI (by first | exact pz_in_nI (by omega) (by decide) | decide | assumption) ?_)
          (try refine po_gP (Nat.le_of_ble_eq_true rfl) ?_)
          refine po_call (by omega) (m_takeSign (c := 59) (by omega) (by decide) (t5.sm (K := [31]) (sm.wi sm.rf (by decide)) (by decide) (by decide) (by decide)) (fun M6 c6 t6 => ?_))
          have q6 : sm [1, 19, 27, 28, 29, 30, 31] M M6 := (q5.tr (sm.wi (K := [1, 19, 27, 28, 29, 30, 31]) sm.rf (by decide)) (fun _ z => z)).tr (c6.1.mono (by decide)) (fun _ z => z)
          have f6 : gi M6 1 2 = gi M 1 2 := by rw [c6.2, pz_wi_else (by decide)]; exact f5
          have hS6 := t6.1.1
          have b10 : gi M6 19 10 = nI c.N := by rw [c6.1.i (by decide), pz_wi_else (by decide)]; exact a10
          refine pw_blk (mi := mz_183) (b := bz_183_133) rfl rfl ?_
          simp only [bz_183_133, pz_cut_t, pz_cut_f, pz_cut_n, pv_gt, pv_ts, pv_tn, ev_ald0, ev_eld0, ev_gf4_2, ev_dupi, ev_dupr, ev_dupe, ev_gf8_0, ev_ic1, ev_iadd, ev_pf8_0, ev_ret, pz_wi_gc, pz_wi_ga, pz_wi_gn, pz_wi_gl, pz_wi_gr, pz_wi_same, pz_wi_X, pz_wl_gc, pz_wl_ga, pz_wl_gn, pz_wl_gi, pz_wl_gr, pz_wl_same, pz_wl_X, pz_wr_gc, pz_wr_ga, pz_wr_gn, pz_wr_gi, pz_wr_gl, pz_wr_same, pz_wr_X, so_18 hS, sr_18_1 hS, so_19 hS, x10, so_18 hS6, sr_18_1 hS6, so_19 hS6, b10]
          (try simp (disch := omega) only [nI_clamp, pz_in_nI2, pz_in_nI2L, pv_gt, nI_add, nI_addL, nI_Ladd, pk_mul, nI_mulL, nI_Lmul, pk_sub, nI_subL, nI_Lsub, nI_inc, nI_clampL, Nat.add_sub_cancel, pz_wi_else, pz_wl_else, vu_eq, vu_ne, pz_wi_gc, pz_wi_ga, pz_wi_gn, pz_wi_gl, pz_wi_gr, pz_wi_same, pz_wi_X, pz_wl_gc, pz_wl_ga, pz_wl_gn, pz_wl_gi, pz_wl_gr, pz_wl_same, pz_wl_X, pz_wr_gc, pz_wr_ga, pz_wr_gn, pz_wr_gi, pz_wr_gl, pz_wr_same, pz_wr_X, x10, so_18 hS6, sr_18_1 hS6, so_19 hS6, b10])
          refine po_then (fun M7 hM7 => ?_)
          have s7 : sm [19] M6 M7 := by
            rw [hM7]
            exact sm.wi sm.rf (by decide)
          have et : tsF ru T L 59 (tnF ru T L 3 (nuV (nxF ru T L (nxF ru T L (nxF ru T L σ)))) c.B (nxF ru T L (nxF ru T L (nxF ru T L (nxF ru T L σ))))) = tnF ru T L 3 (nuV (nxF ru T L (nxF ru T L (nxF ru T L σ)))) c.B (nxF ru T L (nxF ru T L (nxF ru T L (nxF ru T L σ)))) := tsF_f (tnF_G z1)
          rw [et] at t6
          exact k M7 (q6.tr s7 (by decide)) (by rw [s7.i (by decide)]; exact f6) (t6.sm s7 (by decide) (by decide) (by decide)) (fun z => by rw [tnF_G z1] at z; cases z)
        · first
          | exact absurd q20 (by decide)
          | exact absurd trivial q20
          | exact q20.elim
          | (exfalso; (try simp (disch := omega) only [nI_ltI, nI_leI, nI_eq, nI_ltL, nI_leL, nI_eqL, nI_Llt, nI_Lle, nI_Leq, nI_eqm, nI_meq, nI_ltm, nI_lem, nI_mlt, nI_mle, lg0, lgl, lgg, lgle, lgge, Int32.not_lt, Int32.not_le, Int64.not_lt, Int64.not_le, not_false_eq_true, not_true_eq_false, Decidable.not_not, ge_iff_le, gt_iff_lt] at q20) <;> omega)
          | exact absurd q20 (by with_reducible assumption)
          | exact absurd (by with_reducible assumption) q20
          | exact absurd (Decidable.not_not.mp q20) (by with_reducible assumption)
          | exact absurd (by with_reducible assumption) (Int32.not_le.mpr q20)
          | exact absurd (by with_reducible assumption) (Int32.not_lt.mpr q20)
      | true =>
        rw [if_pos z1] at k
        cases z2 : tnB ru T L 14 0 21 (nxF ru T L (nxF ru T L (nxF ru T L (nxF ru T L (nxF ru T L (nxF ru T L σ)))))) with
        | false =>
          rw [if_neg (by rw [z2]; decide)] at k
          refine pm_ent (L := [some (.ref 18), none]) rfl (Nat.le_of_ble_eq_true rfl) ?_
          refine pw_blk (mi := mz_183) (b := bz_183_0) rfl rfl ?_
          simp only [bz_183_0, pz_cut_t, pz_cut_f, pz_cut_n, pv_gt, pv_ts, pv_tn, ev_ald0, ev_eld0, ev_gf4_2, ev_gf8_0, ev_bp6, ev_gf8_2, ev_cv3_4, pz_wi_gc, pz_wi_ga, pz_wi_gn, pz_wi_gl, pz_wi_gr, pz_wi_same, pz_wi_X, pz_wl_gc, pz_wl_ga, pz_wl_gn, pz_wl_gi, pz_wl_gr, pz_wl_same, pz_wl_X, pz_wr_gc, pz_wr_ga, pz_wr_gn, pz_wr_gi, pz_wr_gl, pz_wr_same, pz_wr_X, so_18 hS, sr_18_1 hS, so_19 hS, sr_19_11 hS, sa_27 hS, sn_27 hS, x10]
          (try simp (disch := omega) only [nI_clamp, pz_in_nI2, pz_in_nI2L, pv_gt, nI_add, nI_addL, nI_Ladd, pk_mul, nI_mulL, nI_Lmul, pk_sub, nI_subL, nI_Lsub, nI_inc, nI_clampL, Nat.add_sub_cancel, pz_wi_else, pz_wl_else, vu_eq, vu_ne, pz_wi_gc, pz_wi_ga, pz_wi_gn, pz_wi_gl, pz_wi_gr, pz_wi_same, pz_wi_X, pz_wl_gc, pz_wl_ga, pz_wl_gn, pz_wl_gi, pz_wl_gr, pz_wl_same, pz_wl_X, pz_wr_gc, pz_wr_ga, pz_wr_gn, pz_wr_gi, pz_wr_gl, pz_wr_same, pz_wr_X, x10])
          (try refine po_gP (Nat.le_of_ble_eq_true rfl) ?_)
          refine po_call (by omega) (m_beginNamed (k := 27) (nm := c.nw) (len := 6) (by omega) s (sa_27 hS) (sn_27 hS) (Nat.le_refl _) (by decide) (by omega) (by decide) (fun i hi => ⟨(xN i hi).1, (o.2.2.2.2.1 i hi).1⟩) (fun _ _ _ M1 s1 f1 t1 hwd g27 => ?_) (fun _ z => absurd hg z))
          refine pw_blk (mi := mz_183) (b := bz_183_20) rfl rfl ?_
          simp only [bz_183_20, pz_cut_t, pz_cut_f, pz_cut_n, pv_gt, pv_ts, pv_tn, ev_ifne, pz_wi_gc, pz_wi_ga, pz_wi_gn, pz_wi_gl, pz_wi_gr, pz_wi_same, pz_wi_X, pz_wl_gc, pz_wl_ga, pz_wl_gn, pz_wl_gi, pz_wl_gr, pz_wl_same, pz_wl_X, pz_wr_gc, pz_wr_ga, pz_wr_gn, pz_wr_gi, pz_wr_gl, pz_wr_same, pz_wr_X, x10]
          (try simp (disch := omega) only [nI_clamp, pz_in_nI2, pz_in_nI2L, pv_gt, nI_add, nI_addL, nI_Ladd, pk_mul, nI_mulL, nI_Lmul, pk_sub, nI_subL, nI_Lsub, nI_inc, nI_clampL, Nat.add_sub_cancel, pz_wi_else, pz_wl_else, vu_eq, vu_ne, pz_wi_gc, pz_wi_ga, pz_wi_gn, pz_wi_gl, pz_wi_gr, pz_wi_same, pz_wi_X, pz_wl_gc, pz_wl_ga, pz_wl_gn, pz_wl_gi, pz_wl_gr, pz_wl_same, pz_wl_X, pz_wr_gc, pz_wr_ga, pz_wr_gn, pz_wr_gi, pz_wr_gl, pz_wr_same, pz_wr_X, x10])
          refine po_brP (fun q20 => ?_) (fun q20 => ?_)
          · skip
            (try simp (disch := omega) only [nI_ltI, nI_leI, nI_eq, nI_ltL, nI_leL, nI_eqL, nI_Llt, nI_Lle, nI_Leq, nI_eqm, nI_meq, nI_ltm, nI_lem, nI_mlt, nI_mle, lg0, lgl, lgg, lgle, lgge, Int32.not_lt, Int32.not_le, Int64.not_lt, Int64.not_le, not_false_eq_true, not_true_eq_false, Decidable.not_not, ge_iff_le, gt_iff_lt] at q20)
            have hS1 := t1.1.1
            have a0 : gi M1 19 0 = nI c.B := by rw [s1.i (by decide)]; exact x0
            have a10 : gi M1 19 10 = nI c.N := by rw [s1.i (by decide)]; exact x10
            have q1 : sm [1, 19, 27, 28, 29, 30, 31] M M1 := s1.mono (by decide)
            refine pw_blk (mi := mz_183) (b := bz_183_24) rfl rfl ?_
            simp only [bz_183_24, pz_cut_t, pz_cut_f, pz_cut_n, pv_gt, pv_ts, pv_tn, ev_ald0, ev_eld0, ev_gf4_2, ev_gf8_0, ev_ist1n, ev_ist1i, ev_ist1r, ev_ist1e, ev_ist1l, ev_gf8_2, ev_ild1, ev_ic2, ev_ic0, ev_ic1, ev_isub, ev_cv3_4, pz_wi_gc, pz_wi_ga, pz_wi_gn, pz_wi_gl, pz_wi_gr, pz_wi_same, pz_wi_X, pz_wl_gc, pz_wl_ga, pz_wl_gn, pz_wl_gi, pz_wl_gr, pz_wl_same, pz_wl_X, pz_wr_gc, pz_wr_ga, pz_wr_gn, pz_wr_gi, pz_wr_gl, pz_wr_same, pz_wr_X, so_18 hS, sr_18_1 hS, so_19 hS, sr_19_12 hS, sa_28 hS, sn_28 hS, x10, so_18 hS1, sr_18_1 hS1, so_19 hS1, sr_19_12 hS1, a0, a10]
            (try simp (disch := omega) only [nI_clamp, pz_in_nI2, pz_in_nI2L, pv_gt, nI_add, nI_addL, nI_Ladd, pk_mul, nI_mulL, nI_Lmul, pk_sub, nI_subL, nI_Lsub, nI_inc, nI_clampL, Nat.add_sub_cancel, pz_wi_else, pz_wl_else, vu_eq, vu_ne, pz_wi_gc, pz_wi_ga, pz_wi_gn, pz_wi_gl, pz_wi_gr, pz_wi_same, pz_wi_X, pz_wl_gc, pz_wl_ga, pz_wl_gn, pz_wl_gi, pz_wl_gr, pz_wl_same, pz_wl_X, pz_wr_gc, pz_wr_ga, pz_wr_gn, pz_wr_gi, pz_wr_gl, pz_wr_same, pz_wr_X, x10, so_18 hS1, sr_18_1 hS1, so_19 hS1, sr_19_12 hS1, a0, a10])
            (try refine po_gP (Nat.le_of_ble_eq_true rfl) ?_)
            refine po_call (by omega) (m_takeNumber (w := 2) (lo := 0) (hi := c.B) (by omega) (by decide) (by decide) (by omega) (by first | rfl | rw [nI_subL (n := 1) (by show 1 ≤ c.B; omega)]) t1 (fun _ M2 c2 t2 e2 l2 h2 => ?_) (fun z => by rw [z0] at z; cases z))
            rw [e2] at t2
            have q2 : sm [1, 19, 27, 28, 29, 30, 31] M M2 := q1.tr (c2.1.mono (by decide)) (fun _ z => z)
            have f2 : gi M2 1 2 = gi M 1 2 := by rw [c2.2]; exact f1
            have hS2 := t2.1.1
            have a0 : gi M2 19 0 = nI c.B := by rw [c2.1.i (by decide)]; exact a0
            have a10 : gi M2 19 10 = nI c.N := by rw [c2.1.i (by decide)]; exact a10
            refine pw_blk (mi := mz_183) (b := bz_183_55) rfl rfl ?_
            simp only [bz_183_55, pz_cut_t, pz_cut_f, pz_cut_n, pv_gt, pv_ts, pv_tn, ea_iast, ev_ald0, ev_eld0, ev_gf4_2, ev_gf8_2, ev_ild1, ev_ic3, ea_iald, ev_gf8_0, ev_ic1, ev_isub, ev_cv3_4, pz_wi_gc, pz_wi_ga, pz_wi_gn, pz_wi_gl, pz_wi_gr, pz_wi_same, pz_wi_X, pz_wl_gc, pz_wl_ga, pz_wl_gn, pz_wl_gi, pz_wl_gr, pz_wl_same, pz_wl_X, pz_wr_gc, pz_wr_ga, pz_wr_gn, pz_wr_gi, pz_wr_gl, pz_wr_same, pz_wr_X, so_18 hS, sr_18_1 hS, so_19 hS, sr_19_13 hS, sa_29 hS, sn_29 hS, sr_19_12 hS, sa_28 hS, sn_28 hS, x10, so_18 hS2, sr_18_1 hS2, so_19 hS2, sr_19_13 hS2, a0, a10, sa_28 hS2, sn_28 hS2, sr_19_12 hS2, sa_27 hS, sn_27 hS, sa_30 hS, sn_30 hS, sa_31 hS, sn_31 hS]
            (try simp (disch := omega) only [nI_clamp, pz_in_nI2, pz_in_nI2L, pv_gt, nI_add, nI_addL, nI_Ladd, pk_mul, nI_mulL, nI_Lmul, pk_sub, nI_subL, nI_Lsub, nI_inc, nI_clampL, Nat.add_sub_cancel, pz_wi_else, pz_wl_else, vu_eq, vu_ne, pz_wi_gc, pz_wi_ga, pz_wi_gn, pz_wi_gl, pz_wi_gr, pz_wi_same, pz_wi_X, pz_wl_gc, pz_wl_ga, pz_wl_gn, pz_wl_gi, pz_wl_gr, pz_wl_same, pz_wl_X, pz_wr_gc, pz_wr_ga, pz_wr_gn, pz_wr_gi, pz_wr_gl, pz_wr_same, pz_wr_X, x10, so_18 hS2, sr_18_1 hS2, so_19 hS2, sr_19_13 hS2, a0, a10, sa_28 hS2, sn_28 hS2, sr_19_12 hS2])
            (try refine po_gI (by first | exact pz_in_nI (by omega) (by decide) | decide | assumption) ?_)
            (try refine po_gI (by first | exact pz_in_nI (by omega) (by decide) | decide | assumption) ?_)
            (try refine po_gP (Nat.le_of_ble_eq_true rfl) ?_)
            refine po_call (by omega) (m_takeNumber (w := 3) (lo := (nuV (nxF ru T L (nxF ru T L (nxF ru T L σ))))) (hi := c.B) (by omega) (by decide) (by omega) (by omega) (by first | rfl | rw [nI_subL (n := 1) (by show 1 ≤ c.B; omega)]) (t2.sm (K := [28]) (sm.wi sm.rf (by decide)) (by decide) (by decide) (by decide)) (fun _ M3 c3 t3 e3 l3 h3 => ?_) (fun z => by rw [z1] at z; cases z))
            rw [e3] at t3
            have q3 : sm [1, 19, 27, 28, 29, 30, 31] M M3 := (q2.tr (sm.wi (K := [1, 19, 27, 28, 29, 30, 31]) sm.rf (by decide)) (fun _ z => z)).tr (c3.1.mono (by decide)) (fun _ z => z)
            have f3 : gi M3 1 2 = gi M 1 2 := by rw [c3.2, pz_wi_else (by decide)]; exact f2
            have r28_3 : gi M3 28 = va_up (gi M2 28) c.N (nI (nuV (nxF ru T L (nxF ru T L (nxF ru T L σ))))) := by rw [c3.1.i (by decide), pz_wi_same]
            have hS3 := t3.1.1
            have a0 : gi M3 19 0 = nI c.B := by rw [c3.1.i (by decide), pz_wi_else (by decide)]; exact a0
            have a10 : gi M3 19 10 = nI c.N := by rw [c3.1.i (by decide), pz_wi_else (by decide)]; exact a10
            refine pw_blk (mi := mz_183) (b := bz_183_87) rfl rfl ?_
            simp only [bz_183_87, pz_cut_t, pz_cut_f, pz_cut_n, pv_gt, pv_ts, pv_tn, ea_iast, ev_ald0, ev_eld0, ev_gf4_2, ev_gf8_2, ev_ild1, ev_bp14, ev_ic0, ev_bp20, ev_cv3_4, pz_wi_gc, pz_wi_ga, pz_wi_gn, pz_wi_gl, pz_wi_gr, pz_wi_same, pz_wi_X, pz_wl_gc, pz_wl_ga, pz_wl_gn, pz_wl_gi, pz_wl_gr, pz_wl_same, pz_wl_X, pz_wr_gc, pz_wr_ga, pz_wr_gn, pz_wr_gi, pz_wr_gl, pz_wr_same, pz_wr_X, so_18 hS, sr_18_1 hS, so_19 hS, sr_19_14 hS, sa_30 hS, sn_30 hS, x10, so_18 hS3, sr_18_1 hS3, so_19 hS3, sr_19_14 hS3, a0, a10, sa_29 hS3, sn_29 hS3, sa_27 hS, sn_27 hS, sa_28 hS, sn_28 hS, sa_29 hS, sn_29 hS, sa_31 hS, sn_31 hS]
            (try simp (disch := omega) only [nI_clamp, pz_in_nI2, pz_in_nI2L, pv_gt, nI_add, nI_addL, nI_Ladd, pk_mul, nI_mulL, nI_Lmul, pk_sub, nI_subL, nI_Lsub, nI_inc, nI_clampL, Nat.add_sub_cancel, pz_wi_else, pz_wl_else, vu_eq, vu_ne, pz_wi_gc, pz_wi_ga, pz_wi_gn, pz_wi_gl, pz_wi_gr, pz_wi_same, pz_wi_X, pz_wl_gc, pz_wl_ga, pz_wl_gn, pz_wl_gi, pz_wl_gr, pz_wl_same, pz_wl_X, pz_wr_gc, pz_wr_ga, pz_wr_gn, pz_wr_gi, pz_wr_gl, pz_wr_same, pz_wr_X, x10, so_18 hS3, sr_18_1 hS3, so_19 hS3, sr_19_14 hS3, a0, a10, sa_29 hS3, sn_29 hS3])
            (try refine po_gI (by first | exact pz_in_nI (by omega) (by decide) | decide | assumption) ?_)
            (try refine po_gP (Nat.le_of_ble_eq_true rfl) ?_)
            refine po_call (by omega) (m_takeNumber (w := 14) (lo := 0) (hi := 21) (by omega) (by decide) (by decide) (by decide) rfl (t3.sm (K := [29]) (sm.wi sm.rf (by decide)) (by decide) (by decide) (by decide)) (fun z => by rw [z2] at z; cases z) (fun _ M4 c4 t4 => ?_))
            have q4 : sm [1, 19, 27, 28, 29, 30, 31] M M4 := (q3.tr (sm.wi (K := [1, 19, 27, 28, 29, 30, 31]) sm.rf (by decide)) (fun _ z => z)).tr (c4.1.mono (by decide)) (fun _ z => z)
            have f4 : gi M4 1 2 = gi M 1 2 := by rw [c4.2, pz_wi_else (by decide)]; exact f3
            have r29_4 : gi M4 29 = va_up (gi M3 29) c.N (nI (nuV (nxF ru T L (nxF ru T L (nxF ru T L (nxF ru T L (nxF ru T L σ))))))) := by rw [c4.1.i (by decide), pz_wi_same]
            have hS4 := t4.1.1
            have a0 : gi M4 19 0 = nI c.B := by rw [c4.1.i (by decide), pz_wi_else (by decide)]; exact a0
            have a10 : gi M4 19 10 = nI c.N := by rw [c4.1.i (by decide), pz_wi_else (by decide)]; exact a10
            refine pw_blk (mi := mz_183) (b := bz_183_105) rfl rfl ?_
            simp only [bz_183_105, pz_cut_t, pz_cut_f, pz_cut_n, pv_gt, pv_ts, pv_tn, ea_iast, ev_ald0, ev_eld0, ev_gf4_2, ev_gf8_2, ev_ild1, ev_bp15, ev_ic0, ev_bp20, ev_cv3_4, pz_wi_gc, pz_wi_ga, pz_wi_gn, pz_wi_gl, pz_wi_gr, pz_wi_same, pz_wi_X, pz_wl_gc, pz_wl_ga, pz_wl_gn, pz_wl_gi, pz_wl_gr, pz_wl_same, pz_wl_X, pz_wr_gc, pz_wr_ga, pz_wr_gn, pz_wr_gi, pz_wr_gl, pz_wr_same, pz_wr_X, so_18 hS, sr_18_1 hS, so_19 hS, sr_19_15 hS, sa_31 hS, sn_31 hS, x10, so_18 hS4, sr_18_1 hS4, so_19 hS4, sr_19_15 hS4, a0, a10, sa_30 hS4, sn_30 hS4, sa_27 hS, sn_27 hS, sa_28 hS, sn_28 hS, sa_29 hS, sn_29 hS, sa_30 hS, sn_30 hS]
            (try simp (disch := omega) only [nI_clamp, pz_in_nI2, pz_in_nI2L, pv_gt, nI_add, nI_addL, nI_Ladd, pk_mul, nI_mulL, nI_Lmul, pk_sub, nI_subL, nI_Lsub, nI_inc, nI_clampL, Nat.add_sub_cancel, pz_wi_else, pz_wl_else, vu_eq, vu_ne, pz_wi_gc, pz_wi_ga, pz_wi_gn, pz_wi_gl, pz_wi_gr, pz_wi_same, pz_wi_X, pz_wl_gc, pz_wl_ga, pz_wl_gn, pz_wl_gi, pz_wl_gr, pz_wl_same, pz_wl_X, pz_wr_gc, pz_wr_ga, pz_wr_gn, pz_wr_gi, pz_wr_gl, pz_wr_same, pz_wr_X, x10, so_18 hS4, sr_18_1 hS4, so_19 hS4, sr_19_15 hS4, a0, a10, sa_30 hS4, sn_30 hS4])
            (try refine po_gI (by first | exact pz_in_nI (by omega) (by decide) | decide | assumption) ?_)
            (try refine po_gP (Nat.le_of_ble_eq_true rfl) ?_)
            refine po_call (by omega) (m_takeNumberF (w := 15) (by omega) (by decide) (t4.sm (K := [30]) (sm.wi sm.rf (by decide)) (by decide) (by decide) (by decide)) (tnF_G z2) (fun M5 c5 t5 => ?_))
            have q5 : sm [1, 19, 27, 28, 29, 30, 31] M M5 := (q4.tr (sm.wi (K := [1, 19, 27, 28, 29, 30, 31]) sm.rf (by decide)) (fun _ z => z)).tr (c5.1.mono (by decide)) (fun _ z => z)
            have f5 : gi M5 1 2 = gi M 1 2 := by rw [c5.2, pz_wi_else (by decide)]; exact f4
            have r30_5 : gi M5 30 = va_up (gi M4 30) c.N (-1) := by rw [c5.1.i (by decide), pz_wi_same]
            have hS5 := t5.1.1
            have a0 : gi M5 19 0 = nI c.B := by rw [c5.1.i (by decide), pz_wi_else (by decide)]; exact a0
            have a10 : gi M5 19 10 = nI c.N := by rw [c5.1.i (by decide), pz_wi_else (by decide)]; exact a10
            refine pw_blk (mi := mz_183) (b := bz_183_123) rfl rfl ?_
            simp only [bz_183_123, pz_cut_t, pz_cut_f, pz_cut_n, pv_gt, pv_ts, pv_tn, ea_iast, ev_ald0, ev_eld0, ev_gf4_2, ev_bp59, ev_cv1_10, pz_wi_gc, pz_wi_ga, pz_wi_gn, pz_wi_gl, pz_wi_gr, pz_wi_same, pz_wi_X, pz_wl_gc, pz_wl_ga, pz_wl_gn, pz_wl_gi, pz_wl_gr, pz_wl_same, pz_wl_X, pz_wr_gc, pz_wr_ga, pz_wr_gn, pz_wr_gi, pz_wr_gl, pz_wr_same, pz_wr_X, so_18 hS, sr_18_0 hS, so_1 hS, x10, so_18 hS5, sr_18_0 hS5, so_1 hS5, sa_31 hS5, sn_31 hS5, sa_27 hS, sn_27 hS, sa_28 hS, sn_28 hS, sa_29 hS, sn_29 hS, sa_30 hS, sn_30 hS, sa_31 hS, sn_31 hS]
            (try simp (disch := omega) only [nI_clamp, pz_in_nI2, pz_in_nI2L, pv_gt, nI_add, nI_addL, nI_Ladd, pk_mul, nI_mulL, nI_Lmul, pk_sub, nI_subL, nI_Lsub, nI_inc, nI_clampL, Nat.add_sub_cancel, pz_wi_else, pz_wl_else, vu_eq, vu_ne, pz_wi_gc, pz_wi_ga, pz_wi_gn, pz_wi_gl, pz_wi_gr, pz_wi_same, pz_wi_X, pz_wl_gc, pz_wl_ga, pz_wl_gn, pz_wl_gi, pz_wl_gr, pz_wl_same, pz_wl_X, pz_wr_gc, pz_wr_ga, pz_wr_gn, pz_wr_gi, pz_wr_gl, pz_wr_same, pz_wr_X, x10, so_18 hS5, sr_18_0 hS5, so_1 hS5, sa_31 hS5, sn_31 hS5])
            (try refine po_gI (by first | exact pz_in_nI (by omega) (by decide) | decide | assumption) ?_)
            (try refine po_gP (Nat.le_of_ble_eq_true rfl) ?_)
            refine po_call (by omega) (m_takeSign (c := 59) (by omega) (by decide) (t5.sm (K := [31]) (sm.wi sm.rf (by decide)) (by decide) (by decide) (by decide)) (fun M6 c6 t6 => ?_))
            have q6 : sm [1, 19, 27, 28, 29, 30, 31] M M6 := (q5.tr (sm.wi (K := [1, 19, 27, 28, 29, 30, 31]) sm.rf (by decide)) (fun _ z => z)).tr (c6.1.mono (by decide)) (fun _ z => z)
            have f6 : gi M6 1 2 = gi M 1 2 := by rw [c6.2, pz_wi_else (by decide)]; exact f5
            have hS6 := t6.1.1
            have b10 : gi M6 19 10 = nI c.N := by rw [c6.1.i (by decide), pz_wi_else (by decide)]; exact a10
            refine pw_blk (mi := mz_183) (b := bz_183_133) rfl rfl ?_
            simp only [bz_183_133, pz_cut_t, pz_cut_f, pz_cut_n, pv_gt, pv_ts, pv_tn, ev_ald0, ev_eld0, ev_gf4_2, ev_dupi, ev_dupr, ev_dupe, ev_gf8_0, ev_ic1, ev_iadd, ev_pf8_0, ev_ret, pz_wi_gc, pz_wi_ga, pz_wi_gn, pz_wi_gl, pz_wi_gr, pz_wi_same, pz_wi_X, pz_wl_gc, pz_wl_ga, pz_wl_gn, pz_wl_gi, pz_wl_gr, pz_wl_same, pz_wl_X, pz_wr_gc, pz_wr_ga, pz_wr_gn, pz_wr_gi, pz_wr_gl, pz_wr_same, pz_wr_X, so_18 hS, sr_18_1 hS, so_19 hS, x10, so_18 hS6, sr_18_1 hS6, so_19 hS6, b10]
            (try simp (disch := omega) only [nI_clamp, pz_in_nI2, pz_in_nI2L, pv_gt, nI_add, nI_addL, nI_Ladd, pk_mul, nI_mulL, nI_Lmul, pk_sub, nI_subL, nI_Lsub, nI_inc, nI_clampL, Nat.add_sub_cancel, pz_wi_else, pz_wl_else, vu_eq, vu_ne, pz_wi_gc, pz_wi_ga, pz_wi_gn, pz_wi_gl, pz_wi_gr, pz_wi_same, pz_wi_X, pz_wl_gc, pz_wl_ga, pz_wl_gn, pz_wl_gi, pz_wl_gr, pz_wl_same, pz_wl_X, pz_wr_gc, pz_wr_ga, pz_wr_gn, pz_wr_gi, pz_wr_gl, pz_wr_same, pz_wr_X, x10, so_18 hS6, sr_18_1 hS6, so_19 hS6, b10])
            refine po_then (fun M7 hM7 => ?_)
            have s7 : sm [19] M6 M7 := by
              rw [hM7]
              exact sm.wi sm.rf (by decide)
            have et : tsF ru T L 59 (tnF ru T L 14 0 21 (nxF ru T L (nxF ru T L (nxF ru T L (nxF ru T L (nxF ru T L (nxF ru T L σ))))))) = tnF ru T L 14 0 21 (nxF ru T L (nxF ru T L (nxF ru T L (nxF ru T L (nxF ru T L (nxF ru T L σ)))))) := tsF_f (tnF_G z2)
            rw [et] at t6
            exact k M7 (q6.tr s7 (by decide)) (by rw [s7.i (by decide)]; exact f6) (t6.sm s7 (by decide) (by decide) (by decide)) (fun z => by rw [tnF_G z2] at z; cases z)
          · first
            | exact absurd q20 (by decide)
            | exact absurd trivial q20
            | exact q20.elim
            | (exfalso; (try simp (disch := omega) only [nI_ltI, nI_leI, nI_eq, nI_ltL, nI_leL, nI_eqL, nI_Llt, nI_Lle, nI_Leq, nI_eqm, nI_meq, nI_ltm, nI_lem, nI_mlt, nI_mle, lg0, lgl, lgg, lgle, lgge, Int32.not_lt, Int32.not_le, Int64.not_lt, Int64.not_le, not_false_eq_true, not_true_eq_false, Decidable.not_not, ge_iff_le, gt_iff_lt] at q20) <;> omega)
            | exact absurd q20 (by with_reducible assumption)
            | exact absurd (by with_reducible assumption) q20
            | exact absurd (Decidable.not_not.mp q20) (by with_reducible assumption)
            | exact absurd (by with_reducible assumption) (Int32.not_le.mpr q20)
            | exact absurd (by with_reducible assumption) (Int32.not_lt.mpr q20)
        | true =>
          rw [if_pos z2] at k
          cases z3 : tnB ru T L 15 0 21 (nxF ru T L (nxF ru T L (nxF ru T L (nxF ru T L (nxF ru T L (nxF ru T L (nxF ru T L (nxF ru T L σ)))))))) with
          | false =>
            rw [if_neg (by rw [z3]; decide)] at k
            refine pm_ent (L := [some (.ref 18), none]) rfl (Nat.le_of_ble_eq_true rfl) ?_
            refine pw_blk (mi := mz_183) (b := bz_183_0) rfl rfl ?_
            simp only [bz_183_0, pz_cut_t, pz_cut_f, pz_cut_n, pv_gt, pv_ts, pv_tn, ev_ald0, ev_eld0, ev_gf4_2, ev_gf8_0, ev_bp6, ev_gf8_2, ev_cv3_4, pz_wi_gc, pz_wi_ga, pz_wi_gn, pz_wi_gl, pz_wi_gr, pz_wi_same, pz_wi_X, pz_wl_gc, pz_wl_ga, pz_wl_gn, pz_wl_gi, pz_wl_gr, pz_wl_same, pz_wl_X, pz_wr_gc, pz_wr_ga, pz_wr_gn, pz_wr_gi, pz_wr_gl, pz_wr_same, pz_wr_X, so_18 hS, sr_18_1 hS, so_19 hS, sr_19_11 hS, sa_27 hS, sn_27 hS, x10]
            (try simp (disch := omega) only [nI_clamp, pz_in_nI2, pz_in_nI2L, pv_gt, nI_add, nI_addL, nI_Ladd, pk_mul, nI_mulL, nI_Lmul, pk_sub, nI_subL, nI_Lsub, nI_inc, nI_clampL, Nat.add_sub_cancel, pz_wi_else, pz_wl_else, vu_eq, vu_ne, pz_wi_gc, pz_wi_ga, pz_wi_gn, pz_wi_gl, pz_wi_gr, pz_wi_same, pz_wi_X, pz_wl_gc, pz_wl_ga, pz_wl_gn, pz_wl_gi, pz_wl_gr, pz_wl_same, pz_wl_X, pz_wr_gc, pz_wr_ga, pz_wr_gn, pz_wr_gi, pz_wr_gl, pz_wr_same, pz_wr_X, x10])
            (try refine po_gP (Nat.le_of_ble_eq_true rfl) ?_)
            refine po_call (by omega) (m_beginNamed (k := 27) (nm := c.nw) (len := 6) (by omega) s (sa_27 hS) (sn_27 hS) (Nat.le_refl _) (by decide) (by omega) (by decide) (fun i hi => ⟨(xN i hi).1, (o.2.2.2.2.1 i hi).1⟩) (fun _ _ _ M1 s1 f1 t1 hwd g27 => ?_) (fun _ z => absurd hg z))
            refine pw_blk (mi := mz_183) (b := bz_183_20) rfl rfl ?_
            simp only [bz_183_20, pz_cut_t, pz_cut_f, pz_cut_n, pv_gt, pv_ts, pv_tn, ev_ifne, pz_wi_gc, pz_wi_ga, pz_wi_gn, pz_wi_gl, pz_wi_gr, pz_wi_same, pz_wi_X, pz_wl_gc, pz_wl_ga, pz_wl_gn, pz_wl_gi, pz_wl_gr, pz_wl_same, pz_wl_X, pz_wr_gc, pz_wr_ga, pz_wr_gn, pz_wr_gi, pz_wr_gl, pz_wr_same, pz_wr_X, x10]
            (try simp (disch := omega) only [nI_clamp, pz_in_nI2, pz_in_nI2L, pv_gt, nI_add, nI_addL, nI_Ladd, pk_mul, nI_mulL, nI_Lmul, pk_sub, nI_subL, nI_Lsub, nI_inc, nI_clampL, Nat.add_sub_cancel, pz_wi_else, pz_wl_else, vu_eq, vu_ne, pz_wi_gc, pz_wi_ga, pz_wi_gn, pz_wi_gl, pz_wi_gr, pz_wi_same, pz_wi_X, pz_wl_gc, pz_wl_ga, pz_wl_gn, pz_wl_gi, pz_wl_gr, pz_wl_same, pz_wl_X, pz_wr_gc, pz_wr_ga, pz_wr_gn, pz_wr_gi, pz_wr_gl, pz_wr_same, pz_wr_X, x10])
            refine po_brP (fun q20 => ?_) (fun q20 => ?_)
            · skip
              (try simp (disch := omega) only [nI_ltI, nI_leI, nI_eq, nI_ltL, nI_leL, nI_eqL, nI_Llt, nI_Lle, nI_Leq, nI_eqm, nI_meq, nI_ltm, nI_lem, nI_mlt, nI_mle, lg0, lgl, lgg, lgle, lgge, Int32.not_lt, Int32.not_le, Int64.not_lt, Int64.not_le, not_false_eq_true, not_true_eq_false, Decidable.not_not, ge_iff_le, gt_iff_lt] at q20)
              have hS1 := t1.1.1
              have a0 : gi M1 19 0 = nI c.B := by rw [s1.i (by decide)]; exact x0
              have a10 : gi M1 19 10 = nI c.N := by rw [s1.i (by decide)]; exact x10
              have q1 : sm [1, 19, 27, 28, 29, 30, 31] M M1 := s1.mono (by decide)
              refine pw_blk (mi := mz_183) (b := bz_183_24) rfl rfl ?_
              simp only [bz_183_24, pz_cut_t, pz_cut_f, pz_cut_n, pv_gt, pv_ts, pv_tn, ev_ald0, ev_eld0, ev_gf4_2, ev_gf8_0, ev_ist1n, ev_ist1i, ev_ist1r, ev_ist1e, ev_ist1l, ev_gf8_2, ev_ild1, ev_ic2, ev_ic0, ev_ic1, ev_isub, ev_cv3_4, pz_wi_gc, pz_wi_ga, pz_wi_gn, pz_wi_gl, pz_wi_gr, pz_wi_same, pz_wi_X, pz_wl_gc, pz_wl_ga, pz_wl_gn, pz_wl_gi, pz_wl_gr, pz_wl_same, pz_wl_X, pz_wr_gc, pz_wr_ga, pz_wr_gn, pz_wr_gi, pz_wr_gl, pz_wr_same, pz_wr_X, so_18 hS, sr_18_1 hS, so_19 hS, sr_19_12 hS, sa_28 hS, sn_28 hS, x10, so_18 hS1, sr_18_1 hS1, so_19 hS1, sr_19_12 hS1, a0, a10]
              (try simp (disch := omega) only [nI_clamp, pz_in_nI2, pz_in_nI2L, pv_gt, nI_add, nI_addL, nI_Ladd, pk_mul, nI_mulL, nI_Lmul, pk_sub, nI_subL, nI_Lsub, nI_inc, nI_clampL, Nat.add_sub_cancel, pz_wi_else, pz_wl_else, vu_eq, vu_ne, pz_wi_gc, pz_wi_ga, pz_wi_gn, pz_wi_gl, pz_wi_gr, pz_wi_same, pz_wi_X, pz_wl_gc, pz_wl_ga, pz_wl_gn, pz_wl_gi, pz_wl_gr, pz_wl_same, pz_wl_X, pz_wr_gc, pz_wr_ga, pz_wr_gn, pz_wr_gi, pz_wr_gl, pz_wr_same, pz_wr_X, x10, so_18 hS1, sr_18_1 hS1, so_19 hS1, sr_19_12 hS1, a0, a10])
              (try refine po_gP (Nat.le_of_ble_eq_true rfl) ?_)
              refine po_call (by omega) (m_takeNumber (w := 2) (lo := 0) (hi := c.B) (by omega) (by decide) (by decide) (by omega) (by first | rfl | rw [nI_subL (n := 1) (by show 1 ≤ c.B; omega)]) t1 (fun _ M2 c2 t2 e2 l2 h2 => ?_) (fun z => by rw [z0] at z; cases z))
              rw [e2] at t2
              have q2 : sm [1, 19, 27, 28, 29, 30, 31] M M2 := q1.tr (c2.1.mono (by decide)) (fun _ z => z)
              have f2 : gi M2 1 2 = gi M 1 2 := by rw [c2.2]; exact f1
              have hS2 := t2.1.1
              have a0 : gi M2 19 0 = nI c.B := by rw [c2.1.i (by decide)]; exact a0
              have a10 : gi M2 19 10 = nI c.N := by rw [c2.1.i (by decide)]; exact a10
              refine pw_blk (mi := mz_183) (b := bz_183_55) rfl rfl ?_
              simp only [bz_183_55, pz_cut_t, pz_cut_f, pz_cut_n, pv_gt, pv_ts, pv_tn, ea_iast, ev_ald0, ev_eld0, ev_gf4_2, ev_gf8_2, ev_ild1, ev_ic3, ea_iald, ev_gf8_0, ev_ic1, ev_isub, ev_cv3_4, pz_wi_gc, pz_wi_ga, pz_wi_gn, pz_wi_gl, pz_wi_gr, pz_wi_same, pz_wi_X, pz_wl_gc, pz_wl_ga, pz_wl_gn, pz_wl_gi, pz_wl_gr, pz_wl_same, pz_wl_X, pz_wr_gc, pz_wr_ga, pz_wr_gn, pz_wr_gi, pz_wr_gl, pz_wr_same, pz_wr_X, so_18 hS, sr_18_1 hS, so_19 hS, sr_19_13 hS, sa_29 hS, sn_29 hS, sr_19_12 hS, sa_28 hS, sn_28 hS, x10, so_18 hS2, sr_18_1 hS2, so_19 hS2, sr_19_13 hS2, a0, a10, sa_28 hS2, sn_28 hS2, sr_19_12 hS2, sa_27 hS, sn_27 hS, sa_30 hS, sn_30 hS, sa_31 hS, sn_31 hS]
              (try simp (disch := omega) only [nI_clamp, pz_in_nI2, pz_in_nI2L, pv_gt, nI_add, nI_addL, nI_Ladd, pk_mul, nI_mulL, nI_Lmul, pk_sub, nI_subL, nI_Lsub, nI_inc, nI_clampL, Nat.add_sub_cancel, pz_wi_else, pz_wl_else, vu_eq, vu_ne, pz_wi_gc, pz_wi_ga, pz_wi_gn, pz_wi_gl, pz_wi_gr, pz_wi_same, pz_wi_X, pz_wl_gc, pz_wl_ga, pz_wl_gn, pz_wl_gi, pz_wl_gr, pz_wl_same, pz_wl_X, pz_wr_gc, pz_wr_ga, pz_wr_gn, pz_wr_gi, pz_wr_gl, pz_wr_same, pz_wr_X, x10, so_18 hS2, sr_18_1 hS2, so_19 hS2, sr_19_13 hS2, a0, a10, sa_28 hS2, sn_28 hS2, sr_19_12 hS2])
              (try refine po_gI (by first | exact pz_in_nI (by omega) (by decide) | decide | assumption) ?_)
              (try refine po_gI (by first | exact pz_in_nI (by omega) (by decide) | decide | assumption) ?_)
              (try refine po_gP (Nat.le_of_ble_eq_true rfl) ?_)
              refine po_call (by omega) (m_takeNumber (w := 3) (lo := (nuV (nxF ru T L (nxF ru T L (nxF ru T L σ))))) (hi := c.B) (by omega) (by decide) (by omega) (by omega) (by first | rfl | rw [nI_subL (n := 1) (by show 1 ≤ c.B; omega)]) (t2.sm (K := [28]) (sm.wi sm.rf (by decide)) (by decide) (by decide) (by decide)) (fun _ M3 c3 t3 e3 l3 h3 => ?_) (fun z => by rw [z1] at z; cases z))
              rw [e3] at t3
              have q3 : sm [1, 19, 27, 28, 29, 30, 31] M M3 := (q2.tr (sm.wi (K := [1, 19, 27, 28, 29, 30, 31]) sm.rf (by decide)) (fun _ z => z)).tr (c3.1.mono (by decide)) (fun _ z => z)
              have f3 : gi M3 1 2 = gi M 1 2 := by rw [c3.2, pz_wi_else (by decide)]; exact f2
              have r28_3 : gi M3 28 = va_up (gi M2 28) c.N (nI (nuV (nxF ru T L (nxF ru T L (nxF ru T L σ))))) := by rw [c3.1.i (by decide), pz_wi_same]
              have hS3 := t3.1.1
              have a0 : gi M3 19 0 = nI c.B := by rw [c3.1.i (by decide), pz_wi_else (by decide)]; exact a0
              have a10 : gi M3 19 10 = nI c.N := by rw [c3.1.i (by decide), pz_wi_else (by decide)]; exact a10
              refine pw_blk (mi := mz_183) (b := bz_183_87) rfl rfl ?_
              simp only [bz_183_87, pz_cut_t, pz_cut_f, pz_cut_n, pv_gt, pv_ts, pv_tn, ea_iast, ev_ald0, ev_eld0, ev_gf4_2, ev_gf8_2, ev_ild1, ev_bp14, ev_ic0, ev_bp20, ev_cv3_4, pz_wi_gc, pz_wi_ga, pz_wi_gn, pz_wi_gl, pz_wi_gr, pz_wi_same, pz_wi_X, pz_wl_gc, pz_wl_ga, pz_wl_gn, pz_wl_gi, pz_wl_gr, pz_wl_same, pz_wl_X, pz_wr_gc, pz_wr_ga, pz_wr_gn, pz_wr_gi, pz_wr_gl, pz_wr_same, pz_wr_X, so_18 hS, sr_18_1 hS, so_19 hS, sr_19_14 hS, sa_30 hS, sn_30 hS, x10, so_18 hS3, sr_18_1 hS3, so_19 hS3, sr_19_14 hS3, a0, a10, sa_29 hS3, sn_29 hS3, sa_27 hS, sn_27 hS, sa_28 hS, sn_28 hS, sa_29 hS, sn_29 hS, sa_31 hS, sn_31 hS]
              (try simp (disch := omega) only [nI_clamp, pz_in_nI2, pz_in_nI2L, pv_gt, nI_add, nI_addL, nI_Ladd, pk_mul, nI_mulL, nI_Lmul, pk_sub, nI_subL, nI_Lsub, nI_inc, nI_clampL, Nat.add_sub_cancel, pz_wi_else, pz_wl_else, vu_eq, vu_ne, pz_wi_gc, pz_wi_ga, pz_wi_gn, pz_wi_gl, pz_wi_gr, pz_wi_same, pz_wi_X, pz_wl_gc, pz_wl_ga, pz_wl_gn, pz_wl_gi, pz_wl_gr, pz_wl_same, pz_wl_X, pz_wr_gc, pz_wr_ga, pz_wr_gn, pz_wr_gi, pz_wr_gl, pz_wr_same, pz_wr_X, x10, so_18 hS3, sr_18_1 hS3, so_19 hS3, sr_19_14 hS3, a0, a10, sa_29 hS3, sn_29 hS3])
              (try refine po_gI (by first | exact pz_in_nI (by omega) (by decide) | decide | assumption) ?_)
              (try refine po_gP (Nat.le_of_ble_eq_true rfl) ?_)
              refine po_call (by omega) (m_takeNumber (w := 14) (lo := 0) (hi := 21) (by omega) (by decide) (by decide) (by decide) rfl (t3.sm (K := [29]) (sm.wi sm.rf (by decide)) (by decide) (by decide) (by decide)) (fun _ M4 c4 t4 e4 l4 h4 => ?_) (fun z => by rw [z2] at z; cases z))
              rw [e4] at t4
              have q4 : sm [1, 19, 27, 28, 29, 30, 31] M M4 := (q3.tr (sm.wi (K := [1, 19, 27, 28, 29, 30, 31]) sm.rf (by decide)) (fun _ z => z)).tr (c4.1.mono (by decide)) (fun _ z => z)
              have f4 : gi M4 1 2 = gi M 1 2 := by rw [c4.2, pz_wi_else (by decide)]; exact f3
              have r29_4 : gi M4 29 = va_up (gi M3 29) c.N (nI (nuV (nxF ru T L (nxF ru T L (nxF ru T L (nxF ru T L (nxF ru T L σ))))))) := by rw [c4.1.i (by decide), pz_wi_same]
              have hS4 := t4.1.1
              have a0 : gi M4 19 0 = nI c.B := by rw [c4.1.i (by decide), pz_wi_else (by decide)]; exact a0
              have a10 : gi M4 19 10 = nI c.N := by rw [c4.1.i (by decide), pz_wi_else (by decide)]; exact a10
              refine pw_blk (mi := mz_183) (b := bz_183_105) rfl rfl ?_
              simp only [bz_183_105, pz_cut_t, pz_cut_f, pz_cut_n, pv_gt, pv_ts, pv_tn, ea_iast, ev_ald0, ev_eld0, ev_gf4_2, ev_gf8_2, ev_ild1, ev_bp15, ev_ic0, ev_bp20, ev_cv3_4, pz_wi_gc, pz_wi_ga, pz_wi_gn, pz_wi_gl, pz_wi_gr, pz_wi_same, pz_wi_X, pz_wl_gc, pz_wl_ga, pz_wl_gn, pz_wl_gi, pz_wl_gr, pz_wl_same, pz_wl_X, pz_wr_gc, pz_wr_ga, pz_wr_gn, pz_wr_gi, pz_wr_gl, pz_wr_same, pz_wr_X, so_18 hS, sr_18_1 hS, so_19 hS, sr_19_15 hS, sa_31 hS, sn_31 hS, x10, so_18 hS4, sr_18_1 hS4, so_19 hS4, sr_19_15 hS4, a0, a10, sa_30 hS4, sn_30 hS4, sa_27 hS, sn_27 hS, sa_28 hS, sn_28 hS, sa_29 hS, sn_29 hS, sa_30 hS, sn_30 hS]
              (try simp (disch := omega) only [nI_clamp, pz_in_nI2, pz_in_nI2L, pv_gt, nI_add, nI_addL, nI_Ladd, pk_mul, nI_mulL, nI_Lmul, pk_sub, nI_subL, nI_Lsub, nI_inc, nI_clampL, Nat.add_sub_cancel, pz_wi_else, pz_wl_else, vu_eq, vu_ne, pz_wi_gc, pz_wi_ga, pz_wi_gn, pz_wi_gl, pz_wi_gr, pz_wi_same, pz_wi_X, pz_wl_gc, pz_wl_ga, pz_wl_gn, pz_wl_gi, pz_wl_gr, pz_wl_same, pz_wl_X, pz_wr_gc, pz_wr_ga, pz_wr_gn, pz_wr_gi, pz_wr_gl, pz_wr_same, pz_wr_X, x10, so_18 hS4, sr_18_1 hS4, so_19 hS4, sr_19_15 hS4, a0, a10, sa_30 hS4, sn_30 hS4])
              (try refine po_gI (by first | exact pz_in_nI (by omega) (by decide) | decide | assumption) ?_)
              (try refine po_gP (Nat.le_of_ble_eq_true rfl) ?_)
              refine po_call (by omega) (m_takeNumber (w := 15) (lo := 0) (hi := 21) (by omega) (by decide) (by decide) (by decide) rfl (t4.sm (K := [30]) (sm.wi sm.rf (by decide)) (by decide) (by decide) (by decide)) (fun z => by rw [z3] at z; cases z) (fun _ M5 c5 t5 => ?_))
              have q5 : sm [1, 19, 27, 28, 29, 30, 31] M M5 := (q4.tr (sm.wi (K := [1, 19, 27, 28, 29, 30, 31]) sm.rf (by decide)) (fun _ z => z)).tr (c5.1.mono (by decide)) (fun _ z => z)
              have f5 : gi M5 1 2 = gi M 1 2 := by rw [c5.2, pz_wi_else (by decide)]; exact f4
              have r30_5 : gi M5 30 = va_up (gi M4 30) c.N (nI (nuV (nxF ru T L (nxF ru T L (nxF ru T L (nxF ru T L (nxF ru T L (nxF ru T L (nxF ru T L σ))))))))) := by rw [c5.1.i (by decide), pz_wi_same]
              have hS5 := t5.1.1
              have a0 : gi M5 19 0 = nI c.B := by rw [c5.1.i (by decide), pz_wi_else (by decide)]; exact a0
              have a10 : gi M5 19 10 = nI c.N := by rw [c5.1.i (by decide), pz_wi_else (by decide)]; exact a10
              refine pw_blk (mi := mz_183) (b := bz_183_123) rfl rfl ?_
              simp only [bz_183_123, pz_cut_t, pz_cut_f, pz_cut_n, pv_gt, pv_ts, pv_tn, ea_iast, ev_ald0, ev_eld0, ev_gf4_2, ev_bp59, ev_cv1_10, pz_wi_gc, pz_wi_ga, pz_wi_gn, pz_wi_gl, pz_wi_gr, pz_wi_same, pz_wi_X, pz_wl_gc, pz_wl_ga, pz_wl_gn, pz_wl_gi, pz_wl_gr, pz_wl_same, pz_wl_X, pz_wr_gc, pz_wr_ga, pz_wr_gn, pz_wr_gi, pz_wr_gl, pz_wr_same, pz_wr_X, so_18 hS, sr_18_0 hS, so_1 hS, x10, so_18 hS5, sr_18_0 hS5, so_1 hS5, sa_31 hS5, sn_31 hS5, sa_27 hS, sn_27 hS, sa_28 hS, sn_28 hS, sa_29 hS, sn_29 hS, sa_30 hS, sn_30 hS, sa_31 hS, sn_31 hS]
              (try simp (disch := omega) only [nI_clamp, pz_in_nI2, pz_in_nI2L, pv_gt, nI_add, nI_addL, nI_Ladd, pk_mul, nI_mulL, nI_Lmul, pk_sub, nI_subL, nI_Lsub, nI_inc, nI_clampL, Nat.add_sub_cancel, pz_wi_else, pz_wl_else, vu_eq, vu_ne, pz_wi_gc, pz_wi_ga, pz_wi_gn, pz_wi_gl, pz_wi_gr, pz_wi_same, pz_wi_X, pz_wl_gc, pz_wl_ga, pz_wl_gn, pz_wl_gi, pz_wl_gr, pz_wl_same, pz_wl_X, pz_wr_gc, pz_wr_ga, pz_wr_gn, pz_wr_gi, pz_wr_gl, pz_wr_same, pz_wr_X, x10, so_18 hS5, sr_18_0 hS5, so_1 hS5, sa_31 hS5, sn_31 hS5])
              (try refine po_gI (by first | exact pz_in_nI (by omega) (by decide) | decide | assumption) ?_)
              (try refine po_gP (Nat.le_of_ble_eq_true rfl) ?_)
              refine po_call (by omega) (m_takeSign (c := 59) (by omega) (by decide) (t5.sm (K := [31]) (sm.wi sm.rf (by decide)) (by decide) (by decide) (by decide)) (fun M6 c6 t6 => ?_))
              have q6 : sm [1, 19, 27, 28, 29, 30, 31] M M6 := (q5.tr (sm.wi (K := [1, 19, 27, 28, 29, 30, 31]) sm.rf (by decide)) (fun _ z => z)).tr (c6.1.mono (by decide)) (fun _ z => z)
              have f6 : gi M6 1 2 = gi M 1 2 := by rw [c6.2, pz_wi_else (by decide)]; exact f5
              have hS6 := t6.1.1
              have b10 : gi M6 19 10 = nI c.N := by rw [c6.1.i (by decide), pz_wi_else (by decide)]; exact a10
              refine pw_blk (mi := mz_183) (b := bz_183_133) rfl rfl ?_
              simp only [bz_183_133, pz_cut_t, pz_cut_f, pz_cut_n, pv_gt, pv_ts, pv_tn, ev_ald0, ev_eld0, ev_gf4_2, ev_dupi, ev_dupr, ev_dupe, ev_gf8_0, ev_ic1, ev_iadd, ev_pf8_0, ev_ret, pz_wi_gc, pz_wi_ga, pz_wi_gn, pz_wi_gl, pz_wi_gr, pz_wi_same, pz_wi_X, pz_wl_gc, pz_wl_ga, pz_wl_gn, pz_wl_gi, pz_wl_gr, pz_wl_same, pz_wl_X, pz_wr_gc, pz_wr_ga, pz_wr_gn, pz_wr_gi, pz_wr_gl, pz_wr_same, pz_wr_X, so_18 hS, sr_18_1 hS, so_19 hS, x10, so_18 hS6, sr_18_1 hS6, so_19 hS6, b10]
              (try simp (disch := omega) only [nI_clamp, pz_in_nI2, pz_in_nI2L, pv_gt, nI_add, nI_addL, nI_Ladd, pk_mul, nI_mulL, nI_Lmul, pk_sub, nI_subL, nI_Lsub, nI_inc, nI_clampL, Nat.add_sub_cancel, pz_wi_else, pz_wl_else, vu_eq, vu_ne, pz_wi_gc, pz_wi_ga, pz_wi_gn, pz_wi_gl, pz_wi_gr, pz_wi_same, pz_wi_X, pz_wl_gc, pz_wl_ga, pz_wl_gn, pz_wl_gi, pz_wl_gr, pz_wl_same, pz_wl_X, pz_wr_gc, pz_wr_ga, pz_wr_gn, pz_wr_gi, pz_wr_gl, pz_wr_same, pz_wr_X, x10, so_18 hS6, sr_18_1 hS6, so_19 hS6, b10])
              refine po_then (fun M7 hM7 => ?_)
              have s7 : sm [19] M6 M7 := by
                rw [hM7]
                exact sm.wi sm.rf (by decide)
              have et : tsF ru T L 59 (tnF ru T L 15 0 21 (nxF ru T L (nxF ru T L (nxF ru T L (nxF ru T L (nxF ru T L (nxF ru T L (nxF ru T L (nxF ru T L σ))))))))) = tnF ru T L 15 0 21 (nxF ru T L (nxF ru T L (nxF ru T L (nxF ru T L (nxF ru T L (nxF ru T L (nxF ru T L (nxF ru T L σ)))))))) := tsF_f (tnF_G z3)
              rw [et] at t6
              exact k M7 (q6.tr s7 (by decide)) (by rw [s7.i (by decide)]; exact f6) (t6.sm s7 (by decide) (by decide) (by decide)) (fun z => by rw [tnF_G z3] at z; cases z)
            · first
              | exact absurd q20 (by decide)
              | exact absurd trivial q20
              | exact q20.elim
              | (exfalso; (try simp (disch := omega) only [nI_ltI, nI_leI, nI_eq, nI_ltL, nI_leL, nI_eqL, nI_Llt, nI_Lle, nI_Leq, nI_eqm, nI_meq, nI_ltm, nI_lem, nI_mlt, nI_mle, lg0, lgl, lgg, lgle, lgge, Int32.not_lt, Int32.not_le, Int64.not_lt, Int64.not_le, not_false_eq_true, not_true_eq_false, Decidable.not_not, ge_iff_le, gt_iff_lt] at q20) <;> omega)
              | exact absurd q20 (by with_reducible assumption)
              | exact absurd (by with_reducible assumption) q20
              | exact absurd (Decidable.not_not.mp q20) (by with_reducible assumption)
              | exact absurd (by with_reducible assumption) (Int32.not_le.mpr q20)
              | exact absurd (by with_reducible assumption) (Int32.not_lt.mpr q20)
          | true =>
            rw [if_pos z3] at k
            refine pm_ent (L := [some (.ref 18), none]) rfl (Nat.le_of_ble_eq_true rfl) ?_
            refine pw_blk (mi := mz_183) (b := bz_183_0) rfl rfl ?_
            simp only [bz_183_0, pz_cut_t, pz_cut_f, pz_cut_n, pv_gt, pv_ts, pv_tn, ev_ald0, ev_eld0, ev_gf4_2, ev_gf8_0, ev_bp6, ev_gf8_2, ev_cv3_4, pz_wi_gc, pz_wi_ga, pz_wi_gn, pz_wi_gl, pz_wi_gr, pz_wi_same, pz_wi_X, pz_wl_gc, pz_wl_ga, pz_wl_gn, pz_wl_gi, pz_wl_gr, pz_wl_same, pz_wl_X, pz_wr_gc, pz_wr_ga, pz_wr_gn, pz_wr_gi, pz_wr_gl, pz_wr_same, pz_wr_X, so_18 hS, sr_18_1 hS, so_19 hS, sr_19_11 hS, sa_27 hS, sn_27 hS, x10]
            (try simp (disch := omega) only [nI_clamp, pz_in_nI2, pz_in_nI2L, pv_gt, nI_add, nI_addL, nI_Ladd, pk_mul, nI_mulL, nI_Lmul, pk_sub, nI_subL, nI_Lsub, nI_inc, nI_clampL, Nat.add_sub_cancel, pz_wi_else, pz_wl_else, vu_eq, vu_ne, pz_wi_gc, pz_wi_ga, pz_wi_gn, pz_wi_gl, pz_wi_gr, pz_wi_same, pz_wi_X, pz_wl_gc, pz_wl_ga, pz_wl_gn, pz_wl_gi, pz_wl_gr, pz_wl_same, pz_wl_X, pz_wr_gc, pz_wr_ga, pz_wr_gn, pz_wr_gi, pz_wr_gl, pz_wr_same, pz_wr_X, x10])
            (try refine po_gP (Nat.le_of_ble_eq_true rfl) ?_)
            refine po_call (by omega) (m_beginNamed (k := 27) (nm := c.nw) (len := 6) (by omega) s (sa_27 hS) (sn_27 hS) (Nat.le_refl _) (by decide) (by omega) (by decide) (fun i hi => ⟨(xN i hi).1, (o.2.2.2.2.1 i hi).1⟩) (fun _ _ _ M1 s1 f1 t1 hwd g27 => ?_) (fun _ z => absurd hg z))
            refine pw_blk (mi := mz_183) (b := bz_183_20) rfl rfl ?_
            simp only [bz_183_20, pz_cut_t, pz_cut_f, pz_cut_n, pv_gt, pv_ts, pv_tn, ev_ifne, pz_wi_gc, pz_wi_ga, pz_wi_gn, pz_wi_gl, pz_wi_gr, pz_wi_same, pz_wi_X, pz_wl_gc, pz_wl_ga, pz_wl_gn, pz_wl_gi, pz_wl_gr, pz_wl_same, pz_wl_X, pz_wr_gc, pz_wr_ga, pz_wr_gn, pz_wr_gi, pz_wr_gl, pz_wr_same, pz_wr_X, x10]
            (try simp (disch := omega) only [nI_clamp, pz_in_nI2, pz_in_nI2L, pv_gt, nI_add, nI_addL, nI_Ladd, pk_mul, nI_mulL, nI_Lmul, pk_sub, nI_subL, nI_Lsub, nI_inc, nI_clampL, Nat.add_sub_cancel, pz_wi_else, pz_wl_else, vu_eq, vu_ne, pz_wi_gc, pz_wi_ga, pz_wi_gn, pz_wi_gl, pz_wi_gr, pz_wi_same, pz_wi_X, pz_wl_gc, pz_wl_ga, pz_wl_gn, pz_wl_gi, pz_wl_gr, pz_wl_same, pz_wl_X, pz_wr_gc, pz_wr_ga, pz_wr_gn, pz_wr_gi, pz_wr_gl, pz_wr_same, pz_wr_X, x10])
            refine po_brP (fun q20 => ?_) (fun q20 => ?_)
            · skip
              (try simp (disch := omega) only [nI_ltI, nI_leI, nI_eq, nI_ltL, nI_leL, nI_eqL, nI_Llt, nI_Lle, nI_Leq, nI_eqm, nI_meq, nI_ltm, nI_lem, nI_mlt, nI_mle, lg0, lgl, lgg, lgle, lgge, Int32.not_lt, Int32.not_le, Int64.not_lt, Int64.not_le, not_false_eq_true, not_true_eq_false, Decidable.not_not, ge_iff_le, gt_iff_lt] at q20)
              have hS1 := t1.1.1
              have a0 : gi M1 19 0 = nI c.B := by rw [s1.i (by decide)]; exact x0
              have a10 : gi M1 19 10 = nI c.N := by rw [s1.i (by decide)]; exact x10
              have q1 : sm [1, 19, 27, 28, 29, 30, 31] M M1 := s1.mono (by decide)
              refine pw_blk (mi := mz_183) (b := bz_183_24) rfl rfl ?_
              simp only [bz_183_24, pz_cut_t, pz_cut_f, pz_cut_n, pv_gt, pv_ts, pv_tn, ev_ald0, ev_eld0, ev_gf4_2, ev_gf8_0, ev_ist1n, ev_ist1i, ev_ist1r, ev_ist1e, ev_ist1l, ev_gf8_2, ev_ild1, ev_ic2, ev_ic0, ev_ic1, ev_isub, ev_cv3_4, pz_wi_gc, pz_wi_ga, pz_wi_gn, pz_wi_gl, pz_wi_gr, pz_wi_same, pz_wi_X, pz_wl_gc, pz_wl_ga, pz_wl_gn, pz_wl_gi, pz_wl_gr, pz_wl_same, pz_wl_X, pz_wr_gc, pz_wr_ga, pz_wr_gn, pz_wr_gi, pz_wr_gl, pz_wr_same, pz_wr_X, so_18 hS, sr_18_1 hS, so_19 hS, sr_19_12 hS, sa_28 hS, sn_28 hS, x10, so_18 hS1, sr_18_1 hS1, so_19 hS1, sr_19_12 hS1, a0, a10]
              (try simp (disch := omega) only [nI_clamp, pz_in_nI2, pz_in_nI2L, pv_gt, nI_add, nI_addL, nI_Ladd, pk_mul, nI_mulL, nI_Lmul, pk_sub, nI_subL, nI_Lsub, nI_inc, nI_clampL, Nat.add_sub_cancel, pz_wi_else, pz_wl_else, vu_eq, vu_ne, pz_wi_gc, pz_wi_ga, pz_wi_gn, pz_wi_gl, pz_wi_gr, pz_wi_same, pz_wi_X, pz_wl_gc, pz_wl_ga, pz_wl_gn, pz_wl_gi, pz_wl_gr, pz_wl_same, pz_wl_X, pz_wr_gc, pz_wr_ga, pz_wr_gn, pz_wr_gi, pz_wr_gl, pz_wr_same, pz_wr_X, x10, so_18 hS1, sr_18_1 hS1, so_19 hS1, sr_19_12 hS1, a0, a10])
              (try refine po_gP (Nat.le_of_ble_eq_true rfl) ?_)
              refine po_call (by omega) (m_takeNumber (w := 2) (lo := 0) (hi := c.B) (by omega) (by decide) (by decide) (by omega) (by first | rfl | rw [nI_subL (n := 1) (by show 1 ≤ c.B; omega)]) t1 (fun _ M2 c2 t2 e2 l2 h2 => ?_) (fun z => by rw [z0] at z; cases z))
              rw [e2] at t2
              have q2 : sm [1, 19, 27, 28, 29, 30, 31] M M2 := q1.tr (c2.1.mono (by decide)) (fun _ z => z)
              have f2 : gi M2 1 2 = gi M 1 2 := by rw [c2.2]; exact f1
              have hS2 := t2.1.1
              have a0 : gi M2 19 0 = nI c.B := by rw [c2.1.i (by decide)]; exact a0
              have a10 : gi M2 19 10 = nI c.N := by rw [c2.1.i (by decide)]; exact a10
              refine pw_blk (mi := mz_183) (b := bz_183_55) rfl rfl ?_
              simp only [bz_183_55, pz_cut_t, pz_cut_f, pz_cut_n, pv_gt, pv_ts, pv_tn, ea_iast, ev_ald0, ev_eld0, ev_gf4_2, ev_gf8_2, ev_ild1, ev_ic3, ea_iald, ev_gf8_0, ev_ic1, ev_isub, ev_cv3_4, pz_wi_gc, pz_wi_ga, pz_wi_gn, pz_wi_gl, pz_wi_gr, pz_wi_same, pz_wi_X, pz_wl_gc, pz_wl_ga, pz_wl_gn, pz_wl_gi, pz_wl_gr, pz_wl_same, pz_wl_X, pz_wr_gc, pz_wr_ga, pz_wr_gn, pz_wr_gi, pz_wr_gl, pz_wr_same, pz_wr_X, so_18 hS, sr_18_1 hS, so_19 hS, sr_19_13 hS, sa_29 hS, sn_29 hS, sr_19_12 hS, sa_28 hS, sn_28 hS, x10, so_18 hS2, sr_18_1 hS2, so_19 hS2, sr_19_13 hS2, a0, a10, sa_28 hS2, sn_28 hS2, sr_19_12 hS2, sa_27 hS, sn_27 hS, sa_30 hS, sn_30 hS, sa_31 hS, sn_31 hS]
              (try simp (disch := omega) only [nI_clamp, pz_in_nI2, pz_in_nI2L, pv_gt, nI_add, nI_addL, nI_Ladd, pk_mul, nI_mulL, nI_Lmul, pk_sub, nI_subL, nI_Lsub, nI_inc, nI_clampL, Nat.add_sub_cancel, pz_wi_else, pz_wl_else, vu_eq, vu_ne, pz_wi_gc, pz_wi_ga, pz_wi_gn, pz_wi_gl, pz_wi_gr, pz_wi_same, pz_wi_X, pz_wl_gc, pz_wl_ga, pz_wl_gn, pz_wl_gi, pz_wl_gr, pz_wl_same, pz_wl_X, pz_wr_gc, pz_wr_ga, pz_wr_gn, pz_wr_gi, pz_wr_gl, pz_wr_same, pz_wr_X, x10, so_18 hS2, sr_18_1 hS2, so_19 hS2, sr_19_13 hS2, a0, a10, sa_28 hS2, sn_28 hS2, sr_19_12 hS2])
              (try refine po_gI (by first | exact pz_in_nI (by omega) (by decide) | decide | assumption) ?_)
              (try refine po_gI (by first | exact pz_in_nI (by omega) (by decide) | decide | assumption) ?_)
              (try refine po_gP (Nat.le_of_ble_eq_true rfl) ?_)
              refine po_call (by omega) (m_takeNumber (w := 3) (lo := (nuV (nxF ru T L (nxF ru T L (nxF ru T L σ))))) (hi := c.B) (by omega) (by decide) (by omega) (by omega) (by first | rfl | rw [nI_subL (n := 1) (by show 1 ≤ c.B; omega)]) (t2.sm (K := [28]) (sm.wi sm.rf (by decide)) (by decide) (by decide) (by decide)) (fun _ M3 c3 t3 e3 l3 h3 => ?_) (fun z => by rw [z1] at z; cases z))
              rw [e3] at t3
              have q3 : sm [1, 19, 27, 28, 29, 30, 31] M M3 := (q2.tr (sm.wi (K := [1, 19, 27, 28, 29, 30, 31]) sm.rf (by decide)) (fun _ z => z)).tr (c3.1.mono (by decide)) (fun _ z => z)
              have f3 : gi M3 1 2 = gi M 1 2 := by rw [c3.2, pz_wi_else (by decide)]; exact f2
              have r28_3 : gi M3 28 = va_up (gi M2 28) c.N (nI (nuV (nxF ru T L (nxF ru T L (nxF ru T L σ))))) := by rw [c3.1.i (by decide), pz_wi_same]
              have hS3 := t3.1.1
              have a0 : gi M3 19 0 = nI c.B := by rw [c3.1.i (by decide), pz_wi_else (by decide)]; exact a0
              have a10 : gi M3 19 10 = nI c.N := by rw [c3.1.i (by decide), pz_wi_else (by decide)]; exact a10
              refine pw_blk (mi := mz_183) (b := bz_183_87) rfl rfl ?_
              simp only [bz_183_87, pz_cut_t, pz_cut_f, pz_cut_n, pv_gt, pv_ts, pv_tn, ea_iast, ev_ald0, ev_eld0, ev_gf4_2, ev_gf8_2, ev_ild1, ev_bp14, ev_ic0, ev_bp20, ev_cv3_4, pz_wi_gc, pz_wi_ga, pz_wi_gn, pz_wi_gl, pz_wi_gr, pz_wi_same, pz_wi_X, pz_wl_gc, pz_wl_ga, pz_wl_gn, pz_wl_gi, pz_wl_gr, pz_wl_same, pz_wl_X, pz_wr_gc, pz_wr_ga, pz_wr_gn, pz_wr_gi, pz_wr_gl, pz_wr_same, pz_wr_X, so_18 hS, sr_18_1 hS, so_19 hS, sr_19_14 hS, sa_30 hS, sn_30 hS, x10, so_18 hS3, sr_18_1 hS3, so_19 hS3, sr_19_14 hS3, a0, a10, sa_29 hS3, sn_29 hS3, sa_27 hS, sn_27 hS, sa_28 hS, sn_28 hS, sa_29 hS, sn_29 hS, sa_31 hS, sn_31 hS]
              (try simp (disch := omega) only [nI_clamp, pz_in_nI2, pz_in_nI2L, pv_gt, nI_add, nI_addL, nI_Ladd, pk_mul, nI_mulL, nI_Lmul, pk_sub, nI_subL, nI_Lsub, nI_inc, nI_clampL, Nat.add_sub_cancel, pz_wi_else, pz_wl_else, vu_eq, vu_ne, pz_wi_gc, pz_wi_ga, pz_wi_gn, pz_wi_gl, pz_wi_gr, pz_wi_same, pz_wi_X, pz_wl_gc, pz_wl_ga, pz_wl_gn, pz_wl_gi, pz_wl_gr, pz_wl_same, pz_wl_X, pz_wr_gc, pz_wr_ga, pz_wr_gn, pz_wr_gi, pz_wr_gl, pz_wr_same, pz_wr_X, x10, so_18 hS3, sr_18_1 hS3, so_19 hS3, sr_19_14 hS3, a0, a10, sa_29 hS3, sn_29 hS3])
              (try refine po_gI (by first | exact pz_in_nI (by omega) (by decide) | decide | assumption) ?_)
              (try refine po_gP (Nat.le_of_ble_eq_true rfl) ?_)
              refine po_call (by omega) (m_takeNumber (w := 14) (lo := 0) (hi := 21) (by omega) (by decide) (by decide) (by decide) rfl (t3.sm (K := [29]) (sm.wi sm.rf (by decide)) (by decide) (by decide) (by decide)) (fun _ M4 c4 t4 e4 l4 h4 => ?_) (fun z => by rw [z2] at z; cases z))
              rw [e4] at t4
              have q4 : sm [1, 19, 27, 28, 29, 30, 31] M M4 := (q3.tr (sm.wi (K := [1, 19, 27, 28, 29, 30, 31]) sm.rf (by decide)) (fun _ z => z)).tr (c4.1.mono (by decide)) (fun _ z => z)
              have f4 : gi M4 1 2 = gi M 1 2 := by rw [c4.2, pz_wi_else (by decide)]; exact f3
              have r29_4 : gi M4 29 = va_up (gi M3 29) c.N (nI (nuV (nxF ru T L (nxF ru T L (nxF ru T L (nxF ru T L (nxF ru T L σ))))))) := by rw [c4.1.i (by decide), pz_wi_same]
              have hS4 := t4.1.1
              have a0 : gi M4 19 0 = nI c.B := by rw [c4.1.i (by decide), pz_wi_else (by decide)]; exact a0
              have a10 : gi M4 19 10 = nI c.N := by rw [c4.1.i (by decide), pz_wi_else (by decide)]; exact a10
              refine pw_blk (mi := mz_183) (b := bz_183_105) rfl rfl ?_
              simp only [bz_183_105, pz_cut_t, pz_cut_f, pz_cut_n, pv_gt, pv_ts, pv_tn, ea_iast, ev_ald0, ev_eld0, ev_gf4_2, ev_gf8_2, ev_ild1, ev_bp15, ev_ic0, ev_bp20, ev_cv3_4, pz_wi_gc, pz_wi_ga, pz_wi_gn, pz_wi_gl, pz_wi_gr, pz_wi_same, pz_wi_X, pz_wl_gc, pz_wl_ga, pz_wl_gn, pz_wl_gi, pz_wl_gr, pz_wl_same, pz_wl_X, pz_wr_gc, pz_wr_ga, pz_wr_gn, pz_wr_gi, pz_wr_gl, pz_wr_same, pz_wr_X, so_18 hS, sr_18_1 hS, so_19 hS, sr_19_15 hS, sa_31 hS, sn_31 hS, x10, so_18 hS4, sr_18_1 hS4, so_19 hS4, sr_19_15 hS4, a0, a10, sa_30 hS4, sn_30 hS4, sa_27 hS, sn_27 hS, sa_28 hS, sn_28 hS, sa_29 hS, sn_29 hS, sa_30 hS, sn_30 hS]
              (try simp (disch := omega) only [nI_clamp, pz_in_nI2, pz_in_nI2L, pv_gt, nI_add, nI_addL, nI_Ladd, pk_mul, nI_mulL, nI_Lmul, pk_sub, nI_subL, nI_Lsub, nI_inc, nI_clampL, Nat.add_sub_cancel, pz_wi_else, pz_wl_else, vu_eq, vu_ne, pz_wi_gc, pz_wi_ga, pz_wi_gn, pz_wi_gl, pz_wi_gr, pz_wi_same, pz_wi_X, pz_wl_gc, pz_wl_ga, pz_wl_gn, pz_wl_gi, pz_wl_gr, pz_wl_same, pz_wl_X, pz_wr_gc, pz_wr_ga, pz_wr_gn, pz_wr_gi, pz_wr_gl, pz_wr_same, pz_wr_X, x10, so_18 hS4, sr_18_1 hS4, so_19 hS4, sr_19_15 hS4, a0, a10, sa_30 hS4, sn_30 hS4])
              (try refine po_gI (by first | exact pz_in_nI (by omega) (by decide) | decide | assumption) ?_)
              (try refine po_gP (Nat.le_of_ble_eq_true rfl) ?_)
              refine po_call (by omega) (m_takeNumber (w := 15) (lo := 0) (hi := 21) (by omega) (by decide) (by decide) (by decide) rfl (t4.sm (K := [30]) (sm.wi sm.rf (by decide)) (by decide) (by decide) (by decide)) (fun _ M5 c5 t5 e5 l5 h5 => ?_) (fun z => by rw [z3] at z; cases z))
              rw [e5] at t5
              have q5 : sm [1, 19, 27, 28, 29, 30, 31] M M5 := (q4.tr (sm.wi (K := [1, 19, 27, 28, 29, 30, 31]) sm.rf (by decide)) (fun _ z => z)).tr (c5.1.mono (by decide)) (fun _ z => z)
              have f5 : gi M5 1 2 = gi M 1 2 := by rw [c5.2, pz_wi_else (by decide)]; exact f4
              have r30_5 : gi M5 30 = va_up (gi M4 30) c.N (nI (nuV (nxF ru T L (nxF ru T L (nxF ru T L (nxF ru T L (nxF ru T L (nxF ru T L (nxF ru T L σ))))))))) := by rw [c5.1.i (by decide), pz_wi_same]
              have hS5 := t5.1.1
              have a0 : gi M5 19 0 = nI c.B := by rw [c5.1.i (by decide), pz_wi_else (by decide)]; exact a0
              have a10 : gi M5 19 10 = nI c.N := by rw [c5.1.i (by decide), pz_wi_else (by decide)]; exact a10
              refine pw_blk (mi := mz_183) (b := bz_183_123) rfl rfl ?_
              simp only [bz_183_123, pz_cut_t, pz_cut_f, pz_cut_n, pv_gt, pv_ts, pv_tn, ea_iast, ev_ald0, ev_eld0, ev_gf4_2, ev_bp59, ev_cv1_10, pz_wi_gc, pz_wi_ga, pz_wi_gn, pz_wi_gl, pz_wi_gr, pz_wi_same, pz_wi_X, pz_wl_gc, pz_wl_ga, pz_wl_gn, pz_wl_gi, pz_wl_gr, pz_wl_same, pz_wl_X, pz_wr_gc, pz_wr_ga, pz_wr_gn, pz_wr_gi, pz_wr_gl, pz_wr_same, pz_wr_X, so_18 hS, sr_18_0 hS, so_1 hS, x10, so_18 hS5, sr_18_0 hS5, so_1 hS5, sa_31 hS5, sn_31 hS5, sa_27 hS, sn_27 hS, sa_28 hS, sn_28 hS, sa_29 hS, sn_29 hS, sa_30 hS, sn_30 hS, sa_31 hS, sn_31 hS]
              (try simp (disch := omega) only [nI_clamp, pz_in_nI2, pz_in_nI2L, pv_gt, nI_add, nI_addL, nI_Ladd, pk_mul, nI_mulL, nI_Lmul, pk_sub, nI_subL, nI_Lsub, nI_inc, nI_clampL, Nat.add_sub_cancel, pz_wi_else, pz_wl_else, vu_eq, vu_ne, pz_wi_gc, pz_wi_ga, pz_wi_gn, pz_wi_gl, pz_wi_gr, pz_wi_same, pz_wi_X, pz_wl_gc, pz_wl_ga, pz_wl_gn, pz_wl_gi, pz_wl_gr, pz_wl_same, pz_wl_X, pz_wr_gc, pz_wr_ga, pz_wr_gn, pz_wr_gi, pz_wr_gl, pz_wr_same, pz_wr_X, x10, so_18 hS5, sr_18_0 hS5, so_1 hS5, sa_31 hS5, sn_31 hS5])
              (try refine po_gI (by first | exact pz_in_nI (by omega) (by decide) | decide | assumption) ?_)
              (try refine po_gP (Nat.le_of_ble_eq_true rfl) ?_)
              refine po_call (by omega) (m_takeSign (c := 59) (by omega) (by decide) (t5.sm (K := [31]) (sm.wi sm.rf (by decide)) (by decide) (by decide) (by decide)) (fun M6 c6 t6 => ?_))
              have q6 : sm [1, 19, 27, 28, 29, 30, 31] M M6 := (q5.tr (sm.wi (K := [1, 19, 27, 28, 29, 30, 31]) sm.rf (by decide)) (fun _ z => z)).tr (c6.1.mono (by decide)) (fun _ z => z)
              have f6 : gi M6 1 2 = gi M 1 2 := by rw [c6.2, pz_wi_else (by decide)]; exact f5
              have hS6 := t6.1.1
              have b10 : gi M6 19 10 = nI c.N := by rw [c6.1.i (by decide), pz_wi_else (by decide)]; exact a10
              refine pw_blk (mi := mz_183) (b := bz_183_133) rfl rfl ?_
              simp only [bz_183_133, pz_cut_t, pz_cut_f, pz_cut_n, pv_gt, pv_ts, pv_tn, ev_ald0, ev_eld0, ev_gf4_2, ev_dupi, ev_dupr, ev_dupe, ev_gf8_0, ev_ic1, ev_iadd, ev_pf8_0, ev_ret, pz_wi_gc, pz_wi_ga, pz_wi_gn, pz_wi_gl, pz_wi_gr, pz_wi_same, pz_wi_X, pz_wl_gc, pz_wl_ga, pz_wl_gn, pz_wl_gi, pz_wl_gr, pz_wl_same, pz_wl_X, pz_wr_gc, pz_wr_ga, pz_wr_gn, pz_wr_gi, pz_wr_gl, pz_wr_same, pz_wr_X, so_18 hS, sr_18_1 hS, so_19 hS, x10, so_18 hS6, sr_18_1 hS6, so_19 hS6, b10]
              (try simp (disch := omega) only [nI_clamp, pz_in_nI2, pz_in_nI2L, pv_gt, nI_add, nI_addL, nI_Ladd, pk_mul, nI_mulL, nI_Lmul, pk_sub, nI_subL, nI_Lsub, nI_inc, nI_clampL, Nat.add_sub_cancel, pz_wi_else, pz_wl_else, vu_eq, vu_ne, pz_wi_gc, pz_wi_ga, pz_wi_gn, pz_wi_gl, pz_wi_gr, pz_wi_same, pz_wi_X, pz_wl_gc, pz_wl_ga, pz_wl_gn, pz_wl_gi, pz_wl_gr, pz_wl_same, pz_wl_X, pz_wr_gc, pz_wr_ga, pz_wr_gn, pz_wr_gi, pz_wr_gl, pz_wr_same, pz_wr_X, x10, so_18 hS6, sr_18_1 hS6, so_19 hS6, b10])
              refine po_then (fun M7 hM7 => ?_)
              have s7 : sm [19] M6 M7 := by
                rw [hM7]
                exact sm.wi sm.rf (by decide)
              have e19 : gi M7 19 = va_up (gi M6 19) 10 (nI (c.N + 1)) := by rw [hM7, pz_wi_same]
              refine k M7 (q6.tr s7 (by decide)) (by rw [s7.i (by decide)]; exact f6) (t6.sm s7 (by decide) (by decide) (by decide)) (fun _ => ⟨?_, o.plan hN hwd l3 h3 (by omega) (by omega)⟩)
              have w19 : gi M6 19 = gi M 19 := by rw [c6.1.i (by decide), pz_wi_else (by decide), c5.1.i (by decide), pz_wi_else (by decide), c4.1.i (by decide), pz_wi_else (by decide), c3.1.i (by decide), pz_wi_else (by decide), c2.1.i (by decide), s1.i (by decide)]
              have w27 : gl M6 27 = va_up (gl M 27) c.N (p5 (nmV (nxF ru T L σ))) := by rw [c6.1.l (by decide), pz_wi_gl, c5.1.l (by decide), pz_wi_gl, c4.1.l (by decide), pz_wi_gl, c3.1.l (by decide), pz_wi_gl, c2.1.l (by decide)]; exact g27
              have w28 : gi M6 28 = va_up (gi M 28) c.N (nI (nuV (nxF ru T L (nxF ru T L (nxF ru T L σ))))) := by rw [c6.1.i (by decide), pz_wi_else (by decide), c5.1.i (by decide), pz_wi_else (by decide), c4.1.i (by decide), pz_wi_else (by decide), r28_3, c2.1.i (by decide), s1.i (by decide)]
              have w29 : gi M6 29 = va_up (gi M 29) c.N (nI (nuV (nxF ru T L (nxF ru T L (nxF ru T L (nxF ru T L (nxF ru T L σ))))))) := by rw [c6.1.i (by decide), pz_wi_else (by decide), c5.1.i (by decide), pz_wi_else (by decide), r29_4, c3.1.i (by decide), pz_wi_else (by decide), c2.1.i (by decide), s1.i (by decide)]
              have w30 : gi M6 30 = va_up (gi M 30) c.N (nI (nuV (nxF ru T L (nxF ru T L (nxF ru T L (nxF ru T L (nxF ru T L (nxF ru T L (nxF ru T L σ))))))))) := by rw [c6.1.i (by decide), pz_wi_else (by decide), r30_5, c4.1.i (by decide), pz_wi_else (by decide), c3.1.i (by decide), pz_wi_else (by decide), c2.1.i (by decide), s1.i (by decide)]
              have w31 : gi M6 31 = va_up (gi M 31) c.N (nI (nuV (nxF ru T L (nxF ru T L (nxF ru T L (nxF ru T L (nxF ru T L (nxF ru T L (nxF ru T L (nxF ru T L (nxF ru T L σ))))))))))) := by rw [c6.1.i (by decide), pz_wi_same, c5.1.i (by decide), pz_wi_else (by decide), c4.1.i (by decide), pz_wi_else (by decide), c3.1.i (by decide), pz_wi_else (by decide), c2.1.i (by decide), s1.i (by decide)]
              refine ⟨⟨?_, ?_, ?_, ?_, ?_, ?_, ?_⟩, ?_, ?_, ?_, ?_, ?_⟩
              · rw [e19, w19, vu_ne (by decide)]; exact x0
              · rw [e19, w19, vu_ne (by decide)]; exact x3
              · rw [e19, w19, vu_ne (by decide)]; exact x6
              · rw [e19, vu_eq]; rfl
              · rw [e19, w19, vu_ne (by decide)]; exact x16
              · rw [e19, w19, vu_ne (by decide)]; exact x17
              · rw [e19, w19, vu_ne (by decide)]; exact x18
              · rw [s7.l (by decide), s7.i (by decide), q6.l (by decide), q6.i (by decide)]; exact xB
              · rw [s7.l (by decide), s7.i (by decide), q6.l (by decide), q6.i (by decide)]; exact xH
              · rw [s7.l (by decide), s7.i (k := 25) (by decide), s7.i (k := 26) (by decide), q6.l (by decide), q6.i (k := 25) (by decide), q6.i (k := 26) (by decide)]; exact xP
              · intro i hi
                rw [s7.l (by decide), s7.i (k := 28) (by decide), s7.i (k := 29) (by decide), s7.i (k := 30) (by decide), s7.i (k := 31) (by decide), w27, w28, w29, w30, w31]
                show _ = p5 (va_up c.nw c.N (nmV (nxF ru T L σ)) i) ∧ _ = nI (va_up c.na c.N (nuV (nxF ru T L (nxF ru T L (nxF ru T L σ)))) i) ∧ _ = nI (va_up c.nb c.N (nuV (nxF ru T L (nxF ru T L (nxF ru T L (nxF ru T L (nxF ru T L σ)))))) i) ∧ _ = nI (va_up c.nt c.N (nuV (nxF ru T L (nxF ru T L (nxF ru T L (nxF ru T L (nxF ru T L (nxF ru T L (nxF ru T L σ)))))))) i) ∧ _ = nI (va_up c.ns c.N (nuV (nxF ru T L (nxF ru T L (nxF ru T L (nxF ru T L (nxF ru T L (nxF ru T L (nxF ru T L (nxF ru T L (nxF ru T L σ)))))))))) i)
                have hi' : i < c.N + 1 := hi
                by_cases q : i = c.N
                · subst q
                  refine ⟨?_, ?_, ?_, ?_, ?_⟩ <;> rw [vu_eq, vu_eq]
                · simp only [vu_ne q]
                  exact xN i (by omega)
              · rw [s7.i (by decide), q6.i (by decide)]; exact xL
            · first
              | exact absurd q20 (by decide)
              | exact absurd trivial q20
              | exact q20.elim
              | (exfalso; (try simp (disch := omega) only [nI_ltI, nI_leI, nI_eq, nI_ltL, nI_leL, nI_eqL, nI_Llt, nI_Lle, nI_Leq, nI_eqm, nI_meq, nI_ltm, nI_lem, nI_mlt, nI_mle, lg0, lgl, lgg, lgle, lgge, Int32.not_lt, Int32.not_le, Int64.not_lt, Int64.not_le, not_false_eq_true, not_true_eq_false, Decidable.not_not, ge_iff_le, gt_iff_lt] at q20) <;> omega)
              | exact absurd q20 (by with_reducible assumption)
              | exact absurd (by with_reducible assumption) q20
              | exact absurd (Decidable.not_not.mp q20) (by with_reducible assumption)
              | exact absurd (by with_reducible assumption) (Int32.not_le.mpr q20)
              | exact absurd (by with_reducible assumption) (Int32.not_lt.mpr q20)
  · rw [if_neg hg] at k
    refine pm_ent (L := [some (.ref 18), none]) rfl (Nat.le_of_ble_eq_true rfl) ?_
    refine pw_blk (mi := mz_183) (b := bz_183_0) rfl rfl ?_
    simp only [bz_183_0, pz_cut_t, pz_cut_f, pz_cut_n, pv_gt, pv_ts, pv_tn, ev_ald0, ev_eld0, ev_gf4_2, ev_gf8_0, ev_bp6, ev_gf8_2, ev_cv3_4, pz_wi_gc, pz_wi_ga, pz_wi_gn, pz_wi_gl, pz_wi_gr, pz_wi_same, pz_wi_X, pz_wl_gc, pz_wl_ga, pz_wl_gn, pz_wl_gi, pz_wl_gr, pz_wl_same, pz_wl_X, pz_wr_gc, pz_wr_ga, pz_wr_gn, pz_wr_gi, pz_wr_gl, pz_wr_same, pz_wr_X, so_18 hS, sr_18_1 hS, so_19 hS, sr_19_11 hS, sa_27 hS, sn_27 hS, x10]
    (try simp (disch := omega) only [nI_clamp, pz_in_nI2, pz_in_nI2L, pv_gt, nI_add, nI_addL, nI_Ladd, pk_mul, nI_mulL, nI_Lmul, pk_sub, nI_subL, nI_Lsub, nI_inc, nI_clampL, Nat.add_sub_cancel, pz_wi_else, pz_wl_else, vu_eq, vu_ne, pz_wi_gc, pz_wi_ga, pz_wi_gn, pz_wi_gl, pz_wi_gr, pz_wi_same, pz_wi_X, pz_wl_gc, pz_wl_ga, pz_wl_gn, pz_wl_gi, pz_wl_gr, pz_wl_same, pz_wl_X, pz_wr_gc, pz_wr_ga, pz_wr_gn, pz_wr_gi, pz_wr_gl, pz_wr_same, pz_wr_X, x10])
    (try refine po_gP (Nat.le_of_ble_eq_true rfl) ?_)
    refine po_call (by omega) (m_beginNamed (k := 27) (nm := c.nw) (len := 6) (by omega) s (sa_27 hS) (sn_27 hS) (Nat.le_refl _) (by decide) (by omega) (by decide) (fun i hi => ⟨(xN i hi).1, (o.2.2.2.2.1 i hi).1⟩) (fun a b e => absurd ⟨a, b, e⟩ hg) (fun zf _ M1 c1 s1 => ?_))
    refine pw_blk (mi := mz_183) (b := bz_183_20) rfl rfl ?_
    simp only [bz_183_20, pz_cut_t, pz_cut_f, pz_cut_n, pv_gt, pv_ts, pv_tn, ev_ifne, pz_wi_gc, pz_wi_ga, pz_wi_gn, pz_wi_gl, pz_wi_gr, pz_wi_same, pz_wi_X, pz_wl_gc, pz_wl_ga, pz_wl_gn, pz_wl_gi, pz_wl_gr, pz_wl_same, pz_wl_X, pz_wr_gc, pz_wr_ga, pz_wr_gn, pz_wr_gi, pz_wr_gl, pz_wr_same, pz_wr_X, x10]
    (try simp (disch := omega) only [nI_clamp, pz_in_nI2, pz_in_nI2L, pv_gt, nI_add, nI_addL, nI_Ladd, pk_mul, nI_mulL, nI_Lmul, pk_sub, nI_subL, nI_Lsub, nI_inc, nI_clampL, Nat.add_sub_cancel, pz_wi_else, pz_wl_else, vu_eq, vu_ne, pz_wi_gc, pz_wi_ga, pz_wi_gn, pz_wi_gl, pz_wi_gr, pz_wi_same, pz_wi_X, pz_wl_gc, pz_wl_ga, pz_wl_gn, pz_wl_gi, pz_wl_gr, pz_wl_same, pz_wl_X, pz_wr_gc, pz_wr_ga, pz_wr_gn, pz_wr_gi, pz_wr_gl, pz_wr_same, pz_wr_X, x10])
    refine po_brP (fun q20 => ?_) (fun q20 => ?_)
    · first
      | exact absurd q20 (by decide)
      | exact absurd trivial q20
      | exact q20.elim
      | (exfalso; (try simp (disch := omega) only [nI_ltI, nI_leI, nI_eq, nI_ltL, nI_leL, nI_eqL, nI_Llt, nI_Lle, nI_Leq, nI_eqm, nI_meq, nI_ltm, nI_lem, nI_mlt, nI_mle, lg0, lgl, lgg, lgle, lgge, Int32.not_lt, Int32.not_le, Int64.not_lt, Int64.not_le, not_false_eq_true, not_true_eq_false, Decidable.not_not, ge_iff_le, gt_iff_lt] at q20) <;> omega)
      | exact absurd q20 (by with_reducible assumption)
      | exact absurd (by with_reducible assumption) q20
      | exact absurd (Decidable.not_not.mp q20) (by with_reducible assumption)
      | exact absurd (by with_reducible assumption) (Int32.not_le.mpr q20)
      | exact absurd (by with_reducible assumption) (Int32.not_lt.mpr q20)
    · skip
      (try simp (disch := omega) only [nI_ltI, nI_leI, nI_eq, nI_ltL, nI_leL, nI_eqL, nI_Llt, nI_Lle, nI_Leq, nI_eqm, nI_meq, nI_ltm, nI_lem, nI_mlt, nI_mle, lg0, lgl, lgg, lgle, lgge, Int32.not_lt, Int32.not_le, Int64.not_lt, Int64.not_le, not_false_eq_true, not_true_eq_false, Decidable.not_not, ge_iff_le, gt_iff_lt] at q20)
      refine pw_blk (mi := mz_183) (b := bz_183_23) rfl rfl ?_
      simp only [bz_183_23, pz_cut_t, pz_cut_f, pz_cut_n, pv_gt, pv_ts, pv_tn, ev_ret, pz_wi_gc, pz_wi_ga, pz_wi_gn, pz_wi_gl, pz_wi_gr, pz_wi_same, pz_wi_X, pz_wl_gc, pz_wl_ga, pz_wl_gn, pz_wl_gi, pz_wl_gr, pz_wl_same, pz_wl_X, pz_wr_gc, pz_wr_ga, pz_wr_gn, pz_wr_gi, pz_wr_gl, pz_wr_same, pz_wr_X, x10]
      (try simp (disch := omega) only [nI_clamp, pz_in_nI2, pz_in_nI2L, pv_gt, nI_add, nI_addL, nI_Ladd, pk_mul, nI_mulL, nI_Lmul, pk_sub, nI_subL, nI_Lsub, nI_inc, nI_clampL, Nat.add_sub_cancel, pz_wi_else, pz_wl_else, vu_eq, vu_ne, pz_wi_gc, pz_wi_ga, pz_wi_gn, pz_wi_gl, pz_wi_gr, pz_wi_same, pz_wi_X, pz_wl_gc, pz_wl_ga, pz_wl_gn, pz_wl_gi, pz_wl_gr, pz_wl_same, pz_wl_X, pz_wr_gc, pz_wr_ga, pz_wr_gn, pz_wr_gi, pz_wr_gl, pz_wr_same, pz_wr_X, x10])
      exact po_ret (k M1 (c1.1.mono (by decide)) c1.2 s1 (fun z => by rw [zf] at z; cases z))
end PL
