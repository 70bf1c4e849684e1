/-! ===== image, again ===== -/
section BOX
variable {d : Nat} {M M' : pz_M} {Q : Option Value × pz_M → Prop}
/-- the first n of a row are those of f -/
def rowG (f : Nat → Int32) (n : Nat) (r : Nat → Int32) : Nat → Int32 := fun i => if i < n then f i else r i
theorem rowG_0 {f r : Nat → Int32} : rowG f 0 r = r := by
  funext i
  unfold rowG
  rw [if_neg (by omega)]
theorem rowG_s {f r : Nat → Int32} {n : Nat} : va_up (rowG f n r) n (f n) = rowG f (n + 1) r := by
  funext i
  unfold va_up rowG
  by_cases h : i = n
  · subst h
    rw [if_pos rfl, if_pos (by omega)]
  · rw [if_neg h]
    by_cases h2 : i < n
    · rw [if_pos h2, if_pos (by omega)]
    · rw [if_neg h2, if_neg (by omega)]
theorem rowG_lt {f r : Nat → Int32} {n i : Nat} (h : i < n) : rowG f n r i = f i := if_pos h
theorem rowG_ge {f r : Nat → Int32} {n i : Nat} (h : n ≤ i) : rowG f n r i = r i := if_neg (by omega)
/-- n places from p on are those of f -/
def rowK (f : Nat → Int32) (p n : Nat) (r : Nat → Int32) : Nat → Int32 := fun i => if p ≤ i ∧ i < p + n then f (i - p) else r i
theorem rowK_0 {f r : Nat → Int32} {p : Nat} : rowK f p 0 r = r := by
  funext i
  unfold rowK
  rw [if_neg (by omega)]
theorem rowK_s {f r : Nat → Int32} {p n : Nat} : va_up (rowK f p n r) (p + n) (f n) = rowK f p (n + 1) r := by
  funext i
  unfold va_up rowK
  by_cases h : i = p + n
  · subst h
    rw [if_pos rfl, if_pos (by omega), Nat.add_sub_cancel_left]
  · rw [if_neg h]
    by_cases h2 : p ≤ i ∧ i < p + n
    · rw [if_pos h2, if_pos (by omega)]
    · rw [if_neg h2, if_neg (by omega)]
theorem rowK_at {f r : Nat → Int32} {p n i : Nat} (h : i < n) : rowK f p n r (p + i) = f i := by
  unfold rowK
  rw [if_pos (by omega), Nat.add_sub_cancel_left]
theorem rowK_off {f r : Nat → Int32} {p n i : Nat} (h : i < p ∨ p + n ≤ i) : rowK f p n r i = r i := if_neg (by omega)
theorem cp24 {f g : Nat → Int32} : va_cpy f g 0 0 24 = rowG f 24 g := by
  funext i
  unfold va_cpy rowG
  by_cases h : i < 24
  · rw [if_pos (by omega), if_pos h, Nat.zero_add, Nat.sub_zero]
  · rw [if_neg (by omega), if_neg h]
theorem cpg {a b c : Nat} : ¬ (0 : Int32) < 0 ∧ ¬ (0 : Int32) < 0 ∧ ¬ (24 : Int32) < 0 ∧ (0 : Int32).toNatClampNeg + (24 : Int32).toNatClampNeg ≤ 24 ∧ (0 : Int32).toNatClampNeg + (24 : Int32).toNatClampNeg ≤ 24 ∧ (([] : List Value).map fun v => v.category).sum ≤ 8 := by decide
theorem clamp24 : Int32.toNatClampNeg 24 = 24 := by decide
theorem clamp00 : Int32.toNatClampNeg 0 = 0 := by decide
theorem m_copyFrom {o p : Nat} (hO : isMind M o) (hP : isMind M p) (hop : o + 5 ≤ p ∨ p + 5 ≤ o) (h : ∀ M', sm [o, o + 1, o + 2, o + 3, o + 4] M M' → gi M' (o + 1) = rowG (gi M (p + 1)) 24 (gi M (o + 1)) → gi M' (o + 2) = rowG (gi M (p + 2)) 24 (gi M (o + 2)) → gi M' (o + 3) = rowG (gi M (p + 3)) 24 (gi M (o + 3)) → gi M' (o + 4) = rowG (gi M (p + 4)) 24 (gi M (o + 4)) → gi M' o = va_up (va_up (va_up (va_up (gi M o) 4 (gi M p 4)) 5 (gi M p 5)) 6 (gi M p 6)) 7 (gi M p 7) → Q (none, M')) : pm d 172 [.ref o, .ref p] M Q := by
  obtain ⟨c1, ⟨r0, r1, r2, r3⟩, ⟨a1, a2, a3, a4⟩, ⟨n1, n2, n3, n4⟩⟩ := id hO
  obtain ⟨d1, ⟨s0, s1, s2, s3⟩, ⟨e1, e2, e3, e4⟩, ⟨m1, m2, m3, m4⟩⟩ := id hP
  refine pm_ent (L := [some (.ref o), some (.ref p)]) rfl (Nat.le_of_ble_eq_true rfl) ?_
  refine pw_blk (mi := mz_172) (b := bz_172_0) rfl rfl ?_
  simp only [bz_172_0, pz_cut_t, pz_cut_f, pz_cut_n, pv_gt, pv_ts, pv_tn, ev_ald1, ev_eld1, ev_gf3_2, ev_ic0, ev_ald0, ev_eld0, ev_bp24, ea_cpi, ea_cpl, ea_cpe, ev_gf3_0, ev_pf3_0, ev_ret, pz_wi_gc, pz_wi_ga, pz_wi_gn, pz_wi_gl, pz_wi_gr, pz_wi_same, pz_wi_X, pz_wl_gc, pz_wl_ga, pz_wl_gn, pz_wl_gi, pz_wl_gr, pz_wl_same, pz_wl_X, pz_wr_gc, pz_wr_ga, pz_wr_gn, pz_wr_gi, pz_wr_gl, pz_wr_same, pz_wr_X, c1, r0, r1, r2, r3, a1, a2, a3, a4, n1, n2, n3, n4, d1, s0, s1, s2, s3, e1, e2, e3, e4, m1, m2, m3, m4, clamp24, clamp00, cp24]
  (try simp (disch := omega) only [nI_clamp, pz_in_nI2, pz_in_nI2L, pv_gt, nI_add, nI_addL, nI_Ladd, pk_mul, nI_mulL, nI_Lmul, pk_sub, nI_subL, nI_Lsub, nI_inc, nI_clampL, Nat.add_sub_cancel, pz_wi_else, pz_wl_else, vu_eq, vu_ne, pz_wi_gc, pz_wi_ga, pz_wi_gn, pz_wi_gl, pz_wi_gr, pz_wi_same, pz_wi_X, pz_wl_gc, pz_wl_ga, pz_wl_gn, pz_wl_gi, pz_wl_gr, pz_wl_same, pz_wl_X, pz_wr_gc, pz_wr_ga, pz_wr_gn, pz_wr_gi, pz_wr_gl, pz_wr_same, pz_wr_X, c1, r0, r1, r2, r3, a1, a2, a3, a4, n1, n2, n3, n4, d1, s0, s1, s2, s3, e1, e2, e3, e4, m1, m2, m3, m4, clamp24, clamp00, cp24])
  (try refine po_gP (by first | decide | exact cpg (a := 0) (b := 0) (c := 0) | assumption) ?_)
  (try refine po_gP (by first | decide | exact cpg (a := 0) (b := 0) (c := 0) | assumption) ?_)
  (try refine po_gP (by first | decide | exact cpg (a := 0) (b := 0) (c := 0) | assumption) ?_)
  (try refine po_gP (by first | decide | exact cpg (a := 0) (b := 0) (c := 0) | assumption) ?_)
  refine po_then (fun M1 hM1 => ?_)
  refine h M1 ?_ ?_ ?_ ?_ ?_ ?_
  · rw [hM1]
    (repeat' first | exact sm.rf | refine sm.wi ?_ (by simp))
  all_goals rw [hM1]
  all_goals simp (disch := omega) only [pz_wi_same, pz_wi_else, clamp24, clamp00, cp24]
/-- what the reference keeps: from its own rows into the box b -/
theorem r_keep {b : Nat} (hS : SH M) (hb : b < 4) (z1 : ∀ i, i < 24 → gi M 153 i = 0 ∨ gi M 153 i = 1) (z2 : ∀ i, i < 24 → gi M 154 i = 0 ∨ gi M 154 i = 1) (h : ∀ M', sm [176, 177, 178, 179, 180, 181, 182, 183] M M' → gi M' 180 = va_up (gi M 180) b (gi M 120 46) → gi M' 181 = va_up (gi M 181) b (gi M 120 47) → gi M' 176 = rowK (gi M 149) (24 * b) 24 (gi M 176) → gi M' 177 = rowK (gi M 150) (24 * b) 24 (gi M 177) → gi M' 178 = rowK (gi M 151) (24 * b) 24 (gi M 178) → gi M' 179 = rowK (gi M 152) (24 * b) 24 (gi M 179) → gi M' 182 = rowK (gi M 153) (24 * b) 24 (gi M 182) → gi M' 183 = rowK (gi M 154) (24 * b) 24 (gi M 183) → Q (none, M')) : pm d 139 [.ref 120, .int (nI b)] M Q := by
  have key : ∀ i, i ≤ 24 → ∀ M', sm [176, 177, 178, 179, 180, 181, 182, 183] M M' → gi M' 180 = va_up (gi M 180) b (gi M 120 46) → gi M' 181 = va_up (gi M 181) b (gi M 120 47) → gi M' 176 = rowK (gi M 149) (24 * b) i (gi M 176) → gi M' 177 = rowK (gi M 150) (24 * b) i (gi M 177) → gi M' 178 = rowK (gi M 151) (24 * b) i (gi M 178) → gi M' 179 = rowK (gi M 152) (24 * b) i (gi M 179) → gi M' 182 = rowK (gi M 153) (24 * b) i (gi M 182) → gi M' 183 = rowK (gi M 154) (24 * b) i (gi M 183) → pw d 139 (22, [some (.ref 120), some (.int (nI b)), some (.int (nI i)), none], [], M') Q := by
    refine upto (fun i hi ih => ?_)
    intro M' s e0 e1 e2 e3 e4 e5 e6 e7
    have hS' := hS.sm s
    by_cases hi2 : i = 24
    · subst hi2
      refine pw_blk (mi := mz_139) (b := bz_139_22) rfl rfl ?_
      simp only [bz_139_22, pz_cut_t, pz_cut_f, pz_cut_n, pv_gt, pv_ts, pv_tn, ev_ild2, ev_bp24, ev_ic_ge, pz_wi_gc, pz_wi_ga, pz_wi_gn, pz_wi_gl, pz_wi_gr, pz_wi_same, pz_wi_X, pz_wl_gc, pz_wl_ga, pz_wl_gn, pz_wl_gi, pz_wl_gr, pz_wl_same, pz_wl_X, pz_wr_gc, pz_wr_ga, pz_wr_gn, pz_wr_gi, pz_wr_gl, pz_wr_same, pz_wr_X]
      (try simp (disch := omega) only [nI_clamp, pz_in_nI2, pz_in_nI2L, pv_gt, nI_add, nI_addL, nI_Ladd, pk_mul, nI_mulL, nI_Lmul, pk_sub, nI_subL, nI_Lsub, nI_inc, nI_clampL, Nat.add_sub_cancel, pz_wi_else, pz_wl_else, vu_eq, vu_ne, pz_wi_gc, pz_wi_ga, pz_wi_gn, pz_wi_gl, pz_wi_gr, pz_wi_same, pz_wi_X, pz_wl_gc, pz_wl_ga, pz_wl_gn, pz_wl_gi, pz_wl_gr, pz_wl_same, pz_wl_X, pz_wr_gc, pz_wr_ga, pz_wr_gn, pz_wr_gi, pz_wr_gl, pz_wr_same, pz_wr_X])
      refine po_brP (fun q22 => ?_) (fun q22 => ?_)
      · skip
        (try simp (disch := omega) only [nI_ltI, nI_leI, nI_eq, nI_ltL, nI_leL, nI_eqL, nI_Llt, nI_Lle, nI_Leq, nI_eqm, nI_meq, nI_ltm, nI_lem, nI_mlt, nI_mle, lg0, lgl, lgg, lgle, lgge, Int32.not_lt, Int32.not_le, Int64.not_lt, Int64.not_le, not_false_eq_true, not_true_eq_false, Decidable.not_not, ge_iff_le, gt_iff_lt] at q22)
        refine pw_blk (mi := mz_139) (b := bz_139_113) rfl rfl ?_
        simp only [bz_139_113, pz_cut_t, pz_cut_f, pz_cut_n, pv_gt, pv_ts, pv_tn, ev_ret, pz_wi_gc, pz_wi_ga, pz_wi_gn, pz_wi_gl, pz_wi_gr, pz_wi_same, pz_wi_X, pz_wl_gc, pz_wl_ga, pz_wl_gn, pz_wl_gi, pz_wl_gr, pz_wl_same, pz_wl_X, pz_wr_gc, pz_wr_ga, pz_wr_gn, pz_wr_gi, pz_wr_gl, pz_wr_same, pz_wr_X]
        (try simp (disch := omega) only [nI_clamp, pz_in_nI2, pz_in_nI2L, pv_gt, nI_add, nI_addL, nI_Ladd, pk_mul, nI_mulL, nI_Lmul, pk_sub, nI_subL, nI_Lsub, nI_inc, nI_clampL, Nat.add_sub_cancel, pz_wi_else, pz_wl_else, vu_eq, vu_ne, pz_wi_gc, pz_wi_ga, pz_wi_gn, pz_wi_gl, pz_wi_gr, pz_wi_same, pz_wi_X, pz_wl_gc, pz_wl_ga, pz_wl_gn, pz_wl_gi, pz_wl_gr, pz_wl_same, pz_wl_X, pz_wr_gc, pz_wr_ga, pz_wr_gn, pz_wr_gi, pz_wr_gl, pz_wr_same, pz_wr_X])
        exact po_ret (h M' s e0 e1 e2 e3 e4 e5 e6 e7)
      · first
        | exact absurd q22 (by decide)
        | exact absurd trivial q22
        | exact q22.elim
        | (exfalso; (try simp (disch := omega) only [nI_ltI, nI_leI, nI_eq, nI_ltL, nI_leL, nI_eqL, nI_Llt, nI_Lle, nI_Leq, nI_eqm, nI_meq, nI_ltm, nI_lem, nI_mlt, nI_mle, lg0, lgl, lgg, lgle, lgge, Int32.not_lt, Int32.not_le, Int64.not_lt, Int64.not_le, not_false_eq_true, not_true_eq_false, Decidable.not_not, ge_iff_le, gt_iff_lt] at q22) <;> omega)
        | exact absurd q22 (by with_reducible assumption)
        | exact absurd (by with_reducible assumption) q22
        | exact absurd (Decidable.not_not.mp q22) (by with_reducible assumption)
        | exact absurd (by with_reducible assumption) (Int32.not_le.mpr q22)
        | exact absurd (by with_reducible assumption) (Int32.not_lt.mpr q22)
    · have w1 : gi M' 149 = gi M 149 := s.i (by decide)
      have w2 : gi M' 150 = gi M 150 := s.i (by decide)
      have w3 : gi M' 151 = gi M 151 := s.i (by decide)
      have w4 : gi M' 152 = gi M 152 := s.i (by decide)
      have w5 : gi M' 153 = gi M 153 := s.i (by decide)
      have w6 : gi M' 154 = gi M 154 := s.i (by decide)
      have v5 := and1 (z1 i (by omega))
      have v6 := and1 (z2 i (by omega))
      refine pw_blk (mi := mz_139) (b := bz_139_22) rfl rfl ?_
      simp only [bz_139_22, pz_cut_t, pz_cut_f, pz_cut_n, pv_gt, pv_ts, pv_tn, ev_ild2, ev_bp24, ev_ic_ge, pz_wi_gc, pz_wi_ga, pz_wi_gn, pz_wi_gl, pz_wi_gr, pz_wi_same, pz_wi_X, pz_wl_gc, pz_wl_ga, pz_wl_gn, pz_wl_gi, pz_wl_gr, pz_wl_same, pz_wl_X, pz_wr_gc, pz_wr_ga, pz_wr_gn, pz_wr_gi, pz_wr_gl, pz_wr_same, pz_wr_X, w1, w2, w3, w4, w5, w6, v5, v6]
      (try simp (disch := omega) only [nI_clamp, pz_in_nI2, pz_in_nI2L, pv_gt, nI_add, nI_addL, nI_Ladd, pk_mul, nI_mulL, nI_Lmul, pk_sub, nI_subL, nI_Lsub, nI_inc, nI_clampL, Nat.add_sub_cancel, pz_wi_else, pz_wl_else, vu_eq, vu_ne, pz_wi_gc, pz_wi_ga, pz_wi_gn, pz_wi_gl, pz_wi_gr, pz_wi_same, pz_wi_X, pz_wl_gc, pz_wl_ga, pz_wl_gn, pz_wl_gi, pz_wl_gr, pz_wl_same, pz_wl_X, pz_wr_gc, pz_wr_ga, pz_wr_gn, pz_wr_gi, pz_wr_gl, pz_wr_same, pz_wr_X, w1, w2, w3, w4, w5, w6, v5, v6])
      refine po_brP (fun q22 => ?_) (fun q22 => ?_)
      · first
        | exact absurd q22 (by decide)
        | exact absurd trivial q22
        | exact q22.elim
        | (exfalso; (try simp (disch := omega) only [nI_ltI, nI_leI, nI_eq, nI_ltL, nI_leL, nI_eqL, nI_Llt, nI_Lle, nI_Leq, nI_eqm, nI_meq, nI_ltm, nI_lem, nI_mlt, nI_mle, lg0, lgl, lgg, lgle, lgge, Int32.not_lt, Int32.not_le, Int64.not_lt, Int64.not_le, not_false_eq_true, not_true_eq_false, Decidable.not_not, ge_iff_le, gt_iff_lt] at q22) <;> omega)
        | exact absurd q22 (by with_reducible assumption)
        | exact absurd (by with_reducible assumption) q22
        | exact absurd (Decidable.not_not.mp q22) (by with_reducible assumption)
        | exact absurd (by with_reducible assumption) (Int32.not_le.mpr q22)
        | exact absurd (by with_reducible assumption) (Int32.not_lt.mpr q22)
      · skip
        (try simp (disch := omega) only [nI_ltI, nI_leI, nI_eq, nI_ltL, nI_leL, nI_eqL, nI_Llt, nI_Lle, nI_Leq, nI_eqm, nI_meq, nI_ltm, nI_lem, nI_mlt, nI_mle, lg0, lgl, lgg, lgle, lgge, Int32.not_lt, Int32.not_le, Int64.not_lt, Int64.not_le, not_false_eq_true, not_true_eq_false, Decidable.not_not, ge_iff_le, gt_iff_lt] at q22)
        refine pw_blk (mi := mz_139) (b := bz_139_28) rfl rfl ?_
        simp only [bz_139_28, pz_cut_t, pz_cut_f, pz_cut_n, pv_gt, pv_ts, pv_tn, ev_bp24, ev_ild1, ev_imul, ev_ild2, ev_iadd, ev_ist3n, ev_ist3i, ev_ist3r, ev_ist3e, ev_ist3l, ev_ald0, ev_eld0, ev_gf11_2, ev_ild3, ea_iald, ea_iast, ea_bald, ea_zald, ea_bast, ea_zast, ev_inc2n, ev_inc2i, ev_inc2r, ev_inc2e, ev_goto, pz_wi_gc, pz_wi_ga, pz_wi_gn, pz_wi_gl, pz_wi_gr, pz_wi_same, pz_wi_X, pz_wl_gc, pz_wl_ga, pz_wl_gn, pz_wl_gi, pz_wl_gr, pz_wl_same, pz_wl_X, pz_wr_gc, pz_wr_ga, pz_wr_gn, pz_wr_gi, pz_wr_gl, pz_wr_same, pz_wr_X, so_120 hS', sr_120_92 hS', sa_176 hS', sn_176 hS', sr_120_40 hS', sa_149 hS', sn_149 hS', sr_120_93 hS', sa_177 hS', sn_177 hS', sr_120_41 hS', sa_150 hS', sn_150 hS', sr_120_94 hS', sa_178 hS', sn_178 hS', sr_120_42 hS', sa_151 hS', sn_151 hS', sr_120_95 hS', sa_179 hS', sn_179 hS', sr_120_43 hS', sa_152 hS', sn_152 hS', sr_120_98 hS', sa_182 hS', sn_182 hS', sr_120_44 hS', sa_153 hS', sn_153 hS', sr_120_99 hS', sa_183 hS', sn_183 hS', sr_120_45 hS', sa_154 hS', sn_154 hS', w1, w2, w3, w4, w5, w6, v5, v6, sa_180 hS', sn_180 hS', sa_181 hS', sn_181 hS']
        (try simp (disch := omega) only [nI_clamp, pz_in_nI2, pz_in_nI2L, pv_gt, nI_add, nI_addL, nI_Ladd, pk_mul, nI_mulL, nI_Lmul, pk_sub, nI_subL, nI_Lsub, nI_inc, nI_clampL, Nat.add_sub_cancel, pz_wi_else, pz_wl_else, vu_eq, vu_ne, pz_wi_gc, pz_wi_ga, pz_wi_gn, pz_wi_gl, pz_wi_gr, pz_wi_same, pz_wi_X, pz_wl_gc, pz_wl_ga, pz_wl_gn, pz_wl_gi, pz_wl_gr, pz_wl_same, pz_wl_X, pz_wr_gc, pz_wr_ga, pz_wr_gn, pz_wr_gi, pz_wr_gl, pz_wr_same, pz_wr_X, w1, w2, w3, w4, w5, w6, v5, v6])
        (try refine po_gI (by first | exact pz_in_nI (by omega) (by decide) | decide | assumption) ?_)
        (try refine po_gI (by first | exact pz_in_nI (by omega) (by decide) | decide | assumption) ?_)
        (try refine po_gI (by first | exact pz_in_nI (by omega) (by decide) | decide | assumption) ?_)
        (try refine po_gI (by first | exact pz_in_nI (by omega) (by decide) | decide | assumption) ?_)
        (try refine po_gI (by first | exact pz_in_nI (by omega) (by decide) | decide | assumption) ?_)
        (try refine po_gI (by first | exact pz_in_nI (by omega) (by decide) | decide | assumption) ?_)
        (try refine po_gI (by first | exact pz_in_nI (by omega) (by decide) | decide | assumption) ?_)
        (try refine po_gI (by first | exact pz_in_nI (by omega) (by decide) | decide | assumption) ?_)
        (try refine po_gI (by first | exact pz_in_nI (by omega) (by decide) | decide | assumption) ?_)
        (try refine po_gI (by first | exact pz_in_nI (by omega) (by decide) | decide | assumption) ?_)
        (try refine po_gI (by first | exact pz_in_nI (by omega) (by decide) | decide | assumption) ?_)
        (try refine po_gI (by first | exact pz_in_nI (by omega) (by decide) | decide | assumption) ?_)
        refine po_go ?_
        refine pw_cut (mi := mz_139) (b := bz_139_22) rfl rfl (ih (i + 1) (by omega) (by omega) _ ((((((s.wi (by simp)).wi (by simp)).wi (by simp)).wi (by simp)).wi (by simp)).wi (by simp)) ?_ ?_ ?_ ?_ ?_ ?_ ?_ ?_) rfl
        all_goals simp (disch := omega) only [pz_wi_same, pz_wi_else]
        · exact e0
        · exact e1
        · rw [e2, rowK_s]
        · rw [e3, rowK_s]
        · rw [e4, rowK_s]
        · rw [e5, rowK_s]
        · rw [e6, rowK_s]
        · rw [e7, rowK_s]
  refine pm_ent (L := [some (.ref 120), some (.int (nI b)), none, none]) rfl (Nat.le_of_ble_eq_true rfl) ?_
  refine pw_blk (mi := mz_139) (b := bz_139_0) rfl rfl ?_
  simp only [bz_139_0, pz_cut_t, pz_cut_f, pz_cut_n, pv_gt, pv_ts, pv_tn, ev_ald0, ev_eld0, ev_gf11_2, ev_ild1, ev_gf11_0, ea_iast, ev_ic0, ev_ist2n, ev_ist2i, ev_ist2r, ev_ist2e, ev_ist2l, ev_nil, pz_wi_gc, pz_wi_ga, pz_wi_gn, pz_wi_gl, pz_wi_gr, pz_wi_same, pz_wi_X, pz_wl_gc, pz_wl_ga, pz_wl_gn, pz_wl_gi, pz_wl_gr, pz_wl_same, pz_wl_X, pz_wr_gc, pz_wr_ga, pz_wr_gn, pz_wr_gi, pz_wr_gl, pz_wr_same, pz_wr_X, so_120 hS, sr_120_96 hS, sa_180 hS, sn_180 hS, sr_120_97 hS, sa_181 hS, sn_181 hS, sa_176 hS, sn_176 hS, sa_149 hS, sn_149 hS, sa_177 hS, sn_177 hS, sa_150 hS, sn_150 hS, sa_178 hS, sn_178 hS, sa_151 hS, sn_151 hS, sa_179 hS, sn_179 hS, sa_152 hS, sn_152 hS, sa_182 hS, sn_182 hS, sa_153 hS, sn_153 hS, sa_183 hS, sn_183 hS, sa_154 hS, sn_154 hS]
  (try simp (disch := omega) only [nI_clamp, pz_in_nI2, pz_in_nI2L, pv_gt, nI_add, nI_addL, nI_Ladd, pk_mul, nI_mulL, nI_Lmul, pk_sub, nI_subL, nI_Lsub, nI_inc, nI_clampL, Nat.add_sub_cancel, pz_wi_else, pz_wl_else, vu_eq, vu_ne, pz_wi_gc, pz_wi_ga, pz_wi_gn, pz_wi_gl, pz_wi_gr, pz_wi_same, pz_wi_X, pz_wl_gc, pz_wl_ga, pz_wl_gn, pz_wl_gi, pz_wl_gr, pz_wl_same, pz_wl_X, pz_wr_gc, pz_wr_ga, pz_wr_gn, pz_wr_gi, pz_wr_gl, pz_wr_same, pz_wr_X])
  (try refine po_gI (by first | exact pz_in_nI (by omega) (by decide) | decide | assumption) ?_)
  (try refine po_gI (by first | exact pz_in_nI (by omega) (by decide) | decide | assumption) ?_)
  refine po_go ?_
  refine key 0 (by omega) _ (sm.wi (sm.wi sm.rf (by simp)) (by simp)) ?_ ?_ ?_ ?_ ?_ ?_ ?_ ?_
  all_goals simp (disch := omega) only [pz_wi_same, pz_wi_else, rowK_0]
theorem r_bring {b : Nat} (hS : SH M) (hb : b < 4) (z1 : ∀ i, i < 24 → gi M 182 (24 * b + i) = 0 ∨ gi M 182 (24 * b + i) = 1) (z2 : ∀ i, i < 24 → gi M 183 (24 * b + i) = 0 ∨ gi M 183 (24 * b + i) = 1) (h : ∀ M', sm [120, 149, 150, 151, 152, 153, 154] M M' → gi M' 120 = va_up (va_up (gi M 120) 46 (gi M 180 b)) 47 (gi M 181 b) → gi M' 149 = rowG (fun i => gi M 176 (24 * b + i)) 24 (gi M 149) → gi M' 150 = rowG (fun i => gi M 177 (24 * b + i)) 24 (gi M 150) → gi M' 151 = rowG (fun i => gi M 178 (24 * b + i)) 24 (gi M 151) → gi M' 152 = rowG (fun i => gi M 179 (24 * b + i)) 24 (gi M 152) → gi M' 153 = rowG (fun i => gi M 182 (24 * b + i)) 24 (gi M 153) → gi M' 154 = rowG (fun i => gi M 183 (24 * b + i)) 24 (gi M 154) → Q (none, M')) : pm d 142 [.ref 120, .int (nI b)] M Q := by
  have key : ∀ i, i ≤ 24 → ∀ M', sm [120, 149, 150, 151, 152, 153, 154] M M' → gi M' 120 = va_up (va_up (gi M 120) 46 (gi M 180 b)) 47 (gi M 181 b) → gi M' 149 = rowG (fun i => gi M 176 (24 * b + i)) i (gi M 149) → gi M' 150 = rowG (fun i => gi M 177 (24 * b + i)) i (gi M 150) → gi M' 151 = rowG (fun i => gi M 178 (24 * b + i)) i (gi M 151) → gi M' 152 = rowG (fun i => gi M 179 (24 * b + i)) i (gi M 152) → gi M' 153 = rowG (fun i => gi M 182 (24 * b + i)) i (gi M 153) → gi M' 154 = rowG (fun i => gi M 183 (24 * b + i)) i (gi M 154) → pw d 142 (22, [some (.ref 120), some (.int (nI b)), some (.int (nI i)), none], [], M') Q := by
    refine upto (fun i hi ih => ?_)
    intro M' s e0 e1 e2 e3 e4 e5 e6
    have hS' := hS.sm s
    by_cases hi2 : i = 24
    · subst hi2
      refine pw_blk (mi := mz_142) (b := bz_142_22) rfl rfl ?_
      simp only [bz_142_22, pz_cut_t, pz_cut_f, pz_cut_n, pv_gt, pv_ts, pv_tn, ev_ild2, ev_bp24, ev_ic_ge, pz_wi_gc, pz_wi_ga, pz_wi_gn, pz_wi_gl, pz_wi_gr, pz_wi_same, pz_wi_X, pz_wl_gc, pz_wl_ga, pz_wl_gn, pz_wl_gi, pz_wl_gr, pz_wl_same, pz_wl_X, pz_wr_gc, pz_wr_ga, pz_wr_gn, pz_wr_gi, pz_wr_gl, pz_wr_same, pz_wr_X]
      (try simp (disch := omega) only [nI_clamp, pz_in_nI2, pz_in_nI2L, pv_gt, nI_add, nI_addL, nI_Ladd, pk_mul, nI_mulL, nI_Lmul, pk_sub, nI_subL, nI_Lsub, nI_inc, nI_clampL, Nat.add_sub_cancel, pz_wi_else, pz_wl_else, vu_eq, vu_ne, pz_wi_gc, pz_wi_ga, pz_wi_gn, pz_wi_gl, pz_wi_gr, pz_wi_same, pz_wi_X, pz_wl_gc, pz_wl_ga, pz_wl_gn, pz_wl_gi, pz_wl_gr, pz_wl_same, pz_wl_X, pz_wr_gc, pz_wr_ga, pz_wr_gn, pz_wr_gi, pz_wr_gl, pz_wr_same, pz_wr_X])
      refine po_brP (fun q22 => ?_) (fun q22 => ?_)
      · skip
        (try simp (disch := omega) only [nI_ltI, nI_leI, nI_eq, nI_ltL, nI_leL, nI_eqL, nI_Llt, nI_Lle, nI_Leq, nI_eqm, nI_meq, nI_ltm, nI_lem, nI_mlt, nI_mle, lg0, lgl, lgg, lgle, lgge, Int32.not_lt, Int32.not_le, Int64.not_lt, Int64.not_le, not_false_eq_true, not_true_eq_false, Decidable.not_not, ge_iff_le, gt_iff_lt] at q22)
        refine pw_blk (mi := mz_142) (b := bz_142_113) rfl rfl ?_
        simp only [bz_142_113, pz_cut_t, pz_cut_f, pz_cut_n, pv_gt, pv_ts, pv_tn, ev_ret, pz_wi_gc, pz_wi_ga, pz_wi_gn, pz_wi_gl, pz_wi_gr, pz_wi_same, pz_wi_X, pz_wl_gc, pz_wl_ga, pz_wl_gn, pz_wl_gi, pz_wl_gr, pz_wl_same, pz_wl_X, pz_wr_gc, pz_wr_ga, pz_wr_gn, pz_wr_gi, pz_wr_gl, pz_wr_same, pz_wr_X]
        (try simp (disch := omega) only [nI_clamp, pz_in_nI2, pz_in_nI2L, pv_gt, nI_add, nI_addL, nI_Ladd, pk_mul, nI_mulL, nI_Lmul, pk_sub, nI_subL, nI_Lsub, nI_inc, nI_clampL, Nat.add_sub_cancel, pz_wi_else, pz_wl_else, vu_eq, vu_ne, pz_wi_gc, pz_wi_ga, pz_wi_gn, pz_wi_gl, pz_wi_gr, pz_wi_same, pz_wi_X, pz_wl_gc, pz_wl_ga, pz_wl_gn, pz_wl_gi, pz_wl_gr, pz_wl_same, pz_wl_X, pz_wr_gc, pz_wr_ga, pz_wr_gn, pz_wr_gi, pz_wr_gl, pz_wr_same, pz_wr_X])
        exact po_ret (h M' s e0 e1 e2 e3 e4 e5 e6)
      · first
        | exact absurd q22 (by decide)
        | exact absurd trivial q22
        | exact q22.elim
        | (exfalso; (try simp (disch := omega) only [nI_ltI, nI_leI, nI_eq, nI_ltL, nI_leL, nI_eqL, nI_Llt, nI_Lle, nI_Leq, nI_eqm, nI_meq, nI_ltm, nI_lem, nI_mlt, nI_mle, lg0, lgl, lgg, lgle, lgge, Int32.not_lt, Int32.not_le, Int64.not_lt, Int64.not_le, not_false_eq_true, not_true_eq_false, Decidable.not_not, ge_iff_le, gt_iff_lt] at q22) <;> omega)
        | exact absurd q22 (by with_reducible assumption)
        | exact absurd (by with_reducible assumption) q22
        | exact absurd (Decidable.not_not.mp q22) (by with_reducible assumption)
        | exact absurd (by with_reducible assumption) (Int32.not_le.mpr q22)
        | exact absurd (by with_reducible assumption) (Int32.not_lt.mpr q22)
    · have w1 : gi M' 176 = gi M 176 := s.i (by decide)
      have w2 : gi M' 177 = gi M 177 := s.i (by decide)
      have w3 : gi M' 178 = gi M 178 := s.i (by decide)
      have w4 : gi M' 179 = gi M 179 := s.i (by decide)
      have w5 : gi M' 182 = gi M 182 := s.i (by decide)
      have w6 : gi M' 183 = gi M 183 := s.i (by decide)
      have v5 := and1 (z1 i (by omega))
      have v6 := and1 (z2 i (by omega))
      refine pw_blk (mi := mz_142) (b := bz_142_22) rfl rfl ?_
      simp only [bz_142_22, pz_cut_t, pz_cut_f, pz_cut_n, pv_gt, pv_ts, pv_tn, ev_ild2, ev_bp24, ev_ic_ge, pz_wi_gc, pz_wi_ga, pz_wi_gn, pz_wi_gl, pz_wi_gr, pz_wi_same, pz_wi_X, pz_wl_gc, pz_wl_ga, pz_wl_gn, pz_wl_gi, pz_wl_gr, pz_wl_same, pz_wl_X, pz_wr_gc, pz_wr_ga, pz_wr_gn, pz_wr_gi, pz_wr_gl, pz_wr_same, pz_wr_X, w1, w2, w3, w4, w5, w6, v5, v6]
      (try simp (disch := omega) only [nI_clamp, pz_in_nI2, pz_in_nI2L, pv_gt, nI_add, nI_addL, nI_Ladd, pk_mul, nI_mulL, nI_Lmul, pk_sub, nI_subL, nI_Lsub, nI_inc, nI_clampL, Nat.add_sub_cancel, pz_wi_else, pz_wl_else, vu_eq, vu_ne, pz_wi_gc, pz_wi_ga, pz_wi_gn, pz_wi_gl, pz_wi_gr, pz_wi_same, pz_wi_X, pz_wl_gc, pz_wl_ga, pz_wl_gn, pz_wl_gi, pz_wl_gr, pz_wl_same, pz_wl_X, pz_wr_gc, pz_wr_ga, pz_wr_gn, pz_wr_gi, pz_wr_gl, pz_wr_same, pz_wr_X, w1, w2, w3, w4, w5, w6, v5, v6])
      refine po_brP (fun q22 => ?_) (fun q22 => ?_)
      · first
        | exact absurd q22 (by decide)
        | exact absurd trivial q22
        | exact q22.elim
        | (exfalso; (try simp (disch := omega) only [nI_ltI, nI_leI, nI_eq, nI_ltL, nI_leL, nI_eqL, nI_Llt, nI_Lle, nI_Leq, nI_eqm, nI_meq, nI_ltm, nI_lem, nI_mlt, nI_mle, lg0, lgl, lgg, lgle, lgge, Int32.not_lt, Int32.not_le, Int64.not_lt, Int64.not_le, not_false_eq_true, not_true_eq_false, Decidable.not_not, ge_iff_le, gt_iff_lt] at q22) <;> omega)
        | exact absurd q22 (by with_reducible assumption)
        | exact absurd (by with_reducible assumption) q22
        | exact absurd (Decidable.not_not.mp q22) (by with_reducible assumption)
        | exact absurd (by with_reducible assumption) (Int32.not_le.mpr q22)
        | exact absurd (by with_reducible assumption) (Int32.not_lt.mpr q22)
      · skip
        (try simp (disch := omega) only [nI_ltI, nI_leI, nI_eq, nI_ltL, nI_leL, nI_eqL, nI_Llt, nI_Lle, nI_Leq, nI_eqm, nI_meq, nI_ltm, nI_lem, nI_mlt, nI_mle, lg0, lgl, lgg, lgle, lgge, Int32.not_lt, Int32.not_le, Int64.not_lt, Int64.not_le, not_false_eq_true, not_true_eq_false, Decidable.not_not, ge_iff_le, gt_iff_lt] at q22)
        refine pw_blk (mi := mz_142) (b := bz_142_28) rfl rfl ?_
        simp only [bz_142_28, pz_cut_t, pz_cut_f, pz_cut_n, pv_gt, pv_ts, pv_tn, ev_bp24, ev_ild1, ev_imul, ev_ild2, ev_iadd, ev_ist3n, ev_ist3i, ev_ist3r, ev_ist3e, ev_ist3l, ev_ald0, ev_eld0, ev_gf11_2, ev_ild3, ea_iald, ea_iast, ea_bald, ea_zald, ea_bast, ea_zast, ev_inc2n, ev_inc2i, ev_inc2r, ev_inc2e, ev_goto, pz_wi_gc, pz_wi_ga, pz_wi_gn, pz_wi_gl, pz_wi_gr, pz_wi_same, pz_wi_X, pz_wl_gc, pz_wl_ga, pz_wl_gn, pz_wl_gi, pz_wl_gr, pz_wl_same, pz_wl_X, pz_wr_gc, pz_wr_ga, pz_wr_gn, pz_wr_gi, pz_wr_gl, pz_wr_same, pz_wr_X, so_120 hS', sr_120_40 hS', sa_149 hS', sn_149 hS', sr_120_92 hS', sa_176 hS', sn_176 hS', sr_120_41 hS', sa_150 hS', sn_150 hS', sr_120_93 hS', sa_177 hS', sn_177 hS', sr_120_42 hS', sa_151 hS', sn_151 hS', sr_120_94 hS', sa_178 hS', sn_178 hS', sr_120_43 hS', sa_152 hS', sn_152 hS', sr_120_95 hS', sa_179 hS', sn_179 hS', sr_120_44 hS', sa_153 hS', sn_153 hS', sr_120_98 hS', sa_182 hS', sn_182 hS', sr_120_45 hS', sa_154 hS', sn_154 hS', sr_120_99 hS', sa_183 hS', sn_183 hS', w1, w2, w3, w4, w5, w6, v5, v6, sa_180 hS', sn_180 hS', sa_181 hS', sn_181 hS']
        (try simp (disch := omega) only [nI_clamp, pz_in_nI2, pz_in_nI2L, pv_gt, nI_add, nI_addL, nI_Ladd, pk_mul, nI_mulL, nI_Lmul, pk_sub, nI_subL, nI_Lsub, nI_inc, nI_clampL, Nat.add_sub_cancel, pz_wi_else, pz_wl_else, vu_eq, vu_ne, pz_wi_gc, pz_wi_ga, pz_wi_gn, pz_wi_gl, pz_wi_gr, pz_wi_same, pz_wi_X, pz_wl_gc, pz_wl_ga, pz_wl_gn, pz_wl_gi, pz_wl_gr, pz_wl_same, pz_wl_X, pz_wr_gc, pz_wr_ga, pz_wr_gn, pz_wr_gi, pz_wr_gl, pz_wr_same, pz_wr_X, w1, w2, w3, w4, w5, w6, v5, v6])
        (try refine po_gI (by first | exact pz_in_nI (by omega) (by decide) | decide | assumption) ?_)
        (try refine po_gI (by first | exact pz_in_nI (by omega) (by decide) | decide | assumption) ?_)
        (try refine po_gI (by first | exact pz_in_nI (by omega) (by decide) | decide | assumption) ?_)
        (try refine po_gI (by first | exact pz_in_nI (by omega) (by decide) | decide | assumption) ?_)
        (try refine po_gI (by first | exact pz_in_nI (by omega) (by decide) | decide | assumption) ?_)
        (try refine po_gI (by first | exact pz_in_nI (by omega) (by decide) | decide | assumption) ?_)
        (try refine po_gI (by first | exact pz_in_nI (by omega) (by decide) | decide | assumption) ?_)
        (try refine po_gI (by first | exact pz_in_nI (by omega) (by decide) | decide | assumption) ?_)
        (try refine po_gI (by first | exact pz_in_nI (by omega) (by decide) | decide | assumption) ?_)
        (try refine po_gI (by first | exact pz_in_nI (by omega) (by decide) | decide | assumption) ?_)
        (try refine po_gI (by first | exact pz_in_nI (by omega) (by decide) | decide | assumption) ?_)
        (try refine po_gI (by first | exact pz_in_nI (by omega) (by decide) | decide | assumption) ?_)
        refine po_go ?_
        refine pw_cut (mi := mz_142) (b := bz_142_22) rfl rfl (ih (i + 1) (by omega) (by omega) _ ((((((s.wi (by simp)).wi (by simp)).wi (by simp)).wi (by simp)).wi (by simp)).wi (by simp)) ?_ ?_ ?_ ?_ ?_ ?_ ?_) rfl
        all_goals simp (disch := omega) only [pz_wi_same, pz_wi_else]
        · exact e0
        · rw [e1, ← rowG_s]
        · rw [e2, ← rowG_s]
        · rw [e3, ← rowG_s]
        · rw [e4, ← rowG_s]
        · rw [e5, ← rowG_s]
        · rw [e6, ← rowG_s]
  refine pm_ent (L := [some (.ref 120), some (.int (nI b)), none, none]) rfl (Nat.le_of_ble_eq_true rfl) ?_
  refine pw_blk (mi := mz_142) (b := bz_142_0) rfl rfl ?_
  simp only [bz_142_0, pz_cut_t, pz_cut_f, pz_cut_n, pv_gt, pv_ts, pv_tn, ev_ald0, ev_eld0, ev_gf11_2, ev_ild1, ea_iald, ev_pf11_0, ev_ic0, ev_ist2n, ev_ist2i, ev_ist2r, ev_ist2e, ev_ist2l, ev_nil, pz_wi_gc, pz_wi_ga, pz_wi_gn, pz_wi_gl, pz_wi_gr, pz_wi_same, pz_wi_X, pz_wl_gc, pz_wl_ga, pz_wl_gn, pz_wl_gi, pz_wl_gr, pz_wl_same, pz_wl_X, pz_wr_gc, pz_wr_ga, pz_wr_gn, pz_wr_gi, pz_wr_gl, pz_wr_same, pz_wr_X, so_120 hS, sr_120_96 hS, sa_180 hS, sn_180 hS, sr_120_97 hS, sa_181 hS, sn_181 hS, sa_149 hS, sn_149 hS, sa_176 hS, sn_176 hS, sa_150 hS, sn_150 hS, sa_177 hS, sn_177 hS, sa_151 hS, sn_151 hS, sa_178 hS, sn_178 hS, sa_152 hS, sn_152 hS, sa_179 hS, sn_179 hS, sa_153 hS, sn_153 hS, sa_182 hS, sn_182 hS, sa_154 hS, sn_154 hS, sa_183 hS, sn_183 hS]
  (try simp (disch := omega) only [nI_clamp, pz_in_nI2, pz_in_nI2L, pv_gt, nI_add, nI_addL, nI_Ladd, pk_mul, nI_mulL, nI_Lmul, pk_sub, nI_subL, nI_Lsub, nI_inc, nI_clampL, Nat.add_sub_cancel, pz_wi_else, pz_wl_else, vu_eq, vu_ne, pz_wi_gc, pz_wi_ga, pz_wi_gn, pz_wi_gl, pz_wi_gr, pz_wi_same, pz_wi_X, pz_wl_gc, pz_wl_ga, pz_wl_gn, pz_wl_gi, pz_wl_gr, pz_wl_same, pz_wl_X, pz_wr_gc, pz_wr_ga, pz_wr_gn, pz_wr_gi, pz_wr_gl, pz_wr_same, pz_wr_X])
  (try refine po_gI (by first | exact pz_in_nI (by omega) (by decide) | decide | assumption) ?_)
  (try refine po_gI (by first | exact pz_in_nI (by omega) (by decide) | decide | assumption) ?_)
  refine po_go ?_
  refine key 0 (by omega) _ (sm.wi (sm.wi sm.rf (by simp)) (by simp)) ?_ ?_ ?_ ?_ ?_ ?_ ?_
  all_goals simp (disch := omega) only [pz_wi_same, pz_wi_else, rowG_0]
end BOX
