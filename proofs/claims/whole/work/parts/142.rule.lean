/-! ===== which plan the rules name ===== -/
section RULE
variable {d : Nat} {M M' : pz_M} {Q : Option Value × pz_M → Prop}
/-- the rules, their ends told -/
def RRb (M : pz_M) (ed : Nat → Nat) (nr B N : Nat) : Prop := ∀ i, i < nr → ed i ≤ ed (i + 1) ∧ ed (i + 1) ≤ 400 ∧ gi M 95 i = nI (ed (i + 1)) ∧ gi M 165 i = nI (ed (i + 1)) ∧ gi M 164 i = nI (ed i) ∧ gi M 94 i = gi M 166 i ∧ (∃ p, p < N ∧ gi M 94 i = nI p) ∧ pil (gi M 96) (ed (i + 1) - ed i) (ed i) 0 = some 1 ∧ ∀ k, ed i ≤ k → k < ed (i + 1) → cdR (gi M 96 k) (gi M 159 k) (gi M 160 k) B
theorem RRu.ed {nr B N : Nat} (h : RRu M nr B N) : ∃ ed : Nat → Nat, ed 0 = 0 ∧ RRb M ed nr B N := h
theorem RRb.fr {ed : Nat → Nat} {nr B N : Nat} (h : RRb M ed nr B N) (e : ag [94, 95, 96, 159, 160, 164, 165, 166] M M') : RRb M' ed nr B N := by
  unfold RRb at h ⊢
  rw [(e 94 (by decide)).1, (e 95 (by decide)).1, (e 96 (by decide)).1, (e 159 (by decide)).1, (e 160 (by decide)).1, (e 164 (by decide)).1, (e 165 (by decide)).1, (e 166 (by decide)).1]
  exact h
def plF (u : Nat → Nat → Int32) (st pl : Nat → Int32) (ed : Nat → Nat) : Nat → Nat → Int32
  | 0, _ => -1
  | c + 1, i => if ev u st (ed (i + 1) - ed i) (ed i) (fun _ => 0) 0 0 = 0 then plF u st pl ed c (i + 1) else pl i
theorem plF_is {u : Nat → Nat → Int32} {ed : Nat → Nat} {nr B N : Nat} (h : RRb M ed nr B N) : ∀ c i, i + c = nr → plF u (gi M 96) (gi M 94) ed c i = -1 ∨ ∃ p, p < N ∧ plF u (gi M 96) (gi M 94) ed c i = nI p
  | 0, _, _ => Or.inl rfl
  | c + 1, i, hi => by
    unfold plF
    split
    · exact plF_is h c (i + 1) (by omega)
    · exact Or.inr (h i (by omega)).2.2.2.2.2.2.1
theorem m_planFor (hd : 3 ≤ d) {o B N nr : Nat} {ed : Nat → Nat} {h e cu : Nat → Int32} {y : Int32} (hS : SH M) (hM : isMind M o) (ho : o + 4 < 97) (hh : gi M (o + 1) = h) (he : gi M (o + 2) = e) (hy : gi M o 6 = y) (hc : ∀ v, v < B → gi M 104 v = cu v) (hr : ∀ i, r1k (h i)) (hB : B ≤ 24) (hn : gi M 93 0 = nI nr) (hn6 : nr ≤ 6) (h0 : ed 0 = 0) (hR : RRb M ed nr B N) (K : ∀ M', sm [97] M M' → Q (some (.int (plF (uv h e y cu B) (gi M 96) (gi M 94) ed nr 0)), M')) : pm d 153 [.ref 93, .ref o, .ref 104, .int (nI B)] M Q := by
  have key : ∀ c i M', i + c = nr → sm [97] M M' → (∀ M', sm [97] M M' → Q (some (.int (plF (uv h e y cu B) (gi M 96) (gi M 94) ed c i)), M')) → pw d 153 (6, [some (.ref 93), some (.ref o), some (.ref 104), some (.int (nI B)), some (.int (nI (ed i))), some (.int (nI i))], [], M') Q := by
    intro c
    induction c with
    | zero =>
      intro i M' hi s' K
      have hS' := hS.sm s'
      have hn' : gi M' 93 0 = nI nr := by rw [s'.i (by decide)]; exact hn
      refine pw_blk (mi := mz_153) (b := bz_153_6) rfl rfl ?_
      simp only [bz_153_6, pz_cut_t, pz_cut_f, pz_cut_n, pv_gt, pv_ts, pv_tn, ev_ild5, ev_ald0, ev_eld0, ev_gf6_0, ev_ic_ge, pz_wi_gc, pz_wi_ga, pz_wi_gn, pz_wi_gl, pz_wi_gr, pz_wi_same, pz_wi_X, pz_wl_gc, pz_wl_ga, pz_wl_gn, pz_wl_gi, pz_wl_gr, pz_wl_same, pz_wl_X, pz_wr_gc, pz_wr_ga, pz_wr_gn, pz_wr_gi, pz_wr_gl, pz_wr_same, pz_wr_X, so_93 hS', hn']
      (try simp (disch := omega) only [nI_clamp, pz_in_nI2, pz_in_nI2L, pv_gt, nI_add, nI_addL, nI_Ladd, pk_mul, nI_mulL, nI_Lmul, pk_sub, nI_subL, nI_Lsub, nI_inc, nI_clampL, Nat.add_sub_cancel, pz_wi_else, pz_wl_else, vu_eq, vu_ne, pz_wi_gc, pz_wi_ga, pz_wi_gn, pz_wi_gl, pz_wi_gr, pz_wi_same, pz_wi_X, pz_wl_gc, pz_wl_ga, pz_wl_gn, pz_wl_gi, pz_wl_gr, pz_wl_same, pz_wl_X, pz_wr_gc, pz_wr_ga, pz_wr_gn, pz_wr_gi, pz_wr_gl, pz_wr_same, pz_wr_X, hn'])
      refine po_brP (fun q6 => ?_) (fun q6 => ?_)
      · skip
        (try simp (disch := omega) only [nI_ltI, nI_leI, nI_eq, nI_ltL, nI_leL, nI_eqL, nI_Llt, nI_Lle, nI_Leq, nI_eqm, nI_meq, nI_ltm, nI_lem, nI_mlt, nI_mle, lg0, lgl, lgg, lgle, lgge, Int32.not_lt, Int32.not_le, Int64.not_lt, Int64.not_le, not_false_eq_true, not_true_eq_false, Decidable.not_not, ge_iff_le, gt_iff_lt] at q6)
        refine pw_blk (mi := mz_153) (b := bz_153_57) rfl rfl ?_
        simp only [bz_153_57, pz_cut_t, pz_cut_f, pz_cut_n, pv_gt, pv_ts, pv_tn, ev_icm1, ev_iret0, pz_wi_gc, pz_wi_ga, pz_wi_gn, pz_wi_gl, pz_wi_gr, pz_wi_same, pz_wi_X, pz_wl_gc, pz_wl_ga, pz_wl_gn, pz_wl_gi, pz_wl_gr, pz_wl_same, pz_wl_X, pz_wr_gc, pz_wr_ga, pz_wr_gn, pz_wr_gi, pz_wr_gl, pz_wr_same, pz_wr_X, hn']
        (try simp (disch := omega) only [nI_clamp, pz_in_nI2, pz_in_nI2L, pv_gt, nI_add, nI_addL, nI_Ladd, pk_mul, nI_mulL, nI_Lmul, pk_sub, nI_subL, nI_Lsub, nI_inc, nI_clampL, Nat.add_sub_cancel, pz_wi_else, pz_wl_else, vu_eq, vu_ne, pz_wi_gc, pz_wi_ga, pz_wi_gn, pz_wi_gl, pz_wi_gr, pz_wi_same, pz_wi_X, pz_wl_gc, pz_wl_ga, pz_wl_gn, pz_wl_gi, pz_wl_gr, pz_wl_same, pz_wl_X, pz_wr_gc, pz_wr_ga, pz_wr_gn, pz_wr_gi, pz_wr_gl, pz_wr_same, pz_wr_X, hn'])
        exact po_ret (K M' s')
      · first
        | exact absurd q6 (by decide)
        | exact absurd trivial q6
        | exact q6.elim
        | (exfalso; (try simp (disch := omega) only [nI_ltI, nI_leI, nI_eq, nI_ltL, nI_leL, nI_eqL, nI_Llt, nI_Lle, nI_Leq, nI_eqm, nI_meq, nI_ltm, nI_lem, nI_mlt, nI_mle, lg0, lgl, lgg, lgle, lgge, Int32.not_lt, Int32.not_le, Int64.not_lt, Int64.not_le, not_false_eq_true, not_true_eq_false, Decidable.not_not, ge_iff_le, gt_iff_lt] at q6) <;> omega)
        | exact absurd q6 (by with_reducible assumption)
        | exact absurd (by with_reducible assumption) q6
        | exact absurd (Decidable.not_not.mp q6) (by with_reducible assumption)
        | exact absurd (by with_reducible assumption) (Int32.not_le.mpr q6)
        | exact absurd (by with_reducible assumption) (Int32.not_lt.mpr q6)
    | succ c ih =>
      intro i M' hi s' K
      have hS' := hS.sm s'
      have hn' : gi M' 93 0 = nI nr := by rw [s'.i (by decide)]; exact hn
      obtain ⟨u1, u2, u3, -, -, -, -, u8, u9⟩ := hR i (by omega)
      have u3' : gi M' 95 i = nI (ed (i + 1)) := by rw [s'.i (by decide)]; exact u3
      have e96 : gi M' 96 = gi M 96 := s'.i (by decide)
      refine pw_blk (mi := mz_153) (b := bz_153_6) rfl rfl ?_
      simp only [bz_153_6, pz_cut_t, pz_cut_f, pz_cut_n, pv_gt, pv_ts, pv_tn, ev_ild5, ev_ald0, ev_eld0, ev_gf6_0, ev_ic_ge, pz_wi_gc, pz_wi_ga, pz_wi_gn, pz_wi_gl, pz_wi_gr, pz_wi_same, pz_wi_X, pz_wl_gc, pz_wl_ga, pz_wl_gn, pz_wl_gi, pz_wl_gr, pz_wl_same, pz_wl_X, pz_wr_gc, pz_wr_ga, pz_wr_gn, pz_wr_gi, pz_wr_gl, pz_wr_same, pz_wr_X, so_93 hS', hn', u3']
      (try simp (disch := omega) only [nI_clamp, pz_in_nI2, pz_in_nI2L, pv_gt, nI_add, nI_addL, nI_Ladd, pk_mul, nI_mulL, nI_Lmul, pk_sub, nI_subL, nI_Lsub, nI_inc, nI_clampL, Nat.add_sub_cancel, pz_wi_else, pz_wl_else, vu_eq, vu_ne, pz_wi_gc, pz_wi_ga, pz_wi_gn, pz_wi_gl, pz_wi_gr, pz_wi_same, pz_wi_X, pz_wl_gc, pz_wl_ga, pz_wl_gn, pz_wl_gi, pz_wl_gr, pz_wl_same, pz_wl_X, pz_wr_gc, pz_wr_ga, pz_wr_gn, pz_wr_gi, pz_wr_gl, pz_wr_same, pz_wr_X, hn', u3'])
      refine po_brP (fun q6 => ?_) (fun q6 => ?_)
      · first
        | exact absurd q6 (by decide)
        | exact absurd trivial q6
        | exact q6.elim
        | (exfalso; (try simp (disch := omega) only [nI_ltI, nI_leI, nI_eq, nI_ltL, nI_leL, nI_eqL, nI_Llt, nI_Lle, nI_Leq, nI_eqm, nI_meq, nI_ltm, nI_lem, nI_mlt, nI_mle, lg0, lgl, lgg, lgle, lgge, Int32.not_lt, Int32.not_le, Int64.not_lt, Int64.not_le, not_false_eq_true, not_true_eq_false, Decidable.not_not, ge_iff_le, gt_iff_lt] at q6) <;> omega)
        | exact absurd q6 (by with_reducible assumption)
        | exact absurd (by with_reducible assumption) q6
        | exact absurd (Decidable.not_not.mp q6) (by with_reducible assumption)
        | exact absurd (by with_reducible assumption) (Int32.not_le.mpr q6)
        | exact absurd (by with_reducible assumption) (Int32.not_lt.mpr q6)
      · skip
        (try simp (disch := omega) only [nI_ltI, nI_leI, nI_eq, nI_ltL, nI_leL, nI_eqL, nI_Llt, nI_Lle, nI_Leq, nI_eqm, nI_meq, nI_ltm, nI_lem, nI_mlt, nI_mle, lg0, lgl, lgg, lgle, lgge, Int32.not_lt, Int32.not_le, Int64.not_lt, Int64.not_le, not_false_eq_true, not_true_eq_false, Decidable.not_not, ge_iff_le, gt_iff_lt] at q6)
        refine pw_blk (mi := mz_153) (b := bz_153_15) rfl rfl ?_
        simp only [bz_153_15, pz_cut_t, pz_cut_f, pz_cut_n, pv_gt, pv_ts, pv_tn, ev_ald0, ev_eld0, ev_ild4, ev_gf6_2, ev_ild5, ea_iald, ev_ald1, ev_eld1, ev_ald2, ev_eld2, ev_ild3, ev_cv5_6, pz_wi_gc, pz_wi_ga, pz_wi_gn, pz_wi_gl, pz_wi_gr, pz_wi_same, pz_wi_X, pz_wl_gc, pz_wl_ga, pz_wl_gn, pz_wl_gi, pz_wl_gr, pz_wl_same, pz_wl_X, pz_wr_gc, pz_wr_ga, pz_wr_gn, pz_wr_gi, pz_wr_gl, pz_wr_same, pz_wr_X, so_93 hS', sr_93_4 hS', sa_95 hS', sn_95 hS', hn', u3', sa_94 hS', sn_94 hS']
        (try simp (disch := omega) only [nI_clamp, pz_in_nI2, pz_in_nI2L, pv_gt, nI_add, nI_addL, nI_Ladd, pk_mul, nI_mulL, nI_Lmul, pk_sub, nI_subL, nI_Lsub, nI_inc, nI_clampL, Nat.add_sub_cancel, pz_wi_else, pz_wl_else, vu_eq, vu_ne, pz_wi_gc, pz_wi_ga, pz_wi_gn, pz_wi_gl, pz_wi_gr, pz_wi_same, pz_wi_X, pz_wl_gc, pz_wl_ga, pz_wl_gn, pz_wl_gi, pz_wl_gr, pz_wl_same, pz_wl_X, pz_wr_gc, pz_wr_ga, pz_wr_gn, pz_wr_gi, pz_wr_gl, pz_wr_same, pz_wr_X, hn', u3'])
        (try refine po_gI (by first | exact pz_in_nI (by omega) (by decide) | decide | assumption) ?_)
        (try refine po_gP (Nat.le_of_ble_eq_true rfl) ?_)
        refine po_call (by omega) (m_valueOf (h := h) (e := e) (cu := cu) (y := y) (c := ed (i + 1) - ed i) (by omega) hS' (hM.sm s') ho (by rw [s'.i (by simp; omega)]; exact hh) (by rw [s'.i (by simp; omega)]; exact he) (by rw [s'.i (by simp; omega)]; exact hy) (fun v hv => by rw [s'.i (by decide)]; exact hc v hv) hr hB u2 (by omega) (by rw [e96]; exact u8) (fun k h1 h2 => by rw [e96, s'.i (k := 159) (by decide), s'.i (k := 160) (by decide)]; exact u9 k h1 h2) (fun M2 s2 => ?_))
        have s3 := s'.tr s2 (by decide)
        have hS2 := hS.sm s3
        have u32 : gi M2 95 i = nI (ed (i + 1)) := by rw [s3.i (by decide)]; exact u3
        have u42 : gi M2 94 = gi M 94 := s3.i (by decide)
        refine pw_blk (mi := mz_153) (b := bz_153_31) rfl rfl ?_
        simp only [bz_153_31, pz_cut_t, pz_cut_f, pz_cut_n, pv_gt, pv_ts, pv_tn, ev_ifeq, pz_wi_gc, pz_wi_ga, pz_wi_gn, pz_wi_gl, pz_wi_gr, pz_wi_same, pz_wi_X, pz_wl_gc, pz_wl_ga, pz_wl_gn, pz_wl_gi, pz_wl_gr, pz_wl_same, pz_wl_X, pz_wr_gc, pz_wr_ga, pz_wr_gn, pz_wr_gi, pz_wr_gl, pz_wr_same, pz_wr_X, hn', u3']
        (try simp (disch := omega) only [nI_clamp, pz_in_nI2, pz_in_nI2L, pv_gt, nI_add, nI_addL, nI_Ladd, pk_mul, nI_mulL, nI_Lmul, pk_sub, nI_subL, nI_Lsub, nI_inc, nI_clampL, Nat.add_sub_cancel, pz_wi_else, pz_wl_else, vu_eq, vu_ne, pz_wi_gc, pz_wi_ga, pz_wi_gn, pz_wi_gl, pz_wi_gr, pz_wi_same, pz_wi_X, pz_wl_gc, pz_wl_ga, pz_wl_gn, pz_wl_gi, pz_wl_gr, pz_wl_same, pz_wl_X, pz_wr_gc, pz_wr_ga, pz_wr_gn, pz_wr_gi, pz_wr_gl, pz_wr_same, pz_wr_X, hn', u3'])
        refine po_brP (fun q31 => ?_) (fun q31 => ?_)
        · first
          | exact absurd q31 (by decide)
          | exact absurd trivial q31
          | exact q31.elim
          | (exfalso; (try simp (disch := omega) only [nI_ltI, nI_leI, nI_eq, nI_ltL, nI_leL, nI_eqL, nI_Llt, nI_Lle, nI_Leq, nI_eqm, nI_meq, nI_ltm, nI_lem, nI_mlt, nI_mle, lg0, lgl, lgg, lgle, lgge, Int32.not_lt, Int32.not_le, Int64.not_lt, Int64.not_le, not_false_eq_true, not_true_eq_false, Decidable.not_not, ge_iff_le, gt_iff_lt] at q31) <;> omega)
          | exact absurd q31 (by with_reducible assumption)
          | exact absurd (by with_reducible assumption) q31
          | exact absurd (Decidable.not_not.mp q31) (by with_reducible assumption)
          | exact absurd (by with_reducible assumption) (Int32.not_le.mpr q31)
          | exact absurd (by with_reducible assumption) (Int32.not_lt.mpr q31)
          | skip
            (try simp (disch := omega) only [nI_ltI, nI_leI, nI_eq, nI_ltL, nI_leL, nI_eqL, nI_Llt, nI_Lle, nI_Leq, nI_eqm, nI_meq, nI_ltm, nI_lem, nI_mlt, nI_mle, lg0, lgl, lgg, lgle, lgge, Int32.not_lt, Int32.not_le, Int64.not_lt, Int64.not_le, not_false_eq_true, not_true_eq_false, Decidable.not_not, ge_iff_le, gt_iff_lt] at q31)
            rw [e96] at q31
            refine pw_blk (mi := mz_153) (b := bz_153_42) rfl rfl ?_
            simp only [bz_153_42, pz_cut_t, pz_cut_f, pz_cut_n, pv_gt, pv_ts, pv_tn, ev_ald0, ev_eld0, ev_gf6_2, ev_ild5, ea_iald, ev_ist4n, ev_ist4i, ev_ist4r, ev_ist4e, ev_ist4l, ev_inc5n, ev_inc5i, ev_inc5r, ev_inc5e, ev_goto, pz_wi_gc, pz_wi_ga, pz_wi_gn, pz_wi_gl, pz_wi_gr, pz_wi_same, pz_wi_X, pz_wl_gc, pz_wl_ga, pz_wl_gn, pz_wl_gi, pz_wl_gr, pz_wl_same, pz_wl_X, pz_wr_gc, pz_wr_ga, pz_wr_gn, pz_wr_gi, pz_wr_gl, pz_wr_same, pz_wr_X, so_93 hS', sr_93_4 hS', sa_95 hS', sn_95 hS', hn', u3', so_93 hS2, sr_93_4 hS2, sa_95 hS2, sn_95 hS2, u32, sa_94 hS', sn_94 hS']
            (try simp (disch := omega) only [nI_clamp, pz_in_nI2, pz_in_nI2L, pv_gt, nI_add, nI_addL, nI_Ladd, pk_mul, nI_mulL, nI_Lmul, pk_sub, nI_subL, nI_Lsub, nI_inc, nI_clampL, Nat.add_sub_cancel, pz_wi_else, pz_wl_else, vu_eq, vu_ne, pz_wi_gc, pz_wi_ga, pz_wi_gn, pz_wi_gl, pz_wi_gr, pz_wi_same, pz_wi_X, pz_wl_gc, pz_wl_ga, pz_wl_gn, pz_wl_gi, pz_wl_gr, pz_wl_same, pz_wl_X, pz_wr_gc, pz_wr_ga, pz_wr_gn, pz_wr_gi, pz_wr_gl, pz_wr_same, pz_wr_X, hn', u3', so_93 hS2, sr_93_4 hS2, sa_95 hS2, sn_95 hS2, u32])
            (try refine po_gI (by first | exact pz_in_nI (by omega) (by decide) | decide | assumption) ?_)
            refine po_go ?_
            refine ih (i + 1) M2 (by omega) s3 (fun M3 s4 => ?_)
            have z := K M3 s4
            rw [plF, if_pos q31] at z
            exact z
        · first
          | exact absurd q31 (by decide)
          | exact absurd trivial q31
          | exact q31.elim
          | (exfalso; (try simp (disch := omega) only [nI_ltI, nI_leI, nI_eq, nI_ltL, nI_leL, nI_eqL, nI_Llt, nI_Lle, nI_Leq, nI_eqm, nI_meq, nI_ltm, nI_lem, nI_mlt, nI_mle, lg0, lgl, lgg, lgle, lgge, Int32.not_lt, Int32.not_le, Int64.not_lt, Int64.not_le, not_false_eq_true, not_true_eq_false, Decidable.not_not, ge_iff_le, gt_iff_lt] at q31) <;> omega)
          | exact absurd q31 (by with_reducible assumption)
          | exact absurd (by with_reducible assumption) q31
          | exact absurd (Decidable.not_not.mp q31) (by with_reducible assumption)
          | exact absurd (by with_reducible assumption) (Int32.not_le.mpr q31)
          | exact absurd (by with_reducible assumption) (Int32.not_lt.mpr q31)
          | skip
            (try simp (disch := omega) only [nI_ltI, nI_leI, nI_eq, nI_ltL, nI_leL, nI_eqL, nI_Llt, nI_Lle, nI_Leq, nI_eqm, nI_meq, nI_ltm, nI_lem, nI_mlt, nI_mle, lg0, lgl, lgg, lgle, lgge, Int32.not_lt, Int32.not_le, Int64.not_lt, Int64.not_le, not_false_eq_true, not_true_eq_false, Decidable.not_not, ge_iff_le, gt_iff_lt] at q31)
            rw [e96] at q31
            refine pw_blk (mi := mz_153) (b := bz_153_34) rfl rfl ?_
            simp only [bz_153_34, pz_cut_t, pz_cut_f, pz_cut_n, pv_gt, pv_ts, pv_tn, ev_ald0, ev_eld0, ev_gf6_2, ev_ild5, ea_iald, ev_iret0, pz_wi_gc, pz_wi_ga, pz_wi_gn, pz_wi_gl, pz_wi_gr, pz_wi_same, pz_wi_X, pz_wl_gc, pz_wl_ga, pz_wl_gn, pz_wl_gi, pz_wl_gr, pz_wl_same, pz_wl_X, pz_wr_gc, pz_wr_ga, pz_wr_gn, pz_wr_gi, pz_wr_gl, pz_wr_same, pz_wr_X, so_93 hS', sr_93_3 hS', sa_94 hS', sn_94 hS', hn', u3', so_93 hS2, sr_93_3 hS2, sa_94 hS2, sn_94 hS2, u42, sa_95 hS', sn_95 hS']
            (try simp (disch := omega) only [nI_clamp, pz_in_nI2, pz_in_nI2L, pv_gt, nI_add, nI_addL, nI_Ladd, pk_mul, nI_mulL, nI_Lmul, pk_sub, nI_subL, nI_Lsub, nI_inc, nI_clampL, Nat.add_sub_cancel, pz_wi_else, pz_wl_else, vu_eq, vu_ne, pz_wi_gc, pz_wi_ga, pz_wi_gn, pz_wi_gl, pz_wi_gr, pz_wi_same, pz_wi_X, pz_wl_gc, pz_wl_ga, pz_wl_gn, pz_wl_gi, pz_wl_gr, pz_wl_same, pz_wl_X, pz_wr_gc, pz_wr_ga, pz_wr_gn, pz_wr_gi, pz_wr_gl, pz_wr_same, pz_wr_X, hn', u3', so_93 hS2, sr_93_3 hS2, sa_94 hS2, sn_94 hS2, u42])
            (try refine po_gI (by first | exact pz_in_nI (by omega) (by decide) | decide | assumption) ?_)
            refine po_ret ?_
            have z := K M2 s3
            rw [plF, if_neg q31] at z
            exact z
  refine pm_ent (L := [some (.ref 93), some (.ref o), some (.ref 104), some (.int (nI B)), none, none]) rfl (Nat.le_of_ble_eq_true rfl) ?_
  refine pw_blk (mi := mz_153) (b := bz_153_0) rfl rfl ?_
  simp only [bz_153_0, pz_cut_t, pz_cut_f, pz_cut_n, pv_gt, pv_ts, pv_tn, ev_ic0, ev_ist4n, ev_ist4i, ev_ist4r, ev_ist4e, ev_ist4l, ev_ist5n, ev_ist5i, ev_ist5r, ev_ist5e, ev_ist5l, ev_nil, pz_wi_gc, pz_wi_ga, pz_wi_gn, pz_wi_gl, pz_wi_gr, pz_wi_same, pz_wi_X, pz_wl_gc, pz_wl_ga, pz_wl_gn, pz_wl_gi, pz_wl_gr, pz_wl_same, pz_wl_X, pz_wr_gc, pz_wr_ga, pz_wr_gn, pz_wr_gi, pz_wr_gl, pz_wr_same, pz_wr_X]
  (try simp (disch := omega) only [nI_clamp, pz_in_nI2, pz_in_nI2L, pv_gt, nI_add, nI_addL, nI_Ladd, pk_mul, nI_mulL, nI_Lmul, pk_sub, nI_subL, nI_Lsub, nI_inc, nI_clampL, Nat.add_sub_cancel, pz_wi_else, pz_wl_else, vu_eq, vu_ne, pz_wi_gc, pz_wi_ga, pz_wi_gn, pz_wi_gl, pz_wi_gr, pz_wi_same, pz_wi_X, pz_wl_gc, pz_wl_ga, pz_wl_gn, pz_wl_gi, pz_wl_gr, pz_wl_same, pz_wl_X, pz_wr_gc, pz_wr_ga, pz_wr_gn, pz_wr_gi, pz_wr_gl, pz_wr_same, pz_wr_X])
  refine po_go ?_
  have z := key nr 0 M (by omega) sm.rf K
  rw [h0] at z
  exact z
theorem r_rule (hd : 4 ≤ d) {B N nr nd : Nat} {ed : Nat → Nat} {h e cu : Nat → Int32} {y : Int32} (hS : SH M) (hO : okB M) (b2 : nb M = nI B) (hh : gi M 149 = h) (he : gi M 150 = e) (hy : gi M 120 46 = y) (hnd : gi M 120 89 = nI nd) (hn40 : nd ≤ 40) (hc : ∀ v, v < B → nI (cnt (dcut M (nI v) (gi M 120 91)) nd) = cu v) (hB : B ≤ 24) (hn : gi M 120 77 = nI nr) (hn6 : nr ≤ 6) (hR : RRb M ed nr B N) (K : ∀ M', sm [163] M M' → Q (some (.int (plF (uv h e y cu B) (gi M 96) (gi M 94) ed nr 0)), M')) : pm d 50 [.ref 120] M Q := by
  have key : ∀ c i M', i + c = nr → sm [163] M M' → (∀ M', sm [163] M M' → Q (some (.int (plF (uv h e y cu B) (gi M 96) (gi M 94) ed c i)), M')) → pw d 50 (2, [some (.ref 120), some (.int (nI i))], [], M') Q := by
    intro c
    induction c with
    | zero =>
      intro i M' hi s' K
      have hS' := hS.sm s'
      have hn' : gi M' 120 77 = nI nr := by rw [s'.i (by decide)]; exact hn
      refine pw_blk (mi := mz_50) (b := bz_50_2) rfl rfl ?_
      simp only [bz_50_2, pz_cut_t, pz_cut_f, pz_cut_n, pv_gt, pv_ts, pv_tn, ev_ild1, ev_ald0, ev_eld0, ev_gf11_0, ev_ic_ge, pz_wi_gc, pz_wi_ga, pz_wi_gn, pz_wi_gl, pz_wi_gr, pz_wi_same, pz_wi_X, pz_wl_gc, pz_wl_ga, pz_wl_gn, pz_wl_gi, pz_wl_gr, pz_wl_same, pz_wl_X, pz_wr_gc, pz_wr_ga, pz_wr_gn, pz_wr_gi, pz_wr_gl, pz_wr_same, pz_wr_X, so_120 hS', hn']
      (try simp (disch := omega) only [nI_clamp, pz_in_nI2, pz_in_nI2L, pv_gt, nI_add, nI_addL, nI_Ladd, pk_mul, nI_mulL, nI_Lmul, pk_sub, nI_subL, nI_Lsub, nI_inc, nI_clampL, Nat.add_sub_cancel, pz_wi_else, pz_wl_else, vu_eq, vu_ne, pz_wi_gc, pz_wi_ga, pz_wi_gn, pz_wi_gl, pz_wi_gr, pz_wi_same, pz_wi_X, pz_wl_gc, pz_wl_ga, pz_wl_gn, pz_wl_gi, pz_wl_gr, pz_wl_same, pz_wl_X, pz_wr_gc, pz_wr_ga, pz_wr_gn, pz_wr_gi, pz_wr_gl, pz_wr_same, pz_wr_X, hn'])
      refine po_brP (fun q2 => ?_) (fun q2 => ?_)
      · skip
        (try simp (disch := omega) only [nI_ltI, nI_leI, nI_eq, nI_ltL, nI_leL, nI_eqL, nI_Llt, nI_Lle, nI_Leq, nI_eqm, nI_meq, nI_ltm, nI_lem, nI_mlt, nI_mle, lg0, lgl, lgg, lgle, lgge, Int32.not_lt, Int32.not_le, Int64.not_lt, Int64.not_le, not_false_eq_true, not_true_eq_false, Decidable.not_not, ge_iff_le, gt_iff_lt] at q2)
        refine pw_blk (mi := mz_50) (b := bz_50_31) rfl rfl ?_
        simp only [bz_50_31, pz_cut_t, pz_cut_f, pz_cut_n, pv_gt, pv_ts, pv_tn, ev_icm1, ev_iret0, pz_wi_gc, pz_wi_ga, pz_wi_gn, pz_wi_gl, pz_wi_gr, pz_wi_same, pz_wi_X, pz_wl_gc, pz_wl_ga, pz_wl_gn, pz_wl_gi, pz_wl_gr, pz_wl_same, pz_wl_X, pz_wr_gc, pz_wr_ga, pz_wr_gn, pz_wr_gi, pz_wr_gl, pz_wr_same, pz_wr_X, hn']
        (try simp (disch := omega) only [nI_clamp, pz_in_nI2, pz_in_nI2L, pv_gt, nI_add, nI_addL, nI_Ladd, pk_mul, nI_mulL, nI_Lmul, pk_sub, nI_subL, nI_Lsub, nI_inc, nI_clampL, Nat.add_sub_cancel, pz_wi_else, pz_wl_else, vu_eq, vu_ne, pz_wi_gc, pz_wi_ga, pz_wi_gn, pz_wi_gl, pz_wi_gr, pz_wi_same, pz_wi_X, pz_wl_gc, pz_wl_ga, pz_wl_gn, pz_wl_gi, pz_wl_gr, pz_wl_same, pz_wl_X, pz_wr_gc, pz_wr_ga, pz_wr_gn, pz_wr_gi, pz_wr_gl, pz_wr_same, pz_wr_X, hn'])
        exact po_ret (K M' s')
      · first
        | exact absurd q2 (by decide)
        | exact absurd trivial q2
        | exact q2.elim
        | (exfalso; (try simp (disch := omega) only [nI_ltI, nI_leI, nI_eq, nI_ltL, nI_leL, nI_eqL, nI_Llt, nI_Lle, nI_Leq, nI_eqm, nI_meq, nI_ltm, nI_lem, nI_mlt, nI_mle, lg0, lgl, lgg, lgle, lgge, Int32.not_lt, Int32.not_le, Int64.not_lt, Int64.not_le, not_false_eq_true, not_true_eq_false, Decidable.not_not, ge_iff_le, gt_iff_lt] at q2) <;> omega)
        | exact absurd q2 (by with_reducible assumption)
        | exact absurd (by with_reducible assumption) q2
        | exact absurd (Decidable.not_not.mp q2) (by with_reducible assumption)
        | exact absurd (by with_reducible assumption) (Int32.not_le.mpr q2)
        | exact absurd (by with_reducible assumption) (Int32.not_lt.mpr q2)
    | succ c ih =>
      intro i M' hi s' K
      have hS' := hS.sm s'
      have e120 : gi M' 120 = gi M 120 := s'.i (by decide)
      have hn' : gi M' 120 77 = nI nr := by rw [e120]; exact hn
      obtain ⟨u1, u2, u3, u4, u5, u6, -, u8, u9⟩ := hR i (by omega)
      have e96 : gi M' 96 = gi M 96 := s'.i (by decide)
      have ebk : bk M' = bk M := by unfold bk bank; rw [e120]
      have hO' : okB M' := by unfold okB bank; rw [e120]; exact hO
      have b2' : nb M' = nI B := by unfold nb; rw [ebk, s'.i (k := 123) (by decide)]; exact b2
      refine pw_blk (mi := mz_50) (b := bz_50_2) rfl rfl ?_
      simp only [bz_50_2, pz_cut_t, pz_cut_f, pz_cut_n, pv_gt, pv_ts, pv_tn, ev_ild1, ev_ald0, ev_eld0, ev_gf11_0, ev_ic_ge, pz_wi_gc, pz_wi_ga, pz_wi_gn, pz_wi_gl, pz_wi_gr, pz_wi_same, pz_wi_X, pz_wl_gc, pz_wl_ga, pz_wl_gn, pz_wl_gi, pz_wl_gr, pz_wl_same, pz_wl_X, pz_wr_gc, pz_wr_ga, pz_wr_gn, pz_wr_gi, pz_wr_gl, pz_wr_same, pz_wr_X, so_120 hS', hn']
      (try simp (disch := omega) only [nI_clamp, pz_in_nI2, pz_in_nI2L, pv_gt, nI_add, nI_addL, nI_Ladd, pk_mul, nI_mulL, nI_Lmul, pk_sub, nI_subL, nI_Lsub, nI_inc, nI_clampL, Nat.add_sub_cancel, pz_wi_else, pz_wl_else, vu_eq, vu_ne, pz_wi_gc, pz_wi_ga, pz_wi_gn, pz_wi_gl, pz_wi_gr, pz_wi_same, pz_wi_X, pz_wl_gc, pz_wl_ga, pz_wl_gn, pz_wl_gi, pz_wl_gr, pz_wl_same, pz_wl_X, pz_wr_gc, pz_wr_ga, pz_wr_gn, pz_wr_gi, pz_wr_gl, pz_wr_same, pz_wr_X, hn'])
      refine po_brP (fun q2 => ?_) (fun q2 => ?_)
      · first
        | exact absurd q2 (by decide)
        | exact absurd trivial q2
        | exact q2.elim
        | (exfalso; (try simp (disch := omega) only [nI_ltI, nI_leI, nI_eq, nI_ltL, nI_leL, nI_eqL, nI_Llt, nI_Lle, nI_Leq, nI_eqm, nI_meq, nI_ltm, nI_lem, nI_mlt, nI_mle, lg0, lgl, lgg, lgle, lgge, Int32.not_lt, Int32.not_le, Int64.not_lt, Int64.not_le, not_false_eq_true, not_true_eq_false, Decidable.not_not, ge_iff_le, gt_iff_lt] at q2) <;> omega)
        | exact absurd q2 (by with_reducible assumption)
        | exact absurd (by with_reducible assumption) q2
        | exact absurd (Decidable.not_not.mp q2) (by with_reducible assumption)
        | exact absurd (by with_reducible assumption) (Int32.not_le.mpr q2)
        | exact absurd (by with_reducible assumption) (Int32.not_lt.mpr q2)
      · skip
        (try simp (disch := omega) only [nI_ltI, nI_leI, nI_eq, nI_ltL, nI_leL, nI_eqL, nI_Llt, nI_Lle, nI_Leq, nI_eqm, nI_meq, nI_ltm, nI_lem, nI_mlt, nI_mle, lg0, lgl, lgg, lgle, lgge, Int32.not_lt, Int32.not_le, Int64.not_lt, Int64.not_le, not_false_eq_true, not_true_eq_false, Decidable.not_not, ge_iff_le, gt_iff_lt] at q2)
        refine pw_blk (mi := mz_50) (b := bz_50_10) rfl rfl ?_
        simp only [bz_50_10, pz_cut_t, pz_cut_f, pz_cut_n, pv_gt, pv_ts, pv_tn, ev_ald0, ev_eld0, ev_ild1, ev_cv1_11, pz_wi_gc, pz_wi_ga, pz_wi_gn, pz_wi_gl, pz_wi_gr, pz_wi_same, pz_wi_X, pz_wl_gc, pz_wl_ga, pz_wl_gn, pz_wl_gi, pz_wl_gr, pz_wl_same, pz_wl_X, pz_wr_gc, pz_wr_ga, pz_wr_gn, pz_wr_gi, pz_wr_gl, pz_wr_same, pz_wr_X, so_120 hS', hn']
        (try simp (disch := omega) only [nI_clamp, pz_in_nI2, pz_in_nI2L, pv_gt, nI_add, nI_addL, nI_Ladd, pk_mul, nI_mulL, nI_Lmul, pk_sub, nI_subL, nI_Lsub, nI_inc, nI_clampL, Nat.add_sub_cancel, pz_wi_else, pz_wl_else, vu_eq, vu_ne, pz_wi_gc, pz_wi_ga, pz_wi_gn, pz_wi_gl, pz_wi_gr, pz_wi_same, pz_wi_X, pz_wl_gc, pz_wl_ga, pz_wl_gn, pz_wl_gi, pz_wl_gr, pz_wl_same, pz_wl_X, pz_wr_gc, pz_wr_ga, pz_wr_gn, pz_wr_gi, pz_wr_gl, pz_wr_same, pz_wr_X, hn'])
        (try refine po_gP (Nat.le_of_ble_eq_true rfl) ?_)
        refine po_call (by omega) (r_holds (h := h) (e := e) (cu := cu) (y := y) (f := ed i) (T := ed (i + 1)) (c := ed (i + 1) - ed i) (by omega) hS' hO' b2' (by rw [s'.i (by decide)]; exact hh) (by rw [s'.i (by decide)]; exact he) (by rw [e120]; exact hy) (by rw [e120]; exact hnd) hn40 (fun v hv => by rw [dcut_fr (s'.i (by decide)) (s'.i (by decide)) (s'.i (by decide)), e120]; exact hc v hv) hB (by omega) u2 (by omega) (by rw [s'.i (by decide)]; exact u5) (by rw [s'.i (by decide)]; exact u4) (by rw [e96]; exact u8) (fun k h1 h2 => by rw [e96, s'.i (k := 159) (by decide), s'.i (k := 160) (by decide)]; exact u9 k h1 h2) (fun z M2 s2 => ?_) (fun z M2 s2 => ?_))
        · skip
          rw [e96] at z
          have s3 := s'.tr s2 (by decide)
          have hS2 := hS.sm s3
          have u62 : gi M2 166 i = gi M 94 i := by rw [s3.i (by decide)]; exact u6.symm
          refine pw_blk (mi := mz_50) (b := bz_50_15) rfl rfl ?_
          simp only [bz_50_15, pz_cut_t, pz_cut_f, pz_cut_n, pv_gt, pv_ts, pv_tn, ev_ifeq, pz_wi_gc, pz_wi_ga, pz_wi_gn, pz_wi_gl, pz_wi_gr, pz_wi_same, pz_wi_X, pz_wl_gc, pz_wl_ga, pz_wl_gn, pz_wl_gi, pz_wl_gr, pz_wl_same, pz_wl_X, pz_wr_gc, pz_wr_ga, pz_wr_gn, pz_wr_gi, pz_wr_gl, pz_wr_same, pz_wr_X, hn']
          (try simp (disch := omega) only [nI_clamp, pz_in_nI2, pz_in_nI2L, pv_gt, nI_add, nI_addL, nI_Ladd, pk_mul, nI_mulL, nI_Lmul, pk_sub, nI_subL, nI_Lsub, nI_inc, nI_clampL, Nat.add_sub_cancel, pz_wi_else, pz_wl_else, vu_eq, vu_ne, pz_wi_gc, pz_wi_ga, pz_wi_gn, pz_wi_gl, pz_wi_gr, pz_wi_same, pz_wi_X, pz_wl_gc, pz_wl_ga, pz_wl_gn, pz_wl_gi, pz_wl_gr, pz_wl_same, pz_wl_X, pz_wr_gc, pz_wr_ga, pz_wr_gn, pz_wr_gi, pz_wr_gl, pz_wr_same, pz_wr_X, hn'])
          refine po_brP (fun q15 => ?_) (fun q15 => ?_)
          · first
            | exact absurd q15 (by decide)
            | exact absurd trivial q15
            | exact q15.elim
            | (exfalso; (try simp (disch := omega) only [nI_ltI, nI_leI, nI_eq, nI_ltL, nI_leL, nI_eqL, nI_Llt, nI_Lle, nI_Leq, nI_eqm, nI_meq, nI_ltm, nI_lem, nI_mlt, nI_mle, lg0, lgl, lgg, lgle, lgge, Int32.not_lt, Int32.not_le, Int64.not_lt, Int64.not_le, not_false_eq_true, not_true_eq_false, Decidable.not_not, ge_iff_le, gt_iff_lt] at q15) <;> omega)
            | exact absurd q15 (by with_reducible assumption)
            | exact absurd (by with_reducible assumption) q15
            | exact absurd (Decidable.not_not.mp q15) (by with_reducible assumption)
            | exact absurd (by with_reducible assumption) (Int32.not_le.mpr q15)
            | exact absurd (by with_reducible assumption) (Int32.not_lt.mpr q15)
            | skip
              (try simp (disch := omega) only [nI_ltI, nI_leI, nI_eq, nI_ltL, nI_leL, nI_eqL, nI_Llt, nI_Lle, nI_Leq, nI_eqm, nI_meq, nI_ltm, nI_lem, nI_mlt, nI_mle, lg0, lgl, lgg, lgle, lgge, Int32.not_lt, Int32.not_le, Int64.not_lt, Int64.not_le, not_false_eq_true, not_true_eq_false, Decidable.not_not, ge_iff_le, gt_iff_lt] at q15)
              refine pw_blk (mi := mz_50) (b := bz_50_25) rfl rfl ?_
              simp only [bz_50_25, pz_cut_t, pz_cut_f, pz_cut_n, pv_gt, pv_ts, pv_tn, ev_inc1n, ev_inc1i, ev_inc1r, ev_inc1e, ev_goto, pz_wi_gc, pz_wi_ga, pz_wi_gn, pz_wi_gl, pz_wi_gr, pz_wi_same, pz_wi_X, pz_wl_gc, pz_wl_ga, pz_wl_gn, pz_wl_gi, pz_wl_gr, pz_wl_same, pz_wl_X, pz_wr_gc, pz_wr_ga, pz_wr_gn, pz_wr_gi, pz_wr_gl, pz_wr_same, pz_wr_X, hn']
              (try simp (disch := omega) only [nI_clamp, pz_in_nI2, pz_in_nI2L, pv_gt, nI_add, nI_addL, nI_Ladd, pk_mul, nI_mulL, nI_Lmul, pk_sub, nI_subL, nI_Lsub, nI_inc, nI_clampL, Nat.add_sub_cancel, pz_wi_else, pz_wl_else, vu_eq, vu_ne, pz_wi_gc, pz_wi_ga, pz_wi_gn, pz_wi_gl, pz_wi_gr, pz_wi_same, pz_wi_X, pz_wl_gc, pz_wl_ga, pz_wl_gn, pz_wl_gi, pz_wl_gr, pz_wl_same, pz_wl_X, pz_wr_gc, pz_wr_ga, pz_wr_gn, pz_wr_gi, pz_wr_gl, pz_wr_same, pz_wr_X, hn'])
              refine po_go ?_
              first | exact ih (i + 1) M2 (by omega) s3 (fun M3 s4 => by have z2 := K M3 s4; rw [plF, if_pos z] at z2; exact z2) | exact absurd trivial q15 | exact absurd rfl q15 | exact absurd q15 (by decide) | exact q15.elim
          · first
            | exact absurd q15 (by decide)
            | exact absurd trivial q15
            | exact q15.elim
            | (exfalso; (try simp (disch := omega) only [nI_ltI, nI_leI, nI_eq, nI_ltL, nI_leL, nI_eqL, nI_Llt, nI_Lle, nI_Leq, nI_eqm, nI_meq, nI_ltm, nI_lem, nI_mlt, nI_mle, lg0, lgl, lgg, lgle, lgge, Int32.not_lt, Int32.not_le, Int64.not_lt, Int64.not_le, not_false_eq_true, not_true_eq_false, Decidable.not_not, ge_iff_le, gt_iff_lt] at q15) <;> omega)
            | exact absurd q15 (by with_reducible assumption)
            | exact absurd (by with_reducible assumption) q15
            | exact absurd (Decidable.not_not.mp q15) (by with_reducible assumption)
            | exact absurd (by with_reducible assumption) (Int32.not_le.mpr q15)
            | exact absurd (by with_reducible assumption) (Int32.not_lt.mpr q15)
            | skip
              (try simp (disch := omega) only [nI_ltI, nI_leI, nI_eq, nI_ltL, nI_leL, nI_eqL, nI_Llt, nI_Lle, nI_Leq, nI_eqm, nI_meq, nI_ltm, nI_lem, nI_mlt, nI_mle, lg0, lgl, lgg, lgle, lgge, Int32.not_lt, Int32.not_le, Int64.not_lt, Int64.not_le, not_false_eq_true, not_true_eq_false, Decidable.not_not, ge_iff_le, gt_iff_lt] at q15)
              refine pw_blk (mi := mz_50) (b := bz_50_18) rfl rfl ?_
              simp only [bz_50_18, pz_cut_t, pz_cut_f, pz_cut_n, pv_gt, pv_ts, pv_tn, ev_ald0, ev_eld0, ev_gf11_2, ev_ild1, ea_iald, ev_iret0, pz_wi_gc, pz_wi_ga, pz_wi_gn, pz_wi_gl, pz_wi_gr, pz_wi_same, pz_wi_X, pz_wl_gc, pz_wl_ga, pz_wl_gn, pz_wl_gi, pz_wl_gr, pz_wl_same, pz_wl_X, pz_wr_gc, pz_wr_ga, pz_wr_gn, pz_wr_gi, pz_wr_gl, pz_wr_same, pz_wr_X, so_120 hS', sr_120_72 hS', sa_166 hS', sn_166 hS', hn', so_120 hS2, sr_120_72 hS2, sa_166 hS2, sn_166 hS2, u62]
              (try simp (disch := omega) only [nI_clamp, pz_in_nI2, pz_in_nI2L, pv_gt, nI_add, nI_addL, nI_Ladd, pk_mul, nI_mulL, nI_Lmul, pk_sub, nI_subL, nI_Lsub, nI_inc, nI_clampL, Nat.add_sub_cancel, pz_wi_else, pz_wl_else, vu_eq, vu_ne, pz_wi_gc, pz_wi_ga, pz_wi_gn, pz_wi_gl, pz_wi_gr, pz_wi_same, pz_wi_X, pz_wl_gc, pz_wl_ga, pz_wl_gn, pz_wl_gi, pz_wl_gr, pz_wl_same, pz_wl_X, pz_wr_gc, pz_wr_ga, pz_wr_gn, pz_wr_gi, pz_wr_gl, pz_wr_same, pz_wr_X, hn', so_120 hS2, sr_120_72 hS2, sa_166 hS2, sn_166 hS2, u62])
              (try refine po_gI (by first | exact pz_in_nI (by omega) (by decide) | decide | assumption) ?_)
              first | exact po_ret (by have z2 := K M2 s3; rw [plF, if_neg z] at z2; exact z2) | exact absurd trivial q15 | exact absurd rfl q15 | exact absurd q15 (by decide) | exact q15.elim
        · skip
          rw [e96] at z
          have s3 := s'.tr s2 (by decide)
          have hS2 := hS.sm s3
          have u62 : gi M2 166 i = gi M 94 i := by rw [s3.i (by decide)]; exact u6.symm
          refine pw_blk (mi := mz_50) (b := bz_50_15) rfl rfl ?_
          simp only [bz_50_15, pz_cut_t, pz_cut_f, pz_cut_n, pv_gt, pv_ts, pv_tn, ev_ifeq, pz_wi_gc, pz_wi_ga, pz_wi_gn, pz_wi_gl, pz_wi_gr, pz_wi_same, pz_wi_X, pz_wl_gc, pz_wl_ga, pz_wl_gn, pz_wl_gi, pz_wl_gr, pz_wl_same, pz_wl_X, pz_wr_gc, pz_wr_ga, pz_wr_gn, pz_wr_gi, pz_wr_gl, pz_wr_same, pz_wr_X, hn']
          (try simp (disch := omega) only [nI_clamp, pz_in_nI2, pz_in_nI2L, pv_gt, nI_add, nI_addL, nI_Ladd, pk_mul, nI_mulL, nI_Lmul, pk_sub, nI_subL, nI_Lsub, nI_inc, nI_clampL, Nat.add_sub_cancel, pz_wi_else, pz_wl_else, vu_eq, vu_ne, pz_wi_gc, pz_wi_ga, pz_wi_gn, pz_wi_gl, pz_wi_gr, pz_wi_same, pz_wi_X, pz_wl_gc, pz_wl_ga, pz_wl_gn, pz_wl_gi, pz_wl_gr, pz_wl_same, pz_wl_X, pz_wr_gc, pz_wr_ga, pz_wr_gn, pz_wr_gi, pz_wr_gl, pz_wr_same, pz_wr_X, hn'])
          refine po_brP (fun q15 => ?_) (fun q15 => ?_)
          · first
            | exact absurd q15 (by decide)
            | exact absurd trivial q15
            | exact q15.elim
            | (exfalso; (try simp (disch := omega) only [nI_ltI, nI_leI, nI_eq, nI_ltL, nI_leL, nI_eqL, nI_Llt, nI_Lle, nI_Leq, nI_eqm, nI_meq, nI_ltm, nI_lem, nI_mlt, nI_mle, lg0, lgl, lgg, lgle, lgge, Int32.not_lt, Int32.not_le, Int64.not_lt, Int64.not_le, not_false_eq_true, not_true_eq_false, Decidable.not_not, ge_iff_le, gt_iff_lt] at q15) <;> omega)
            | exact absurd q15 (by with_reducible assumption)
            | exact absurd (by with_reducible assumption) q15
            | exact absurd (Decidable.not_not.mp q15) (by with_reducible assumption)
            | exact absurd (by with_reducible assumption) (Int32.not_le.mpr q15)
            | exact absurd (by with_reducible assumption) (Int32.not_lt.mpr q15)
            | skip
              (try simp (disch := omega) only [nI_ltI, nI_leI, nI_eq, nI_ltL, nI_leL, nI_eqL, nI_Llt, nI_Lle, nI_Leq, nI_eqm, nI_meq, nI_ltm, nI_lem, nI_mlt, nI_mle, lg0, lgl, lgg, lgle, lgge, Int32.not_lt, Int32.not_le, Int64.not_lt, Int64.not_le, not_false_eq_true, not_true_eq_false, Decidable.not_not, ge_iff_le, gt_iff_lt] at q15)
              refine pw_blk (mi := mz_50) (b := bz_50_25) rfl rfl ?_
              simp only [bz_50_25, pz_cut_t, pz_cut_f, pz_cut_n, pv_gt, pv_ts, pv_tn, ev_inc1n, ev_inc1i, ev_inc1r, ev_inc1e, ev_goto, pz_wi_gc, pz_wi_ga, pz_wi_gn, pz_wi_gl, pz_wi_gr, pz_wi_same, pz_wi_X, pz_wl_gc, pz_wl_ga, pz_wl_gn, pz_wl_gi, pz_wl_gr, pz_wl_same, pz_wl_X, pz_wr_gc, pz_wr_ga, pz_wr_gn, pz_wr_gi, pz_wr_gl, pz_wr_same, pz_wr_X, hn']
              (try simp (disch := omega) only [nI_clamp, pz_in_nI2, pz_in_nI2L, pv_gt, nI_add, nI_addL, nI_Ladd, pk_mul, nI_mulL, nI_Lmul, pk_sub, nI_subL, nI_Lsub, nI_inc, nI_clampL, Nat.add_sub_cancel, pz_wi_else, pz_wl_else, vu_eq, vu_ne, pz_wi_gc, pz_wi_ga, pz_wi_gn, pz_wi_gl, pz_wi_gr, pz_wi_same, pz_wi_X, pz_wl_gc, pz_wl_ga, pz_wl_gn, pz_wl_gi, pz_wl_gr, pz_wl_same, pz_wl_X, pz_wr_gc, pz_wr_ga, pz_wr_gn, pz_wr_gi, pz_wr_gl, pz_wr_same, pz_wr_X, hn'])
              refine po_go ?_
              first | exact ih (i + 1) M2 (by omega) s3 (fun M3 s4 => by have z2 := K M3 s4; rw [plF, if_pos z] at z2; exact z2) | exact absurd trivial q15 | exact absurd rfl q15 | exact absurd q15 (by decide) | exact q15.elim
          · first
            | exact absurd q15 (by decide)
            | exact absurd trivial q15
            | exact q15.elim
            | (exfalso; (try simp (disch := omega) only [nI_ltI, nI_leI, nI_eq, nI_ltL, nI_leL, nI_eqL, nI_Llt, nI_Lle, nI_Leq, nI_eqm, nI_meq, nI_ltm, nI_lem, nI_mlt, nI_mle, lg0, lgl, lgg, lgle, lgge, Int32.not_lt, Int32.not_le, Int64.not_lt, Int64.not_le, not_false_eq_true, not_true_eq_false, Decidable.not_not, ge_iff_le, gt_iff_lt] at q15) <;> omega)
            | exact absurd q15 (by with_reducible assumption)
            | exact absurd (by with_reducible assumption) q15
            | exact absurd (Decidable.not_not.mp q15) (by with_reducible assumption)
            | exact absurd (by with_reducible assumption) (Int32.not_le.mpr q15)
            | exact absurd (by with_reducible assumption) (Int32.not_lt.mpr q15)
            | skip
              (try simp (disch := omega) only [nI_ltI, nI_leI, nI_eq, nI_ltL, nI_leL, nI_eqL, nI_Llt, nI_Lle, nI_Leq, nI_eqm, nI_meq, nI_ltm, nI_lem, nI_mlt, nI_mle, lg0, lgl, lgg, lgle, lgge, Int32.not_lt, Int32.not_le, Int64.not_lt, Int64.not_le, not_false_eq_true, not_true_eq_false, Decidable.not_not, ge_iff_le, gt_iff_lt] at q15)
              refine pw_blk (mi := mz_50) (b := bz_50_18) rfl rfl ?_
              simp only [bz_50_18, pz_cut_t, pz_cut_f, pz_cut_n, pv_gt, pv_ts, pv_tn, ev_ald0, ev_eld0, ev_gf11_2, ev_ild1, ea_iald, ev_iret0, pz_wi_gc, pz_wi_ga, pz_wi_gn, pz_wi_gl, pz_wi_gr, pz_wi_same, pz_wi_X, pz_wl_gc, pz_wl_ga, pz_wl_gn, pz_wl_gi, pz_wl_gr, pz_wl_same, pz_wl_X, pz_wr_gc, pz_wr_ga, pz_wr_gn, pz_wr_gi, pz_wr_gl, pz_wr_same, pz_wr_X, so_120 hS', sr_120_72 hS', sa_166 hS', sn_166 hS', hn', so_120 hS2, sr_120_72 hS2, sa_166 hS2, sn_166 hS2, u62]
              (try simp (disch := omega) only [nI_clamp, pz_in_nI2, pz_in_nI2L, pv_gt, nI_add, nI_addL, nI_Ladd, pk_mul, nI_mulL, nI_Lmul, pk_sub, nI_subL, nI_Lsub, nI_inc, nI_clampL, Nat.add_sub_cancel, pz_wi_else, pz_wl_else, vu_eq, vu_ne, pz_wi_gc, pz_wi_ga, pz_wi_gn, pz_wi_gl, pz_wi_gr, pz_wi_same, pz_wi_X, pz_wl_gc, pz_wl_ga, pz_wl_gn, pz_wl_gi, pz_wl_gr, pz_wl_same, pz_wl_X, pz_wr_gc, pz_wr_ga, pz_wr_gn, pz_wr_gi, pz_wr_gl, pz_wr_same, pz_wr_X, hn', so_120 hS2, sr_120_72 hS2, sa_166 hS2, sn_166 hS2, u62])
              (try refine po_gI (by first | exact pz_in_nI (by omega) (by decide) | decide | assumption) ?_)
              first | exact po_ret (by have z2 := K M2 s3; rw [plF, if_neg z] at z2; exact z2) | exact absurd trivial q15 | exact absurd rfl q15 | exact absurd q15 (by decide) | exact q15.elim
  refine pm_ent (L := [some (.ref 120), none]) rfl (Nat.le_of_ble_eq_true rfl) ?_
  refine pw_blk (mi := mz_50) (b := bz_50_0) rfl rfl ?_
  simp only [bz_50_0, pz_cut_t, pz_cut_f, pz_cut_n, pv_gt, pv_ts, pv_tn, ev_ic0, ev_ist1n, ev_ist1i, ev_ist1r, ev_ist1e, ev_ist1l, ev_nil, pz_wi_gc, pz_wi_ga, pz_wi_gn, pz_wi_gl, pz_wi_gr, pz_wi_same, pz_wi_X, pz_wl_gc, pz_wl_ga, pz_wl_gn, pz_wl_gi, pz_wl_gr, pz_wl_same, pz_wl_X, pz_wr_gc, pz_wr_ga, pz_wr_gn, pz_wr_gi, pz_wr_gl, pz_wr_same, pz_wr_X]
  (try simp (disch := omega) only [nI_clamp, pz_in_nI2, pz_in_nI2L, pv_gt, nI_add, nI_addL, nI_Ladd, pk_mul, nI_mulL, nI_Lmul, pk_sub, nI_subL, nI_Lsub, nI_inc, nI_clampL, Nat.add_sub_cancel, pz_wi_else, pz_wl_else, vu_eq, vu_ne, pz_wi_gc, pz_wi_ga, pz_wi_gn, pz_wi_gl, pz_wi_gr, pz_wi_same, pz_wi_X, pz_wl_gc, pz_wl_ga, pz_wl_gn, pz_wl_gi, pz_wl_gr, pz_wl_same, pz_wl_X, pz_wr_gc, pz_wr_ga, pz_wr_gn, pz_wr_gi, pz_wr_gl, pz_wr_same, pz_wr_X])
  refine po_go ?_
  exact key nr 0 M (by omega) sm.rf K
theorem m_countCuts (hd : 2 ≤ d) {B nd : Nat} {t : Int32} (hS : SH M) (b1 : gi M 4 0 = nI B) (hB : B ≤ 24) (xd : gi M 81 5 = nI nd) (hn : nd ≤ 40) (xt : gi M 0 13 = t) (K : ∀ M', sm [104] M M' → (∀ v, v < B → gi M' 104 v = nI (cnt (fun i => decide (gi M 82 i = nI v) && ldK M 81 t i) nd)) → Q (none, M')) : pm d 148 [.ref 0] M Q := by
  have key : ∀ i, i ≤ B → ∀ M', sm [104] M M' → (∀ v, v < i → gi M' 104 v = nI (cnt (fun i => decide (gi M 82 i = nI v) && ldK M 81 t i) nd)) → pw d 148 (2, [some (.ref 0), some (.int (nI i))], [], M') Q := by
    refine upto (fun i hi ih => ?_)
    intro M' s' hv
    have hS' := hS.sm s'
    have b1' : gi M' 4 0 = nI B := by rw [s'.i (by decide)]; exact b1
    have xt' : gi M' 0 13 = t := by rw [s'.i (by decide)]; exact xt
    by_cases hiB : i = B
    · subst hiB
      refine pw_blk (mi := mz_148) (b := bz_148_2) rfl rfl ?_
      simp only [bz_148_2, pz_cut_t, pz_cut_f, pz_cut_n, pv_gt, pv_ts, pv_tn, ev_ild1, ev_ald0, ev_eld0, ev_gf0_2, ev_gf8_0, ev_ic_ge, pz_wi_gc, pz_wi_ga, pz_wi_gn, pz_wi_gl, pz_wi_gr, pz_wi_same, pz_wi_X, pz_wl_gc, pz_wl_ga, pz_wl_gn, pz_wl_gi, pz_wl_gr, pz_wl_same, pz_wl_X, pz_wr_gc, pz_wr_ga, pz_wr_gn, pz_wr_gi, pz_wr_gl, pz_wr_same, pz_wr_X, so_0 hS', sr_0_1 hS', so_4 hS', b1', xt']
      (try simp (disch := omega) only [nI_clamp, pz_in_nI2, pz_in_nI2L, pv_gt, nI_add, nI_addL, nI_Ladd, pk_mul, nI_mulL, nI_Lmul, pk_sub, nI_subL, nI_Lsub, nI_inc, nI_clampL, Nat.add_sub_cancel, pz_wi_else, pz_wl_else, vu_eq, vu_ne, pz_wi_gc, pz_wi_ga, pz_wi_gn, pz_wi_gl, pz_wi_gr, pz_wi_same, pz_wi_X, pz_wl_gc, pz_wl_ga, pz_wl_gn, pz_wl_gi, pz_wl_gr, pz_wl_same, pz_wl_X, pz_wr_gc, pz_wr_ga, pz_wr_gn, pz_wr_gi, pz_wr_gl, pz_wr_same, pz_wr_X, b1', xt'])
      refine po_brP (fun q2 => ?_) (fun q2 => ?_)
      · skip
        (try simp (disch := omega) only [nI_ltI, nI_leI, nI_eq, nI_ltL, nI_leL, nI_eqL, nI_Llt, nI_Lle, nI_Leq, nI_eqm, nI_meq, nI_ltm, nI_lem, nI_mlt, nI_mle, lg0, lgl, lgg, lgle, lgge, Int32.not_lt, Int32.not_le, Int64.not_lt, Int64.not_le, not_false_eq_true, not_true_eq_false, Decidable.not_not, ge_iff_le, gt_iff_lt] at q2)
        refine pw_blk (mi := mz_148) (b := bz_148_37) rfl rfl ?_
        simp only [bz_148_37, pz_cut_t, pz_cut_f, pz_cut_n, pv_gt, pv_ts, pv_tn, ev_ret, pz_wi_gc, pz_wi_ga, pz_wi_gn, pz_wi_gl, pz_wi_gr, pz_wi_same, pz_wi_X, pz_wl_gc, pz_wl_ga, pz_wl_gn, pz_wl_gi, pz_wl_gr, pz_wl_same, pz_wl_X, pz_wr_gc, pz_wr_ga, pz_wr_gn, pz_wr_gi, pz_wr_gl, pz_wr_same, pz_wr_X, b1', xt']
        (try simp (disch := omega) only [nI_clamp, pz_in_nI2, pz_in_nI2L, pv_gt, nI_add, nI_addL, nI_Ladd, pk_mul, nI_mulL, nI_Lmul, pk_sub, nI_subL, nI_Lsub, nI_inc, nI_clampL, Nat.add_sub_cancel, pz_wi_else, pz_wl_else, vu_eq, vu_ne, pz_wi_gc, pz_wi_ga, pz_wi_gn, pz_wi_gl, pz_wi_gr, pz_wi_same, pz_wi_X, pz_wl_gc, pz_wl_ga, pz_wl_gn, pz_wl_gi, pz_wl_gr, pz_wl_same, pz_wl_X, pz_wr_gc, pz_wr_ga, pz_wr_gn, pz_wr_gi, pz_wr_gl, pz_wr_same, pz_wr_X, b1', xt'])
        exact po_ret (K M' s' hv)
      · first
        | exact absurd q2 (by decide)
        | exact absurd trivial q2
        | exact q2.elim
        | (exfalso; (try simp (disch := omega) only [nI_ltI, nI_leI, nI_eq, nI_ltL, nI_leL, nI_eqL, nI_Llt, nI_Lle, nI_Leq, nI_eqm, nI_meq, nI_ltm, nI_lem, nI_mlt, nI_mle, lg0, lgl, lgg, lgle, lgge, Int32.not_lt, Int32.not_le, Int64.not_lt, Int64.not_le, not_false_eq_true, not_true_eq_false, Decidable.not_not, ge_iff_le, gt_iff_lt] at q2) <;> omega)
        | exact absurd q2 (by with_reducible assumption)
        | exact absurd (by with_reducible assumption) q2
        | exact absurd (Decidable.not_not.mp q2) (by with_reducible assumption)
        | exact absurd (by with_reducible assumption) (Int32.not_le.mpr q2)
        | exact absurd (by with_reducible assumption) (Int32.not_lt.mpr q2)
    · skip
      refine pw_blk (mi := mz_148) (b := bz_148_2) rfl rfl ?_
      simp only [bz_148_2, pz_cut_t, pz_cut_f, pz_cut_n, pv_gt, pv_ts, pv_tn, ev_ild1, ev_ald0, ev_eld0, ev_gf0_2, ev_gf8_0, ev_ic_ge, pz_wi_gc, pz_wi_ga, pz_wi_gn, pz_wi_gl, pz_wi_gr, pz_wi_same, pz_wi_X, pz_wl_gc, pz_wl_ga, pz_wl_gn, pz_wl_gi, pz_wl_gr, pz_wl_same, pz_wl_X, pz_wr_gc, pz_wr_ga, pz_wr_gn, pz_wr_gi, pz_wr_gl, pz_wr_same, pz_wr_X, so_0 hS', sr_0_1 hS', so_4 hS', b1', xt']
      (try simp (disch := omega) only [nI_clamp, pz_in_nI2, pz_in_nI2L, pv_gt, nI_add, nI_addL, nI_Ladd, pk_mul, nI_mulL, nI_Lmul, pk_sub, nI_subL, nI_Lsub, nI_inc, nI_clampL, Nat.add_sub_cancel, pz_wi_else, pz_wl_else, vu_eq, vu_ne, pz_wi_gc, pz_wi_ga, pz_wi_gn, pz_wi_gl, pz_wi_gr, pz_wi_same, pz_wi_X, pz_wl_gc, pz_wl_ga, pz_wl_gn, pz_wl_gi, pz_wl_gr, pz_wl_same, pz_wl_X, pz_wr_gc, pz_wr_ga, pz_wr_gn, pz_wr_gi, pz_wr_gl, pz_wr_same, pz_wr_X, b1', xt'])
      refine po_brP (fun q2 => ?_) (fun q2 => ?_)
      · first
        | exact absurd q2 (by decide)
        | exact absurd trivial q2
        | exact q2.elim
        | (exfalso; (try simp (disch := omega) only [nI_ltI, nI_leI, nI_eq, nI_ltL, nI_leL, nI_eqL, nI_Llt, nI_Lle, nI_Leq, nI_eqm, nI_meq, nI_ltm, nI_lem, nI_mlt, nI_mle, lg0, lgl, lgg, lgle, lgge, Int32.not_lt, Int32.not_le, Int64.not_lt, Int64.not_le, not_false_eq_true, not_true_eq_false, Decidable.not_not, ge_iff_le, gt_iff_lt] at q2) <;> omega)
        | exact absurd q2 (by with_reducible assumption)
        | exact absurd (by with_reducible assumption) q2
        | exact absurd (Decidable.not_not.mp q2) (by with_reducible assumption)
        | exact absurd (by with_reducible assumption) (Int32.not_le.mpr q2)
        | exact absurd (by with_reducible assumption) (Int32.not_lt.mpr q2)
      · skip
        (try simp (disch := omega) only [nI_ltI, nI_leI, nI_eq, nI_ltL, nI_leL, nI_eqL, nI_Llt, nI_Lle, nI_Leq, nI_eqm, nI_meq, nI_ltm, nI_lem, nI_mlt, nI_mle, lg0, lgl, lgg, lgle, lgge, Int32.not_lt, Int32.not_le, Int64.not_lt, Int64.not_le, not_false_eq_true, not_true_eq_false, Decidable.not_not, ge_iff_le, gt_iff_lt] at q2)
        refine pw_blk (mi := mz_148) (b := bz_148_13) rfl rfl ?_
        simp only [bz_148_13, pz_cut_t, pz_cut_f, pz_cut_n, pv_gt, pv_ts, pv_tn, ev_ald0, ev_eld0, ev_gf0_2, ev_ild1, ev_gf0_0, ev_cv2_2, pz_wi_gc, pz_wi_ga, pz_wi_gn, pz_wi_gl, pz_wi_gr, pz_wi_same, pz_wi_X, pz_wl_gc, pz_wl_ga, pz_wl_gn, pz_wl_gi, pz_wl_gr, pz_wl_same, pz_wl_X, pz_wr_gc, pz_wr_ga, pz_wr_gn, pz_wr_gi, pz_wr_gl, pz_wr_same, pz_wr_X, so_0 hS', sr_0_12 hS', sa_104 hS', sn_104 hS', sr_0_8 hS', so_81 hS', b1', xt']
        (try simp (disch := omega) only [nI_clamp, pz_in_nI2, pz_in_nI2L, pv_gt, nI_add, nI_addL, nI_Ladd, pk_mul, nI_mulL, nI_Lmul, pk_sub, nI_subL, nI_Lsub, nI_inc, nI_clampL, Nat.add_sub_cancel, pz_wi_else, pz_wl_else, vu_eq, vu_ne, pz_wi_gc, pz_wi_ga, pz_wi_gn, pz_wi_gl, pz_wi_gr, pz_wi_same, pz_wi_X, pz_wl_gc, pz_wl_ga, pz_wl_gn, pz_wl_gi, pz_wl_gr, pz_wl_same, pz_wl_X, pz_wr_gc, pz_wr_ga, pz_wr_gn, pz_wr_gi, pz_wr_gl, pz_wr_same, pz_wr_X, b1', xt'])
        (try refine po_gP (Nat.le_of_ble_eq_true rfl) ?_)
        refine po_call (by omega) (m_countAt (by omega) hS'.ledgD hn (by rw [s'.i (by decide)]; exact xd) ?_)
        refine pw_blk (mi := mz_148) (b := bz_148_30) rfl rfl ?_
        simp only [bz_148_30, pz_cut_t, pz_cut_f, pz_cut_n, pv_gt, pv_ts, pv_tn, ea_iast, ev_inc1n, ev_inc1i, ev_inc1r, ev_inc1e, ev_goto, pz_wi_gc, pz_wi_ga, pz_wi_gn, pz_wi_gl, pz_wi_gr, pz_wi_same, pz_wi_X, pz_wl_gc, pz_wl_ga, pz_wl_gn, pz_wl_gi, pz_wl_gr, pz_wl_same, pz_wl_X, pz_wr_gc, pz_wr_ga, pz_wr_gn, pz_wr_gi, pz_wr_gl, pz_wr_same, pz_wr_X, b1', xt', sa_104 hS', sn_104 hS']
        (try simp (disch := omega) only [nI_clamp, pz_in_nI2, pz_in_nI2L, pv_gt, nI_add, nI_addL, nI_Ladd, pk_mul, nI_mulL, nI_Lmul, pk_sub, nI_subL, nI_Lsub, nI_inc, nI_clampL, Nat.add_sub_cancel, pz_wi_else, pz_wl_else, vu_eq, vu_ne, pz_wi_gc, pz_wi_ga, pz_wi_gn, pz_wi_gl, pz_wi_gr, pz_wi_same, pz_wi_X, pz_wl_gc, pz_wl_ga, pz_wl_gn, pz_wl_gi, pz_wl_gr, pz_wl_same, pz_wl_X, pz_wr_gc, pz_wr_ga, pz_wr_gn, pz_wr_gi, pz_wr_gl, pz_wr_same, pz_wr_X, b1', xt'])
        (try refine po_gI (by first | exact pz_in_nI (by omega) (by decide) | decide | assumption) ?_)
        refine po_go ?_
        refine ih (i + 1) (by omega) (by omega) _ (sm.wi s' (by decide)) ?_
        intro v hv2
        simp (disch := omega) only [pz_wi_same, pz_wi_else]
        by_cases qv : v = i
        · subst qv
          rw [vu_eq]
          have e1 : gi M' 82 = gi M 82 := s'.i (by decide)
          have e2 : ∀ k i, ldK M' 81 k i = ldK M 81 k i := fun k i => by
            unfold ldK
            rw [s'.i (k := 81 + 4) (by decide), s'.i (k := 81 + 5) (by decide)]
          have e3 : (fun i => decide (gi M' (81 + 1) i = nI v) && ldK M' 81 t i) = (fun i => decide (gi M 82 i = nI v) && ldK M 81 t i) := by
            funext i
            rw [e2, show gi M' (81 + 1) = gi M 82 from e1]
          rw [e3]
        · rw [vu_ne qv]
          exact hv v (by omega)
  refine pm_ent (L := [some (.ref 0), none]) rfl (Nat.le_of_ble_eq_true rfl) ?_
  refine pw_blk (mi := mz_148) (b := bz_148_0) rfl rfl ?_
  simp only [bz_148_0, pz_cut_t, pz_cut_f, pz_cut_n, pv_gt, pv_ts, pv_tn, ev_ic0, ev_ist1n, ev_ist1i, ev_ist1r, ev_ist1e, ev_ist1l, ev_nil, pz_wi_gc, pz_wi_ga, pz_wi_gn, pz_wi_gl, pz_wi_gr, pz_wi_same, pz_wi_X, pz_wl_gc, pz_wl_ga, pz_wl_gn, pz_wl_gi, pz_wl_gr, pz_wl_same, pz_wl_X, pz_wr_gc, pz_wr_ga, pz_wr_gn, pz_wr_gi, pz_wr_gl, pz_wr_same, pz_wr_X]
  (try simp (disch := omega) only [nI_clamp, pz_in_nI2, pz_in_nI2L, pv_gt, nI_add, nI_addL, nI_Ladd, pk_mul, nI_mulL, nI_Lmul, pk_sub, nI_subL, nI_Lsub, nI_inc, nI_clampL, Nat.add_sub_cancel, pz_wi_else, pz_wl_else, vu_eq, vu_ne, pz_wi_gc, pz_wi_ga, pz_wi_gn, pz_wi_gl, pz_wi_gr, pz_wi_same, pz_wi_X, pz_wl_gc, pz_wl_ga, pz_wl_gn, pz_wl_gi, pz_wl_gr, pz_wl_same, pz_wl_X, pz_wr_gc, pz_wr_ga, pz_wr_gn, pz_wr_gi, pz_wr_gl, pz_wr_same, pz_wr_X])
  refine po_go ?_
  exact key 0 (by omega) M sm.rf (fun v hv => absurd hv (by omega))
/-- how often each bar is begun at, as the reference counts it -/
def cuM (M : pz_M) (nd : Nat) : Nat → Int32 := fun v => nI (cnt (dcut M (nI v) (gi M 120 91)) nd)
theorem op_rule (hd : 50 ≤ d) (hL : RL M) : pm d 49 [.ref 0] M (fun r1 => pm d 50 [.ref 120] r1.2 (fun r2 => r1.1 = r2.1 ∧ RL r2.2)) := by
  obtain ⟨r, B, H, P, N, D, E, y, t, L, nd, np, nr, hA⟩ := id hL
  have hS := hA.S
  have hO := hA.ok
  have hbk := hA.bk
  have hbank : gi M 120 38 = nI r := hA.X.1
  have hB := hA.B24
  have b1 := hA.b1
  have b2 := hA.b2
  have hr := hA.r1
  have b3 : gi M 123 r = nI B := hA.sc.2.1.2.1
  obtain ⟨g, fd, cr, wk, sv, er, g1, g5, fd2, cr1, wk1, sv2, er2, l0, l1, l2, l3, l4, l5⟩ := hA.sc.2.2.1.1
  have k0 : gi M 127 r = nI g := hA.sc.2.2.1.2.1.symm.trans l0
  have k1 : gi M 128 r = nI fd := hA.sc.2.2.1.2.2.1.symm.trans l1
  have k2 : gi M 129 r = nI cr := hA.sc.2.2.1.2.2.2.1.symm.trans l2
  have k3 : gi M 130 r = nI wk := hA.sc.2.2.1.2.2.2.2.1.symm.trans l3
  have k4 : gi M 131 r = nI sv := hA.sc.2.2.1.2.2.2.2.2.1.symm.trans l4
  have k5 : gi M 132 r = nI er := hA.sc.2.2.1.2.2.2.2.2.2.symm.trans l5
  obtain ⟨-, ⟨xD, xE⟩, ⟨xy1, xy2, xy3⟩, xw, ⟨xt1, xt2, xt3⟩, ⟨xL1, xL2, xL3⟩, ⟨xf1, xf2⟩, ⟨xd1, xd2, xd3⟩, ⟨xp1, xp2, xp3⟩, ⟨xr1, xr2, xr3, xr4⟩, xl⟩ := id hA.X
  obtain ⟨⟨mh, me, mo⟩, ⟨ml, mu⟩, ⟨gh, ge, go⟩, ⟨hD, hE⟩, dD, dE⟩ := id hA.m
  obtain ⟨ed, ed0, hR⟩ := RRu.ed hA.2.2.2.2.2.2.2.2.2.2.1
  refine pm_ent (L := [some (.ref 0)]) rfl (Nat.le_of_ble_eq_true rfl) ?_
  refine pw_blk (mi := mz_49) (b := bz_49_0) rfl rfl ?_
  simp only [bz_49_0, pz_cut_t, pz_cut_f, pz_cut_n, pv_gt, pv_ts, pv_tn, ev_ald0, ev_eld0, ev_cv0_0, pz_wi_gc, pz_wi_ga, pz_wi_gn, pz_wi_gl, pz_wi_gr, pz_wi_same, pz_wi_X, pz_wl_gc, pz_wl_ga, pz_wl_gn, pz_wl_gi, pz_wl_gr, pz_wl_same, pz_wl_X, pz_wr_gc, pz_wr_ga, pz_wr_gn, pz_wr_gi, pz_wr_gl, pz_wr_same, pz_wr_X, so_0 hS]
  (try simp (disch := omega) only [nI_clamp, pz_in_nI2, pz_in_nI2L, pv_gt, nI_add, nI_addL, nI_Ladd, pk_mul, nI_mulL, nI_Lmul, pk_sub, nI_subL, nI_Lsub, nI_inc, nI_clampL, Nat.add_sub_cancel, pz_wi_else, pz_wl_else, vu_eq, vu_ne, pz_wi_gc, pz_wi_ga, pz_wi_gn, pz_wi_gl, pz_wi_gr, pz_wi_same, pz_wi_X, pz_wl_gc, pz_wl_ga, pz_wl_gn, pz_wl_gi, pz_wl_gr, pz_wl_same, pz_wl_X, pz_wr_gc, pz_wr_ga, pz_wr_gn, pz_wr_gi, pz_wr_gl, pz_wr_same, pz_wr_X])
  (try refine po_gP (Nat.le_of_ble_eq_true rfl) ?_)
  refine po_call (by omega) (m_countCuts (by omega) hS b1 hB xd1 xd3 xt1 (fun M1 s1 f1 => ?_))
  have hS1 := hS.sm s1
  have b11 : gi M1 4 0 = nI B := by rw [s1.i (by decide)]; exact b1
  have f1' : ∀ v, v < B → gi M1 104 v = cuM M nd v := fun v hv => by
    rw [f1 v hv, hA.cutEq]
    unfold cuM
    rw [xt2]
  refine pw_blk (mi := mz_49) (b := bz_49_4) rfl rfl ?_
  simp only [bz_49_4, pz_cut_t, pz_cut_f, pz_cut_n, pv_gt, pv_ts, pv_tn, ev_ald0, ev_eld0, ev_gf0_2, ev_gf8_0, ev_cv3_6, pz_wi_gc, pz_wi_ga, pz_wi_gn, pz_wi_gl, pz_wi_gr, pz_wi_same, pz_wi_X, pz_wl_gc, pz_wl_ga, pz_wl_gn, pz_wl_gi, pz_wl_gr, pz_wl_same, pz_wl_X, pz_wr_gc, pz_wr_ga, pz_wr_gn, pz_wr_gi, pz_wr_gl, pz_wr_same, pz_wr_X, so_0 hS, sr_0_10 hS, so_93 hS, sr_0_3 hS, so_33 hS, sr_0_12 hS, sa_104 hS, sn_104 hS, sr_0_1 hS, so_4 hS, so_0 hS1, sr_0_10 hS1, sr_0_3 hS1, sr_0_12 hS1, sr_0_1 hS1, so_4 hS1, so_93 hS1, b11]
  (try simp (disch := omega) only [nI_clamp, pz_in_nI2, pz_in_nI2L, pv_gt, nI_add, nI_addL, nI_Ladd, pk_mul, nI_mulL, nI_Lmul, pk_sub, nI_subL, nI_Lsub, nI_inc, nI_clampL, Nat.add_sub_cancel, pz_wi_else, pz_wl_else, vu_eq, vu_ne, pz_wi_gc, pz_wi_ga, pz_wi_gn, pz_wi_gl, pz_wi_gr, pz_wi_same, pz_wi_X, pz_wl_gc, pz_wl_ga, pz_wl_gn, pz_wl_gi, pz_wl_gr, pz_wl_same, pz_wl_X, pz_wr_gc, pz_wr_ga, pz_wr_gn, pz_wr_gi, pz_wr_gl, pz_wr_same, pz_wr_X, so_0 hS1, sr_0_10 hS1, sr_0_3 hS1, sr_0_12 hS1, sr_0_1 hS1, so_4 hS1, so_93 hS1, b11])
  (try refine po_gP (Nat.le_of_ble_eq_true rfl) ?_)
  refine po_call (by omega) (m_planFor (h := gi M 34) (e := gi M 35) (cu := cuM M nd) (y := gi M 33 6) (by omega) hS1 hS1.mind (by decide) (s1.i (by decide)) (s1.i (by decide)) (by rw [s1.i (by decide)]) f1' gh hB (by rw [s1.i (by decide)]; exact xr1) xr3 ed0 (hR.fr ((s1.sg hS).ag (by decide +kernel))) (fun M2 s2 => ?_))
  refine pw_blk (mi := mz_49) (b := bz_49_26) rfl rfl ?_
  simp only [bz_49_26, pz_cut_t, pz_cut_f, pz_cut_n, pv_gt, pv_ts, pv_tn, ev_iret0, pz_wi_gc, pz_wi_ga, pz_wi_gn, pz_wi_gl, pz_wi_gr, pz_wi_same, pz_wi_X, pz_wl_gc, pz_wl_ga, pz_wl_gn, pz_wl_gi, pz_wl_gr, pz_wl_same, pz_wl_X, pz_wr_gc, pz_wr_ga, pz_wr_gn, pz_wr_gi, pz_wr_gl, pz_wr_same, pz_wr_X]
  (try simp (disch := omega) only [nI_clamp, pz_in_nI2, pz_in_nI2L, pv_gt, nI_add, nI_addL, nI_Ladd, pk_mul, nI_mulL, nI_Lmul, pk_sub, nI_subL, nI_Lsub, nI_inc, nI_clampL, Nat.add_sub_cancel, pz_wi_else, pz_wl_else, vu_eq, vu_ne, pz_wi_gc, pz_wi_ga, pz_wi_gn, pz_wi_gl, pz_wi_gr, pz_wi_same, pz_wi_X, pz_wl_gc, pz_wl_ga, pz_wl_gn, pz_wl_gi, pz_wl_gr, pz_wl_same, pz_wl_X, pz_wr_gc, pz_wr_ga, pz_wr_gn, pz_wr_gi, pz_wr_gl, pz_wr_same, pz_wr_X])
  refine po_ret ?_
  have s3 := (s1.mono (K' := [97, 104]) (by decide)).tr s2 (by decide)
  obtain ⟨hS2, hO2, hbk2, hnb2, eR⟩ := ref1 (s3.sg hS) (by decide) hO
  refine r_rule (h := gi M 34) (e := gi M 35) (cu := cuM M nd) (y := gi M 33 6) (by omega) hS2 hO2 (hnb2.trans b2) (by rw [(eR 149 (by decide)).1]; exact mh.symm) (by rw [(eR 150 (by decide)).1]; exact me.symm) (by rw [(eR 120 (by decide)).1, xy2, xy1]) (by rw [(eR 120 (by decide)).1]; exact xd2) xd3 (fun v hv => by rw [dcut_fr (eR 168 (by decide)).1 (eR 169 (by decide)).1 (eR 170 (by decide)).1, (eR 120 (by decide)).1]; rfl) hB (by rw [(eR 120 (by decide)).1]; exact xr2) xr3 (hR.fr ((s3.sg hS).ag (by decide +kernel))) (fun M4 s4 => ?_)
  have s5 := (s3.mono (K' := [97, 104, 163]) (by decide)).tr s4 (by decide)
  refine ⟨?_, (hA.fr (hS2.sm s4) ((s5.sg hS).ag (by decide +kernel))).L⟩
  rw [s1.i (k := 96) (by decide), s1.i (k := 94) (by decide), s3.i (k := 96) (by decide), s3.i (k := 94) (by decide)]
end RULE
