section PLAY3
variable {d : Nat} {M M' M'' : pz_M} {Q : Option Value × pz_M → Prop}
theorem stC_0 {er b : Nat} {D : Option Nat} {c : Nat → Int32} : stC er b D c 0 = c 0 := by
  unfold stC
  cases D with
  | none =>
    simp only
    rw [vu_ne (by decide), vu_ne (by decide)]
  | some dd =>
    simp only
    rw [vu_ne (by decide)]
    split
    · rw [vu_ne (by decide), vu_ne (by decide)]
    · rw [vu_ne (by decide)]
theorem pst_c0 {al : Nat → Nat → Nat} {g cr wk sv er B D E to b : Nat} {y w : Int32} {R : Nat → T3} {c : Nat → Int32} : (pst al g cr wk sv er B D E to y R w c b).2.2.1 0 = c 0 := by
  unfold pst
  split
  · split
    · exact stC_0 (er := er) (b := b) (c := c) (D := none)
    · rename_i dd _
      exact stC_0 (er := er) (b := b) (c := c) (D := some dd)
  · split
    · exact vu_ne (f := c) (k := 5) (j := 0) (x := c 5 + 1) (by decide)
    · rfl
theorem pst_b {al : Nat → Nat → Nat} {g cr wk sv er B D E to b b' : Nat} {y w : Int32} {R : Nat → T3} {c : Nat → Int32} (hb : b < B) (h : (pst al g cr wk sv er B D E to y R w c b).2.2.2 = .inl b') : b' < B := by
  unfold pst at h
  split at h
  · split at h
    · cases h
    · rename_i dd hdd
      cases h
      have := dor_lt _ _ _ hdd
      omega
  · split at h
    · simp only at h
      split at h
      · cases h
      · cases h
        omega
    · simp only at h
      split at h
      · cases h
      · split at h
        · cases h
        · cases h
          omega
theorem m_perform (hd : 8 ≤ d) {al : Nat → Nat → Nat} {g cr wk sv er B D E to a : Nat} {y w : Int32} {R : Nat → T3} (hS : SH M) (hF : RFa M al B) (b1 : gi M 4 0 = nI B) (hB : B ≤ 24) (ha : a < B) (hto : to < B) (l0 : gi M 17 0 = nI g) (l2 : gi M 17 2 = nI cr) (l3 : gi M 17 3 = nI wk) (l4 : gi M 17 4 = nI sv) (sv2 : sv ≤ 24) (l5 : gi M 17 5 = nI er) (er2 : er ≤ 24) (hD : D < 2 ^ 24) (hE : E < 2 ^ 24) (xD : gi M 33 4 = nI D) (xE : gi M 33 5 = nI E) (xy : gi M 33 6 = y) (xw : gi M 33 7 = w) (hT : isT M 33 R) (k : ∀ M' c, (∀ i, 2 ≤ i → i < 6 → c i = 0) → sm [33, 34, 37, 43, 44, 45, 50, 51] M M' → gi M' 33 = va_up (gi M 33) 7 (plR al g cr wk sv er B D E to y 100 R w c a).2.2.1 → isT M' 33 (plR al g cr wk sv er B D E to y 100 R w c a).2.1 → gi M' 51 = (plR al g cr wk sv er B D E to y 100 R w c a).2.2.2 → gi M' 50 = va_up (gi M 50) 4 1 → Q (some (.int (nI (plR al g cr wk sv er B D E to y 100 R w c a).1)), M')) : pm d 122 [.ref 50, .int (nI a), .int (nI to)] M Q := by
  have key : ∀ n p R w c b M', p + n = 100 → b < B → c 0 = 3 → sm [33, 34, 37, 43, 44, 45, 50, 51] M M' → gi M' 33 = va_up (gi M 33) 7 w → isT M' 33 R → gi M' 51 = c → gi M' 50 = va_up (gi M 50) 4 1 → (∀ M2, sm [33, 34, 37, 43, 44, 45, 50, 51] M M2 → gi M2 33 = va_up (gi M 33) 7 (plR al g cr wk sv er B D E to y n R w c b).2.2.1 → isT M2 33 (plR al g cr wk sv er B D E to y n R w c b).2.1 → gi M2 51 = (plR al g cr wk sv er B D E to y n R w c b).2.2.2 → gi M2 50 = va_up (gi M 50) 4 1 → Q (some (.int (nI (p + (plR al g cr wk sv er B D E to y n R w c b).1))), M2)) → pw d 122 (25, [some (.ref 50), none, some (.int (nI to)), some (.int (nI b)), some (.int (nI p))], [], M') Q := by
    intro n
    induction n with
    | zero =>
      intro p R w c b M' hp hb hc0 s f33 hT' h51 h50 k
      have hS' := hS.sm s
      rw [plR] at k
      have hp2 : p = 100 := by omega
      subst hp2
      refine pw_blk (mi := mz_122) (b := bz_122_25) rfl rfl ?_
      simp only [bz_122_25, pz_cut_t, pz_cut_f, pz_cut_n, pv_gt, pv_ts, pv_tn, ev_ild4, ev_bp100, ev_ic_ge, pz_wi_gc, pz_wi_ga, pz_wi_gn, pz_wi_gl, pz_wi_gr, pz_wi_same, pz_wi_X, pz_wl_gc, pz_wl_ga, pz_wl_gn, pz_wl_gi, pz_wl_gr, pz_wl_same, pz_wl_X, pz_wr_gc, pz_wr_ga, pz_wr_gn, pz_wr_gi, pz_wr_gl, pz_wr_same, pz_wr_X]
      (try simp (disch := omega) only [nI_clamp, pz_in_nI2, pz_in_nI2L, pv_gt, nI_add, nI_addL, nI_Ladd, pk_mul, nI_mulL, nI_Lmul, pk_sub, nI_subL, nI_Lsub, nI_inc, nI_clampL, Nat.add_sub_cancel, pz_wi_else, pz_wl_else, vu_eq, vu_ne, pz_wi_gc, pz_wi_ga, pz_wi_gn, pz_wi_gl, pz_wi_gr, pz_wi_same, pz_wi_X, pz_wl_gc, pz_wl_ga, pz_wl_gn, pz_wl_gi, pz_wl_gr, pz_wl_same, pz_wl_X, pz_wr_gc, pz_wr_ga, pz_wr_gn, pz_wr_gi, pz_wr_gl, pz_wr_same, pz_wr_X])
      refine po_brP (fun q25 => ?_) (fun q25 => ?_)
      · skip
        (try simp (disch := omega) only [nI_ltI, nI_leI, nI_eq, nI_ltL, nI_leL, nI_eqL, nI_Llt, nI_Lle, nI_Leq, nI_eqm, nI_meq, nI_ltm, nI_lem, nI_mlt, nI_mle, lg0, lgl, lgg, lgle, lgge, Int32.not_lt, Int32.not_le, Int64.not_lt, Int64.not_le, not_false_eq_true, not_true_eq_false, Decidable.not_not, ge_iff_le, gt_iff_lt] at q25)
        refine pw_blk (mi := mz_122) (b := bz_122_57) rfl rfl ?_
        simp only [bz_122_57, pz_cut_t, pz_cut_f, pz_cut_n, pv_gt, pv_ts, pv_tn, ev_ild4, ev_iret0, pz_wi_gc, pz_wi_ga, pz_wi_gn, pz_wi_gl, pz_wi_gr, pz_wi_same, pz_wi_X, pz_wl_gc, pz_wl_ga, pz_wl_gn, pz_wl_gi, pz_wl_gr, pz_wl_same, pz_wl_X, pz_wr_gc, pz_wr_ga, pz_wr_gn, pz_wr_gi, pz_wr_gl, pz_wr_same, pz_wr_X]
        (try simp (disch := omega) only [nI_clamp, pz_in_nI2, pz_in_nI2L, pv_gt, nI_add, nI_addL, nI_Ladd, pk_mul, nI_mulL, nI_Lmul, pk_sub, nI_subL, nI_Lsub, nI_inc, nI_clampL, Nat.add_sub_cancel, pz_wi_else, pz_wl_else, vu_eq, vu_ne, pz_wi_gc, pz_wi_ga, pz_wi_gn, pz_wi_gl, pz_wi_gr, pz_wi_same, pz_wi_X, pz_wl_gc, pz_wl_ga, pz_wl_gn, pz_wl_gi, pz_wl_gr, pz_wl_same, pz_wl_X, pz_wr_gc, pz_wr_ga, pz_wr_gn, pz_wr_gi, pz_wr_gl, pz_wr_same, pz_wr_X])
        exact po_ret (k M' s f33 hT' (by rw [h51, ← hc0, va_self]) h50)
      · first
        | exact absurd q25 (by decide)
        | exact absurd trivial q25
        | exact q25.elim
        | (exfalso; (try simp (disch := omega) only [nI_ltI, nI_leI, nI_eq, nI_ltL, nI_leL, nI_eqL, nI_Llt, nI_Lle, nI_Leq, nI_eqm, nI_meq, nI_ltm, nI_lem, nI_mlt, nI_mle, lg0, lgl, lgg, lgle, lgge, Int32.not_lt, Int32.not_le, Int64.not_lt, Int64.not_le, not_false_eq_true, not_true_eq_false, Decidable.not_not, ge_iff_le, gt_iff_lt] at q25) <;> omega)
        | exact absurd q25 (by with_reducible assumption)
        | exact absurd (by with_reducible assumption) q25
        | exact absurd (Decidable.not_not.mp q25) (by with_reducible assumption)
        | exact absurd (by with_reducible assumption) (Int32.not_le.mpr q25)
        | exact absurd (by with_reducible assumption) (Int32.not_lt.mpr q25)
    | succ n ih =>
      intro p R w c b M' hp hb hc0 s f33 hT' h51 h50 k
      have hS' := hS.sm s
      have e17 : gi M' 17 = gi M 17 := s.i (by decide)
      rw [plR] at k
      have hc0' : (va_up c 1 (nI b)) 0 = 3 := by rw [vu_ne (by decide)]; exact hc0
      have hS1 : SH (pz_wi M' 51 (va_up c 1 (nI b))) := hS'.sm (K := [51]) (sm.wi sm.rf (by simp))
      have hnb := fun k' => m_nextBar (d := d - 1) (M := pz_wi M' 51 (va_up c 1 (nI b))) (Q := fun v => pw d 122 (47 + 3, [some (.ref 50), none, some (.int (nI to)), some (.int (nI b)), some (.int (nI p))], v.1.toList ++ [], v.2) Q) (al := al) (g := g) (cr := cr) (wk := wk) (sv := sv) (er := er) (B := B) (D := D) (E := E) (to := to) (b := b) (y := y) (w := w) (R := R) (c := va_up c 1 (nI b)) (by omega) hS1 (hF.fr (by rw [pz_wi_else (by decide)]; exact s.i (by decide)) (by rw [pz_wi_else (by decide)]; exact s.i (by decide)) (by rw [pz_wi_else (by decide)]; exact s.i (by decide))) (by rw [pz_wi_else (by decide), s.i (k := 4) (by decide)]; exact b1) hB hb hto (by rw [pz_wi_else (by decide), e17]; exact l0) (by rw [pz_wi_else (by decide), e17]; exact l2) (by rw [pz_wi_else (by decide), e17]; exact l3) (by rw [pz_wi_else (by decide), e17]; exact l4) sv2 (by rw [pz_wi_else (by decide), e17]; exact l5) er2 hD hE (by rw [pz_wi_else (by decide), f33, vu_ne (by decide)]; exact xD) (by rw [pz_wi_else (by decide), f33, vu_ne (by decide)]; exact xE) (by rw [pz_wi_else (by decide), f33, vu_ne (by decide)]; exact xy) (by rw [pz_wi_else (by decide), f33, vu_eq]) (hT'.sm (K := [51]) (sm.wi sm.rf (by simp)) (by decide) (by decide) (by decide)) (by rw [pz_wi_same]) k'
      have hc1 : (pst al g cr wk sv er B D E to y R w (va_up c 1 (nI b)) b).2.2.1 0 = 3 := pst_c0.trans hc0'
      have hb1 := fun b' => pst_b (al := al) (g := g) (cr := cr) (wk := wk) (sv := sv) (er := er) (D := D) (E := E) (to := to) (b' := b') (y := y) (w := w) (R := R) (c := va_up c 1 (nI b)) hb
      generalize pst al g cr wk sv er B D E to y R w (va_up c 1 (nI b)) b = P at k hnb hc1 hb1
      obtain ⟨R', w', c', nx⟩ := P
      have vv : ∀ (f : Nat → Int32) a b, va_up (va_up f 7 a) 7 b = va_up f 7 b := fun f a b => by
        funext q
        unfold va_up
        split <;> rfl
      cases nx with
      | inl b' =>
        simp only [prV, prC] at k hnb
        have hb' := hb1 b' rfl
        refine pw_blk (mi := mz_122) (b := bz_122_25) rfl rfl ?_
        simp only [bz_122_25, pz_cut_t, pz_cut_f, pz_cut_n, pv_gt, pv_ts, pv_tn, ev_ild4, ev_bp100, ev_ic_ge, pz_wi_gc, pz_wi_ga, pz_wi_gn, pz_wi_gl, pz_wi_gr, pz_wi_same, pz_wi_X, pz_wl_gc, pz_wl_ga, pz_wl_gn, pz_wl_gi, pz_wl_gr, pz_wl_same, pz_wl_X, pz_wr_gc, pz_wr_ga, pz_wr_gn, pz_wr_gi, pz_wr_gl, pz_wr_same, pz_wr_X, h51]
        (try simp (disch := omega) only [nI_clamp, pz_in_nI2, pz_in_nI2L, pv_gt, nI_add, nI_addL, nI_Ladd, pk_mul, nI_mulL, nI_Lmul, pk_sub, nI_subL, nI_Lsub, nI_inc, nI_clampL, Nat.add_sub_cancel, pz_wi_else, pz_wl_else, vu_eq, vu_ne, pz_wi_gc, pz_wi_ga, pz_wi_gn, pz_wi_gl, pz_wi_gr, pz_wi_same, pz_wi_X, pz_wl_gc, pz_wl_ga, pz_wl_gn, pz_wl_gi, pz_wl_gr, pz_wl_same, pz_wl_X, pz_wr_gc, pz_wr_ga, pz_wr_gn, pz_wr_gi, pz_wr_gl, pz_wr_same, pz_wr_X, h51])
        refine po_brP (fun q25 => ?_) (fun q25 => ?_)
        · first
          | exact absurd q25 (by decide)
          | exact absurd trivial q25
          | exact q25.elim
          | (exfalso; (try simp (disch := omega) only [nI_ltI, nI_leI, nI_eq, nI_ltL, nI_leL, nI_eqL, nI_Llt, nI_Lle, nI_Leq, nI_eqm, nI_meq, nI_ltm, nI_lem, nI_mlt, nI_mle, lg0, lgl, lgg, lgle, lgge, Int32.not_lt, Int32.not_le, Int64.not_lt, Int64.not_le, not_false_eq_true, not_true_eq_false, Decidable.not_not, ge_iff_le, gt_iff_lt] at q25) <;> omega)
          | exact absurd q25 (by with_reducible assumption)
          | exact absurd (by with_reducible assumption) q25
          | exact absurd (Decidable.not_not.mp q25) (by with_reducible assumption)
          | exact absurd (by with_reducible assumption) (Int32.not_le.mpr q25)
          | exact absurd (by with_reducible assumption) (Int32.not_lt.mpr q25)
        · skip
          (try simp (disch := omega) only [nI_ltI, nI_leI, nI_eq, nI_ltL, nI_leL, nI_eqL, nI_Llt, nI_Lle, nI_Leq, nI_eqm, nI_meq, nI_ltm, nI_lem, nI_mlt, nI_mle, lg0, lgl, lgg, lgle, lgge, Int32.not_lt, Int32.not_le, Int64.not_lt, Int64.not_le, not_false_eq_true, not_true_eq_false, Decidable.not_not, ge_iff_le, gt_iff_lt] at q25)
          refine pw_blk (mi := mz_122) (b := bz_122_32) rfl rfl ?_
          simp only [bz_122_32, pz_cut_t, pz_cut_f, pz_cut_n, pv_gt, pv_ts, pv_tn, ev_ild3, ev_icm1, ev_ic_eq, pz_wi_gc, pz_wi_ga, pz_wi_gn, pz_wi_gl, pz_wi_gr, pz_wi_same, pz_wi_X, pz_wl_gc, pz_wl_ga, pz_wl_gn, pz_wl_gi, pz_wl_gr, pz_wl_same, pz_wl_X, pz_wr_gc, pz_wr_ga, pz_wr_gn, pz_wr_gi, pz_wr_gl, pz_wr_same, pz_wr_X, h51]
          (try simp (disch := omega) only [nI_clamp, pz_in_nI2, pz_in_nI2L, pv_gt, nI_add, nI_addL, nI_Ladd, pk_mul, nI_mulL, nI_Lmul, pk_sub, nI_subL, nI_Lsub, nI_inc, nI_clampL, Nat.add_sub_cancel, pz_wi_else, pz_wl_else, vu_eq, vu_ne, pz_wi_gc, pz_wi_ga, pz_wi_gn, pz_wi_gl, pz_wi_gr, pz_wi_same, pz_wi_X, pz_wl_gc, pz_wl_ga, pz_wl_gn, pz_wl_gi, pz_wl_gr, pz_wl_same, pz_wl_X, pz_wr_gc, pz_wr_ga, pz_wr_gn, pz_wr_gi, pz_wr_gl, pz_wr_same, pz_wr_X, h51])
          refine po_brP (fun q32 => ?_) (fun q32 => ?_)
          · first
            | exact absurd q32 (by decide)
            | exact absurd trivial q32
            | exact q32.elim
            | (exfalso; (try simp (disch := omega) only [nI_ltI, nI_leI, nI_eq, nI_ltL, nI_leL, nI_eqL, nI_Llt, nI_Lle, nI_Leq, nI_eqm, nI_meq, nI_ltm, nI_lem, nI_mlt, nI_mle, lg0, lgl, lgg, lgle, lgge, Int32.not_lt, Int32.not_le, Int64.not_lt, Int64.not_le, not_false_eq_true, not_true_eq_false, Decidable.not_not, ge_iff_le, gt_iff_lt] at q32) <;> omega)
            | exact absurd q32 (by with_reducible assumption)
            | exact absurd (by with_reducible assumption) q32
            | exact absurd (Decidable.not_not.mp q32) (by with_reducible assumption)
            | exact absurd (by with_reducible assumption) (Int32.not_le.mpr q32)
            | exact absurd (by with_reducible assumption) (Int32.not_lt.mpr q32)
          · skip
            (try simp (disch := omega) only [nI_ltI, nI_leI, nI_eq, nI_ltL, nI_leL, nI_eqL, nI_Llt, nI_Lle, nI_Leq, nI_eqm, nI_meq, nI_ltm, nI_lem, nI_mlt, nI_mle, lg0, lgl, lgg, lgle, lgge, Int32.not_lt, Int32.not_le, Int64.not_lt, Int64.not_le, not_false_eq_true, not_true_eq_false, Decidable.not_not, ge_iff_le, gt_iff_lt] at q32)
            refine pw_blk (mi := mz_122) (b := bz_122_37) rfl rfl ?_
            simp only [bz_122_37, pz_cut_t, pz_cut_f, pz_cut_n, pv_gt, pv_ts, pv_tn, ev_ald0, ev_eld0, ev_gf5_2, ev_ic1, ev_ild3, ea_iast, ev_ild2, ev_cv2_5, pz_wi_gc, pz_wi_ga, pz_wi_gn, pz_wi_gl, pz_wi_gr, pz_wi_same, pz_wi_X, pz_wl_gc, pz_wl_ga, pz_wl_gn, pz_wl_gi, pz_wl_gr, pz_wl_same, pz_wl_X, pz_wr_gc, pz_wr_ga, pz_wr_gn, pz_wr_gi, pz_wr_gl, pz_wr_same, pz_wr_X, so_50 hS', sr_50_3 hS', sa_51 hS', sn_51 hS', h51]
            (try simp (disch := omega) only [nI_clamp, pz_in_nI2, pz_in_nI2L, pv_gt, nI_add, nI_addL, nI_Ladd, pk_mul, nI_mulL, nI_Lmul, pk_sub, nI_subL, nI_Lsub, nI_inc, nI_clampL, Nat.add_sub_cancel, pz_wi_else, pz_wl_else, vu_eq, vu_ne, pz_wi_gc, pz_wi_ga, pz_wi_gn, pz_wi_gl, pz_wi_gr, pz_wi_same, pz_wi_X, pz_wl_gc, pz_wl_ga, pz_wl_gn, pz_wl_gi, pz_wl_gr, pz_wl_same, pz_wl_X, pz_wr_gc, pz_wr_ga, pz_wr_gn, pz_wr_gi, pz_wr_gl, pz_wr_same, pz_wr_X, h51])
            (try refine po_gI (by first | exact pz_in_nI (by omega) (by decide) | decide | assumption) ?_)
            (try refine po_gP (Nat.le_of_ble_eq_true rfl) ?_)
            refine po_call (by omega) (hnb (fun M2 s2 g33 t2 u2 => ?_))
            refine pw_blk (mi := mz_122) (b := bz_122_50) rfl rfl ?_
            simp only [bz_122_50, pz_cut_t, pz_cut_f, pz_cut_n, pv_gt, pv_ts, pv_tn, ev_ist3n, ev_ist3i, ev_ist3r, ev_ist3e, ev_ist3l, ev_inc4n, ev_inc4i, ev_inc4r, ev_inc4e, ev_goto, pz_wi_gc, pz_wi_ga, pz_wi_gn, pz_wi_gl, pz_wi_gr, pz_wi_same, pz_wi_X, pz_wl_gc, pz_wl_ga, pz_wl_gn, pz_wl_gi, pz_wl_gr, pz_wl_same, pz_wl_X, pz_wr_gc, pz_wr_ga, pz_wr_gn, pz_wr_gi, pz_wr_gl, pz_wr_same, pz_wr_X, h51]
            (try simp (disch := omega) only [nI_clamp, pz_in_nI2, pz_in_nI2L, pv_gt, nI_add, nI_addL, nI_Ladd, pk_mul, nI_mulL, nI_Lmul, pk_sub, nI_subL, nI_Lsub, nI_inc, nI_clampL, Nat.add_sub_cancel, pz_wi_else, pz_wl_else, vu_eq, vu_ne, pz_wi_gc, pz_wi_ga, pz_wi_gn, pz_wi_gl, pz_wi_gr, pz_wi_same, pz_wi_X, pz_wl_gc, pz_wl_ga, pz_wl_gn, pz_wl_gi, pz_wl_gr, pz_wl_same, pz_wl_X, pz_wr_gc, pz_wr_ga, pz_wr_gn, pz_wr_gi, pz_wr_gl, pz_wr_same, pz_wr_X, h51])
            refine po_go ?_
            refine ih (p + 1) R' w' c' b' M2 (by omega) hb' hc1 (s.tr ((sm.mono (K := [51]) (sm.wi sm.rf (by simp)) (by decide)).tr s2 (by decide) : sm [33, 34, 37, 43, 44, 45, 51] M' M2) (by decide)) ?_ t2 u2 ?_ ?_
            · rw [g33, pz_wi_else (by decide), f33, vv]
            · rw [s2.i (k := 50) (by decide), pz_wi_else (by decide)]; exact h50
            · intro M3 s3 a1 a2 a3 a4
              rw [show p + 1 + (plR al g cr wk sv er B D E to y n R' w' c' b').1 = p + ((plR al g cr wk sv er B D E to y n R' w' c' b').1 + 1) by omega]
              exact k M3 s3 a1 a2 a3 a4
      | inr how =>
        simp only [prV, prC] at k hnb
        have fin : ∀ M2, sm [33, 34, 37, 43, 44, 45, 50, 51] M M2 → gi M2 33 = va_up (gi M 33) 7 w' → isT M2 33 R' → gi M2 51 = va_up c' 0 how → gi M2 50 = va_up (gi M 50) 4 1 → pw d 122 (25, [some (.ref 50), none, some (.int (nI to)), some (.int (-1)), some (.int (nI (p + 1)))], [], M2) Q := by
          intro M2 s2 a1 a2 a3 a4
          have hS2 := hS.sm s2
          refine pw_blk (mi := mz_122) (b := bz_122_25) rfl rfl ?_
          simp only [bz_122_25, pz_cut_t, pz_cut_f, pz_cut_n, pv_gt, pv_ts, pv_tn, ev_ild4, ev_bp100, ev_ic_ge, pz_wi_gc, pz_wi_ga, pz_wi_gn, pz_wi_gl, pz_wi_gr, pz_wi_same, pz_wi_X, pz_wl_gc, pz_wl_ga, pz_wl_gn, pz_wl_gi, pz_wl_gr, pz_wl_same, pz_wl_X, pz_wr_gc, pz_wr_ga, pz_wr_gn, pz_wr_gi, pz_wr_gl, pz_wr_same, pz_wr_X]
          (try simp (disch := omega) only [nI_clamp, pz_in_nI2, pz_in_nI2L, pv_gt, nI_add, nI_addL, nI_Ladd, pk_mul, nI_mulL, nI_Lmul, pk_sub, nI_subL, nI_Lsub, nI_inc, nI_clampL, Nat.add_sub_cancel, pz_wi_else, pz_wl_else, vu_eq, vu_ne, pz_wi_gc, pz_wi_ga, pz_wi_gn, pz_wi_gl, pz_wi_gr, pz_wi_same, pz_wi_X, pz_wl_gc, pz_wl_ga, pz_wl_gn, pz_wl_gi, pz_wl_gr, pz_wl_same, pz_wl_X, pz_wr_gc, pz_wr_ga, pz_wr_gn, pz_wr_gi, pz_wr_gl, pz_wr_same, pz_wr_X])
          refine po_brP (fun q25 => ?_) (fun q25 => ?_)
          · first
            | exact absurd q25 (by decide)
            | exact absurd trivial q25
            | exact q25.elim
            | (exfalso; (try simp (disch := omega) only [nI_ltI, nI_leI, nI_eq, nI_ltL, nI_leL, nI_eqL, nI_Llt, nI_Lle, nI_Leq, nI_eqm, nI_meq, nI_ltm, nI_lem, nI_mlt, nI_mle, lg0, lgl, lgg, lgle, lgge, Int32.not_lt, Int32.not_le, Int64.not_lt, Int64.not_le, not_false_eq_true, not_true_eq_false, Decidable.not_not, ge_iff_le, gt_iff_lt] at q25) <;> omega)
            | exact absurd q25 (by with_reducible assumption)
            | exact absurd (by with_reducible assumption) q25
            | exact absurd (Decidable.not_not.mp q25) (by with_reducible assumption)
            | exact absurd (by with_reducible assumption) (Int32.not_le.mpr q25)
            | exact absurd (by with_reducible assumption) (Int32.not_lt.mpr q25)
            | skip
              (try simp (disch := omega) only [nI_ltI, nI_leI, nI_eq, nI_ltL, nI_leL, nI_eqL, nI_Llt, nI_Lle, nI_Leq, nI_eqm, nI_meq, nI_ltm, nI_lem, nI_mlt, nI_mle, lg0, lgl, lgg, lgle, lgge, Int32.not_lt, Int32.not_le, Int64.not_lt, Int64.not_le, not_false_eq_true, not_true_eq_false, Decidable.not_not, ge_iff_le, gt_iff_lt] at q25)
              refine pw_blk (mi := mz_122) (b := bz_122_57) rfl rfl ?_
              simp only [bz_122_57, pz_cut_t, pz_cut_f, pz_cut_n, pv_gt, pv_ts, pv_tn, ev_ild4, ev_iret0, pz_wi_gc, pz_wi_ga, pz_wi_gn, pz_wi_gl, pz_wi_gr, pz_wi_same, pz_wi_X, pz_wl_gc, pz_wl_ga, pz_wl_gn, pz_wl_gi, pz_wl_gr, pz_wl_same, pz_wl_X, pz_wr_gc, pz_wr_ga, pz_wr_gn, pz_wr_gi, pz_wr_gl, pz_wr_same, pz_wr_X]
              (try simp (disch := omega) only [nI_clamp, pz_in_nI2, pz_in_nI2L, pv_gt, nI_add, nI_addL, nI_Ladd, pk_mul, nI_mulL, nI_Lmul, pk_sub, nI_subL, nI_Lsub, nI_inc, nI_clampL, Nat.add_sub_cancel, pz_wi_else, pz_wl_else, vu_eq, vu_ne, pz_wi_gc, pz_wi_ga, pz_wi_gn, pz_wi_gl, pz_wi_gr, pz_wi_same, pz_wi_X, pz_wl_gc, pz_wl_ga, pz_wl_gn, pz_wl_gi, pz_wl_gr, pz_wl_same, pz_wl_X, pz_wr_gc, pz_wr_ga, pz_wr_gn, pz_wr_gi, pz_wr_gl, pz_wr_same, pz_wr_X])
              exact po_ret (k M2 s2 a1 a2 a3 a4)
          · first
            | exact absurd q25 (by decide)
            | exact absurd trivial q25
            | exact q25.elim
            | (exfalso; (try simp (disch := omega) only [nI_ltI, nI_leI, nI_eq, nI_ltL, nI_leL, nI_eqL, nI_Llt, nI_Lle, nI_Leq, nI_eqm, nI_meq, nI_ltm, nI_lem, nI_mlt, nI_mle, lg0, lgl, lgg, lgle, lgge, Int32.not_lt, Int32.not_le, Int64.not_lt, Int64.not_le, not_false_eq_true, not_true_eq_false, Decidable.not_not, ge_iff_le, gt_iff_lt] at q25) <;> omega)
            | exact absurd q25 (by with_reducible assumption)
            | exact absurd (by with_reducible assumption) q25
            | exact absurd (Decidable.not_not.mp q25) (by with_reducible assumption)
            | exact absurd (by with_reducible assumption) (Int32.not_le.mpr q25)
            | exact absurd (by with_reducible assumption) (Int32.not_lt.mpr q25)
            | skip
              (try simp (disch := omega) only [nI_ltI, nI_leI, nI_eq, nI_ltL, nI_leL, nI_eqL, nI_Llt, nI_Lle, nI_Leq, nI_eqm, nI_meq, nI_ltm, nI_lem, nI_mlt, nI_mle, lg0, lgl, lgg, lgle, lgge, Int32.not_lt, Int32.not_le, Int64.not_lt, Int64.not_le, not_false_eq_true, not_true_eq_false, Decidable.not_not, ge_iff_le, gt_iff_lt] at q25)
              refine pw_blk (mi := mz_122) (b := bz_122_32) rfl rfl ?_
              simp only [bz_122_32, pz_cut_t, pz_cut_f, pz_cut_n, pv_gt, pv_ts, pv_tn, ev_ild3, ev_icm1, ev_ic_eq, pz_wi_gc, pz_wi_ga, pz_wi_gn, pz_wi_gl, pz_wi_gr, pz_wi_same, pz_wi_X, pz_wl_gc, pz_wl_ga, pz_wl_gn, pz_wl_gi, pz_wl_gr, pz_wl_same, pz_wl_X, pz_wr_gc, pz_wr_ga, pz_wr_gn, pz_wr_gi, pz_wr_gl, pz_wr_same, pz_wr_X]
              (try simp (disch := omega) only [nI_clamp, pz_in_nI2, pz_in_nI2L, pv_gt, nI_add, nI_addL, nI_Ladd, pk_mul, nI_mulL, nI_Lmul, pk_sub, nI_subL, nI_Lsub, nI_inc, nI_clampL, Nat.add_sub_cancel, pz_wi_else, pz_wl_else, vu_eq, vu_ne, pz_wi_gc, pz_wi_ga, pz_wi_gn, pz_wi_gl, pz_wi_gr, pz_wi_same, pz_wi_X, pz_wl_gc, pz_wl_ga, pz_wl_gn, pz_wl_gi, pz_wl_gr, pz_wl_same, pz_wl_X, pz_wr_gc, pz_wr_ga, pz_wr_gn, pz_wr_gi, pz_wr_gl, pz_wr_same, pz_wr_X])
              refine po_brP (fun q32 => ?_) (fun q32 => ?_)
              · skip
                (try simp (disch := omega) only [nI_ltI, nI_leI, nI_eq, nI_ltL, nI_leL, nI_eqL, nI_Llt, nI_Lle, nI_Leq, nI_eqm, nI_meq, nI_ltm, nI_lem, nI_mlt, nI_mle, lg0, lgl, lgg, lgle, lgge, Int32.not_lt, Int32.not_le, Int64.not_lt, Int64.not_le, not_false_eq_true, not_true_eq_false, Decidable.not_not, ge_iff_le, gt_iff_lt] at q32)
                refine pw_blk (mi := mz_122) (b := bz_122_57) rfl rfl ?_
                simp only [bz_122_57, pz_cut_t, pz_cut_f, pz_cut_n, pv_gt, pv_ts, pv_tn, ev_ild4, ev_iret0, pz_wi_gc, pz_wi_ga, pz_wi_gn, pz_wi_gl, pz_wi_gr, pz_wi_same, pz_wi_X, pz_wl_gc, pz_wl_ga, pz_wl_gn, pz_wl_gi, pz_wl_gr, pz_wl_same, pz_wl_X, pz_wr_gc, pz_wr_ga, pz_wr_gn, pz_wr_gi, pz_wr_gl, pz_wr_same, pz_wr_X]
                (try simp (disch := omega) only [nI_clamp, pz_in_nI2, pz_in_nI2L, pv_gt, nI_add, nI_addL, nI_Ladd, pk_mul, nI_mulL, nI_Lmul, pk_sub, nI_subL, nI_Lsub, nI_inc, nI_clampL, Nat.add_sub_cancel, pz_wi_else, pz_wl_else, vu_eq, vu_ne, pz_wi_gc, pz_wi_ga, pz_wi_gn, pz_wi_gl, pz_wi_gr, pz_wi_same, pz_wi_X, pz_wl_gc, pz_wl_ga, pz_wl_gn, pz_wl_gi, pz_wl_gr, pz_wl_same, pz_wl_X, pz_wr_gc, pz_wr_ga, pz_wr_gn, pz_wr_gi, pz_wr_gl, pz_wr_same, pz_wr_X])
                exact po_ret (k M2 s2 a1 a2 a3 a4)
              · first
                | exact absurd q32 (by decide)
                | exact absurd trivial q32
                | exact q32.elim
                | (exfalso; (try simp (disch := omega) only [nI_ltI, nI_leI, nI_eq, nI_ltL, nI_leL, nI_eqL, nI_Llt, nI_Lle, nI_Leq, nI_eqm, nI_meq, nI_ltm, nI_lem, nI_mlt, nI_mle, lg0, lgl, lgg, lgle, lgge, Int32.not_lt, Int32.not_le, Int64.not_lt, Int64.not_le, not_false_eq_true, not_true_eq_false, Decidable.not_not, ge_iff_le, gt_iff_lt] at q32) <;> omega)
                | exact absurd q32 (by with_reducible assumption)
                | exact absurd (by with_reducible assumption) q32
                | exact absurd (Decidable.not_not.mp q32) (by with_reducible assumption)
                | exact absurd (by with_reducible assumption) (Int32.not_le.mpr q32)
                | exact absurd (by with_reducible assumption) (Int32.not_lt.mpr q32)
        refine pw_blk (mi := mz_122) (b := bz_122_25) rfl rfl ?_
        simp only [bz_122_25, pz_cut_t, pz_cut_f, pz_cut_n, pv_gt, pv_ts, pv_tn, ev_ild4, ev_bp100, ev_ic_ge, pz_wi_gc, pz_wi_ga, pz_wi_gn, pz_wi_gl, pz_wi_gr, pz_wi_same, pz_wi_X, pz_wl_gc, pz_wl_ga, pz_wl_gn, pz_wl_gi, pz_wl_gr, pz_wl_same, pz_wl_X, pz_wr_gc, pz_wr_ga, pz_wr_gn, pz_wr_gi, pz_wr_gl, pz_wr_same, pz_wr_X, h51]
        (try simp (disch := omega) only [nI_clamp, pz_in_nI2, pz_in_nI2L, pv_gt, nI_add, nI_addL, nI_Ladd, pk_mul, nI_mulL, nI_Lmul, pk_sub, nI_subL, nI_Lsub, nI_inc, nI_clampL, Nat.add_sub_cancel, pz_wi_else, pz_wl_else, vu_eq, vu_ne, pz_wi_gc, pz_wi_ga, pz_wi_gn, pz_wi_gl, pz_wi_gr, pz_wi_same, pz_wi_X, pz_wl_gc, pz_wl_ga, pz_wl_gn, pz_wl_gi, pz_wl_gr, pz_wl_same, pz_wl_X, pz_wr_gc, pz_wr_ga, pz_wr_gn, pz_wr_gi, pz_wr_gl, pz_wr_same, pz_wr_X, h51])
        refine po_brP (fun q25 => ?_) (fun q25 => ?_)
        · first
          | exact absurd q25 (by decide)
          | exact absurd trivial q25
          | exact q25.elim
          | (exfalso; (try simp (disch := omega) only [nI_ltI, nI_leI, nI_eq, nI_ltL, nI_leL, nI_eqL, nI_Llt, nI_Lle, nI_Leq, nI_eqm, nI_meq, nI_ltm, nI_lem, nI_mlt, nI_mle, lg0, lgl, lgg, lgle, lgge, Int32.not_lt, Int32.not_le, Int64.not_lt, Int64.not_le, not_false_eq_true, not_true_eq_false, Decidable.not_not, ge_iff_le, gt_iff_lt] at q25) <;> omega)
          | exact absurd q25 (by with_reducible assumption)
          | exact absurd (by with_reducible assumption) q25
          | exact absurd (Decidable.not_not.mp q25) (by with_reducible assumption)
          | exact absurd (by with_reducible assumption) (Int32.not_le.mpr q25)
          | exact absurd (by with_reducible assumption) (Int32.not_lt.mpr q25)
        · skip
          (try simp (disch := omega) only [nI_ltI, nI_leI, nI_eq, nI_ltL, nI_leL, nI_eqL, nI_Llt, nI_Lle, nI_Leq, nI_eqm, nI_meq, nI_ltm, nI_lem, nI_mlt, nI_mle, lg0, lgl, lgg, lgle, lgge, Int32.not_lt, Int32.not_le, Int64.not_lt, Int64.not_le, not_false_eq_true, not_true_eq_false, Decidable.not_not, ge_iff_le, gt_iff_lt] at q25)
          refine pw_blk (mi := mz_122) (b := bz_122_32) rfl rfl ?_
          simp only [bz_122_32, pz_cut_t, pz_cut_f, pz_cut_n, pv_gt, pv_ts, pv_tn, ev_ild3, ev_icm1, ev_ic_eq, pz_wi_gc, pz_wi_ga, pz_wi_gn, pz_wi_gl, pz_wi_gr, pz_wi_same, pz_wi_X, pz_wl_gc, pz_wl_ga, pz_wl_gn, pz_wl_gi, pz_wl_gr, pz_wl_same, pz_wl_X, pz_wr_gc, pz_wr_ga, pz_wr_gn, pz_wr_gi, pz_wr_gl, pz_wr_same, pz_wr_X, h51]
          (try simp (disch := omega) only [nI_clamp, pz_in_nI2, pz_in_nI2L, pv_gt, nI_add, nI_addL, nI_Ladd, pk_mul, nI_mulL, nI_Lmul, pk_sub, nI_subL, nI_Lsub, nI_inc, nI_clampL, Nat.add_sub_cancel, pz_wi_else, pz_wl_else, vu_eq, vu_ne, pz_wi_gc, pz_wi_ga, pz_wi_gn, pz_wi_gl, pz_wi_gr, pz_wi_same, pz_wi_X, pz_wl_gc, pz_wl_ga, pz_wl_gn, pz_wl_gi, pz_wl_gr, pz_wl_same, pz_wl_X, pz_wr_gc, pz_wr_ga, pz_wr_gn, pz_wr_gi, pz_wr_gl, pz_wr_same, pz_wr_X, h51])
          refine po_brP (fun q32 => ?_) (fun q32 => ?_)
          · first
            | exact absurd q32 (by decide)
            | exact absurd trivial q32
            | exact q32.elim
            | (exfalso; (try simp (disch := omega) only [nI_ltI, nI_leI, nI_eq, nI_ltL, nI_leL, nI_eqL, nI_Llt, nI_Lle, nI_Leq, nI_eqm, nI_meq, nI_ltm, nI_lem, nI_mlt, nI_mle, lg0, lgl, lgg, lgle, lgge, Int32.not_lt, Int32.not_le, Int64.not_lt, Int64.not_le, not_false_eq_true, not_true_eq_false, Decidable.not_not, ge_iff_le, gt_iff_lt] at q32) <;> omega)
            | exact absurd q32 (by with_reducible assumption)
            | exact absurd (by with_reducible assumption) q32
            | exact absurd (Decidable.not_not.mp q32) (by with_reducible assumption)
            | exact absurd (by with_reducible assumption) (Int32.not_le.mpr q32)
            | exact absurd (by with_reducible assumption) (Int32.not_lt.mpr q32)
          · skip
            (try simp (disch := omega) only [nI_ltI, nI_leI, nI_eq, nI_ltL, nI_leL, nI_eqL, nI_Llt, nI_Lle, nI_Leq, nI_eqm, nI_meq, nI_ltm, nI_lem, nI_mlt, nI_mle, lg0, lgl, lgg, lgle, lgge, Int32.not_lt, Int32.not_le, Int64.not_lt, Int64.not_le, not_false_eq_true, not_true_eq_false, Decidable.not_not, ge_iff_le, gt_iff_lt] at q32)
            refine pw_blk (mi := mz_122) (b := bz_122_37) rfl rfl ?_
            simp only [bz_122_37, pz_cut_t, pz_cut_f, pz_cut_n, pv_gt, pv_ts, pv_tn, ev_ald0, ev_eld0, ev_gf5_2, ev_ic1, ev_ild3, ea_iast, ev_ild2, ev_cv2_5, pz_wi_gc, pz_wi_ga, pz_wi_gn, pz_wi_gl, pz_wi_gr, pz_wi_same, pz_wi_X, pz_wl_gc, pz_wl_ga, pz_wl_gn, pz_wl_gi, pz_wl_gr, pz_wl_same, pz_wl_X, pz_wr_gc, pz_wr_ga, pz_wr_gn, pz_wr_gi, pz_wr_gl, pz_wr_same, pz_wr_X, so_50 hS', sr_50_3 hS', sa_51 hS', sn_51 hS', h51]
            (try simp (disch := omega) only [nI_clamp, pz_in_nI2, pz_in_nI2L, pv_gt, nI_add, nI_addL, nI_Ladd, pk_mul, nI_mulL, nI_Lmul, pk_sub, nI_subL, nI_Lsub, nI_inc, nI_clampL, Nat.add_sub_cancel, pz_wi_else, pz_wl_else, vu_eq, vu_ne, pz_wi_gc, pz_wi_ga, pz_wi_gn, pz_wi_gl, pz_wi_gr, pz_wi_same, pz_wi_X, pz_wl_gc, pz_wl_ga, pz_wl_gn, pz_wl_gi, pz_wl_gr, pz_wl_same, pz_wl_X, pz_wr_gc, pz_wr_ga, pz_wr_gn, pz_wr_gi, pz_wr_gl, pz_wr_same, pz_wr_X, h51])
            (try refine po_gI (by first | exact pz_in_nI (by omega) (by decide) | decide | assumption) ?_)
            (try refine po_gP (Nat.le_of_ble_eq_true rfl) ?_)
            refine po_call (by omega) (hnb (fun M2 s2 g33 t2 u2 => ?_))
            refine pw_blk (mi := mz_122) (b := bz_122_50) rfl rfl ?_
            simp only [bz_122_50, pz_cut_t, pz_cut_f, pz_cut_n, pv_gt, pv_ts, pv_tn, ev_ist3n, ev_ist3i, ev_ist3r, ev_ist3e, ev_ist3l, ev_inc4n, ev_inc4i, ev_inc4r, ev_inc4e, ev_goto, pz_wi_gc, pz_wi_ga, pz_wi_gn, pz_wi_gl, pz_wi_gr, pz_wi_same, pz_wi_X, pz_wl_gc, pz_wl_ga, pz_wl_gn, pz_wl_gi, pz_wl_gr, pz_wl_same, pz_wl_X, pz_wr_gc, pz_wr_ga, pz_wr_gn, pz_wr_gi, pz_wr_gl, pz_wr_same, pz_wr_X, h51]
            (try simp (disch := omega) only [nI_clamp, pz_in_nI2, pz_in_nI2L, pv_gt, nI_add, nI_addL, nI_Ladd, pk_mul, nI_mulL, nI_Lmul, pk_sub, nI_subL, nI_Lsub, nI_inc, nI_clampL, Nat.add_sub_cancel, pz_wi_else, pz_wl_else, vu_eq, vu_ne, pz_wi_gc, pz_wi_ga, pz_wi_gn, pz_wi_gl, pz_wi_gr, pz_wi_same, pz_wi_X, pz_wl_gc, pz_wl_ga, pz_wl_gn, pz_wl_gi, pz_wl_gr, pz_wl_same, pz_wl_X, pz_wr_gc, pz_wr_ga, pz_wr_gn, pz_wr_gi, pz_wr_gl, pz_wr_same, pz_wr_X, h51])
            refine po_go ?_
            refine fin M2 (s.tr ((sm.mono (K := [51]) (sm.wi sm.rf (by simp)) (by decide)).tr s2 (by decide) : sm [33, 34, 37, 43, 44, 45, 51] M' M2) (by decide)) ?_ t2 u2 ?_
            · rw [g33, pz_wi_else (by decide), f33, vv]
            · rw [s2.i (k := 50) (by decide), pz_wi_else (by decide)]; exact h50
  refine pm_ent (L := [some (.ref 50), some (.int (nI a)), some (.int (nI to)), none, none]) rfl (Nat.le_of_ble_eq_true rfl) ?_
  refine pw_blk (mi := mz_122) (b := bz_122_0) rfl rfl ?_
  simp only [bz_122_0, pz_cut_t, pz_cut_f, pz_cut_n, pv_gt, pv_ts, pv_tn, ev_ald0, ev_eld0, ev_gf5_2, ev_ic0, ev_cs2, pz_wi_gc, pz_wi_ga, pz_wi_gn, pz_wi_gl, pz_wi_gr, pz_wi_same, pz_wi_X, pz_wl_gc, pz_wl_ga, pz_wl_gn, pz_wl_gi, pz_wl_gr, pz_wl_same, pz_wl_X, pz_wr_gc, pz_wr_ga, pz_wr_gn, pz_wr_gi, pz_wr_gl, pz_wr_same, pz_wr_X, so_50 hS, sr_50_3 hS, sa_51 hS, sn_51 hS]
  (try simp (disch := omega) only [nI_clamp, pz_in_nI2, pz_in_nI2L, pv_gt, nI_add, nI_addL, nI_Ladd, pk_mul, nI_mulL, nI_Lmul, pk_sub, nI_subL, nI_Lsub, nI_inc, nI_clampL, Nat.add_sub_cancel, pz_wi_else, pz_wl_else, vu_eq, vu_ne, pz_wi_gc, pz_wi_ga, pz_wi_gn, pz_wi_gl, pz_wi_gr, pz_wi_same, pz_wi_X, pz_wl_gc, pz_wl_ga, pz_wl_gn, pz_wl_gi, pz_wl_gr, pz_wl_same, pz_wl_X, pz_wr_gc, pz_wr_ga, pz_wr_gn, pz_wr_gi, pz_wr_gl, pz_wr_same, pz_wr_X])
  (try refine po_gP (Nat.le_of_ble_eq_true rfl) ?_)
  refine po_call (by omega) (m_fill (sa_51 hS) (sn_51 hS) (by decide) (fun M1 s1 e1 => ?_))
  have hS1 := hS.sm s1
  refine pw_blk (mi := mz_122) (b := bz_122_8) rfl rfl ?_
  simp only [bz_122_8, pz_cut_t, pz_cut_f, pz_cut_n, pv_gt, pv_ts, pv_tn, ev_ald0, ev_eld0, ev_ic1, ev_pf5_3, ev_gf5_2, ev_ic0, ev_ic3, ea_iast, ev_ild1, ev_ist3n, ev_ist3i, ev_ist3r, ev_ist3e, ev_ist3l, ev_ist4n, ev_ist4i, ev_ist4r, ev_ist4e, ev_ist4l, ev_nil, pz_wi_gc, pz_wi_ga, pz_wi_gn, pz_wi_gl, pz_wi_gr, pz_wi_same, pz_wi_X, pz_wl_gc, pz_wl_ga, pz_wl_gn, pz_wl_gi, pz_wl_gr, pz_wl_same, pz_wl_X, pz_wr_gc, pz_wr_ga, pz_wr_gn, pz_wr_gi, pz_wr_gl, pz_wr_same, pz_wr_X, so_50 hS, sr_50_3 hS, sa_51 hS, sn_51 hS, so_50 hS1, sr_50_3 hS1, sa_51 hS1, sn_51 hS1]
  (try simp (disch := omega) only [nI_clamp, pz_in_nI2, pz_in_nI2L, pv_gt, nI_add, nI_addL, nI_Ladd, pk_mul, nI_mulL, nI_Lmul, pk_sub, nI_subL, nI_Lsub, nI_inc, nI_clampL, Nat.add_sub_cancel, pz_wi_else, pz_wl_else, vu_eq, vu_ne, pz_wi_gc, pz_wi_ga, pz_wi_gn, pz_wi_gl, pz_wi_gr, pz_wi_same, pz_wi_X, pz_wl_gc, pz_wl_ga, pz_wl_gn, pz_wl_gi, pz_wl_gr, pz_wl_same, pz_wl_X, pz_wr_gc, pz_wr_ga, pz_wr_gn, pz_wr_gi, pz_wr_gl, pz_wr_same, pz_wr_X, so_50 hS1, sr_50_3 hS1, sa_51 hS1, sn_51 hS1])
  (try refine po_gP (by first | decide | assumption) ?_)
  (try refine po_gI (by first | exact pz_in_nI (by omega) (by decide) | decide | assumption) ?_)
  refine po_go ?_
  refine pw_cut (mi := mz_122) (b := bz_122_25) rfl rfl (key 100 0 R w (va_up (gi M1 51) 0 3) a _ (by omega) ha (by rw [vu_eq]) (((s1.mono (by decide)).wi (by simp)).wi (by simp)) ?_ ?_ ?_ ?_ ?_) rfl
  · rw [pz_wi_else (by decide), pz_wi_else (by decide), s1.i (k := 33) (by decide), ← xw, va_self]
  · exact hT.sm (K := [50, 51]) (((s1.mono (by decide)).wi (by simp)).wi (by simp)) (by decide) (by decide) (by decide)
  · rw [pz_wi_same]
  · rw [pz_wi_else (by decide), pz_wi_same, s1.i (k := 50) (by decide)]
  · intro M2 s2 a1 a2 a3 a4
    rw [Nat.zero_add]
    refine k M2 _ (fun i h1 h2 => ?_) s2 a1 a2 a3 a4
    rw [vu_ne (by omega), e1]
    exact if_pos h2
end PLAY3
