/-! ===== rules: behind a unit, the reference ===== -/
section RBH
variable {d : Nat} {M M' : pz_M} {Q : Option Value × pz_M → Prop} {T : Nat → Nat} {L B : Nat}
theorem l_pops {M0 : pz_M} {r : Nat} (hd : 4 ≤ d) (hr : r ≤ 6) {R : Pl × Ru} (kk : ∀ M', efr M0 M' → gi M' 120 4 = 0 → rSt M' true T L R.2.1 → eN M' R.1 R.2 → pw d 258 (104, [some (.ref 120), some (.int (nI r))], [], M') Q) : ∀ (P : Pl) (s : Ru) (M : pz_M), P ≠ [] → okSt P → nw P ≤ 7 → s.2.2.length + P.length ≤ 370 → efr M0 M → gi M 120 4 = 0 → rSt M true T L s.1 → eN M P s → pops r P s = R → pw d 258 (23, [some (.ref 120), some (.int (nI r))], [], M) Q := by
  intro P
  induction P with
  | nil => intro s M h; exact absurd rfl h
  | cons y P ih =>
    intro s M _ ho hw hl f z x n el
    have hS := x.1.1
    obtain ⟨⟨n76, n75, n74, n73⟩, ⟨e161, e162, nst⟩, ncd⟩ := id n
    have n76' : gi M 120 76 = nI (P.length + 1) := n76
    have hy := ho.2.2.1
    have hlen := okSt_len ho hw
    rw [List.length_cons] at hl hlen
    by_cases hc : y.1 ≤ 6 ∧ r ≤ y.1
    · have el2 : pops r P (rAdd y.2 0 s) = R := by rw [← el]; exact (if_pos hc).symm
      have hP : P ≠ [] := fun q => by have := ho.2.2.2.1.mpr q; omega
      have hx2 := ho.2.2.2.2
      have g162 := e162 hc.1
      have al := rAdd_len (k := y.2) (v := 0) (s := s)
      have hwP : nw P ≤ nw (y :: P) := Nat.le_add_left _ _
      have go : ∀ Mb, efr M Mb → gi Mb 120 4 = 0 → rSt Mb true T L s.1 → eN Mb P s → gi Mb 162 P.length = nI (cdK y.2) → pw d 258 (87, [some (.ref 120), some (.int (nI r))], [], Mb) Q := by
        intro Mb fb zb xb nb g
        have hSb := xb.1.1
        have b76 := nb.1.1
        generalize hcd : nI (cdK y.2) = cv at g
        have hl2 := hlen
        generalize hpl : P.length = pl at b76 g hl2
        refine pw_blk (mi := mz_258) (b := bz_258_87) rfl rfl ?_
        simp only [bz_258_87, pz_cut_t, pz_cut_f, pz_cut_n, pv_gt, pv_ts, pv_tn, ev_ald0, ev_eld0, ev_gf11_2, ev_gf11_0, ea_iald, ev_ic0, ev_cv2_11, pz_wi_gc, pz_wi_ga, pz_wi_gn, pz_wi_gl, pz_wi_gr, pz_wi_same, pz_wi_X, pz_wl_gc, pz_wl_ga, pz_wl_gn, pz_wl_gi, pz_wl_gr, pz_wl_same, pz_wl_X, pz_wr_gc, pz_wr_ga, pz_wr_gn, pz_wr_gi, pz_wr_gl, pz_wr_same, pz_wr_X, so_120 hSb, sr_120_68 hSb, sa_162 hSb, sn_162 hSb, b76, g, sa_161 hSb, sn_161 hSb]
        (try simp (disch := omega) only [nI_clamp, pz_in_nI2, pz_in_nI2L, pv_gt, nI_add, nI_addL, nI_Ladd, pk_mul, nI_mulL, nI_Lmul, pk_sub, nI_subL, nI_Lsub, nI_inc, nI_clampL, Nat.add_sub_cancel, pz_wi_else, pz_wl_else, vu_eq, vu_ne, pz_wi_gc, pz_wi_ga, pz_wi_gn, pz_wi_gl, pz_wi_gr, pz_wi_same, pz_wi_X, pz_wl_gc, pz_wl_ga, pz_wl_gn, pz_wl_gi, pz_wl_gr, pz_wl_same, pz_wl_X, pz_wr_gc, pz_wr_ga, pz_wr_gn, pz_wr_gi, pz_wr_gl, pz_wr_same, pz_wr_X, b76, g])
        (try refine po_gI (by first | exact pz_in_nI (by omega) (by decide) | decide | assumption) ?_)
        (try refine po_gP (Nat.le_of_ble_eq_true rfl) ?_)
        refine po_call (by omega) (r_emitN (k := y.2) (v := 0) xb nb (by omega) hcd.symm (fun _ => rfl) (fun M3 f3 h3 x3 n3 => ?_))
        refine pw_blk (mi := mz_258) (b := bz_258_101) rfl rfl ?_
        simp only [bz_258_101, pz_cut_t, pz_cut_f, pz_cut_n, pv_gt, pv_ts, pv_tn, ev_goto, pz_wi_gc, pz_wi_ga, pz_wi_gn, pz_wi_gl, pz_wi_gr, pz_wi_same, pz_wi_X, pz_wl_gc, pz_wl_ga, pz_wl_gn, pz_wl_gi, pz_wl_gr, pz_wl_same, pz_wl_X, pz_wr_gc, pz_wr_ga, pz_wr_gn, pz_wr_gi, pz_wr_gl, pz_wr_same, pz_wr_X, b76, g]
        (try simp (disch := omega) only [nI_clamp, pz_in_nI2, pz_in_nI2L, pv_gt, nI_add, nI_addL, nI_Ladd, pk_mul, nI_mulL, nI_Lmul, pk_sub, nI_subL, nI_Lsub, nI_inc, nI_clampL, Nat.add_sub_cancel, pz_wi_else, pz_wl_else, vu_eq, vu_ne, pz_wi_gc, pz_wi_ga, pz_wi_gn, pz_wi_gl, pz_wi_gr, pz_wi_same, pz_wi_X, pz_wl_gc, pz_wl_ga, pz_wl_gn, pz_wl_gi, pz_wl_gr, pz_wl_same, pz_wl_X, pz_wr_gc, pz_wr_ga, pz_wr_gn, pz_wr_gi, pz_wr_gl, pz_wr_same, pz_wr_X, b76, g])
        refine po_go ?_
        exact ih (rAdd y.2 0 s) M3 hP ho.1 (by omega) (by omega) ((f.tr fb).tr f3) (by rw [h3]; exact zb) x3 n3 el2
      by_cases y3 : y.1 = 3
      · have ew : nw (y :: P) = nw P + 1 := nw_in (Or.inl y3)
        rw [ew] at n75 hw
        rw [y3] at e161 hc
        have hl2 := hlen
        obtain ⟨Mb, hMb⟩ : ∃ Mb, Mb = pz_wi (pz_wi M 120 (va_up (gi M 120) 76 (nI P.length))) 120 (va_up (va_up (gi M 120) 76 (nI P.length)) 75 (nI (nw P))) := ⟨_, rfl⟩
        have sb : sm [120] M Mb := by rw [hMb]; exact sm.wi (sm.wi sm.rf (by decide)) (by decide)
        have eb : gi Mb 120 = va_up (va_up (gi M 120) 76 (nI P.length)) 75 (nI (nw P)) := by rw [hMb, pz_wi_same]
        have lb : gl Mb 120 = gl M 120 := by rw [hMb]; simp only [pz_wi_gl]
        have gg := go Mb ⟨sb.mono (by decide), fun j _ _ _ _ _ _ _ _ h75 h76 => by rw [eb, vu_ne h75, vu_ne h76], fun i _ => by rw [sb.i (by decide), sb.i (by decide)]; exact ⟨rfl, rfl⟩⟩ (by rw [eb, vu_ne (by decide), vu_ne (by decide)]; exact z) (rSt_n x sb (by decide) (fun j h1 h2 => by rw [eb, vu_ne (by omega), vu_ne (by omega)]) lb) ⟨⟨by rw [eb, vu_ne (by decide), vu_eq], by rw [eb, vu_eq], by rw [eb, vu_ne (by decide), vu_ne (by decide)]; exact n74, by rw [eb, vu_ne (by decide), vu_ne (by decide)]; exact n73⟩, nst.fr (fun i _ => by rw [sb.i (by decide), sb.i (by decide)]; exact ⟨rfl, rfl⟩), ncd.fr (fun i _ => by rw [sb.i (by decide), sb.i (by decide)]; exact ⟨rfl, rfl⟩)⟩ (by rw [sb.i (by decide)]; exact g162)
        generalize P.length = pl at n76' e161 hl2 hMb
        generalize nw P = wp at n75 hw hMb
        refine pw_blk (mi := mz_258) (b := bz_258_23) rfl rfl ?_
        simp only [bz_258_23, pz_cut_t, pz_cut_f, pz_cut_n, pv_gt, pv_ts, pv_tn, ev_ald0, ev_eld0, ev_gf11_2, ev_gf11_0, ev_ic1, ev_isub, ea_iald, ev_bp6, ev_ic_gt, pz_wi_gc, pz_wi_ga, pz_wi_gn, pz_wi_gl, pz_wi_gr, pz_wi_same, pz_wi_X, pz_wl_gc, pz_wl_ga, pz_wl_gn, pz_wl_gi, pz_wl_gr, pz_wl_same, pz_wl_X, pz_wr_gc, pz_wr_ga, pz_wr_gn, pz_wr_gi, pz_wr_gl, pz_wr_same, pz_wr_X, so_120 hS, sr_120_67 hS, sa_161 hS, sn_161 hS, n76', e161, n75, sa_162 hS, sn_162 hS]
        (try simp (disch := omega) only [nI_clamp, pz_in_nI2, pz_in_nI2L, pv_gt, nI_add, nI_addL, nI_Ladd, pk_mul, nI_mulL, nI_Lmul, pk_sub, nI_subL, nI_Lsub, nI_inc, nI_clampL, Nat.add_sub_cancel, pz_wi_else, pz_wl_else, vu_eq, vu_ne, pz_wi_gc, pz_wi_ga, pz_wi_gn, pz_wi_gl, pz_wi_gr, pz_wi_same, pz_wi_X, pz_wl_gc, pz_wl_ga, pz_wl_gn, pz_wl_gi, pz_wl_gr, pz_wl_same, pz_wl_X, pz_wr_gc, pz_wr_ga, pz_wr_gn, pz_wr_gi, pz_wr_gl, pz_wr_same, pz_wr_X, n76', e161, n75])
        (try refine po_gI (by first | exact pz_in_nI (by omega) (by decide) | decide | assumption) ?_)
        refine po_brP (fun q23 => ?_) (fun q23 => ?_)
        · first
          | exact absurd q23 (by decide)
          | exact absurd trivial q23
          | exact q23.elim
          | (exfalso; (try simp (disch := omega) only [nI_ltI, nI_leI, nI_eq, nI_ltL, nI_leL, nI_eqL, nI_Llt, nI_Lle, nI_Leq, nI_eqm, nI_meq, nI_ltm, nI_lem, nI_mlt, nI_mle, lg0, lgl, lgg, lgle, lgge, Int32.not_lt, Int32.not_le, Int64.not_lt, Int64.not_le, not_false_eq_true, not_true_eq_false, Decidable.not_not, ge_iff_le, gt_iff_lt] at q23) <;> omega)
          | exact absurd q23 (by with_reducible assumption)
          | exact absurd (by with_reducible assumption) q23
          | exact absurd (Decidable.not_not.mp q23) (by with_reducible assumption)
          | exact absurd (by with_reducible assumption) (Int32.not_le.mpr q23)
          | exact absurd (by with_reducible assumption) (Int32.not_lt.mpr q23)
        · skip
          (try simp (disch := omega) only [nI_ltI, nI_leI, nI_eq, nI_ltL, nI_leL, nI_eqL, nI_Llt, nI_Lle, nI_Leq, nI_eqm, nI_meq, nI_ltm, nI_lem, nI_mlt, nI_mle, lg0, lgl, lgg, lgle, lgge, Int32.not_lt, Int32.not_le, Int64.not_lt, Int64.not_le, not_false_eq_true, not_true_eq_false, Decidable.not_not, ge_iff_le, gt_iff_lt] at q23)
          refine pw_blk (mi := mz_258) (b := bz_258_39) rfl rfl ?_
          simp only [bz_258_39, pz_cut_t, pz_cut_f, pz_cut_n, pv_gt, pv_ts, pv_tn, ev_ald0, ev_eld0, ev_gf11_2, ev_gf11_0, ev_ic1, ev_isub, ea_iald, ev_ild1, ev_ic_lt, pz_wi_gc, pz_wi_ga, pz_wi_gn, pz_wi_gl, pz_wi_gr, pz_wi_same, pz_wi_X, pz_wl_gc, pz_wl_ga, pz_wl_gn, pz_wl_gi, pz_wl_gr, pz_wl_same, pz_wl_X, pz_wr_gc, pz_wr_ga, pz_wr_gn, pz_wr_gi, pz_wr_gl, pz_wr_same, pz_wr_X, so_120 hS, sr_120_67 hS, sa_161 hS, sn_161 hS, n76', e161, n75, sa_162 hS, sn_162 hS]
          (try simp (disch := omega) only [nI_clamp, pz_in_nI2, pz_in_nI2L, pv_gt, nI_add, nI_addL, nI_Ladd, pk_mul, nI_mulL, nI_Lmul, pk_sub, nI_subL, nI_Lsub, nI_inc, nI_clampL, Nat.add_sub_cancel, pz_wi_else, pz_wl_else, vu_eq, vu_ne, pz_wi_gc, pz_wi_ga, pz_wi_gn, pz_wi_gl, pz_wi_gr, pz_wi_same, pz_wi_X, pz_wl_gc, pz_wl_ga, pz_wl_gn, pz_wl_gi, pz_wl_gr, pz_wl_same, pz_wl_X, pz_wr_gc, pz_wr_ga, pz_wr_gn, pz_wr_gi, pz_wr_gl, pz_wr_same, pz_wr_X, n76', e161, n75])
          (try refine po_gI (by first | exact pz_in_nI (by omega) (by decide) | decide | assumption) ?_)
          refine po_brP (fun q39 => ?_) (fun q39 => ?_)
          · first
            | exact absurd q39 (by decide)
            | exact absurd trivial q39
            | exact q39.elim
            | (exfalso; (try simp (disch := omega) only [nI_ltI, nI_leI, nI_eq, nI_ltL, nI_leL, nI_eqL, nI_Llt, nI_Lle, nI_Leq, nI_eqm, nI_meq, nI_ltm, nI_lem, nI_mlt, nI_mle, lg0, lgl, lgg, lgle, lgge, Int32.not_lt, Int32.not_le, Int64.not_lt, Int64.not_le, not_false_eq_true, not_true_eq_false, Decidable.not_not, ge_iff_le, gt_iff_lt] at q39) <;> omega)
            | exact absurd q39 (by with_reducible assumption)
            | exact absurd (by with_reducible assumption) q39
            | exact absurd (Decidable.not_not.mp q39) (by with_reducible assumption)
            | exact absurd (by with_reducible assumption) (Int32.not_le.mpr q39)
            | exact absurd (by with_reducible assumption) (Int32.not_lt.mpr q39)
          · skip
            (try simp (disch := omega) only [nI_ltI, nI_leI, nI_eq, nI_ltL, nI_leL, nI_eqL, nI_Llt, nI_Lle, nI_Leq, nI_eqm, nI_meq, nI_ltm, nI_lem, nI_mlt, nI_mle, lg0, lgl, lgg, lgle, lgge, Int32.not_lt, Int32.not_le, Int64.not_lt, Int64.not_le, not_false_eq_true, not_true_eq_false, Decidable.not_not, ge_iff_le, gt_iff_lt] at q39)
            refine pw_blk (mi := mz_258) (b := bz_258_54) rfl rfl ?_
            simp only [bz_258_54, pz_cut_t, pz_cut_f, pz_cut_n, pv_gt, pv_ts, pv_tn, ev_ald0, ev_eld0, ev_dupi, ev_dupr, ev_dupe, ev_gf11_0, ev_ic1, ev_isub, ev_pf11_0, ev_gf11_2, ea_iald, ev_ic3, ev_ic_ne, pz_wi_gc, pz_wi_ga, pz_wi_gn, pz_wi_gl, pz_wi_gr, pz_wi_same, pz_wi_X, pz_wl_gc, pz_wl_ga, pz_wl_gn, pz_wl_gi, pz_wl_gr, pz_wl_same, pz_wl_X, pz_wr_gc, pz_wr_ga, pz_wr_gn, pz_wr_gi, pz_wr_gl, pz_wr_same, pz_wr_X, so_120 hS, sr_120_67 hS, sa_161 hS, sn_161 hS, n76', e161, n75, sa_162 hS, sn_162 hS]
            (try simp (disch := omega) only [nI_clamp, pz_in_nI2, pz_in_nI2L, pv_gt, nI_add, nI_addL, nI_Ladd, pk_mul, nI_mulL, nI_Lmul, pk_sub, nI_subL, nI_Lsub, nI_inc, nI_clampL, Nat.add_sub_cancel, pz_wi_else, pz_wl_else, vu_eq, vu_ne, pz_wi_gc, pz_wi_ga, pz_wi_gn, pz_wi_gl, pz_wi_gr, pz_wi_same, pz_wi_X, pz_wl_gc, pz_wl_ga, pz_wl_gn, pz_wl_gi, pz_wl_gr, pz_wl_same, pz_wl_X, pz_wr_gc, pz_wr_ga, pz_wr_gn, pz_wr_gi, pz_wr_gl, pz_wr_same, pz_wr_X, n76', e161, n75])
            (try refine po_gI (by first | exact pz_in_nI (by omega) (by decide) | decide | assumption) ?_)
            refine po_brP (fun q54 => ?_) (fun q54 => ?_)
            · first
              | exact absurd q54 (by decide)
              | exact absurd trivial q54
              | exact q54.elim
              | (exfalso; (try simp (disch := omega) only [nI_ltI, nI_leI, nI_eq, nI_ltL, nI_leL, nI_eqL, nI_Llt, nI_Lle, nI_Leq, nI_eqm, nI_meq, nI_ltm, nI_lem, nI_mlt, nI_mle, lg0, lgl, lgg, lgle, lgge, Int32.not_lt, Int32.not_le, Int64.not_lt, Int64.not_le, not_false_eq_true, not_true_eq_false, Decidable.not_not, ge_iff_le, gt_iff_lt] at q54) <;> omega)
              | exact absurd q54 (by with_reducible assumption)
              | exact absurd (by with_reducible assumption) q54
              | exact absurd (Decidable.not_not.mp q54) (by with_reducible assumption)
              | exact absurd (by with_reducible assumption) (Int32.not_le.mpr q54)
              | exact absurd (by with_reducible assumption) (Int32.not_lt.mpr q54)
            · skip
              (try simp (disch := omega) only [nI_ltI, nI_leI, nI_eq, nI_ltL, nI_leL, nI_eqL, nI_Llt, nI_Lle, nI_Leq, nI_eqm, nI_meq, nI_ltm, nI_lem, nI_mlt, nI_mle, lg0, lgl, lgg, lgle, lgge, Int32.not_lt, Int32.not_le, Int64.not_lt, Int64.not_le, not_false_eq_true, not_true_eq_false, Decidable.not_not, ge_iff_le, gt_iff_lt] at q54)
              refine pw_blk (mi := mz_258) (b := bz_258_77) rfl rfl ?_
              simp only [bz_258_77, pz_cut_t, pz_cut_f, pz_cut_n, pv_gt, pv_ts, pv_tn, ev_ald0, ev_eld0, ev_dupi, ev_dupr, ev_dupe, ev_gf11_0, ev_ic1, ev_isub, ev_pf11_0, ev_nil, pz_wi_gc, pz_wi_ga, pz_wi_gn, pz_wi_gl, pz_wi_gr, pz_wi_same, pz_wi_X, pz_wl_gc, pz_wl_ga, pz_wl_gn, pz_wl_gi, pz_wl_gr, pz_wl_same, pz_wl_X, pz_wr_gc, pz_wr_ga, pz_wr_gn, pz_wr_gi, pz_wr_gl, pz_wr_same, pz_wr_X, so_120 hS, n76', e161, n75]
              (try simp (disch := omega) only [nI_clamp, pz_in_nI2, pz_in_nI2L, pv_gt, nI_add, nI_addL, nI_Ladd, pk_mul, nI_mulL, nI_Lmul, pk_sub, nI_subL, nI_Lsub, nI_inc, nI_clampL, Nat.add_sub_cancel, pz_wi_else, pz_wl_else, vu_eq, vu_ne, pz_wi_gc, pz_wi_ga, pz_wi_gn, pz_wi_gl, pz_wi_gr, pz_wi_same, pz_wi_X, pz_wl_gc, pz_wl_ga, pz_wl_gn, pz_wl_gi, pz_wl_gr, pz_wl_same, pz_wl_X, pz_wr_gc, pz_wr_ga, pz_wr_gn, pz_wr_gi, pz_wr_gl, pz_wr_same, pz_wr_X, n76', e161, n75])
              refine po_go ?_
              rw [← hMb]
              exact gg
      · have ew : nw (y :: P) = nw P := nw_op ⟨y3, by omega⟩
        rw [ew] at n75
        have hl2 := hlen
        obtain ⟨Mb, hMb⟩ : ∃ Mb, Mb = pz_wi M 120 (va_up (gi M 120) 76 (nI P.length)) := ⟨_, rfl⟩
        have sb : sm [120] M Mb := by rw [hMb]; exact sm.wi sm.rf (by decide)
        have eb : gi Mb 120 = va_up (gi M 120) 76 (nI P.length) := by rw [hMb, pz_wi_same]
        have lb : gl Mb 120 = gl M 120 := by rw [hMb]; simp only [pz_wi_gl]
        have gg := go Mb ⟨sb.mono (by decide), fun j _ _ _ _ _ _ _ _ _ h76 => by rw [eb, vu_ne h76], fun i _ => by rw [sb.i (by decide), sb.i (by decide)]; exact ⟨rfl, rfl⟩⟩ (by rw [eb, vu_ne (by decide)]; exact z) (rSt_n x sb (by decide) (fun j h1 h2 => by rw [eb, vu_ne (by omega)]) lb) ⟨⟨by rw [eb, vu_eq], by rw [eb, vu_ne (by decide)]; exact n75, by rw [eb, vu_ne (by decide)]; exact n74, by rw [eb, vu_ne (by decide)]; exact n73⟩, nst.fr (fun i _ => by rw [sb.i (by decide), sb.i (by decide)]; exact ⟨rfl, rfl⟩), ncd.fr (fun i _ => by rw [sb.i (by decide), sb.i (by decide)]; exact ⟨rfl, rfl⟩)⟩ (by rw [sb.i (by decide)]; exact g162)
        generalize P.length = pl at n76' e161 hl2 hMb
        generalize y.1 = w at e161 hc y3 hy
        refine pw_blk (mi := mz_258) (b := bz_258_23) rfl rfl ?_
        simp only [bz_258_23, pz_cut_t, pz_cut_f, pz_cut_n, pv_gt, pv_ts, pv_tn, ev_ald0, ev_eld0, ev_gf11_2, ev_gf11_0, ev_ic1, ev_isub, ea_iald, ev_bp6, ev_ic_gt, pz_wi_gc, pz_wi_ga, pz_wi_gn, pz_wi_gl, pz_wi_gr, pz_wi_same, pz_wi_X, pz_wl_gc, pz_wl_ga, pz_wl_gn, pz_wl_gi, pz_wl_gr, pz_wl_same, pz_wl_X, pz_wr_gc, pz_wr_ga, pz_wr_gn, pz_wr_gi, pz_wr_gl, pz_wr_same, pz_wr_X, so_120 hS, sr_120_67 hS, sa_161 hS, sn_161 hS, n76', e161, sa_162 hS, sn_162 hS]
        (try simp (disch := omega) only [nI_clamp, pz_in_nI2, pz_in_nI2L, pv_gt, nI_add, nI_addL, nI_Ladd, pk_mul, nI_mulL, nI_Lmul, pk_sub, nI_subL, nI_Lsub, nI_inc, nI_clampL, Nat.add_sub_cancel, pz_wi_else, pz_wl_else, vu_eq, vu_ne, pz_wi_gc, pz_wi_ga, pz_wi_gn, pz_wi_gl, pz_wi_gr, pz_wi_same, pz_wi_X, pz_wl_gc, pz_wl_ga, pz_wl_gn, pz_wl_gi, pz_wl_gr, pz_wl_same, pz_wl_X, pz_wr_gc, pz_wr_ga, pz_wr_gn, pz_wr_gi, pz_wr_gl, pz_wr_same, pz_wr_X, n76', e161])
        (try refine po_gI (by first | exact pz_in_nI (by omega) (by decide) | decide | assumption) ?_)
        refine po_brP (fun q23 => ?_) (fun q23 => ?_)
        · first
          | exact absurd q23 (by decide)
          | exact absurd trivial q23
          | exact q23.elim
          | (exfalso; (try simp (disch := omega) only [nI_ltI, nI_leI, nI_eq, nI_ltL, nI_leL, nI_eqL, nI_Llt, nI_Lle, nI_Leq, nI_eqm, nI_meq, nI_ltm, nI_lem, nI_mlt, nI_mle, lg0, lgl, lgg, lgle, lgge, Int32.not_lt, Int32.not_le, Int64.not_lt, Int64.not_le, not_false_eq_true, not_true_eq_false, Decidable.not_not, ge_iff_le, gt_iff_lt] at q23) <;> omega)
          | exact absurd q23 (by with_reducible assumption)
          | exact absurd (by with_reducible assumption) q23
          | exact absurd (Decidable.not_not.mp q23) (by with_reducible assumption)
          | exact absurd (by with_reducible assumption) (Int32.not_le.mpr q23)
          | exact absurd (by with_reducible assumption) (Int32.not_lt.mpr q23)
        · skip
          (try simp (disch := omega) only [nI_ltI, nI_leI, nI_eq, nI_ltL, nI_leL, nI_eqL, nI_Llt, nI_Lle, nI_Leq, nI_eqm, nI_meq, nI_ltm, nI_lem, nI_mlt, nI_mle, lg0, lgl, lgg, lgle, lgge, Int32.not_lt, Int32.not_le, Int64.not_lt, Int64.not_le, not_false_eq_true, not_true_eq_false, Decidable.not_not, ge_iff_le, gt_iff_lt] at q23)
          refine pw_blk (mi := mz_258) (b := bz_258_39) rfl rfl ?_
          simp only [bz_258_39, pz_cut_t, pz_cut_f, pz_cut_n, pv_gt, pv_ts, pv_tn, ev_ald0, ev_eld0, ev_gf11_2, ev_gf11_0, ev_ic1, ev_isub, ea_iald, ev_ild1, ev_ic_lt, pz_wi_gc, pz_wi_ga, pz_wi_gn, pz_wi_gl, pz_wi_gr, pz_wi_same, pz_wi_X, pz_wl_gc, pz_wl_ga, pz_wl_gn, pz_wl_gi, pz_wl_gr, pz_wl_same, pz_wl_X, pz_wr_gc, pz_wr_ga, pz_wr_gn, pz_wr_gi, pz_wr_gl, pz_wr_same, pz_wr_X, so_120 hS, sr_120_67 hS, sa_161 hS, sn_161 hS, n76', e161, sa_162 hS, sn_162 hS]
          (try simp (disch := omega) only [nI_clamp, pz_in_nI2, pz_in_nI2L, pv_gt, nI_add, nI_addL, nI_Ladd, pk_mul, nI_mulL, nI_Lmul, pk_sub, nI_subL, nI_Lsub, nI_inc, nI_clampL, Nat.add_sub_cancel, pz_wi_else, pz_wl_else, vu_eq, vu_ne, pz_wi_gc, pz_wi_ga, pz_wi_gn, pz_wi_gl, pz_wi_gr, pz_wi_same, pz_wi_X, pz_wl_gc, pz_wl_ga, pz_wl_gn, pz_wl_gi, pz_wl_gr, pz_wl_same, pz_wl_X, pz_wr_gc, pz_wr_ga, pz_wr_gn, pz_wr_gi, pz_wr_gl, pz_wr_same, pz_wr_X, n76', e161])
          (try refine po_gI (by first | exact pz_in_nI (by omega) (by decide) | decide | assumption) ?_)
          refine po_brP (fun q39 => ?_) (fun q39 => ?_)
          · first
            | exact absurd q39 (by decide)
            | exact absurd trivial q39
            | exact q39.elim
            | (exfalso; (try simp (disch := omega) only [nI_ltI, nI_leI, nI_eq, nI_ltL, nI_leL, nI_eqL, nI_Llt, nI_Lle, nI_Leq, nI_eqm, nI_meq, nI_ltm, nI_lem, nI_mlt, nI_mle, lg0, lgl, lgg, lgle, lgge, Int32.not_lt, Int32.not_le, Int64.not_lt, Int64.not_le, not_false_eq_true, not_true_eq_false, Decidable.not_not, ge_iff_le, gt_iff_lt] at q39) <;> omega)
            | exact absurd q39 (by with_reducible assumption)
            | exact absurd (by with_reducible assumption) q39
            | exact absurd (Decidable.not_not.mp q39) (by with_reducible assumption)
            | exact absurd (by with_reducible assumption) (Int32.not_le.mpr q39)
            | exact absurd (by with_reducible assumption) (Int32.not_lt.mpr q39)
          · skip
            (try simp (disch := omega) only [nI_ltI, nI_leI, nI_eq, nI_ltL, nI_leL, nI_eqL, nI_Llt, nI_Lle, nI_Leq, nI_eqm, nI_meq, nI_ltm, nI_lem, nI_mlt, nI_mle, lg0, lgl, lgg, lgle, lgge, Int32.not_lt, Int32.not_le, Int64.not_lt, Int64.not_le, not_false_eq_true, not_true_eq_false, Decidable.not_not, ge_iff_le, gt_iff_lt] at q39)
            refine pw_blk (mi := mz_258) (b := bz_258_54) rfl rfl ?_
            simp only [bz_258_54, pz_cut_t, pz_cut_f, pz_cut_n, pv_gt, pv_ts, pv_tn, ev_ald0, ev_eld0, ev_dupi, ev_dupr, ev_dupe, ev_gf11_0, ev_ic1, ev_isub, ev_pf11_0, ev_gf11_2, ea_iald, ev_ic3, ev_ic_ne, pz_wi_gc, pz_wi_ga, pz_wi_gn, pz_wi_gl, pz_wi_gr, pz_wi_same, pz_wi_X, pz_wl_gc, pz_wl_ga, pz_wl_gn, pz_wl_gi, pz_wl_gr, pz_wl_same, pz_wl_X, pz_wr_gc, pz_wr_ga, pz_wr_gn, pz_wr_gi, pz_wr_gl, pz_wr_same, pz_wr_X, so_120 hS, sr_120_67 hS, sa_161 hS, sn_161 hS, n76', e161, sa_162 hS, sn_162 hS]
            (try simp (disch := omega) only [nI_clamp, pz_in_nI2, pz_in_nI2L, pv_gt, nI_add, nI_addL, nI_Ladd, pk_mul, nI_mulL, nI_Lmul, pk_sub, nI_subL, nI_Lsub, nI_inc, nI_clampL, Nat.add_sub_cancel, pz_wi_else, pz_wl_else, vu_eq, vu_ne, pz_wi_gc, pz_wi_ga, pz_wi_gn, pz_wi_gl, pz_wi_gr, pz_wi_same, pz_wi_X, pz_wl_gc, pz_wl_ga, pz_wl_gn, pz_wl_gi, pz_wl_gr, pz_wl_same, pz_wl_X, pz_wr_gc, pz_wr_ga, pz_wr_gn, pz_wr_gi, pz_wr_gl, pz_wr_same, pz_wr_X, n76', e161])
            (try refine po_gI (by first | exact pz_in_nI (by omega) (by decide) | decide | assumption) ?_)
            refine po_brP (fun q54 => ?_) (fun q54 => ?_)
            · skip
              (try simp (disch := omega) only [nI_ltI, nI_leI, nI_eq, nI_ltL, nI_leL, nI_eqL, nI_Llt, nI_Lle, nI_Leq, nI_eqm, nI_meq, nI_ltm, nI_lem, nI_mlt, nI_mle, lg0, lgl, lgg, lgle, lgge, Int32.not_lt, Int32.not_le, Int64.not_lt, Int64.not_le, not_false_eq_true, not_true_eq_false, Decidable.not_not, ge_iff_le, gt_iff_lt] at q54)
              rw [← hMb]
              exact gg
            · first
              | exact absurd q54 (by decide)
              | exact absurd trivial q54
              | exact q54.elim
              | (exfalso; (try simp (disch := omega) only [nI_ltI, nI_leI, nI_eq, nI_ltL, nI_leL, nI_eqL, nI_Llt, nI_Lle, nI_Leq, nI_eqm, nI_meq, nI_ltm, nI_lem, nI_mlt, nI_mle, lg0, lgl, lgg, lgle, lgge, Int32.not_lt, Int32.not_le, Int64.not_lt, Int64.not_le, not_false_eq_true, not_true_eq_false, Decidable.not_not, ge_iff_le, gt_iff_lt] at q54) <;> omega)
              | exact absurd q54 (by with_reducible assumption)
              | exact absurd (by with_reducible assumption) q54
              | exact absurd (Decidable.not_not.mp q54) (by with_reducible assumption)
              | exact absurd (by with_reducible assumption) (Int32.not_le.mpr q54)
              | exact absurd (by with_reducible assumption) (Int32.not_lt.mpr q54)
    · have el2 : (y :: P, s) = R := by rw [← el]; exact (if_neg hc).symm
      have k4 := kk M f z (by rw [← el2]; exact x) (by rw [← el2]; exact n)
      have hl2 := hlen
      generalize P.length = pl at n76' e161 hl2
      generalize y.1 = w at e161 hc hy
      by_cases w6 : w ≤ 6
      · skip
        refine pw_blk (mi := mz_258) (b := bz_258_23) rfl rfl ?_
        simp only [bz_258_23, pz_cut_t, pz_cut_f, pz_cut_n, pv_gt, pv_ts, pv_tn, ev_ald0, ev_eld0, ev_gf11_2, ev_gf11_0, ev_ic1, ev_isub, ea_iald, ev_bp6, ev_ic_gt, pz_wi_gc, pz_wi_ga, pz_wi_gn, pz_wi_gl, pz_wi_gr, pz_wi_same, pz_wi_X, pz_wl_gc, pz_wl_ga, pz_wl_gn, pz_wl_gi, pz_wl_gr, pz_wl_same, pz_wl_X, pz_wr_gc, pz_wr_ga, pz_wr_gn, pz_wr_gi, pz_wr_gl, pz_wr_same, pz_wr_X, so_120 hS, sr_120_67 hS, sa_161 hS, sn_161 hS, n76', e161, sa_162 hS, sn_162 hS]
        (try simp (disch := omega) only [nI_clamp, pz_in_nI2, pz_in_nI2L, pv_gt, nI_add, nI_addL, nI_Ladd, pk_mul, nI_mulL, nI_Lmul, pk_sub, nI_subL, nI_Lsub, nI_inc, nI_clampL, Nat.add_sub_cancel, pz_wi_else, pz_wl_else, vu_eq, vu_ne, pz_wi_gc, pz_wi_ga, pz_wi_gn, pz_wi_gl, pz_wi_gr, pz_wi_same, pz_wi_X, pz_wl_gc, pz_wl_ga, pz_wl_gn, pz_wl_gi, pz_wl_gr, pz_wl_same, pz_wl_X, pz_wr_gc, pz_wr_ga, pz_wr_gn, pz_wr_gi, pz_wr_gl, pz_wr_same, pz_wr_X, n76', e161])
        (try refine po_gI (by first | exact pz_in_nI (by omega) (by decide) | decide | assumption) ?_)
        refine po_brP (fun q23 => ?_) (fun q23 => ?_)
        · first
          | exact absurd q23 (by decide)
          | exact absurd trivial q23
          | exact q23.elim
          | (exfalso; (try simp (disch := omega) only [nI_ltI, nI_leI, nI_eq, nI_ltL, nI_leL, nI_eqL, nI_Llt, nI_Lle, nI_Leq, nI_eqm, nI_meq, nI_ltm, nI_lem, nI_mlt, nI_mle, lg0, lgl, lgg, lgle, lgge, Int32.not_lt, Int32.not_le, Int64.not_lt, Int64.not_le, not_false_eq_true, not_true_eq_false, Decidable.not_not, ge_iff_le, gt_iff_lt] at q23) <;> omega)
          | exact absurd q23 (by with_reducible assumption)
          | exact absurd (by with_reducible assumption) q23
          | exact absurd (Decidable.not_not.mp q23) (by with_reducible assumption)
          | exact absurd (by with_reducible assumption) (Int32.not_le.mpr q23)
          | exact absurd (by with_reducible assumption) (Int32.not_lt.mpr q23)
        · skip
          (try simp (disch := omega) only [nI_ltI, nI_leI, nI_eq, nI_ltL, nI_leL, nI_eqL, nI_Llt, nI_Lle, nI_Leq, nI_eqm, nI_meq, nI_ltm, nI_lem, nI_mlt, nI_mle, lg0, lgl, lgg, lgle, lgge, Int32.not_lt, Int32.not_le, Int64.not_lt, Int64.not_le, not_false_eq_true, not_true_eq_false, Decidable.not_not, ge_iff_le, gt_iff_lt] at q23)
          refine pw_blk (mi := mz_258) (b := bz_258_39) rfl rfl ?_
          simp only [bz_258_39, pz_cut_t, pz_cut_f, pz_cut_n, pv_gt, pv_ts, pv_tn, ev_ald0, ev_eld0, ev_gf11_2, ev_gf11_0, ev_ic1, ev_isub, ea_iald, ev_ild1, ev_ic_lt, pz_wi_gc, pz_wi_ga, pz_wi_gn, pz_wi_gl, pz_wi_gr, pz_wi_same, pz_wi_X, pz_wl_gc, pz_wl_ga, pz_wl_gn, pz_wl_gi, pz_wl_gr, pz_wl_same, pz_wl_X, pz_wr_gc, pz_wr_ga, pz_wr_gn, pz_wr_gi, pz_wr_gl, pz_wr_same, pz_wr_X, so_120 hS, sr_120_67 hS, sa_161 hS, sn_161 hS, n76', e161, sa_162 hS, sn_162 hS]
          (try simp (disch := omega) only [nI_clamp, pz_in_nI2, pz_in_nI2L, pv_gt, nI_add, nI_addL, nI_Ladd, pk_mul, nI_mulL, nI_Lmul, pk_sub, nI_subL, nI_Lsub, nI_inc, nI_clampL, Nat.add_sub_cancel, pz_wi_else, pz_wl_else, vu_eq, vu_ne, pz_wi_gc, pz_wi_ga, pz_wi_gn, pz_wi_gl, pz_wi_gr, pz_wi_same, pz_wi_X, pz_wl_gc, pz_wl_ga, pz_wl_gn, pz_wl_gi, pz_wl_gr, pz_wl_same, pz_wl_X, pz_wr_gc, pz_wr_ga, pz_wr_gn, pz_wr_gi, pz_wr_gl, pz_wr_same, pz_wr_X, n76', e161])
          (try refine po_gI (by first | exact pz_in_nI (by omega) (by decide) | decide | assumption) ?_)
          refine po_brP (fun q39 => ?_) (fun q39 => ?_)
          · skip
            (try simp (disch := omega) only [nI_ltI, nI_leI, nI_eq, nI_ltL, nI_leL, nI_eqL, nI_Llt, nI_Lle, nI_Leq, nI_eqm, nI_meq, nI_ltm, nI_lem, nI_mlt, nI_mle, lg0, lgl, lgg, lgle, lgge, Int32.not_lt, Int32.not_le, Int64.not_lt, Int64.not_le, not_false_eq_true, not_true_eq_false, Decidable.not_not, ge_iff_le, gt_iff_lt] at q39)
            exact k4
          · first
            | exact absurd q39 (by decide)
            | exact absurd trivial q39
            | exact q39.elim
            | (exfalso; (try simp (disch := omega) only [nI_ltI, nI_leI, nI_eq, nI_ltL, nI_leL, nI_eqL, nI_Llt, nI_Lle, nI_Leq, nI_eqm, nI_meq, nI_ltm, nI_lem, nI_mlt, nI_mle, lg0, lgl, lgg, lgle, lgge, Int32.not_lt, Int32.not_le, Int64.not_lt, Int64.not_le, not_false_eq_true, not_true_eq_false, Decidable.not_not, ge_iff_le, gt_iff_lt] at q39) <;> omega)
            | exact absurd q39 (by with_reducible assumption)
            | exact absurd (by with_reducible assumption) q39
            | exact absurd (Decidable.not_not.mp q39) (by with_reducible assumption)
            | exact absurd (by with_reducible assumption) (Int32.not_le.mpr q39)
            | exact absurd (by with_reducible assumption) (Int32.not_lt.mpr q39)
      · skip
        refine pw_blk (mi := mz_258) (b := bz_258_23) rfl rfl ?_
        simp only [bz_258_23, pz_cut_t, pz_cut_f, pz_cut_n, pv_gt, pv_ts, pv_tn, ev_ald0, ev_eld0, ev_gf11_2, ev_gf11_0, ev_ic1, ev_isub, ea_iald, ev_bp6, ev_ic_gt, pz_wi_gc, pz_wi_ga, pz_wi_gn, pz_wi_gl, pz_wi_gr, pz_wi_same, pz_wi_X, pz_wl_gc, pz_wl_ga, pz_wl_gn, pz_wl_gi, pz_wl_gr, pz_wl_same, pz_wl_X, pz_wr_gc, pz_wr_ga, pz_wr_gn, pz_wr_gi, pz_wr_gl, pz_wr_same, pz_wr_X, so_120 hS, sr_120_67 hS, sa_161 hS, sn_161 hS, n76', e161, sa_162 hS, sn_162 hS]
        (try simp (disch := omega) only [nI_clamp, pz_in_nI2, pz_in_nI2L, pv_gt, nI_add, nI_addL, nI_Ladd, pk_mul, nI_mulL, nI_Lmul, pk_sub, nI_subL, nI_Lsub, nI_inc, nI_clampL, Nat.add_sub_cancel, pz_wi_else, pz_wl_else, vu_eq, vu_ne, pz_wi_gc, pz_wi_ga, pz_wi_gn, pz_wi_gl, pz_wi_gr, pz_wi_same, pz_wi_X, pz_wl_gc, pz_wl_ga, pz_wl_gn, pz_wl_gi, pz_wl_gr, pz_wl_same, pz_wl_X, pz_wr_gc, pz_wr_ga, pz_wr_gn, pz_wr_gi, pz_wr_gl, pz_wr_same, pz_wr_X, n76', e161])
        (try refine po_gI (by first | exact pz_in_nI (by omega) (by decide) | decide | assumption) ?_)
        refine po_brP (fun q23 => ?_) (fun q23 => ?_)
        · skip
          (try simp (disch := omega) only [nI_ltI, nI_leI, nI_eq, nI_ltL, nI_leL, nI_eqL, nI_Llt, nI_Lle, nI_Leq, nI_eqm, nI_meq, nI_ltm, nI_lem, nI_mlt, nI_mle, lg0, lgl, lgg, lgle, lgge, Int32.not_lt, Int32.not_le, Int64.not_lt, Int64.not_le, not_false_eq_true, not_true_eq_false, Decidable.not_not, ge_iff_le, gt_iff_lt] at q23)
          exact k4
        · first
          | exact absurd q23 (by decide)
          | exact absurd trivial q23
          | exact q23.elim
          | (exfalso; (try simp (disch := omega) only [nI_ltI, nI_leI, nI_eq, nI_ltL, nI_leL, nI_eqL, nI_Llt, nI_Lle, nI_Leq, nI_eqm, nI_meq, nI_ltm, nI_lem, nI_mlt, nI_mle, lg0, lgl, lgg, lgle, lgge, Int32.not_lt, Int32.not_le, Int64.not_lt, Int64.not_le, not_false_eq_true, not_true_eq_false, Decidable.not_not, ge_iff_le, gt_iff_lt] at q23) <;> omega)
          | exact absurd q23 (by with_reducible assumption)
          | exact absurd (by with_reducible assumption) q23
          | exact absurd (Decidable.not_not.mp q23) (by with_reducible assumption)
          | exact absurd (by with_reducible assumption) (Int32.not_le.mpr q23)
          | exact absurd (by with_reducible assumption) (Int32.not_lt.mpr q23)
theorem oc_sg {t : Tk} (h : 4 ≤ rk (.inr t)) : t.1 = 5 ∧ cdK (oc (.inr t)) = t.2.1 := by
  have key : ∀ c, isC c (.inr t) = true → t.1 = 5 ∧ t.2.1 = c := fun c hc => by
    unfold isC at hc
    simp at hc
    exact hc
  unfold rk at h
  unfold oc
  by_cases q1 : isWs 23 (.inr t) = true
  · rw [if_pos q1] at h; omega
  rw [if_neg q1] at h ⊢
  by_cases q2 : isWs 24 (.inr t) = true
  · rw [if_pos q2] at h; omega
  rw [if_neg q2] at h ⊢
  by_cases q3 : isC 60 (.inr t) = true
  · rw [if_pos q3, (key _ q3).2]; exact ⟨(key _ q3).1, rfl⟩
  rw [if_neg q3]
  by_cases q4 : isC 62 (.inr t) = true
  · rw [if_pos q4, (key _ q4).2]; exact ⟨(key _ q4).1, rfl⟩
  rw [if_neg q4]
  by_cases q5 : isC 61 (.inr t) = true
  · rw [if_pos q5, (key _ q5).2]; exact ⟨(key _ q5).1, rfl⟩
  rw [if_neg q5]
  rw [if_neg (by simp [q3, q4, q5])] at h
  by_cases q6 : isC 43 (.inr t) = true
  · rw [if_pos q6, (key _ q6).2]; exact ⟨(key _ q6).1, rfl⟩
  rw [if_neg q6]
  by_cases q7 : isC 45 (.inr t) = true
  · rw [if_pos q7, (key _ q7).2]; exact ⟨(key _ q7).1, rfl⟩
  rw [if_neg q7]
  rw [if_neg (by simp [q6, q7])] at h
  by_cases q8 : isC 42 (.inr t) = true
  · rw [(key _ q8).2]; exact ⟨(key _ q8).1, rfl⟩
  rw [if_neg q8] at h
  omega
theorem r_behind (hd : 12 ≤ d) {S : Pl} {s : Ru} (z : gi M 120 4 = 0) (x : rSt M true T L s.1) (n : eN M S s) (o : okM (S, false, s)) (hn : S ≠ []) (k : ∀ M', efr M M' → rSt M' true T L (behS T L S s).2.2.1 → (gi M' 120 4 = 0 → eN M' (behS T L S s).1 (behS T L S s).2.2) → Q (some (.int (bI (behS T L S s).2.1)), M')) : pm d 258 [.ref 120] M Q := by
  have hS := x.1.1
  obtain ⟨ol, oc_⟩ := o.b
  have ol' : S.length ≤ 48 := ol
  have oc' : s.2.2.length + S.length ≤ 370 := oc_
  have onw : nw S ≤ 7 := o.2.1
  have ost : okSt S := o.1
  obtain ⟨⟨n76, n75, n74, n73⟩, nst, ncd⟩ := id n
  obtain ⟨rb1, rb2⟩ := rk_b s.1
  unfold behS at k
  -- not compared: pops, then the rest
  have P23 : ¬ (rk s.1 = 4 ∧ isCmp S = true) → pw d 258 (23, [some (.ref 120), some (.int (nI (rk s.1)))], [], M) Q := by
    intro hnc
    rw [if_neg hnc] at k
    obtain ⟨a1, a2, a3, a4, a5, a6, a7⟩ := pops_ok (r := rk s.1) S s ost hn
    refine l_pops (M0 := M) (R := pops (rk s.1) S s) (by omega) rb1 (fun M1 f1 z1 x1 n1 => ?_) S s M hn ost onw oc' efr.rf z x n rfl
    have hS1 := x1.1.1
    rw [a5] at x1
    by_cases hr : 0 < rk s.1
    · rw [if_pos hr] at k
      cases hσ : s.1 with
      | inl f => rw [hσ] at hr; exact absurd (show (0 : Nat) < 0 from hr) (by decide)
      | inr t =>
        rw [← hσ]
        rw [hσ] at x1
        generalize hP : pops (rk s.1) S s = P at a1 a2 a3 a4 a5 a6 a7 n1 k
        have lP := okSt_len a1 (Nat.le_trans a3 onw)
        have sdv : (rAdv T L P.2).1 = nxF true T L (.inr t) := by show nxF true T L P.2.1 = _; rw [a5, hσ]
        -- push and go on
        have push : ∀ y : Int32, y = nI (cdK (oc s.1)) → pw d 258 (138, [some (.ref 120), none], [.int y, .int (nI (rk s.1)), .ref 120], M1) Q := by
          intro y hy
          subst hy
          generalize hcd : nI (cdK (oc s.1)) = cv
          generalize hrk : rk s.1 = r at hr rb1 rb2 k
          refine pw_blk (mi := mz_258) (b := bz_258_138) rfl rfl ?_
          simp only [bz_258_138, pz_cut_t, pz_cut_f, pz_cut_n, pv_gt, pv_ts, pv_tn, ev_cv2_11, pz_wi_gc, pz_wi_ga, pz_wi_gn, pz_wi_gl, pz_wi_gr, pz_wi_same, pz_wi_X, pz_wl_gc, pz_wl_ga, pz_wl_gn, pz_wl_gi, pz_wl_gr, pz_wl_same, pz_wl_X, pz_wr_gc, pz_wr_ga, pz_wr_gn, pz_wr_gi, pz_wr_gl, pz_wr_same, pz_wr_X, so_120 hS1]
          (try simp (disch := omega) only [nI_clamp, pz_in_nI2, pz_in_nI2L, pv_gt, nI_add, nI_addL, nI_Ladd, pk_mul, nI_mulL, nI_Lmul, pk_sub, nI_subL, nI_Lsub, nI_inc, nI_clampL, Nat.add_sub_cancel, pz_wi_else, pz_wl_else, vu_eq, vu_ne, pz_wi_gc, pz_wi_ga, pz_wi_gn, pz_wi_gl, pz_wi_gr, pz_wi_same, pz_wi_X, pz_wl_gc, pz_wl_ga, pz_wl_gn, pz_wl_gi, pz_wl_gr, pz_wl_same, pz_wl_X, pz_wr_gc, pz_wr_ga, pz_wr_gn, pz_wr_gi, pz_wr_gl, pz_wr_same, pz_wr_X])
          (try refine po_gP (Nat.le_of_ble_eq_true rfl) ?_)
          refine po_call (by omega) (r_pushE (x := r) (n := P.1.length) hS1 n1.1.1 (by omega) (fun M2 s2 f0 g1 g2 gl2 => ?_))
          have x2 : rSt M2 true T L (.inr t) := rSt_n x1 s2 (by decide) (fun j h1 h2 => by rw [f0, vu_ne (by omega)]) gl2
          have hS2 := x2.1.1
          refine pw_blk (mi := mz_258) (b := bz_258_141) rfl rfl ?_
          simp only [bz_258_141, pz_cut_t, pz_cut_f, pz_cut_n, pv_gt, pv_ts, pv_tn, ev_ald0, ev_eld0, ev_cv0_11, pz_wi_gc, pz_wi_ga, pz_wi_gn, pz_wi_gl, pz_wi_gr, pz_wi_same, pz_wi_X, pz_wl_gc, pz_wl_ga, pz_wl_gn, pz_wl_gi, pz_wl_gr, pz_wl_same, pz_wl_X, pz_wr_gc, pz_wr_ga, pz_wr_gn, pz_wr_gi, pz_wr_gl, pz_wr_same, pz_wr_X, so_120 hS1, so_120 hS2]
          (try simp (disch := omega) only [nI_clamp, pz_in_nI2, pz_in_nI2L, pv_gt, nI_add, nI_addL, nI_Ladd, pk_mul, nI_mulL, nI_Lmul, pk_sub, nI_subL, nI_Lsub, nI_inc, nI_clampL, Nat.add_sub_cancel, pz_wi_else, pz_wl_else, vu_eq, vu_ne, pz_wi_gc, pz_wi_ga, pz_wi_gn, pz_wi_gl, pz_wi_gr, pz_wi_same, pz_wi_X, pz_wl_gc, pz_wl_ga, pz_wl_gn, pz_wl_gi, pz_wl_gr, pz_wl_same, pz_wl_X, pz_wr_gc, pz_wr_ga, pz_wr_gn, pz_wr_gi, pz_wr_gl, pz_wr_same, pz_wr_X, so_120 hS2])
          (try refine po_gP (Nat.le_of_ble_eq_true rfl) ?_)
          refine po_call (by omega) (r_go (by omega) x2 (fun M3 r3 s3 z3 _ => ?_))
          refine pw_blk (mi := mz_258) (b := bz_258_145) rfl rfl ?_
          simp only [bz_258_145, pz_cut_t, pz_cut_f, pz_cut_n, pv_gt, pv_ts, pv_tn, ev_ic1, ev_iret1, pz_wi_gc, pz_wi_ga, pz_wi_gn, pz_wi_gl, pz_wi_gr, pz_wi_same, pz_wi_X, pz_wl_gc, pz_wl_ga, pz_wl_gn, pz_wl_gi, pz_wl_gr, pz_wl_same, pz_wl_X, pz_wr_gc, pz_wr_ga, pz_wr_gn, pz_wr_gi, pz_wr_gl, pz_wr_same, pz_wr_X]
          (try simp (disch := omega) only [nI_clamp, pz_in_nI2, pz_in_nI2L, pv_gt, nI_add, nI_addL, nI_Ladd, pk_mul, nI_mulL, nI_Lmul, pk_sub, nI_subL, nI_Lsub, nI_inc, nI_clampL, Nat.add_sub_cancel, pz_wi_else, pz_wl_else, vu_eq, vu_ne, pz_wi_gc, pz_wi_ga, pz_wi_gn, pz_wi_gl, pz_wi_gr, pz_wi_same, pz_wi_X, pz_wl_gc, pz_wl_ga, pz_wl_gn, pz_wl_gi, pz_wl_gr, pz_wl_same, pz_wl_X, pz_wr_gc, pz_wr_ga, pz_wr_gn, pz_wr_gi, pz_wr_gl, pz_wr_same, pz_wr_X])
          (try refine po_gP (by first | decide | assumption) ?_)
          have n2 : eN M2 ((r, oc s.1) :: P.1) P.2 := ⟨⟨by rw [f0, vu_eq]; rfl, by rw [f0, vu_ne (by decide), nw_op ⟨rb2, by omega⟩]; exact n1.1.2.1, by rw [f0, vu_ne (by decide)]; exact n1.1.2.2.1, by rw [f0, vu_ne (by decide)]; exact n1.1.2.2.2⟩, ⟨by rw [g1, vu_eq], fun _ => by rw [g2, vu_eq]; exact hcd.symm, n1.2.1.fr (fun i hi => by rw [g1, g2, vu_ne (by omega), vu_ne (by omega)]; exact ⟨rfl, rfl⟩)⟩, n1.2.2.fr (fun i _ => by rw [s2.i (by decide), s2.i (by decide)]; exact ⟨rfl, rfl⟩)⟩
          have f2 : efr M1 M2 := ⟨s2.mono (by decide), fun j _ _ _ _ _ _ _ _ _ h76 => by rw [f0, vu_ne h76], fun i _ => by rw [s2.i (by decide), s2.i (by decide)]; exact ⟨rfl, rfl⟩⟩
          refine po_ret (k M3 ((f1.tr f2).tr r3.e) (by rw [sdv]; exact s3) (fun _ => (n2.r r3).s rfl))
        by_cases h2 : rk s.1 = 2
        · have pp := push 38 (by rw [oc_2 (rk_2.mpr h2)]; rfl)
          rw [h2] at pp ⊢
          refine pw_blk (mi := mz_258) (b := bz_258_104) rfl rfl ?_
          simp only [bz_258_104, pz_cut_t, pz_cut_f, pz_cut_n, pv_gt, pv_ts, pv_tn, ev_ild1, ev_ifle, pz_wi_gc, pz_wi_ga, pz_wi_gn, pz_wi_gl, pz_wi_gr, pz_wi_same, pz_wi_X, pz_wl_gc, pz_wl_ga, pz_wl_gn, pz_wl_gi, pz_wl_gr, pz_wl_same, pz_wl_X, pz_wr_gc, pz_wr_ga, pz_wr_gn, pz_wr_gi, pz_wr_gl, pz_wr_same, pz_wr_X]
          (try simp (disch := omega) only [nI_clamp, pz_in_nI2, pz_in_nI2L, pv_gt, nI_add, nI_addL, nI_Ladd, pk_mul, nI_mulL, nI_Lmul, pk_sub, nI_subL, nI_Lsub, nI_inc, nI_clampL, Nat.add_sub_cancel, pz_wi_else, pz_wl_else, vu_eq, vu_ne, pz_wi_gc, pz_wi_ga, pz_wi_gn, pz_wi_gl, pz_wi_gr, pz_wi_same, pz_wi_X, pz_wl_gc, pz_wl_ga, pz_wl_gn, pz_wl_gi, pz_wl_gr, pz_wl_same, pz_wl_X, pz_wr_gc, pz_wr_ga, pz_wr_gn, pz_wr_gi, pz_wr_gl, pz_wr_same, pz_wr_X])
          refine po_brP (fun q104 => ?_) (fun q104 => ?_)
          · first
            | exact absurd q104 (by decide)
            | exact absurd trivial q104
            | exact q104.elim
            | (exfalso; (try simp (disch := omega) only [nI_ltI, nI_leI, nI_eq, nI_ltL, nI_leL, nI_eqL, nI_Llt, nI_Lle, nI_Leq, nI_eqm, nI_meq, nI_ltm, nI_lem, nI_mlt, nI_mle, lg0, lgl, lgg, lgle, lgge, Int32.not_lt, Int32.not_le, Int64.not_lt, Int64.not_le, not_false_eq_true, not_true_eq_false, Decidable.not_not, ge_iff_le, gt_iff_lt] at q104) <;> omega)
            | exact absurd q104 (by with_reducible assumption)
            | exact absurd (by with_reducible assumption) q104
            | exact absurd (Decidable.not_not.mp q104) (by with_reducible assumption)
            | exact absurd (by with_reducible assumption) (Int32.not_le.mpr q104)
            | exact absurd (by with_reducible assumption) (Int32.not_lt.mpr q104)
          · skip
            (try simp (disch := omega) only [nI_ltI, nI_leI, nI_eq, nI_ltL, nI_leL, nI_eqL, nI_Llt, nI_Lle, nI_Leq, nI_eqm, nI_meq, nI_ltm, nI_lem, nI_mlt, nI_mle, lg0, lgl, lgg, lgle, lgge, Int32.not_lt, Int32.not_le, Int64.not_lt, Int64.not_le, not_false_eq_true, not_true_eq_false, Decidable.not_not, ge_iff_le, gt_iff_lt] at q104)
            refine pw_blk (mi := mz_258) (b := bz_258_108) rfl rfl ?_
            simp only [bz_258_108, pz_cut_t, pz_cut_f, pz_cut_n, pv_gt, pv_ts, pv_tn, ev_ald0, ev_eld0, ev_ild1, ev_ic2, ev_ic_ne, pz_wi_gc, pz_wi_ga, pz_wi_gn, pz_wi_gl, pz_wi_gr, pz_wi_same, pz_wi_X, pz_wl_gc, pz_wl_ga, pz_wl_gn, pz_wl_gi, pz_wl_gr, pz_wl_same, pz_wl_X, pz_wr_gc, pz_wr_ga, pz_wr_gn, pz_wr_gi, pz_wr_gl, pz_wr_same, pz_wr_X]
            (try simp (disch := omega) only [nI_clamp, pz_in_nI2, pz_in_nI2L, pv_gt, nI_add, nI_addL, nI_Ladd, pk_mul, nI_mulL, nI_Lmul, pk_sub, nI_subL, nI_Lsub, nI_inc, nI_clampL, Nat.add_sub_cancel, pz_wi_else, pz_wl_else, vu_eq, vu_ne, pz_wi_gc, pz_wi_ga, pz_wi_gn, pz_wi_gl, pz_wi_gr, pz_wi_same, pz_wi_X, pz_wl_gc, pz_wl_ga, pz_wl_gn, pz_wl_gi, pz_wl_gr, pz_wl_same, pz_wl_X, pz_wr_gc, pz_wr_ga, pz_wr_gn, pz_wr_gi, pz_wr_gl, pz_wr_same, pz_wr_X])
            refine po_brP (fun q108 => ?_) (fun q108 => ?_)
            · first
              | exact absurd q108 (by decide)
              | exact absurd trivial q108
              | exact q108.elim
              | (exfalso; (try simp (disch := omega) only [nI_ltI, nI_leI, nI_eq, nI_ltL, nI_leL, nI_eqL, nI_Llt, nI_Lle, nI_Leq, nI_eqm, nI_meq, nI_ltm, nI_lem, nI_mlt, nI_mle, lg0, lgl, lgg, lgle, lgge, Int32.not_lt, Int32.not_le, Int64.not_lt, Int64.not_le, not_false_eq_true, not_true_eq_false, Decidable.not_not, ge_iff_le, gt_iff_lt] at q108) <;> omega)
              | exact absurd q108 (by with_reducible assumption)
              | exact absurd (by with_reducible assumption) q108
              | exact absurd (Decidable.not_not.mp q108) (by with_reducible assumption)
              | exact absurd (by with_reducible assumption) (Int32.not_le.mpr q108)
              | exact absurd (by with_reducible assumption) (Int32.not_lt.mpr q108)
            · skip
              (try simp (disch := omega) only [nI_ltI, nI_leI, nI_eq, nI_ltL, nI_leL, nI_eqL, nI_Llt, nI_Lle, nI_Leq, nI_eqm, nI_meq, nI_ltm, nI_lem, nI_mlt, nI_mle, lg0, lgl, lgg, lgle, lgge, Int32.not_lt, Int32.not_le, Int64.not_lt, Int64.not_le, not_false_eq_true, not_true_eq_false, Decidable.not_not, ge_iff_le, gt_iff_lt] at q108)
              refine pw_blk (mi := mz_258) (b := bz_258_115) rfl rfl ?_
              simp only [bz_258_115, pz_cut_t, pz_cut_f, pz_cut_n, pv_gt, pv_ts, pv_tn, ev_bp38, ev_goto, pz_wi_gc, pz_wi_ga, pz_wi_gn, pz_wi_gl, pz_wi_gr, pz_wi_same, pz_wi_X, pz_wl_gc, pz_wl_ga, pz_wl_gn, pz_wl_gi, pz_wl_gr, pz_wl_same, pz_wl_X, pz_wr_gc, pz_wr_ga, pz_wr_gn, pz_wr_gi, pz_wr_gl, pz_wr_same, pz_wr_X]
              (try simp (disch := omega) only [nI_clamp, pz_in_nI2, pz_in_nI2L, pv_gt, nI_add, nI_addL, nI_Ladd, pk_mul, nI_mulL, nI_Lmul, pk_sub, nI_subL, nI_Lsub, nI_inc, nI_clampL, Nat.add_sub_cancel, pz_wi_else, pz_wl_else, vu_eq, vu_ne, pz_wi_gc, pz_wi_ga, pz_wi_gn, pz_wi_gl, pz_wi_gr, pz_wi_same, pz_wi_X, pz_wl_gc, pz_wl_ga, pz_wl_gn, pz_wl_gi, pz_wl_gr, pz_wl_same, pz_wl_X, pz_wr_gc, pz_wr_ga, pz_wr_gn, pz_wr_gi, pz_wr_gl, pz_wr_same, pz_wr_X])
              refine po_go ?_
              exact pp
        · by_cases h1 : rk s.1 = 1
          · have pp := push 124 (by rw [oc_1 (rk_1.mpr h1)]; rfl)
            rw [h1] at pp ⊢
            refine pw_blk (mi := mz_258) (b := bz_258_104) rfl rfl ?_
            simp only [bz_258_104, pz_cut_t, pz_cut_f, pz_cut_n, pv_gt, pv_ts, pv_tn, ev_ild1, ev_ifle, pz_wi_gc, pz_wi_ga, pz_wi_gn, pz_wi_gl, pz_wi_gr, pz_wi_same, pz_wi_X, pz_wl_gc, pz_wl_ga, pz_wl_gn, pz_wl_gi, pz_wl_gr, pz_wl_same, pz_wl_X, pz_wr_gc, pz_wr_ga, pz_wr_gn, pz_wr_gi, pz_wr_gl, pz_wr_same, pz_wr_X]
            (try simp (disch := omega) only [nI_clamp, pz_in_nI2, pz_in_nI2L, pv_gt, nI_add, nI_addL, nI_Ladd, pk_mul, nI_mulL, nI_Lmul, pk_sub, nI_subL, nI_Lsub, nI_inc, nI_clampL, Nat.add_sub_cancel, pz_wi_else, pz_wl_else, vu_eq, vu_ne, pz_wi_gc, pz_wi_ga, pz_wi_gn, pz_wi_gl, pz_wi_gr, pz_wi_same, pz_wi_X, pz_wl_gc, pz_wl_ga, pz_wl_gn, pz_wl_gi, pz_wl_gr, pz_wl_same, pz_wl_X, pz_wr_gc, pz_wr_ga, pz_wr_gn, pz_wr_gi, pz_wr_gl, pz_wr_same, pz_wr_X])
            refine po_brP (fun q104 => ?_) (fun q104 => ?_)
            · first
              | exact absurd q104 (by decide)
              | exact absurd trivial q104
              | exact q104.elim
              | (exfalso; (try simp (disch := omega) only [nI_ltI, nI_leI, nI_eq, nI_ltL, nI_leL, nI_eqL, nI_Llt, nI_Lle, nI_Leq, nI_eqm, nI_meq, nI_ltm, nI_lem, nI_mlt, nI_mle, lg0, lgl, lgg, lgle, lgge, Int32.not_lt, Int32.not_le, Int64.not_lt, Int64.not_le, not_false_eq_true, not_true_eq_false, Decidable.not_not, ge_iff_le, gt_iff_lt] at q104) <;> omega)
              | exact absurd q104 (by with_reducible assumption)
              | exact absurd (by with_reducible assumption) q104
              | exact absurd (Decidable.not_not.mp q104) (by with_reducible assumption)
              | exact absurd (by with_reducible assumption) (Int32.not_le.mpr q104)
              | exact absurd (by with_reducible assumption) (Int32.not_lt.mpr q104)
            · skip
              (try simp (disch := omega) only [nI_ltI, nI_leI, nI_eq, nI_ltL, nI_leL, nI_eqL, nI_Llt, nI_Lle, nI_Leq, nI_eqm, nI_meq, nI_ltm, nI_lem, nI_mlt, nI_mle, lg0, lgl, lgg, lgle, lgge, Int32.not_lt, Int32.not_le, Int64.not_lt, Int64.not_le, not_false_eq_true, not_true_eq_false, Decidable.not_not, ge_iff_le, gt_iff_lt] at q104)
              refine pw_blk (mi := mz_258) (b := bz_258_108) rfl rfl ?_
              simp only [bz_258_108, pz_cut_t, pz_cut_f, pz_cut_n, pv_gt, pv_ts, pv_tn, ev_ald0, ev_eld0, ev_ild1, ev_ic2, ev_ic_ne, pz_wi_gc, pz_wi_ga, pz_wi_gn, pz_wi_gl, pz_wi_gr, pz_wi_same, pz_wi_X, pz_wl_gc, pz_wl_ga, pz_wl_gn, pz_wl_gi, pz_wl_gr, pz_wl_same, pz_wl_X, pz_wr_gc, pz_wr_ga, pz_wr_gn, pz_wr_gi, pz_wr_gl, pz_wr_same, pz_wr_X]
              (try simp (disch := omega) only [nI_clamp, pz_in_nI2, pz_in_nI2L, pv_gt, nI_add, nI_addL, nI_Ladd, pk_mul, nI_mulL, nI_Lmul, pk_sub, nI_subL, nI_Lsub, nI_inc, nI_clampL, Nat.add_sub_cancel, pz_wi_else, pz_wl_else, vu_eq, vu_ne, pz_wi_gc, pz_wi_ga, pz_wi_gn, pz_wi_gl, pz_wi_gr, pz_wi_same, pz_wi_X, pz_wl_gc, pz_wl_ga, pz_wl_gn, pz_wl_gi, pz_wl_gr, pz_wl_same, pz_wl_X, pz_wr_gc, pz_wr_ga, pz_wr_gn, pz_wr_gi, pz_wr_gl, pz_wr_same, pz_wr_X])
              refine po_brP (fun q108 => ?_) (fun q108 => ?_)
              · skip
                (try simp (disch := omega) only [nI_ltI, nI_leI, nI_eq, nI_ltL, nI_leL, nI_eqL, nI_Llt, nI_Lle, nI_Leq, nI_eqm, nI_meq, nI_ltm, nI_lem, nI_mlt, nI_mle, lg0, lgl, lgg, lgle, lgge, Int32.not_lt, Int32.not_le, Int64.not_lt, Int64.not_le, not_false_eq_true, not_true_eq_false, Decidable.not_not, ge_iff_le, gt_iff_lt] at q108)
                refine pw_blk (mi := mz_258) (b := bz_258_120) rfl rfl ?_
                simp only [bz_258_120, pz_cut_t, pz_cut_f, pz_cut_n, pv_gt, pv_ts, pv_tn, ev_ild1, ev_ic1, ev_ic_ne, pz_wi_gc, pz_wi_ga, pz_wi_gn, pz_wi_gl, pz_wi_gr, pz_wi_same, pz_wi_X, pz_wl_gc, pz_wl_ga, pz_wl_gn, pz_wl_gi, pz_wl_gr, pz_wl_same, pz_wl_X, pz_wr_gc, pz_wr_ga, pz_wr_gn, pz_wr_gi, pz_wr_gl, pz_wr_same, pz_wr_X]
                (try simp (disch := omega) only [nI_clamp, pz_in_nI2, pz_in_nI2L, pv_gt, nI_add, nI_addL, nI_Ladd, pk_mul, nI_mulL, nI_Lmul, pk_sub, nI_subL, nI_Lsub, nI_inc, nI_clampL, Nat.add_sub_cancel, pz_wi_else, pz_wl_else, vu_eq, vu_ne, pz_wi_gc, pz_wi_ga, pz_wi_gn, pz_wi_gl, pz_wi_gr, pz_wi_same, pz_wi_X, pz_wl_gc, pz_wl_ga, pz_wl_gn, pz_wl_gi, pz_wl_gr, pz_wl_same, pz_wl_X, pz_wr_gc, pz_wr_ga, pz_wr_gn, pz_wr_gi, pz_wr_gl, pz_wr_same, pz_wr_X])
                refine po_brP (fun q120 => ?_) (fun q120 => ?_)
                · first
                  | exact absurd q120 (by decide)
                  | exact absurd trivial q120
                  | exact q120.elim
                  | (exfalso; (try simp (disch := omega) only [nI_ltI, nI_leI, nI_eq, nI_ltL, nI_leL, nI_eqL, nI_Llt, nI_Lle, nI_Leq, nI_eqm, nI_meq, nI_ltm, nI_lem, nI_mlt, nI_mle, lg0, lgl, lgg, lgle, lgge, Int32.not_lt, Int32.not_le, Int64.not_lt, Int64.not_le, not_false_eq_true, not_true_eq_false, Decidable.not_not, ge_iff_le, gt_iff_lt] at q120) <;> omega)
                  | exact absurd q120 (by with_reducible assumption)
                  | exact absurd (by with_reducible assumption) q120
                  | exact absurd (Decidable.not_not.mp q120) (by with_reducible assumption)
                  | exact absurd (by with_reducible assumption) (Int32.not_le.mpr q120)
                  | exact absurd (by with_reducible assumption) (Int32.not_lt.mpr q120)
                · skip
                  (try simp (disch := omega) only [nI_ltI, nI_leI, nI_eq, nI_ltL, nI_leL, nI_eqL, nI_Llt, nI_Lle, nI_Leq, nI_eqm, nI_meq, nI_ltm, nI_lem, nI_mlt, nI_mle, lg0, lgl, lgg, lgle, lgge, Int32.not_lt, Int32.not_le, Int64.not_lt, Int64.not_le, not_false_eq_true, not_true_eq_false, Decidable.not_not, ge_iff_le, gt_iff_lt] at q120)
                  refine pw_blk (mi := mz_258) (b := bz_258_125) rfl rfl ?_
                  simp only [bz_258_125, pz_cut_t, pz_cut_f, pz_cut_n, pv_gt, pv_ts, pv_tn, ev_bp124, ev_goto, pz_wi_gc, pz_wi_ga, pz_wi_gn, pz_wi_gl, pz_wi_gr, pz_wi_same, pz_wi_X, pz_wl_gc, pz_wl_ga, pz_wl_gn, pz_wl_gi, pz_wl_gr, pz_wl_same, pz_wl_X, pz_wr_gc, pz_wr_ga, pz_wr_gn, pz_wr_gi, pz_wr_gl, pz_wr_same, pz_wr_X]
                  (try simp (disch := omega) only [nI_clamp, pz_in_nI2, pz_in_nI2L, pv_gt, nI_add, nI_addL, nI_Ladd, pk_mul, nI_mulL, nI_Lmul, pk_sub, nI_subL, nI_Lsub, nI_inc, nI_clampL, Nat.add_sub_cancel, pz_wi_else, pz_wl_else, vu_eq, vu_ne, pz_wi_gc, pz_wi_ga, pz_wi_gn, pz_wi_gl, pz_wi_gr, pz_wi_same, pz_wi_X, pz_wl_gc, pz_wl_ga, pz_wl_gn, pz_wl_gi, pz_wl_gr, pz_wl_same, pz_wl_X, pz_wr_gc, pz_wr_ga, pz_wr_gn, pz_wr_gi, pz_wr_gl, pz_wr_same, pz_wr_X])
                  refine po_go ?_
                  exact pp
              · first
                | exact absurd q108 (by decide)
                | exact absurd trivial q108
                | exact q108.elim
                | (exfalso; (try simp (disch := omega) only [nI_ltI, nI_leI, nI_eq, nI_ltL, nI_leL, nI_eqL, nI_Llt, nI_Lle, nI_Leq, nI_eqm, nI_meq, nI_ltm, nI_lem, nI_mlt, nI_mle, lg0, lgl, lgg, lgle, lgge, Int32.not_lt, Int32.not_le, Int64.not_lt, Int64.not_le, not_false_eq_true, not_true_eq_false, Decidable.not_not, ge_iff_le, gt_iff_lt] at q108) <;> omega)
                | exact absurd q108 (by with_reducible assumption)
                | exact absurd (by with_reducible assumption) q108
                | exact absurd (Decidable.not_not.mp q108) (by with_reducible assumption)
                | exact absurd (by with_reducible assumption) (Int32.not_le.mpr q108)
                | exact absurd (by with_reducible assumption) (Int32.not_lt.mpr q108)
          · obtain ⟨t5, tc⟩ := oc_sg (t := t) (by rw [← hσ]; omega)
            obtain ⟨q1, q2⟩ := x1.2.2.2.2.2.2 t5
            have e6 := x1.2.2.2.2.1.1
            have hL := x1.1.2.2.1
            have sg : sgA T L t.2.2.2.1 = cdK (oc s.1) := by unfold sgA; rw [if_pos q1, q2, ← tc, hσ]
            have pp := push (nI (sgA T L t.2.2.2.1)) (by rw [sg])
            generalize hrk : rk s.1 = r at hr rb1 rb2 h1 h2 pp
            refine pw_blk (mi := mz_258) (b := bz_258_104) rfl rfl ?_
            simp only [bz_258_104, pz_cut_t, pz_cut_f, pz_cut_n, pv_gt, pv_ts, pv_tn, ev_ild1, ev_ifle, pz_wi_gc, pz_wi_ga, pz_wi_gn, pz_wi_gl, pz_wi_gr, pz_wi_same, pz_wi_X, pz_wl_gc, pz_wl_ga, pz_wl_gn, pz_wl_gi, pz_wl_gr, pz_wl_same, pz_wl_X, pz_wr_gc, pz_wr_ga, pz_wr_gn, pz_wr_gi, pz_wr_gl, pz_wr_same, pz_wr_X, e6]
            (try simp (disch := omega) only [nI_clamp, pz_in_nI2, pz_in_nI2L, pv_gt, nI_add, nI_addL, nI_Ladd, pk_mul, nI_mulL, nI_Lmul, pk_sub, nI_subL, nI_Lsub, nI_inc, nI_clampL, Nat.add_sub_cancel, pz_wi_else, pz_wl_else, vu_eq, vu_ne, pz_wi_gc, pz_wi_ga, pz_wi_gn, pz_wi_gl, pz_wi_gr, pz_wi_same, pz_wi_X, pz_wl_gc, pz_wl_ga, pz_wl_gn, pz_wl_gi, pz_wl_gr, pz_wl_same, pz_wl_X, pz_wr_gc, pz_wr_ga, pz_wr_gn, pz_wr_gi, pz_wr_gl, pz_wr_same, pz_wr_X, e6])
            refine po_brP (fun q104 => ?_) (fun q104 => ?_)
            · first
              | exact absurd q104 (by decide)
              | exact absurd trivial q104
              | exact q104.elim
              | (exfalso; (try simp (disch := omega) only [nI_ltI, nI_leI, nI_eq, nI_ltL, nI_leL, nI_eqL, nI_Llt, nI_Lle, nI_Leq, nI_eqm, nI_meq, nI_ltm, nI_lem, nI_mlt, nI_mle, lg0, lgl, lgg, lgle, lgge, Int32.not_lt, Int32.not_le, Int64.not_lt, Int64.not_le, not_false_eq_true, not_true_eq_false, Decidable.not_not, ge_iff_le, gt_iff_lt] at q104) <;> omega)
              | exact absurd q104 (by with_reducible assumption)
              | exact absurd (by with_reducible assumption) q104
              | exact absurd (Decidable.not_not.mp q104) (by with_reducible assumption)
              | exact absurd (by with_reducible assumption) (Int32.not_le.mpr q104)
              | exact absurd (by with_reducible assumption) (Int32.not_lt.mpr q104)
            · skip
              (try simp (disch := omega) only [nI_ltI, nI_leI, nI_eq, nI_ltL, nI_leL, nI_eqL, nI_Llt, nI_Lle, nI_Leq, nI_eqm, nI_meq, nI_ltm, nI_lem, nI_mlt, nI_mle, lg0, lgl, lgg, lgle, lgge, Int32.not_lt, Int32.not_le, Int64.not_lt, Int64.not_le, not_false_eq_true, not_true_eq_false, Decidable.not_not, ge_iff_le, gt_iff_lt] at q104)
              refine pw_blk (mi := mz_258) (b := bz_258_108) rfl rfl ?_
              simp only [bz_258_108, pz_cut_t, pz_cut_f, pz_cut_n, pv_gt, pv_ts, pv_tn, ev_ald0, ev_eld0, ev_ild1, ev_ic2, ev_ic_ne, pz_wi_gc, pz_wi_ga, pz_wi_gn, pz_wi_gl, pz_wi_gr, pz_wi_same, pz_wi_X, pz_wl_gc, pz_wl_ga, pz_wl_gn, pz_wl_gi, pz_wl_gr, pz_wl_same, pz_wl_X, pz_wr_gc, pz_wr_ga, pz_wr_gn, pz_wr_gi, pz_wr_gl, pz_wr_same, pz_wr_X, e6]
              (try simp (disch := omega) only [nI_clamp, pz_in_nI2, pz_in_nI2L, pv_gt, nI_add, nI_addL, nI_Ladd, pk_mul, nI_mulL, nI_Lmul, pk_sub, nI_subL, nI_Lsub, nI_inc, nI_clampL, Nat.add_sub_cancel, pz_wi_else, pz_wl_else, vu_eq, vu_ne, pz_wi_gc, pz_wi_ga, pz_wi_gn, pz_wi_gl, pz_wi_gr, pz_wi_same, pz_wi_X, pz_wl_gc, pz_wl_ga, pz_wl_gn, pz_wl_gi, pz_wl_gr, pz_wl_same, pz_wl_X, pz_wr_gc, pz_wr_ga, pz_wr_gn, pz_wr_gi, pz_wr_gl, pz_wr_same, pz_wr_X, e6])
              refine po_brP (fun q108 => ?_) (fun q108 => ?_)
              · skip
                (try simp (disch := omega) only [nI_ltI, nI_leI, nI_eq, nI_ltL, nI_leL, nI_eqL, nI_Llt, nI_Lle, nI_Leq, nI_eqm, nI_meq, nI_ltm, nI_lem, nI_mlt, nI_mle, lg0, lgl, lgg, lgle, lgge, Int32.not_lt, Int32.not_le, Int64.not_lt, Int64.not_le, not_false_eq_true, not_true_eq_false, Decidable.not_not, ge_iff_le, gt_iff_lt] at q108)
                refine pw_blk (mi := mz_258) (b := bz_258_120) rfl rfl ?_
                simp only [bz_258_120, pz_cut_t, pz_cut_f, pz_cut_n, pv_gt, pv_ts, pv_tn, ev_ild1, ev_ic1, ev_ic_ne, pz_wi_gc, pz_wi_ga, pz_wi_gn, pz_wi_gl, pz_wi_gr, pz_wi_same, pz_wi_X, pz_wl_gc, pz_wl_ga, pz_wl_gn, pz_wl_gi, pz_wl_gr, pz_wl_same, pz_wl_X, pz_wr_gc, pz_wr_ga, pz_wr_gn, pz_wr_gi, pz_wr_gl, pz_wr_same, pz_wr_X, e6]
                (try simp (disch := omega) only [nI_clamp, pz_in_nI2, pz_in_nI2L, pv_gt, nI_add, nI_addL, nI_Ladd, pk_mul, nI_mulL, nI_Lmul, pk_sub, nI_subL, nI_Lsub, nI_inc, nI_clampL, Nat.add_sub_cancel, pz_wi_else, pz_wl_else, vu_eq, vu_ne, pz_wi_gc, pz_wi_ga, pz_wi_gn, pz_wi_gl, pz_wi_gr, pz_wi_same, pz_wi_X, pz_wl_gc, pz_wl_ga, pz_wl_gn, pz_wl_gi, pz_wl_gr, pz_wl_same, pz_wl_X, pz_wr_gc, pz_wr_ga, pz_wr_gn, pz_wr_gi, pz_wr_gl, pz_wr_same, pz_wr_X, e6])
                refine po_brP (fun q120 => ?_) (fun q120 => ?_)
                · skip
                  (try simp (disch := omega) only [nI_ltI, nI_leI, nI_eq, nI_ltL, nI_leL, nI_eqL, nI_Llt, nI_Lle, nI_Leq, nI_eqm, nI_meq, nI_ltm, nI_lem, nI_mlt, nI_mle, lg0, lgl, lgg, lgle, lgge, Int32.not_lt, Int32.not_le, Int64.not_lt, Int64.not_le, not_false_eq_true, not_true_eq_false, Decidable.not_not, ge_iff_le, gt_iff_lt] at q120)
                  refine pw_blk (mi := mz_258) (b := bz_258_130) rfl rfl ?_
                  simp only [bz_258_130, pz_cut_t, pz_cut_f, pz_cut_n, pv_gt, pv_ts, pv_tn, ev_ald0, ev_eld0, ev_gf11_0, ev_cv1_11, pz_wi_gc, pz_wi_ga, pz_wi_gn, pz_wi_gl, pz_wi_gr, pz_wi_same, pz_wi_X, pz_wl_gc, pz_wl_ga, pz_wl_gn, pz_wl_gi, pz_wl_gr, pz_wl_same, pz_wl_X, pz_wr_gc, pz_wr_ga, pz_wr_gn, pz_wr_gi, pz_wr_gl, pz_wr_same, pz_wr_X, so_120 hS1, e6]
                  (try simp (disch := omega) only [nI_clamp, pz_in_nI2, pz_in_nI2L, pv_gt, nI_add, nI_addL, nI_Ladd, pk_mul, nI_mulL, nI_Lmul, pk_sub, nI_subL, nI_Lsub, nI_inc, nI_clampL, Nat.add_sub_cancel, pz_wi_else, pz_wl_else, vu_eq, vu_ne, pz_wi_gc, pz_wi_ga, pz_wi_gn, pz_wi_gl, pz_wi_gr, pz_wi_same, pz_wi_X, pz_wl_gc, pz_wl_ga, pz_wl_gn, pz_wl_gi, pz_wl_gr, pz_wl_same, pz_wl_X, pz_wr_gc, pz_wr_ga, pz_wr_gn, pz_wr_gi, pz_wr_gl, pz_wr_same, pz_wr_X, e6])
                  (try refine po_gP (Nat.le_of_ble_eq_true rfl) ?_)
                  refine po_call (by omega) (r_sign (k := t.2.2.2.1) x1.1 (by omega) ?_)
                  exact pp
                · first
                  | exact absurd q120 (by decide)
                  | exact absurd trivial q120
                  | exact q120.elim
                  | (exfalso; (try simp (disch := omega) only [nI_ltI, nI_leI, nI_eq, nI_ltL, nI_leL, nI_eqL, nI_Llt, nI_Lle, nI_Leq, nI_eqm, nI_meq, nI_ltm, nI_lem, nI_mlt, nI_mle, lg0, lgl, lgg, lgle, lgge, Int32.not_lt, Int32.not_le, Int64.not_lt, Int64.not_le, not_false_eq_true, not_true_eq_false, Decidable.not_not, ge_iff_le, gt_iff_lt] at q120) <;> omega)
                  | exact absurd q120 (by with_reducible assumption)
                  | exact absurd (by with_reducible assumption) q120
                  | exact absurd (Decidable.not_not.mp q120) (by with_reducible assumption)
                  | exact absurd (by with_reducible assumption) (Int32.not_le.mpr q120)
                  | exact absurd (by with_reducible assumption) (Int32.not_lt.mpr q120)
              · first
                | exact absurd q108 (by decide)
                | exact absurd trivial q108
                | exact q108.elim
                | (exfalso; (try simp (disch := omega) only [nI_ltI, nI_leI, nI_eq, nI_ltL, nI_leL, nI_eqL, nI_Llt, nI_Lle, nI_Leq, nI_eqm, nI_meq, nI_ltm, nI_lem, nI_mlt, nI_mle, lg0, lgl, lgg, lgle, lgge, Int32.not_lt, Int32.not_le, Int64.not_lt, Int64.not_le, not_false_eq_true, not_true_eq_false, Decidable.not_not, ge_iff_le, gt_iff_lt] at q108) <;> omega)
                | exact absurd q108 (by with_reducible assumption)
                | exact absurd (by with_reducible assumption) q108
                | exact absurd (Decidable.not_not.mp q108) (by with_reducible assumption)
                | exact absurd (by with_reducible assumption) (Int32.not_le.mpr q108)
                | exact absurd (by with_reducible assumption) (Int32.not_lt.mpr q108)
    · have r0 : rk s.1 = 0 := by omega
      rw [if_neg hr] at k
      rw [r0] at n1 a1 a2 a3 a4 a5 a6 a7 ⊢
      generalize hP : pops 0 S s = P at a1 a2 a3 a4 a5 a6 a7 n1 k
      cases hPc : P.1 with
      | nil => exact absurd hPc a2
      | cons y S' =>
        rw [hPc] at a1 a3 a7 n1 k
        have lP := okSt_len a1 (Nat.le_trans a3 onw)
        rw [List.length_cons] at lP
        obtain ⟨⟨m76, m75, m74, m73⟩, ⟨e161, -, mst⟩, mcd⟩ := id n1
        have m76' : gi M1 120 76 = nI (S'.length + 1) := m76
        have hy := a1.2.2.1
        have a7' : ¬ (y.1 ≤ 6 ∧ 0 ≤ y.1) := a7
        have etl : (y :: S').tail = S' := rfl
        rw [etl] at k
        have etp : topW (y :: S') = y.1 := rfl
        rw [etp] at k
        by_cases y7 : y.1 = 7
        · rw [if_pos y7] at k
          have ew : nw (y :: S') = nw S' + 1 := nw_in (Or.inr y7)
          rw [ew] at m75 a3
          rw [y7] at e161
          obtain ⟨Mb, hMb⟩ : ∃ Mb, Mb = pz_wi (pz_wi M1 120 (va_up (gi M1 120) 76 (nI S'.length))) 120 (va_up (va_up (gi M1 120) 76 (nI S'.length)) 75 (nI (nw S'))) := ⟨_, rfl⟩
          have sb : sm [120] M1 Mb := by rw [hMb]; exact sm.wi (sm.wi sm.rf (by decide)) (by decide)
          have eb : gi Mb 120 = va_up (va_up (gi M1 120) 76 (nI S'.length)) 75 (nI (nw S')) := by rw [hMb, pz_wi_same]
          have lb : gl Mb 120 = gl M1 120 := by rw [hMb]; simp only [pz_wi_gl]
          have fb : efr M1 Mb := ⟨sb.mono (by decide), fun j _ _ _ _ _ _ _ _ h75 h76 => by rw [eb, vu_ne h75, vu_ne h76], fun i _ => by rw [sb.i (by decide), sb.i (by decide)]; exact ⟨rfl, rfl⟩⟩
          have xb : rSt Mb true T L s.1 := rSt_n x1 sb (by decide) (fun j h1 h2 => by rw [eb, vu_ne (by omega), vu_ne (by omega)]) lb
          have hSb := xb.1.1
          have nb : eN Mb S' P.2 := ⟨⟨by rw [eb, vu_ne (by decide), vu_eq], by rw [eb, vu_eq], by rw [eb, vu_ne (by decide), vu_ne (by decide)]; exact m74, by rw [eb, vu_ne (by decide), vu_ne (by decide)]; exact m73⟩, mst.fr (fun i _ => by rw [sb.i (by decide), sb.i (by decide)]; exact ⟨rfl, rfl⟩), mcd.fr (fun i _ => by rw [sb.i (by decide), sb.i (by decide)]; exact ⟨rfl, rfl⟩)⟩
          generalize S'.length = pl at m76' e161 lP hMb
          generalize nw S' = wp at m75 a3 hMb
          refine pw_blk (mi := mz_258) (b := bz_258_104) rfl rfl ?_
          simp only [bz_258_104, pz_cut_t, pz_cut_f, pz_cut_n, pv_gt, pv_ts, pv_tn, ev_ild1, ev_ifle, pz_wi_gc, pz_wi_ga, pz_wi_gn, pz_wi_gl, pz_wi_gr, pz_wi_same, pz_wi_X, pz_wl_gc, pz_wl_ga, pz_wl_gn, pz_wl_gi, pz_wl_gr, pz_wl_same, pz_wl_X, pz_wr_gc, pz_wr_ga, pz_wr_gn, pz_wr_gi, pz_wr_gl, pz_wr_same, pz_wr_X, m76', e161, m75]
          (try simp (disch := omega) only [nI_clamp, pz_in_nI2, pz_in_nI2L, pv_gt, nI_add, nI_addL, nI_Ladd, pk_mul, nI_mulL, nI_Lmul, pk_sub, nI_subL, nI_Lsub, nI_inc, nI_clampL, Nat.add_sub_cancel, pz_wi_else, pz_wl_else, vu_eq, vu_ne, pz_wi_gc, pz_wi_ga, pz_wi_gn, pz_wi_gl, pz_wi_gr, pz_wi_same, pz_wi_X, pz_wl_gc, pz_wl_ga, pz_wl_gn, pz_wl_gi, pz_wl_gr, pz_wl_same, pz_wl_X, pz_wr_gc, pz_wr_ga, pz_wr_gn, pz_wr_gi, pz_wr_gl, pz_wr_same, pz_wr_X, m76', e161, m75])
          refine po_brP (fun q104 => ?_) (fun q104 => ?_)
          · skip
            (try simp (disch := omega) only [nI_ltI, nI_leI, nI_eq, nI_ltL, nI_leL, nI_eqL, nI_Llt, nI_Lle, nI_Leq, nI_eqm, nI_meq, nI_ltm, nI_lem, nI_mlt, nI_mle, lg0, lgl, lgg, lgle, lgge, Int32.not_lt, Int32.not_le, Int64.not_lt, Int64.not_le, not_false_eq_true, not_true_eq_false, Decidable.not_not, ge_iff_le, gt_iff_lt] at q104)
            refine pw_blk (mi := mz_258) (b := bz_258_147) rfl rfl ?_
            simp only [bz_258_147, pz_cut_t, pz_cut_f, pz_cut_n, pv_gt, pv_ts, pv_tn, ev_ald0, ev_eld0, ev_dupi, ev_dupr, ev_dupe, ev_gf11_0, ev_ic1, ev_isub, ev_pf11_0, ev_gf11_2, ea_iald, ev_bp7, ev_ic_ne, pz_wi_gc, pz_wi_ga, pz_wi_gn, pz_wi_gl, pz_wi_gr, pz_wi_same, pz_wi_X, pz_wl_gc, pz_wl_ga, pz_wl_gn, pz_wl_gi, pz_wl_gr, pz_wl_same, pz_wl_X, pz_wr_gc, pz_wr_ga, pz_wr_gn, pz_wr_gi, pz_wr_gl, pz_wr_same, pz_wr_X, so_120 hS1, sr_120_67 hS1, sa_161 hS1, sn_161 hS1, m76', e161, m75, sa_162 hS1, sn_162 hS1]
            (try simp (disch := omega) only [nI_clamp, pz_in_nI2, pz_in_nI2L, pv_gt, nI_add, nI_addL, nI_Ladd, pk_mul, nI_mulL, nI_Lmul, pk_sub, nI_subL, nI_Lsub, nI_inc, nI_clampL, Nat.add_sub_cancel, pz_wi_else, pz_wl_else, vu_eq, vu_ne, pz_wi_gc, pz_wi_ga, pz_wi_gn, pz_wi_gl, pz_wi_gr, pz_wi_same, pz_wi_X, pz_wl_gc, pz_wl_ga, pz_wl_gn, pz_wl_gi, pz_wl_gr, pz_wl_same, pz_wl_X, pz_wr_gc, pz_wr_ga, pz_wr_gn, pz_wr_gi, pz_wr_gl, pz_wr_same, pz_wr_X, m76', e161, m75])
            (try refine po_gI (by first | exact pz_in_nI (by omega) (by decide) | decide | assumption) ?_)
            refine po_brP (fun q147 => ?_) (fun q147 => ?_)
            · first
              | exact absurd q147 (by decide)
              | exact absurd trivial q147
              | exact q147.elim
              | (exfalso; (try simp (disch := omega) only [nI_ltI, nI_leI, nI_eq, nI_ltL, nI_leL, nI_eqL, nI_Llt, nI_Lle, nI_Leq, nI_eqm, nI_meq, nI_ltm, nI_lem, nI_mlt, nI_mle, lg0, lgl, lgg, lgle, lgge, Int32.not_lt, Int32.not_le, Int64.not_lt, Int64.not_le, not_false_eq_true, not_true_eq_false, Decidable.not_not, ge_iff_le, gt_iff_lt] at q147) <;> omega)
              | exact absurd q147 (by with_reducible assumption)
              | exact absurd (by with_reducible assumption) q147
              | exact absurd (Decidable.not_not.mp q147) (by with_reducible assumption)
              | exact absurd (by with_reducible assumption) (Int32.not_le.mpr q147)
              | exact absurd (by with_reducible assumption) (Int32.not_lt.mpr q147)
            · skip
              (try simp (disch := omega) only [nI_ltI, nI_leI, nI_eq, nI_ltL, nI_leL, nI_eqL, nI_Llt, nI_Lle, nI_Leq, nI_eqm, nI_meq, nI_ltm, nI_lem, nI_mlt, nI_mle, lg0, lgl, lgg, lgle, lgge, Int32.not_lt, Int32.not_le, Int64.not_lt, Int64.not_le, not_false_eq_true, not_true_eq_false, Decidable.not_not, ge_iff_le, gt_iff_lt] at q147)
              refine pw_blk (mi := mz_258) (b := bz_258_171) rfl rfl ?_
              simp only [bz_258_171, pz_cut_t, pz_cut_f, pz_cut_n, pv_gt, pv_ts, pv_tn, ev_ald0, ev_eld0, ev_dupi, ev_dupr, ev_dupe, ev_gf11_0, ev_ic1, ev_isub, ev_pf11_0, ev_bp41, ev_cv1_11, pz_wi_gc, pz_wi_ga, pz_wi_gn, pz_wi_gl, pz_wi_gr, pz_wi_same, pz_wi_X, pz_wl_gc, pz_wl_ga, pz_wl_gn, pz_wl_gi, pz_wl_gr, pz_wl_same, pz_wl_X, pz_wr_gc, pz_wr_ga, pz_wr_gn, pz_wr_gi, pz_wr_gl, pz_wr_same, pz_wr_X, so_120 hS1, m76', e161, m75]
              (try simp (disch := omega) only [nI_clamp, pz_in_nI2, pz_in_nI2L, pv_gt, nI_add, nI_addL, nI_Ladd, pk_mul, nI_mulL, nI_Lmul, pk_sub, nI_subL, nI_Lsub, nI_inc, nI_clampL, Nat.add_sub_cancel, pz_wi_else, pz_wl_else, vu_eq, vu_ne, pz_wi_gc, pz_wi_ga, pz_wi_gn, pz_wi_gl, pz_wi_gr, pz_wi_same, pz_wi_X, pz_wl_gc, pz_wl_ga, pz_wl_gn, pz_wl_gi, pz_wl_gr, pz_wl_same, pz_wl_X, pz_wr_gc, pz_wr_ga, pz_wr_gn, pz_wr_gi, pz_wr_gl, pz_wr_same, pz_wr_X, m76', e161, m75])
              (try refine po_gP (Nat.le_of_ble_eq_true rfl) ?_)
              rw [← hMb]
              refine po_call (by omega) (r_is (c := 41) (by omega) (by decide) xb (fun q hq => ?_))
              refine pw_blk (mi := mz_258) (b := bz_258_188) rfl rfl ?_
              simp only [bz_258_188, pz_cut_t, pz_cut_f, pz_cut_n, pv_gt, pv_ts, pv_tn, ev_cv1_11, pz_wi_gc, pz_wi_ga, pz_wi_gn, pz_wi_gl, pz_wi_gr, pz_wi_same, pz_wi_X, pz_wl_gc, pz_wl_ga, pz_wl_gn, pz_wl_gi, pz_wl_gr, pz_wl_same, pz_wl_X, pz_wr_gc, pz_wr_ga, pz_wr_gn, pz_wr_gi, pz_wr_gl, pz_wr_same, pz_wr_X, so_120 hS1, m76', e161, m75, so_120 hSb]
              (try simp (disch := omega) only [nI_clamp, pz_in_nI2, pz_in_nI2L, pv_gt, nI_add, nI_addL, nI_Ladd, pk_mul, nI_mulL, nI_Lmul, pk_sub, nI_subL, nI_Lsub, nI_inc, nI_clampL, Nat.add_sub_cancel, pz_wi_else, pz_wl_else, vu_eq, vu_ne, pz_wi_gc, pz_wi_ga, pz_wi_gn, pz_wi_gl, pz_wi_gr, pz_wi_same, pz_wi_X, pz_wl_gc, pz_wl_ga, pz_wl_gn, pz_wl_gi, pz_wl_gr, pz_wl_same, pz_wl_X, pz_wr_gc, pz_wr_ga, pz_wr_gn, pz_wr_gi, pz_wr_gl, pz_wr_same, pz_wr_X, m76', e161, m75, so_120 hSb])
              (try refine po_gP (Nat.le_of_ble_eq_true rfl) ?_)
              refine po_call (by omega) (r_must (by omega) xb (fun hq1 hz => by rw [hq hz] at hq1; exact isC_G hq1) (fun M2 r2 s2 => ?_))
              rw [mustC xb hq] at s2
              refine pw_blk (mi := mz_258) (b := bz_258_191) rfl rfl ?_
              simp only [bz_258_191, pz_cut_t, pz_cut_f, pz_cut_n, pv_gt, pv_ts, pv_tn, ev_ic0, ev_iret1, pz_wi_gc, pz_wi_ga, pz_wi_gn, pz_wi_gl, pz_wi_gr, pz_wi_same, pz_wi_X, pz_wl_gc, pz_wl_ga, pz_wl_gn, pz_wl_gi, pz_wl_gr, pz_wl_same, pz_wl_X, pz_wr_gc, pz_wr_ga, pz_wr_gn, pz_wr_gi, pz_wr_gl, pz_wr_same, pz_wr_X, m76', e161, m75]
              (try simp (disch := omega) only [nI_clamp, pz_in_nI2, pz_in_nI2L, pv_gt, nI_add, nI_addL, nI_Ladd, pk_mul, nI_mulL, nI_Lmul, pk_sub, nI_subL, nI_Lsub, nI_inc, nI_clampL, Nat.add_sub_cancel, pz_wi_else, pz_wl_else, vu_eq, vu_ne, pz_wi_gc, pz_wi_ga, pz_wi_gn, pz_wi_gl, pz_wi_gr, pz_wi_same, pz_wi_X, pz_wl_gc, pz_wl_ga, pz_wl_gn, pz_wl_gi, pz_wl_gr, pz_wl_same, pz_wl_X, pz_wr_gc, pz_wr_ga, pz_wr_gn, pz_wr_gi, pz_wr_gl, pz_wr_same, pz_wr_X, m76', e161, m75])
              (try refine po_gP (by first | decide | assumption) ?_)
              refine po_ret (k M2 ((f1.tr fb).tr r2.e) ?_ (fun _ => (nb.r r2).s rfl))
              show rSt M2 true T L (tsF true T L 41 P.2.1)
              rw [a5]
              exact s2
          · first
            | exact absurd q104 (by decide)
            | exact absurd trivial q104
            | exact q104.elim
            | (exfalso; (try simp (disch := omega) only [nI_ltI, nI_leI, nI_eq, nI_ltL, nI_leL, nI_eqL, nI_Llt, nI_Lle, nI_Leq, nI_eqm, nI_meq, nI_ltm, nI_lem, nI_mlt, nI_mle, lg0, lgl, lgg, lgle, lgge, Int32.not_lt, Int32.not_le, Int64.not_lt, Int64.not_le, not_false_eq_true, not_true_eq_false, Decidable.not_not, ge_iff_le, gt_iff_lt] at q104) <;> omega)
            | exact absurd q104 (by with_reducible assumption)
            | exact absurd (by with_reducible assumption) q104
            | exact absurd (Decidable.not_not.mp q104) (by with_reducible assumption)
            | exact absurd (by with_reducible assumption) (Int32.not_le.mpr q104)
            | exact absurd (by with_reducible assumption) (Int32.not_lt.mpr q104)
        · rw [if_neg y7] at k
          have ew : nw (y :: S') = nw S' := nw_op ⟨by omega, y7⟩
          rw [ew] at m75
          obtain ⟨Mb, hMb⟩ : ∃ Mb, Mb = pz_wi M1 120 (va_up (gi M1 120) 76 (nI S'.length)) := ⟨_, rfl⟩
          have sb : sm [120] M1 Mb := by rw [hMb]; exact sm.wi sm.rf (by decide)
          have eb : gi Mb 120 = va_up (gi M1 120) 76 (nI S'.length) := by rw [hMb, pz_wi_same]
          have lb : gl Mb 120 = gl M1 120 := by rw [hMb]; simp only [pz_wi_gl]
          have fb : efr M1 Mb := ⟨sb.mono (by decide), fun j _ _ _ _ _ _ _ _ _ h76 => by rw [eb, vu_ne h76], fun i _ => by rw [sb.i (by decide), sb.i (by decide)]; exact ⟨rfl, rfl⟩⟩
          have xb : rSt Mb true T L s.1 := rSt_n x1 sb (by decide) (fun j h1 h2 => by rw [eb, vu_ne (by omega)]) lb
          have nb : eN Mb S' P.2 := ⟨⟨by rw [eb, vu_eq], by rw [eb, vu_ne (by decide)]; exact m75, by rw [eb, vu_ne (by decide)]; exact m74, by rw [eb, vu_ne (by decide)]; exact m73⟩, mst.fr (fun i _ => by rw [sb.i (by decide), sb.i (by decide)]; exact ⟨rfl, rfl⟩), mcd.fr (fun i _ => by rw [sb.i (by decide), sb.i (by decide)]; exact ⟨rfl, rfl⟩)⟩
          have kk := k Mb (f1.tr fb) (by rw [a5]; exact xb) (fun _ => nb)
          generalize S'.length = pl at m76' e161 lP hMb
          generalize y.1 = w at e161 y7 hy a7'
          refine pw_blk (mi := mz_258) (b := bz_258_104) rfl rfl ?_
          simp only [bz_258_104, pz_cut_t, pz_cut_f, pz_cut_n, pv_gt, pv_ts, pv_tn, ev_ild1, ev_ifle, pz_wi_gc, pz_wi_ga, pz_wi_gn, pz_wi_gl, pz_wi_gr, pz_wi_same, pz_wi_X, pz_wl_gc, pz_wl_ga, pz_wl_gn, pz_wl_gi, pz_wl_gr, pz_wl_same, pz_wl_X, pz_wr_gc, pz_wr_ga, pz_wr_gn, pz_wr_gi, pz_wr_gl, pz_wr_same, pz_wr_X, m76', e161]
          (try simp (disch := omega) only [nI_clamp, pz_in_nI2, pz_in_nI2L, pv_gt, nI_add, nI_addL, nI_Ladd, pk_mul, nI_mulL, nI_Lmul, pk_sub, nI_subL, nI_Lsub, nI_inc, nI_clampL, Nat.add_sub_cancel, pz_wi_else, pz_wl_else, vu_eq, vu_ne, pz_wi_gc, pz_wi_ga, pz_wi_gn, pz_wi_gl, pz_wi_gr, pz_wi_same, pz_wi_X, pz_wl_gc, pz_wl_ga, pz_wl_gn, pz_wl_gi, pz_wl_gr, pz_wl_same, pz_wl_X, pz_wr_gc, pz_wr_ga, pz_wr_gn, pz_wr_gi, pz_wr_gl, pz_wr_same, pz_wr_X, m76', e161])
          refine po_brP (fun q104 => ?_) (fun q104 => ?_)
          · skip
            (try simp (disch := omega) only [nI_ltI, nI_leI, nI_eq, nI_ltL, nI_leL, nI_eqL, nI_Llt, nI_Lle, nI_Leq, nI_eqm, nI_meq, nI_ltm, nI_lem, nI_mlt, nI_mle, lg0, lgl, lgg, lgle, lgge, Int32.not_lt, Int32.not_le, Int64.not_lt, Int64.not_le, not_false_eq_true, not_true_eq_false, Decidable.not_not, ge_iff_le, gt_iff_lt] at q104)
            refine pw_blk (mi := mz_258) (b := bz_258_147) rfl rfl ?_
            simp only [bz_258_147, pz_cut_t, pz_cut_f, pz_cut_n, pv_gt, pv_ts, pv_tn, ev_ald0, ev_eld0, ev_dupi, ev_dupr, ev_dupe, ev_gf11_0, ev_ic1, ev_isub, ev_pf11_0, ev_gf11_2, ea_iald, ev_bp7, ev_ic_ne, pz_wi_gc, pz_wi_ga, pz_wi_gn, pz_wi_gl, pz_wi_gr, pz_wi_same, pz_wi_X, pz_wl_gc, pz_wl_ga, pz_wl_gn, pz_wl_gi, pz_wl_gr, pz_wl_same, pz_wl_X, pz_wr_gc, pz_wr_ga, pz_wr_gn, pz_wr_gi, pz_wr_gl, pz_wr_same, pz_wr_X, so_120 hS1, sr_120_67 hS1, sa_161 hS1, sn_161 hS1, m76', e161, sa_162 hS1, sn_162 hS1]
            (try simp (disch := omega) only [nI_clamp, pz_in_nI2, pz_in_nI2L, pv_gt, nI_add, nI_addL, nI_Ladd, pk_mul, nI_mulL, nI_Lmul, pk_sub, nI_subL, nI_Lsub, nI_inc, nI_clampL, Nat.add_sub_cancel, pz_wi_else, pz_wl_else, vu_eq, vu_ne, pz_wi_gc, pz_wi_ga, pz_wi_gn, pz_wi_gl, pz_wi_gr, pz_wi_same, pz_wi_X, pz_wl_gc, pz_wl_ga, pz_wl_gn, pz_wl_gi, pz_wl_gr, pz_wl_same, pz_wl_X, pz_wr_gc, pz_wr_ga, pz_wr_gn, pz_wr_gi, pz_wr_gl, pz_wr_same, pz_wr_X, m76', e161])
            (try refine po_gI (by first | exact pz_in_nI (by omega) (by decide) | decide | assumption) ?_)
            refine po_brP (fun q147 => ?_) (fun q147 => ?_)
            · skip
              (try simp (disch := omega) only [nI_ltI, nI_leI, nI_eq, nI_ltL, nI_leL, nI_eqL, nI_Llt, nI_Lle, nI_Leq, nI_eqm, nI_meq, nI_ltm, nI_lem, nI_mlt, nI_mle, lg0, lgl, lgg, lgle, lgge, Int32.not_lt, Int32.not_le, Int64.not_lt, Int64.not_le, not_false_eq_true, not_true_eq_false, Decidable.not_not, ge_iff_le, gt_iff_lt] at q147)
              refine pw_blk (mi := mz_258) (b := bz_258_191) rfl rfl ?_
              simp only [bz_258_191, pz_cut_t, pz_cut_f, pz_cut_n, pv_gt, pv_ts, pv_tn, ev_ic0, ev_iret1, pz_wi_gc, pz_wi_ga, pz_wi_gn, pz_wi_gl, pz_wi_gr, pz_wi_same, pz_wi_X, pz_wl_gc, pz_wl_ga, pz_wl_gn, pz_wl_gi, pz_wl_gr, pz_wl_same, pz_wl_X, pz_wr_gc, pz_wr_ga, pz_wr_gn, pz_wr_gi, pz_wr_gl, pz_wr_same, pz_wr_X, m76', e161]
              (try simp (disch := omega) only [nI_clamp, pz_in_nI2, pz_in_nI2L, pv_gt, nI_add, nI_addL, nI_Ladd, pk_mul, nI_mulL, nI_Lmul, pk_sub, nI_subL, nI_Lsub, nI_inc, nI_clampL, Nat.add_sub_cancel, pz_wi_else, pz_wl_else, vu_eq, vu_ne, pz_wi_gc, pz_wi_ga, pz_wi_gn, pz_wi_gl, pz_wi_gr, pz_wi_same, pz_wi_X, pz_wl_gc, pz_wl_ga, pz_wl_gn, pz_wl_gi, pz_wl_gr, pz_wl_same, pz_wl_X, pz_wr_gc, pz_wr_ga, pz_wr_gn, pz_wr_gi, pz_wr_gl, pz_wr_same, pz_wr_X, m76', e161])
              (try refine po_gP (by first | decide | assumption) ?_)
              rw [← hMb]
              exact po_ret kk
            · first
              | exact absurd q147 (by decide)
              | exact absurd trivial q147
              | exact q147.elim
              | (exfalso; (try simp (disch := omega) only [nI_ltI, nI_leI, nI_eq, nI_ltL, nI_leL, nI_eqL, nI_Llt, nI_Lle, nI_Leq, nI_eqm, nI_meq, nI_ltm, nI_lem, nI_mlt, nI_mle, lg0, lgl, lgg, lgle, lgge, Int32.not_lt, Int32.not_le, Int64.not_lt, Int64.not_le, not_false_eq_true, not_true_eq_false, Decidable.not_not, ge_iff_le, gt_iff_lt] at q147) <;> omega)
              | exact absurd q147 (by with_reducible assumption)
              | exact absurd (by with_reducible assumption) q147
              | exact absurd (Decidable.not_not.mp q147) (by with_reducible assumption)
              | exact absurd (by with_reducible assumption) (Int32.not_le.mpr q147)
              | exact absurd (by with_reducible assumption) (Int32.not_lt.mpr q147)
          · first
            | exact absurd q104 (by decide)
            | exact absurd trivial q104
            | exact q104.elim
            | (exfalso; (try simp (disch := omega) only [nI_ltI, nI_leI, nI_eq, nI_ltL, nI_leL, nI_eqL, nI_Llt, nI_Lle, nI_Leq, nI_eqm, nI_meq, nI_ltm, nI_lem, nI_mlt, nI_mle, lg0, lgl, lgg, lgle, lgge, Int32.not_lt, Int32.not_le, Int64.not_lt, Int64.not_le, not_false_eq_true, not_true_eq_false, Decidable.not_not, ge_iff_le, gt_iff_lt] at q104) <;> omega)
            | exact absurd q104 (by with_reducible assumption)
            | exact absurd (by with_reducible assumption) q104
            | exact absurd (Decidable.not_not.mp q104) (by with_reducible assumption)
            | exact absurd (by with_reducible assumption) (Int32.not_le.mpr q104)
            | exact absurd (by with_reducible assumption) (Int32.not_lt.mpr q104)
  generalize hrk : rk s.1 = r at rb1 rb2 P23 k
  by_cases r4 : r = 4
  · subst r4
    cases hc : isCmp S with
    | true =>
      rw [if_pos ⟨rfl, hc⟩] at k
      refine pm_ent (L := [some (.ref 120), none]) rfl (Nat.le_of_ble_eq_true rfl) ?_
      refine pw_blk (mi := mz_258) (b := bz_258_0) rfl rfl ?_
      simp only [bz_258_0, pz_cut_t, pz_cut_f, pz_cut_n, pv_gt, pv_ts, pv_tn, ev_ald0, ev_eld0, ev_cv0_11, pz_wi_gc, pz_wi_ga, pz_wi_gn, pz_wi_gl, pz_wi_gr, pz_wi_same, pz_wi_X, pz_wl_gc, pz_wl_ga, pz_wl_gn, pz_wl_gi, pz_wl_gr, pz_wl_same, pz_wl_X, pz_wr_gc, pz_wr_ga, pz_wr_gn, pz_wr_gi, pz_wr_gl, pz_wr_same, pz_wr_X, so_120 hS]
      (try simp (disch := omega) only [nI_clamp, pz_in_nI2, pz_in_nI2L, pv_gt, nI_add, nI_addL, nI_Ladd, pk_mul, nI_mulL, nI_Lmul, pk_sub, nI_subL, nI_Lsub, nI_inc, nI_clampL, Nat.add_sub_cancel, pz_wi_else, pz_wl_else, vu_eq, vu_ne, pz_wi_gc, pz_wi_ga, pz_wi_gn, pz_wi_gl, pz_wi_gr, pz_wi_same, pz_wi_X, pz_wl_gc, pz_wl_ga, pz_wl_gn, pz_wl_gi, pz_wl_gr, pz_wl_same, pz_wl_X, pz_wr_gc, pz_wr_ga, pz_wr_gn, pz_wr_gi, pz_wr_gl, pz_wr_same, pz_wr_X])
      (try refine po_gP (Nat.le_of_ble_eq_true rfl) ?_)
      refine po_call (by omega) (r_rankHere (by omega) x z ?_)
      rw [hrk]
      refine pw_blk (mi := mz_258) (b := bz_258_4) rfl rfl ?_
      simp only [bz_258_4, pz_cut_t, pz_cut_f, pz_cut_n, pv_gt, pv_ts, pv_tn, ev_ist1n, ev_ist1i, ev_ist1r, ev_ist1e, ev_ist1l, ev_ild1, ev_ic4, ev_ic_ne, pz_wi_gc, pz_wi_ga, pz_wi_gn, pz_wi_gl, pz_wi_gr, pz_wi_same, pz_wi_X, pz_wl_gc, pz_wl_ga, pz_wl_gn, pz_wl_gi, pz_wl_gr, pz_wl_same, pz_wl_X, pz_wr_gc, pz_wr_ga, pz_wr_gn, pz_wr_gi, pz_wr_gl, pz_wr_same, pz_wr_X]
      (try simp (disch := omega) only [nI_clamp, pz_in_nI2, pz_in_nI2L, pv_gt, nI_add, nI_addL, nI_Ladd, pk_mul, nI_mulL, nI_Lmul, pk_sub, nI_subL, nI_Lsub, nI_inc, nI_clampL, Nat.add_sub_cancel, pz_wi_else, pz_wl_else, vu_eq, vu_ne, pz_wi_gc, pz_wi_ga, pz_wi_gn, pz_wi_gl, pz_wi_gr, pz_wi_same, pz_wi_X, pz_wl_gc, pz_wl_ga, pz_wl_gn, pz_wl_gi, pz_wl_gr, pz_wl_same, pz_wl_X, pz_wr_gc, pz_wr_ga, pz_wr_gn, pz_wr_gi, pz_wr_gl, pz_wr_same, pz_wr_X])
      refine po_brP (fun q4 => ?_) (fun q4 => ?_)
      · first
        | exact absurd q4 (by decide)
        | exact absurd trivial q4
        | exact q4.elim
        | (exfalso; (try simp (disch := omega) only [nI_ltI, nI_leI, nI_eq, nI_ltL, nI_leL, nI_eqL, nI_Llt, nI_Lle, nI_Leq, nI_eqm, nI_meq, nI_ltm, nI_lem, nI_mlt, nI_mle, lg0, lgl, lgg, lgle, lgge, Int32.not_lt, Int32.not_le, Int64.not_lt, Int64.not_le, not_false_eq_true, not_true_eq_false, Decidable.not_not, ge_iff_le, gt_iff_lt] at q4) <;> omega)
        | exact absurd q4 (by with_reducible assumption)
        | exact absurd (by with_reducible assumption) q4
        | exact absurd (Decidable.not_not.mp q4) (by with_reducible assumption)
        | exact absurd (by with_reducible assumption) (Int32.not_le.mpr q4)
        | exact absurd (by with_reducible assumption) (Int32.not_lt.mpr q4)
      · skip
        (try simp (disch := omega) only [nI_ltI, nI_leI, nI_eq, nI_ltL, nI_leL, nI_eqL, nI_Llt, nI_Lle, nI_Leq, nI_eqm, nI_meq, nI_ltm, nI_lem, nI_mlt, nI_mle, lg0, lgl, lgg, lgle, lgge, Int32.not_lt, Int32.not_le, Int64.not_lt, Int64.not_le, not_false_eq_true, not_true_eq_false, Decidable.not_not, ge_iff_le, gt_iff_lt] at q4)
        refine pw_blk (mi := mz_258) (b := bz_258_10) rfl rfl ?_
        simp only [bz_258_10, pz_cut_t, pz_cut_f, pz_cut_n, pv_gt, pv_ts, pv_tn, ev_ald0, ev_eld0, ev_cv0_11, pz_wi_gc, pz_wi_ga, pz_wi_gn, pz_wi_gl, pz_wi_gr, pz_wi_same, pz_wi_X, pz_wl_gc, pz_wl_ga, pz_wl_gn, pz_wl_gi, pz_wl_gr, pz_wl_same, pz_wl_X, pz_wr_gc, pz_wr_ga, pz_wr_gn, pz_wr_gi, pz_wr_gl, pz_wr_same, pz_wr_X, so_120 hS, so_120 hS]
        (try simp (disch := omega) only [nI_clamp, pz_in_nI2, pz_in_nI2L, pv_gt, nI_add, nI_addL, nI_Ladd, pk_mul, nI_mulL, nI_Lmul, pk_sub, nI_subL, nI_Lsub, nI_inc, nI_clampL, Nat.add_sub_cancel, pz_wi_else, pz_wl_else, vu_eq, vu_ne, pz_wi_gc, pz_wi_ga, pz_wi_gn, pz_wi_gl, pz_wi_gr, pz_wi_same, pz_wi_X, pz_wl_gc, pz_wl_ga, pz_wl_gn, pz_wl_gi, pz_wl_gr, pz_wl_same, pz_wl_X, pz_wr_gc, pz_wr_ga, pz_wr_gn, pz_wr_gi, pz_wr_gl, pz_wr_same, pz_wr_X, so_120 hS])
        (try refine po_gP (Nat.le_of_ble_eq_true rfl) ?_)
        refine po_call (by omega) (r_isCompared hS n76 (by omega) ost hn nst ?_)
        rw [hc]
        refine pw_blk (mi := mz_258) (b := bz_258_14) rfl rfl ?_
        simp only [bz_258_14, pz_cut_t, pz_cut_f, pz_cut_n, pv_gt, pv_ts, pv_tn, ev_ifeq, pz_wi_gc, pz_wi_ga, pz_wi_gn, pz_wi_gl, pz_wi_gr, pz_wi_same, pz_wi_X, pz_wl_gc, pz_wl_ga, pz_wl_gn, pz_wl_gi, pz_wl_gr, pz_wl_same, pz_wl_X, pz_wr_gc, pz_wr_ga, pz_wr_gn, pz_wr_gi, pz_wr_gl, pz_wr_same, pz_wr_X, bI_t]
        (try simp (disch := omega) only [nI_clamp, pz_in_nI2, pz_in_nI2L, pv_gt, nI_add, nI_addL, nI_Ladd, pk_mul, nI_mulL, nI_Lmul, pk_sub, nI_subL, nI_Lsub, nI_inc, nI_clampL, Nat.add_sub_cancel, pz_wi_else, pz_wl_else, vu_eq, vu_ne, pz_wi_gc, pz_wi_ga, pz_wi_gn, pz_wi_gl, pz_wi_gr, pz_wi_same, pz_wi_X, pz_wl_gc, pz_wl_ga, pz_wl_gn, pz_wl_gi, pz_wl_gr, pz_wl_same, pz_wl_X, pz_wr_gc, pz_wr_ga, pz_wr_gn, pz_wr_gi, pz_wr_gl, pz_wr_same, pz_wr_X, bI_t])
        refine po_brP (fun q14 => ?_) (fun q14 => ?_)
        · first
          | exact absurd q14 (by decide)
          | exact absurd trivial q14
          | exact q14.elim
          | (exfalso; (try simp (disch := omega) only [nI_ltI, nI_leI, nI_eq, nI_ltL, nI_leL, nI_eqL, nI_Llt, nI_Lle, nI_Leq, nI_eqm, nI_meq, nI_ltm, nI_lem, nI_mlt, nI_mle, lg0, lgl, lgg, lgle, lgge, Int32.not_lt, Int32.not_le, Int64.not_lt, Int64.not_le, not_false_eq_true, not_true_eq_false, Decidable.not_not, ge_iff_le, gt_iff_lt] at q14) <;> omega)
          | exact absurd q14 (by with_reducible assumption)
          | exact absurd (by with_reducible assumption) q14
          | exact absurd (Decidable.not_not.mp q14) (by with_reducible assumption)
          | exact absurd (by with_reducible assumption) (Int32.not_le.mpr q14)
          | exact absurd (by with_reducible assumption) (Int32.not_lt.mpr q14)
        · skip
          (try simp (disch := omega) only [nI_ltI, nI_leI, nI_eq, nI_ltL, nI_leL, nI_eqL, nI_Llt, nI_Lle, nI_Leq, nI_eqm, nI_meq, nI_ltm, nI_lem, nI_mlt, nI_mle, lg0, lgl, lgg, lgle, lgge, Int32.not_lt, Int32.not_le, Int64.not_lt, Int64.not_le, not_false_eq_true, not_true_eq_false, Decidable.not_not, ge_iff_le, gt_iff_lt] at q14)
          refine pw_blk (mi := mz_258) (b := bz_258_17) rfl rfl ?_
          simp only [bz_258_17, pz_cut_t, pz_cut_f, pz_cut_n, pv_gt, pv_ts, pv_tn, ev_ald0, ev_eld0, ev_cv0_11, pz_wi_gc, pz_wi_ga, pz_wi_gn, pz_wi_gl, pz_wi_gr, pz_wi_same, pz_wi_X, pz_wl_gc, pz_wl_ga, pz_wl_gn, pz_wl_gi, pz_wl_gr, pz_wl_same, pz_wl_X, pz_wr_gc, pz_wr_ga, pz_wr_gn, pz_wr_gi, pz_wr_gl, pz_wr_same, pz_wr_X, so_120 hS, so_120 hS]
          (try simp (disch := omega) only [nI_clamp, pz_in_nI2, pz_in_nI2L, pv_gt, nI_add, nI_addL, nI_Ladd, pk_mul, nI_mulL, nI_Lmul, pk_sub, nI_subL, nI_Lsub, nI_inc, nI_clampL, Nat.add_sub_cancel, pz_wi_else, pz_wl_else, vu_eq, vu_ne, pz_wi_gc, pz_wi_ga, pz_wi_gn, pz_wi_gl, pz_wi_gr, pz_wi_same, pz_wi_X, pz_wl_gc, pz_wl_ga, pz_wl_gn, pz_wl_gi, pz_wl_gr, pz_wl_same, pz_wl_X, pz_wr_gc, pz_wr_ga, pz_wr_gn, pz_wr_gi, pz_wr_gl, pz_wr_same, pz_wr_X, so_120 hS])
          (try refine po_gP (Nat.le_of_ble_eq_true rfl) ?_)
          refine po_call (by omega) (r_misplaced (by omega) x (fun M1 r1 s1 n4 => ?_))
          refine pw_blk (mi := mz_258) (b := bz_258_21) rfl rfl ?_
          simp only [bz_258_21, pz_cut_t, pz_cut_f, pz_cut_n, pv_gt, pv_ts, pv_tn, ev_ic1, ev_iret1, pz_wi_gc, pz_wi_ga, pz_wi_gn, pz_wi_gl, pz_wi_gr, pz_wi_same, pz_wi_X, pz_wl_gc, pz_wl_ga, pz_wl_gn, pz_wl_gi, pz_wl_gr, pz_wl_same, pz_wl_X, pz_wr_gc, pz_wr_ga, pz_wr_gn, pz_wr_gi, pz_wr_gl, pz_wr_same, pz_wr_X]
          (try simp (disch := omega) only [nI_clamp, pz_in_nI2, pz_in_nI2L, pv_gt, nI_add, nI_addL, nI_Ladd, pk_mul, nI_mulL, nI_Lmul, pk_sub, nI_subL, nI_Lsub, nI_inc, nI_clampL, Nat.add_sub_cancel, pz_wi_else, pz_wl_else, vu_eq, vu_ne, pz_wi_gc, pz_wi_ga, pz_wi_gn, pz_wi_gl, pz_wi_gr, pz_wi_same, pz_wi_X, pz_wl_gc, pz_wl_ga, pz_wl_gn, pz_wl_gi, pz_wl_gr, pz_wl_same, pz_wl_X, pz_wr_gc, pz_wr_ga, pz_wr_gn, pz_wr_gi, pz_wr_gl, pz_wr_same, pz_wr_X])
          (try refine po_gP (by first | decide | assumption) ?_)
          exact po_ret (k M1 r1.e s1 (fun y => absurd y n4))
    | false =>
      have pp := P23 (by rw [hc]; simp)
      refine pm_ent (L := [some (.ref 120), none]) rfl (Nat.le_of_ble_eq_true rfl) ?_
      refine pw_blk (mi := mz_258) (b := bz_258_0) rfl rfl ?_
      simp only [bz_258_0, pz_cut_t, pz_cut_f, pz_cut_n, pv_gt, pv_ts, pv_tn, ev_ald0, ev_eld0, ev_cv0_11, pz_wi_gc, pz_wi_ga, pz_wi_gn, pz_wi_gl, pz_wi_gr, pz_wi_same, pz_wi_X, pz_wl_gc, pz_wl_ga, pz_wl_gn, pz_wl_gi, pz_wl_gr, pz_wl_same, pz_wl_X, pz_wr_gc, pz_wr_ga, pz_wr_gn, pz_wr_gi, pz_wr_gl, pz_wr_same, pz_wr_X, so_120 hS]
      (try simp (disch := omega) only [nI_clamp, pz_in_nI2, pz_in_nI2L, pv_gt, nI_add, nI_addL, nI_Ladd, pk_mul, nI_mulL, nI_Lmul, pk_sub, nI_subL, nI_Lsub, nI_inc, nI_clampL, Nat.add_sub_cancel, pz_wi_else, pz_wl_else, vu_eq, vu_ne, pz_wi_gc, pz_wi_ga, pz_wi_gn, pz_wi_gl, pz_wi_gr, pz_wi_same, pz_wi_X, pz_wl_gc, pz_wl_ga, pz_wl_gn, pz_wl_gi, pz_wl_gr, pz_wl_same, pz_wl_X, pz_wr_gc, pz_wr_ga, pz_wr_gn, pz_wr_gi, pz_wr_gl, pz_wr_same, pz_wr_X])
      (try refine po_gP (Nat.le_of_ble_eq_true rfl) ?_)
      refine po_call (by omega) (r_rankHere (by omega) x z ?_)
      rw [hrk]
      refine pw_blk (mi := mz_258) (b := bz_258_4) rfl rfl ?_
      simp only [bz_258_4, pz_cut_t, pz_cut_f, pz_cut_n, pv_gt, pv_ts, pv_tn, ev_ist1n, ev_ist1i, ev_ist1r, ev_ist1e, ev_ist1l, ev_ild1, ev_ic4, ev_ic_ne, pz_wi_gc, pz_wi_ga, pz_wi_gn, pz_wi_gl, pz_wi_gr, pz_wi_same, pz_wi_X, pz_wl_gc, pz_wl_ga, pz_wl_gn, pz_wl_gi, pz_wl_gr, pz_wl_same, pz_wl_X, pz_wr_gc, pz_wr_ga, pz_wr_gn, pz_wr_gi, pz_wr_gl, pz_wr_same, pz_wr_X]
      (try simp (disch := omega) only [nI_clamp, pz_in_nI2, pz_in_nI2L, pv_gt, nI_add, nI_addL, nI_Ladd, pk_mul, nI_mulL, nI_Lmul, pk_sub, nI_subL, nI_Lsub, nI_inc, nI_clampL, Nat.add_sub_cancel, pz_wi_else, pz_wl_else, vu_eq, vu_ne, pz_wi_gc, pz_wi_ga, pz_wi_gn, pz_wi_gl, pz_wi_gr, pz_wi_same, pz_wi_X, pz_wl_gc, pz_wl_ga, pz_wl_gn, pz_wl_gi, pz_wl_gr, pz_wl_same, pz_wl_X, pz_wr_gc, pz_wr_ga, pz_wr_gn, pz_wr_gi, pz_wr_gl, pz_wr_same, pz_wr_X])
      refine po_brP (fun q4 => ?_) (fun q4 => ?_)
      · first
        | exact absurd q4 (by decide)
        | exact absurd trivial q4
        | exact q4.elim
        | (exfalso; (try simp (disch := omega) only [nI_ltI, nI_leI, nI_eq, nI_ltL, nI_leL, nI_eqL, nI_Llt, nI_Lle, nI_Leq, nI_eqm, nI_meq, nI_ltm, nI_lem, nI_mlt, nI_mle, lg0, lgl, lgg, lgle, lgge, Int32.not_lt, Int32.not_le, Int64.not_lt, Int64.not_le, not_false_eq_true, not_true_eq_false, Decidable.not_not, ge_iff_le, gt_iff_lt] at q4) <;> omega)
        | exact absurd q4 (by with_reducible assumption)
        | exact absurd (by with_reducible assumption) q4
        | exact absurd (Decidable.not_not.mp q4) (by with_reducible assumption)
        | exact absurd (by with_reducible assumption) (Int32.not_le.mpr q4)
        | exact absurd (by with_reducible assumption) (Int32.not_lt.mpr q4)
      · skip
        (try simp (disch := omega) only [nI_ltI, nI_leI, nI_eq, nI_ltL, nI_leL, nI_eqL, nI_Llt, nI_Lle, nI_Leq, nI_eqm, nI_meq, nI_ltm, nI_lem, nI_mlt, nI_mle, lg0, lgl, lgg, lgle, lgge, Int32.not_lt, Int32.not_le, Int64.not_lt, Int64.not_le, not_false_eq_true, not_true_eq_false, Decidable.not_not, ge_iff_le, gt_iff_lt] at q4)
        refine pw_blk (mi := mz_258) (b := bz_258_10) rfl rfl ?_
        simp only [bz_258_10, pz_cut_t, pz_cut_f, pz_cut_n, pv_gt, pv_ts, pv_tn, ev_ald0, ev_eld0, ev_cv0_11, pz_wi_gc, pz_wi_ga, pz_wi_gn, pz_wi_gl, pz_wi_gr, pz_wi_same, pz_wi_X, pz_wl_gc, pz_wl_ga, pz_wl_gn, pz_wl_gi, pz_wl_gr, pz_wl_same, pz_wl_X, pz_wr_gc, pz_wr_ga, pz_wr_gn, pz_wr_gi, pz_wr_gl, pz_wr_same, pz_wr_X, so_120 hS, so_120 hS]
        (try simp (disch := omega) only [nI_clamp, pz_in_nI2, pz_in_nI2L, pv_gt, nI_add, nI_addL, nI_Ladd, pk_mul, nI_mulL, nI_Lmul, pk_sub, nI_subL, nI_Lsub, nI_inc, nI_clampL, Nat.add_sub_cancel, pz_wi_else, pz_wl_else, vu_eq, vu_ne, pz_wi_gc, pz_wi_ga, pz_wi_gn, pz_wi_gl, pz_wi_gr, pz_wi_same, pz_wi_X, pz_wl_gc, pz_wl_ga, pz_wl_gn, pz_wl_gi, pz_wl_gr, pz_wl_same, pz_wl_X, pz_wr_gc, pz_wr_ga, pz_wr_gn, pz_wr_gi, pz_wr_gl, pz_wr_same, pz_wr_X, so_120 hS])
        (try refine po_gP (Nat.le_of_ble_eq_true rfl) ?_)
        refine po_call (by omega) (r_isCompared hS n76 (by omega) ost hn nst ?_)
        rw [hc]
        refine pw_blk (mi := mz_258) (b := bz_258_14) rfl rfl ?_
        simp only [bz_258_14, pz_cut_t, pz_cut_f, pz_cut_n, pv_gt, pv_ts, pv_tn, ev_ifeq, pz_wi_gc, pz_wi_ga, pz_wi_gn, pz_wi_gl, pz_wi_gr, pz_wi_same, pz_wi_X, pz_wl_gc, pz_wl_ga, pz_wl_gn, pz_wl_gi, pz_wl_gr, pz_wl_same, pz_wl_X, pz_wr_gc, pz_wr_ga, pz_wr_gn, pz_wr_gi, pz_wr_gl, pz_wr_same, pz_wr_X, bI_f]
        (try simp (disch := omega) only [nI_clamp, pz_in_nI2, pz_in_nI2L, pv_gt, nI_add, nI_addL, nI_Ladd, pk_mul, nI_mulL, nI_Lmul, pk_sub, nI_subL, nI_Lsub, nI_inc, nI_clampL, Nat.add_sub_cancel, pz_wi_else, pz_wl_else, vu_eq, vu_ne, pz_wi_gc, pz_wi_ga, pz_wi_gn, pz_wi_gl, pz_wi_gr, pz_wi_same, pz_wi_X, pz_wl_gc, pz_wl_ga, pz_wl_gn, pz_wl_gi, pz_wl_gr, pz_wl_same, pz_wl_X, pz_wr_gc, pz_wr_ga, pz_wr_gn, pz_wr_gi, pz_wr_gl, pz_wr_same, pz_wr_X, bI_f])
        refine po_brP (fun q14 => ?_) (fun q14 => ?_)
        · skip
          (try simp (disch := omega) only [nI_ltI, nI_leI, nI_eq, nI_ltL, nI_leL, nI_eqL, nI_Llt, nI_Lle, nI_Leq, nI_eqm, nI_meq, nI_ltm, nI_lem, nI_mlt, nI_mle, lg0, lgl, lgg, lgle, lgge, Int32.not_lt, Int32.not_le, Int64.not_lt, Int64.not_le, not_false_eq_true, not_true_eq_false, Decidable.not_not, ge_iff_le, gt_iff_lt] at q14)
          exact pp
        · first
          | exact absurd q14 (by decide)
          | exact absurd trivial q14
          | exact q14.elim
          | (exfalso; (try simp (disch := omega) only [nI_ltI, nI_leI, nI_eq, nI_ltL, nI_leL, nI_eqL, nI_Llt, nI_Lle, nI_Leq, nI_eqm, nI_meq, nI_ltm, nI_lem, nI_mlt, nI_mle, lg0, lgl, lgg, lgle, lgge, Int32.not_lt, Int32.not_le, Int64.not_lt, Int64.not_le, not_false_eq_true, not_true_eq_false, Decidable.not_not, ge_iff_le, gt_iff_lt] at q14) <;> omega)
          | exact absurd q14 (by with_reducible assumption)
          | exact absurd (by with_reducible assumption) q14
          | exact absurd (Decidable.not_not.mp q14) (by with_reducible assumption)
          | exact absurd (by with_reducible assumption) (Int32.not_le.mpr q14)
          | exact absurd (by with_reducible assumption) (Int32.not_lt.mpr q14)
  · have pp := P23 (fun q => r4 q.1)
    refine pm_ent (L := [some (.ref 120), none]) rfl (Nat.le_of_ble_eq_true rfl) ?_
    refine pw_blk (mi := mz_258) (b := bz_258_0) rfl rfl ?_
    simp only [bz_258_0, pz_cut_t, pz_cut_f, pz_cut_n, pv_gt, pv_ts, pv_tn, ev_ald0, ev_eld0, ev_cv0_11, pz_wi_gc, pz_wi_ga, pz_wi_gn, pz_wi_gl, pz_wi_gr, pz_wi_same, pz_wi_X, pz_wl_gc, pz_wl_ga, pz_wl_gn, pz_wl_gi, pz_wl_gr, pz_wl_same, pz_wl_X, pz_wr_gc, pz_wr_ga, pz_wr_gn, pz_wr_gi, pz_wr_gl, pz_wr_same, pz_wr_X, so_120 hS]
    (try simp (disch := omega) only [nI_clamp, pz_in_nI2, pz_in_nI2L, pv_gt, nI_add, nI_addL, nI_Ladd, pk_mul, nI_mulL, nI_Lmul, pk_sub, nI_subL, nI_Lsub, nI_inc, nI_clampL, Nat.add_sub_cancel, pz_wi_else, pz_wl_else, vu_eq, vu_ne, pz_wi_gc, pz_wi_ga, pz_wi_gn, pz_wi_gl, pz_wi_gr, pz_wi_same, pz_wi_X, pz_wl_gc, pz_wl_ga, pz_wl_gn, pz_wl_gi, pz_wl_gr, pz_wl_same, pz_wl_X, pz_wr_gc, pz_wr_ga, pz_wr_gn, pz_wr_gi, pz_wr_gl, pz_wr_same, pz_wr_X])
    (try refine po_gP (Nat.le_of_ble_eq_true rfl) ?_)
    refine po_call (by omega) (r_rankHere (by omega) x z ?_)
    rw [hrk]
    refine pw_blk (mi := mz_258) (b := bz_258_4) rfl rfl ?_
    simp only [bz_258_4, pz_cut_t, pz_cut_f, pz_cut_n, pv_gt, pv_ts, pv_tn, ev_ist1n, ev_ist1i, ev_ist1r, ev_ist1e, ev_ist1l, ev_ild1, ev_ic4, ev_ic_ne, pz_wi_gc, pz_wi_ga, pz_wi_gn, pz_wi_gl, pz_wi_gr, pz_wi_same, pz_wi_X, pz_wl_gc, pz_wl_ga, pz_wl_gn, pz_wl_gi, pz_wl_gr, pz_wl_same, pz_wl_X, pz_wr_gc, pz_wr_ga, pz_wr_gn, pz_wr_gi, pz_wr_gl, pz_wr_same, pz_wr_X]
    (try simp (disch := omega) only [nI_clamp, pz_in_nI2, pz_in_nI2L, pv_gt, nI_add, nI_addL, nI_Ladd, pk_mul, nI_mulL, nI_Lmul, pk_sub, nI_subL, nI_Lsub, nI_inc, nI_clampL, Nat.add_sub_cancel, pz_wi_else, pz_wl_else, vu_eq, vu_ne, pz_wi_gc, pz_wi_ga, pz_wi_gn, pz_wi_gl, pz_wi_gr, pz_wi_same, pz_wi_X, pz_wl_gc, pz_wl_ga, pz_wl_gn, pz_wl_gi, pz_wl_gr, pz_wl_same, pz_wl_X, pz_wr_gc, pz_wr_ga, pz_wr_gn, pz_wr_gi, pz_wr_gl, pz_wr_same, pz_wr_X])
    refine po_brP (fun q4 => ?_) (fun q4 => ?_)
    · skip
      (try simp (disch := omega) only [nI_ltI, nI_leI, nI_eq, nI_ltL, nI_leL, nI_eqL, nI_Llt, nI_Lle, nI_Leq, nI_eqm, nI_meq, nI_ltm, nI_lem, nI_mlt, nI_mle, lg0, lgl, lgg, lgle, lgge, Int32.not_lt, Int32.not_le, Int64.not_lt, Int64.not_le, not_false_eq_true, not_true_eq_false, Decidable.not_not, ge_iff_le, gt_iff_lt] at q4)
      exact pp
    · first
      | exact absurd q4 (by decide)
      | exact absurd trivial q4
      | exact q4.elim
      | (exfalso; (try simp (disch := omega) only [nI_ltI, nI_leI, nI_eq, nI_ltL, nI_leL, nI_eqL, nI_Llt, nI_Lle, nI_Leq, nI_eqm, nI_meq, nI_ltm, nI_lem, nI_mlt, nI_mle, lg0, lgl, lgg, lgle, lgge, Int32.not_lt, Int32.not_le, Int64.not_lt, Int64.not_le, not_false_eq_true, not_true_eq_false, Decidable.not_not, ge_iff_le, gt_iff_lt] at q4) <;> omega)
      | exact absurd q4 (by with_reducible assumption)
      | exact absurd (by with_reducible assumption) q4
      | exact absurd (Decidable.not_not.mp q4) (by with_reducible assumption)
      | exact absurd (by with_reducible assumption) (Int32.not_le.mpr q4)
      | exact absurd (by with_reducible assumption) (Int32.not_lt.mpr q4)
end RBH
