section LAYT2
variable {d : Nat} {M M' M'' : pz_M} {Q : Option Value × pz_M → Prop}
variable {r B cr wk sv er : Nat} {al : Nat → Nat → Nat} {h : Nat → Int32} {dp mp : Nat → Bool} {J o : Int32}
/-- one bar of a step -/
theorem r_bar (hd : 5 ≤ d) {i n : Nat} {all : Int64} {q : LL × LL} {L1 L9 : Option Value} (x : rcx M r B cr wk sv er al h dp mp) (b : rbd r B cr wk sv er al h) (hi : i < B) (hall : gl M 156 i = all) (hz : ¬ all = 0) (hT : agN 24 (gl M 157) q.1) (hs : agN 5 (gl M 158) q.2) (k : ∀ M', rf M M' → gl M' 156 = gl M 156 → agN 24 (gl M' 157) (baS al cr wk er B h (drF dp sv B) mp J o i all q).1 → agN 5 (gl M' 158) (baS al cr wk er B h (drF dp sv B) mp J o i all q).2 → pw d 132 (258, [some (.ref 120), none, some (.int J), some (.int o), some (.int (nI n)), some (.int (nI i)), none, none, none, none, none], [], M') Q) : pw d 132 (117, [some (.ref 120), none, some (.int J), some (.int o), some (.int (nI n)), some (.int (nI i)), none, none, none, none, none], [], M) Q := by
  obtain ⟨z1, z2, z3, z4, z5, z6, z7, z8⟩ := id b
  have x1 := x.1
  unfold baS at k
  -- behind the stop: crosses and on
  have tail : ∀ M1 oth q1, rf M M1 → gl M1 156 = gl M 156 → gi M1 120 50 = onN al cr wk B i h (mp i) → (∀ j, j < B → gi M1 155 j = crs al cr wk B i h (mp i) j) → agN 24 (gl M1 157) q1.1 → agN 5 (gl M1 158) q1.2 → (∀ M', rf M M' → gl M' 156 = gl M 156 → agN 24 (gl M' 157) (arS B (i + 1) (oth * (onN al cr wk B i h (mp i)).toInt64 / 1000) (if mp i = true then q1 else xpU B (lkG al B i) (xsq (shr al cr B i h) (1000 - stp wk (h i))) oth q1 (cnt (pj al i) B))).1 → agN 5 (gl M' 158) (arS B (i + 1) (oth * (onN al cr wk B i h (mp i)).toInt64 / 1000) (if mp i = true then q1 else xpU B (lkG al B i) (xsq (shr al cr B i h) (1000 - stp wk (h i))) oth q1 (cnt (pj al i) B))).2 → pw d 132 (258, [some (.ref 120), none, some (.int J), some (.int o), some (.int (nI n)), some (.int (nI i)), none, none, none, none, none], [], M') Q) → pw d 132 (182, [some (.ref 120), none, some (.int J), some (.int o), some (.int (nI n)), some (.int (nI i)), some (.long oth), none, none, none, none], [], M1) Q := by
    intro M1 oth q1 s1 m1 e50 e155 hT1 hs1 k1
    let st : Nat → LL × LL := fun j => if mp i = true then q1 else xpU B (lkG al B i) (xsq (shr al cr B i h) (1000 - stp wk (h i))) oth q1 (cnt (pj al i) j)
    have st0 : st 0 = q1 := by
      show (if mp i = true then q1 else q1) = q1
      split <;> rfl
    have key : ∀ j, j ≤ B → ∀ M2, sm [157, 158] M1 M2 → agN 24 (gl M2 157) (st j).1 → agN 5 (gl M2 158) (st j).2 → pw d 132 (185, [some (.ref 120), none, some (.int J), some (.int o), some (.int (nI n)), some (.int (nI i)), some (.long oth), none, some (.int (nI j)), none, none], [], M2) Q := by
      refine upto (fun j hj ih => ?_)
      intro M2 s2 hT2 hs2
      have r12 : rf M1 M2 := rf.of s2 (by decide)
      have xx := x.fr (s1.tr r12)
      have hS2 := xx.1
      have b22 := xx.2.2.2.2.1
      have f155 : gi M2 155 = gi M1 155 := s2.i (by decide)
      have f50 : gi M2 120 50 = onN al cr wk B i h (mp i) := by rw [s2.i (k := 120) (by decide)]; exact e50
      by_cases hjB : j = B
      · subst hjB
        refine pw_blk (mi := mz_132) (b := bz_132_185) rfl rfl ?_
        simp only [bz_132_185, pz_cut_t, pz_cut_f, pz_cut_n, pv_gt, pv_ts, pv_tn, ev_ild8, ev_ald0, ev_eld0, ev_cv0_11, pz_wi_gc, pz_wi_ga, pz_wi_gn, pz_wi_gl, pz_wi_gr, pz_wi_same, pz_wi_X, pz_wl_gc, pz_wl_ga, pz_wl_gn, pz_wl_gi, pz_wl_gr, pz_wl_same, pz_wl_X, pz_wr_gc, pz_wr_ga, pz_wr_gn, pz_wr_gi, pz_wr_gl, pz_wr_same, pz_wr_X, so_120 hS2, b22, f50]
        (try simp (disch := omega) only [nI_clamp, pz_in_nI2, pz_in_nI2L, pv_gt, nI_add, nI_addL, nI_Ladd, pk_mul, nI_mulL, nI_Lmul, pk_sub, nI_subL, nI_Lsub, nI_inc, nI_clampL, Nat.add_sub_cancel, pz_wi_else, pz_wl_else, vu_eq, vu_ne, pz_wi_gc, pz_wi_ga, pz_wi_gn, pz_wi_gl, pz_wi_gr, pz_wi_same, pz_wi_X, pz_wl_gc, pz_wl_ga, pz_wl_gn, pz_wl_gi, pz_wl_gr, pz_wl_same, pz_wl_X, pz_wr_gc, pz_wr_ga, pz_wr_gn, pz_wr_gi, pz_wr_gl, pz_wr_same, pz_wr_X, b22, f50])
        (try refine po_gP (Nat.le_of_ble_eq_true rfl) ?_)
        refine po_call (by omega) (r_many hS2 xx.2.1 ?_)
        refine pw_blk (mi := mz_132) (b := bz_132_191) rfl rfl ?_
        simp only [bz_132_191, pz_cut_t, pz_cut_f, pz_cut_n, pv_gt, pv_ts, pv_tn, ev_ic_ge, pz_wi_gc, pz_wi_ga, pz_wi_gn, pz_wi_gl, pz_wi_gr, pz_wi_same, pz_wi_X, pz_wl_gc, pz_wl_ga, pz_wl_gn, pz_wl_gi, pz_wl_gr, pz_wl_same, pz_wl_X, pz_wr_gc, pz_wr_ga, pz_wr_gn, pz_wr_gi, pz_wr_gl, pz_wr_same, pz_wr_X, b22, f50]
        (try simp (disch := omega) only [nI_clamp, pz_in_nI2, pz_in_nI2L, pv_gt, nI_add, nI_addL, nI_Ladd, pk_mul, nI_mulL, nI_Lmul, pk_sub, nI_subL, nI_Lsub, nI_inc, nI_clampL, Nat.add_sub_cancel, pz_wi_else, pz_wl_else, vu_eq, vu_ne, pz_wi_gc, pz_wi_ga, pz_wi_gn, pz_wi_gl, pz_wi_gr, pz_wi_same, pz_wi_X, pz_wl_gc, pz_wl_ga, pz_wl_gn, pz_wl_gi, pz_wl_gr, pz_wl_same, pz_wl_X, pz_wr_gc, pz_wr_ga, pz_wr_gn, pz_wr_gi, pz_wr_gl, pz_wr_same, pz_wr_X, b22, f50])
        refine po_brP (fun q191 => ?_) (fun q191 => ?_)
        · skip
          (try simp (disch := omega) only [nI_ltI, nI_leI, nI_eq, nI_ltL, nI_leL, nI_eqL, nI_Llt, nI_Lle, nI_Leq, nI_eqm, nI_meq, nI_ltm, nI_lem, nI_mlt, nI_mle, lg0, lgl, lgg, lgle, lgge, Int32.not_lt, Int32.not_le, Int64.not_lt, Int64.not_le, not_false_eq_true, not_true_eq_false, Decidable.not_not, ge_iff_le, gt_iff_lt] at q191)
          refine pw_blk (mi := mz_132) (b := bz_132_238) rfl rfl ?_
          simp only [bz_132_238, pz_cut_t, pz_cut_f, pz_cut_n, pv_gt, pv_ts, pv_tn, ev_ald0, ev_eld0, ev_ild5, ev_ic1, ev_iadd, ev_lld6, ev_gf11_0, ev_i2l, ev_lmul, ev_ldl1000, ev_ldiv, ev_cv2_11, pz_wi_gc, pz_wi_ga, pz_wi_gn, pz_wi_gl, pz_wi_gr, pz_wi_same, pz_wi_X, pz_wl_gc, pz_wl_ga, pz_wl_gn, pz_wl_gi, pz_wl_gr, pz_wl_same, pz_wl_X, pz_wr_gc, pz_wr_ga, pz_wr_gn, pz_wr_gi, pz_wr_gl, pz_wr_same, pz_wr_X, so_120 hS2, b22, f50]
          (try simp (disch := omega) only [nI_clamp, pz_in_nI2, pz_in_nI2L, pv_gt, nI_add, nI_addL, nI_Ladd, pk_mul, nI_mulL, nI_Lmul, pk_sub, nI_subL, nI_Lsub, nI_inc, nI_clampL, Nat.add_sub_cancel, pz_wi_else, pz_wl_else, vu_eq, vu_ne, pz_wi_gc, pz_wi_ga, pz_wi_gn, pz_wi_gl, pz_wi_gr, pz_wi_same, pz_wi_X, pz_wl_gc, pz_wl_ga, pz_wl_gn, pz_wl_gi, pz_wl_gr, pz_wl_same, pz_wl_X, pz_wr_gc, pz_wr_ga, pz_wr_gn, pz_wr_gi, pz_wr_gl, pz_wr_same, pz_wr_X, b22, f50])
          (try refine po_gP (by first | decide | assumption) ?_)
          (try refine po_gP (Nat.le_of_ble_eq_true rfl) ?_)
          refine po_call (by omega) (r_goParts (by omega) xx b (by omega) hT2 hs2 (fun M3 s3 t3 u3 => ?_))
          refine pw_cut (mi := mz_132) (b := bz_132_258) rfl rfl (k1 M3 ((s1.tr r12).tr (rf.of s3 (by decide))) ?_ t3 u3) rfl
          rw [s3.l (by decide), s2.l (by decide)]
          exact m1
        · first
          | exact absurd q191 (by decide)
          | exact absurd trivial q191
          | exact q191.elim
          | (exfalso; (try simp (disch := omega) only [nI_ltI, nI_leI, nI_eq, nI_ltL, nI_leL, nI_eqL, nI_Llt, nI_Lle, nI_Leq, nI_eqm, nI_meq, nI_ltm, nI_lem, nI_mlt, nI_mle, lg0, lgl, lgg, lgle, lgge, Int32.not_lt, Int32.not_le, Int64.not_lt, Int64.not_le, not_false_eq_true, not_true_eq_false, Decidable.not_not, ge_iff_le, gt_iff_lt] at q191) <;> omega)
          | exact absurd q191 (by with_reducible assumption)
          | exact absurd (by with_reducible assumption) q191
          | exact absurd (Decidable.not_not.mp q191) (by with_reducible assumption)
          | exact absurd (by with_reducible assumption) (Int32.not_le.mpr q191)
          | exact absurd (by with_reducible assumption) (Int32.not_lt.mpr q191)
      · have hc := e155 j (by omega)
        have hc' : gi M2 155 j = crs al cr wk B i h (mp i) j := by rw [f155]; exact hc
        have hnext : st (j + 1) = arS B (j + 1) (oth * (crs al cr wk B i h (mp i) j).toInt64 / 1000) ((st j).1, adL (st j).2 4 (oth * (crs al cr wk B i h (mp i) j).toInt64 / 1000)) := by
          have zz : oth * (0 : Int32).toInt64 / 1000 = 0 := by
            rw [show (0 : Int32).toInt64 = 0 from rfl, Int64.mul_zero]
            rfl
          cases hm : mp i with
          | true =>
            have e1 : crs al cr wk B i h true j = 0 := by rw [crs, if_pos rfl]
            rw [e1, zz, adL_0, arS_0]
            show (if mp i = true then q1 else _) = ((if mp i = true then q1 else _).1, (if mp i = true then q1 else _).2)
            rw [if_pos hm, if_pos hm]
          | false =>
            by_cases hp : pj al i j = true
            · have e1 : crs al cr wk B i h false j = xsq (shr al cr B i h) (1000 - stp wk (h i)) (cnt (pj al i) j) := by rw [crs, if_neg (by decide), if_pos hp]
              have e2 := (lkG_at hp B (by omega)).1
              show (if mp i = true then q1 else _) = _
              have e3 : st j = xpU B (lkG al B i) (xsq (shr al cr B i h) (1000 - stp wk (h i))) oth q1 (cnt (pj al i) j) := by
                show (if mp i = true then q1 else _) = _
                rw [if_neg (by rw [hm]; decide)]
              rw [if_neg (by rw [hm]; decide), cnt_t hp, xpU, e2, e1, e3]
            · have hp0 : pj al i j = false := by simpa using hp
              have e1 : crs al cr wk B i h false j = 0 := by rw [crs, if_neg (by decide), if_neg hp]
              rw [e1, zz, adL_0, arS_0]
              show (if mp i = true then q1 else _) = ((if mp i = true then q1 else _).1, (if mp i = true then q1 else _).2)
              rw [cnt_f hp0]
        have hS3 : ∀ v, SH (pz_wl M2 158 v) := fun v => hS2.sm (K := [158]) (sm.wl sm.rf (by simp))
        have x3 : ∀ v, rcx (pz_wl M2 158 v) r B cr wk sv er al h dp mp := fun v => xx.fr (rf.of (K := [158]) (sm.wl sm.rf (by simp)) (by decide))
        refine pw_blk (mi := mz_132) (b := bz_132_185) rfl rfl ?_
        simp only [bz_132_185, pz_cut_t, pz_cut_f, pz_cut_n, pv_gt, pv_ts, pv_tn, ev_ild8, ev_ald0, ev_eld0, ev_cv0_11, pz_wi_gc, pz_wi_ga, pz_wi_gn, pz_wi_gl, pz_wi_gr, pz_wi_same, pz_wi_X, pz_wl_gc, pz_wl_ga, pz_wl_gn, pz_wl_gi, pz_wl_gr, pz_wl_same, pz_wl_X, pz_wr_gc, pz_wr_ga, pz_wr_gn, pz_wr_gi, pz_wr_gl, pz_wr_same, pz_wr_X, so_120 hS2, b22, hc']
        (try simp (disch := omega) only [nI_clamp, pz_in_nI2, pz_in_nI2L, pv_gt, nI_add, nI_addL, nI_Ladd, pk_mul, nI_mulL, nI_Lmul, pk_sub, nI_subL, nI_Lsub, nI_inc, nI_clampL, Nat.add_sub_cancel, pz_wi_else, pz_wl_else, vu_eq, vu_ne, pz_wi_gc, pz_wi_ga, pz_wi_gn, pz_wi_gl, pz_wi_gr, pz_wi_same, pz_wi_X, pz_wl_gc, pz_wl_ga, pz_wl_gn, pz_wl_gi, pz_wl_gr, pz_wl_same, pz_wl_X, pz_wr_gc, pz_wr_ga, pz_wr_gn, pz_wr_gi, pz_wr_gl, pz_wr_same, pz_wr_X, b22, hc'])
        (try refine po_gP (Nat.le_of_ble_eq_true rfl) ?_)
        refine po_call (by omega) (r_many hS2 xx.2.1 ?_)
        refine pw_blk (mi := mz_132) (b := bz_132_191) rfl rfl ?_
        simp only [bz_132_191, pz_cut_t, pz_cut_f, pz_cut_n, pv_gt, pv_ts, pv_tn, ev_ic_ge, pz_wi_gc, pz_wi_ga, pz_wi_gn, pz_wi_gl, pz_wi_gr, pz_wi_same, pz_wi_X, pz_wl_gc, pz_wl_ga, pz_wl_gn, pz_wl_gi, pz_wl_gr, pz_wl_same, pz_wl_X, pz_wr_gc, pz_wr_ga, pz_wr_gn, pz_wr_gi, pz_wr_gl, pz_wr_same, pz_wr_X, b22, hc']
        (try simp (disch := omega) only [nI_clamp, pz_in_nI2, pz_in_nI2L, pv_gt, nI_add, nI_addL, nI_Ladd, pk_mul, nI_mulL, nI_Lmul, pk_sub, nI_subL, nI_Lsub, nI_inc, nI_clampL, Nat.add_sub_cancel, pz_wi_else, pz_wl_else, vu_eq, vu_ne, pz_wi_gc, pz_wi_ga, pz_wi_gn, pz_wi_gl, pz_wi_gr, pz_wi_same, pz_wi_X, pz_wl_gc, pz_wl_ga, pz_wl_gn, pz_wl_gi, pz_wl_gr, pz_wl_same, pz_wl_X, pz_wr_gc, pz_wr_ga, pz_wr_gn, pz_wr_gi, pz_wr_gl, pz_wr_same, pz_wr_X, b22, hc'])
        refine po_brP (fun q191 => ?_) (fun q191 => ?_)
        · first
          | exact absurd q191 (by decide)
          | exact absurd trivial q191
          | exact q191.elim
          | (exfalso; (try simp (disch := omega) only [nI_ltI, nI_leI, nI_eq, nI_ltL, nI_leL, nI_eqL, nI_Llt, nI_Lle, nI_Leq, nI_eqm, nI_meq, nI_ltm, nI_lem, nI_mlt, nI_mle, lg0, lgl, lgg, lgle, lgge, Int32.not_lt, Int32.not_le, Int64.not_lt, Int64.not_le, not_false_eq_true, not_true_eq_false, Decidable.not_not, ge_iff_le, gt_iff_lt] at q191) <;> omega)
          | exact absurd q191 (by with_reducible assumption)
          | exact absurd (by with_reducible assumption) q191
          | exact absurd (Decidable.not_not.mp q191) (by with_reducible assumption)
          | exact absurd (by with_reducible assumption) (Int32.not_le.mpr q191)
          | exact absurd (by with_reducible assumption) (Int32.not_lt.mpr q191)
        · skip
          (try simp (disch := omega) only [nI_ltI, nI_leI, nI_eq, nI_ltL, nI_leL, nI_eqL, nI_Llt, nI_Lle, nI_Leq, nI_eqm, nI_meq, nI_ltm, nI_lem, nI_mlt, nI_mle, lg0, lgl, lgg, lgle, lgge, Int32.not_lt, Int32.not_le, Int64.not_lt, Int64.not_le, not_false_eq_true, not_true_eq_false, Decidable.not_not, ge_iff_le, gt_iff_lt] at q191)
          refine pw_blk (mi := mz_132) (b := bz_132_194) rfl rfl ?_
          simp only [bz_132_194, pz_cut_t, pz_cut_f, pz_cut_n, pv_gt, pv_ts, pv_tn, ev_lld6, ev_ald0, ev_eld0, ev_gf11_2, ev_ild8, ea_iald, ev_i2l, ev_lmul, ev_ldl1000, ev_ldiv, ev_lst9n, ev_lst9i, ev_lst9r, ev_lst9e, ev_lst9l, ev_ic4, ev_dup2, ea_lald, ev_lld9, ev_ladd, ea_last, ev_ic1, ev_iadd, ev_cv2_11, pz_wi_gc, pz_wi_ga, pz_wi_gn, pz_wi_gl, pz_wi_gr, pz_wi_same, pz_wi_X, pz_wl_gc, pz_wl_ga, pz_wl_gn, pz_wl_gi, pz_wl_gr, pz_wl_same, pz_wl_X, pz_wr_gc, pz_wr_ga, pz_wr_gn, pz_wr_gi, pz_wr_gl, pz_wr_same, pz_wr_X, so_120 hS2, sr_120_48 hS2, sa_155 hS2, sn_155 hS2, sr_120_59 hS2, sa_158 hS2, sn_158 hS2, b22, hc', sa_156 hS2, sn_156 hS2, sa_157 hS2, sn_157 hS2]
          (try simp (disch := omega) only [nI_clamp, pz_in_nI2, pz_in_nI2L, pv_gt, nI_add, nI_addL, nI_Ladd, pk_mul, nI_mulL, nI_Lmul, pk_sub, nI_subL, nI_Lsub, nI_inc, nI_clampL, Nat.add_sub_cancel, pz_wi_else, pz_wl_else, vu_eq, vu_ne, pz_wi_gc, pz_wi_ga, pz_wi_gn, pz_wi_gl, pz_wi_gr, pz_wi_same, pz_wi_X, pz_wl_gc, pz_wl_ga, pz_wl_gn, pz_wl_gi, pz_wl_gr, pz_wl_same, pz_wl_X, pz_wr_gc, pz_wr_ga, pz_wr_gn, pz_wr_gi, pz_wr_gl, pz_wr_same, pz_wr_X, b22, hc'])
          (try refine po_gI (by first | exact pz_in_nI (by omega) (by decide) | decide | assumption) ?_)
          (try refine po_gP (by first | decide | assumption) ?_)
          (try refine po_gI (by first | exact pz_in_nI (by omega) (by decide) | decide | assumption) ?_)
          (try refine po_gI (by first | exact pz_in_nI (by omega) (by decide) | decide | assumption) ?_)
          (try refine po_gP (Nat.le_of_ble_eq_true rfl) ?_)
          refine po_call (by omega) (r_goParts (by omega) (x3 _) b (by omega) (q := ((st j).1, adL (st j).2 4 (oth * (crs al cr wk B i h (mp i) j).toInt64 / 1000))) (by rw [pz_wl_else (by decide)]; exact hT2) (by rw [pz_wl_same]; exact hs2.ad (by decide)) (fun M3 s3 t3 u3 => ?_))
          refine pw_blk (mi := mz_132) (b := bz_132_232) rfl rfl ?_
          simp only [bz_132_232, pz_cut_t, pz_cut_f, pz_cut_n, pv_gt, pv_ts, pv_tn, ev_inc8n, ev_inc8i, ev_inc8r, ev_inc8e, ev_goto, pz_wi_gc, pz_wi_ga, pz_wi_gn, pz_wi_gl, pz_wi_gr, pz_wi_same, pz_wi_X, pz_wl_gc, pz_wl_ga, pz_wl_gn, pz_wl_gi, pz_wl_gr, pz_wl_same, pz_wl_X, pz_wr_gc, pz_wr_ga, pz_wr_gn, pz_wr_gi, pz_wr_gl, pz_wr_same, pz_wr_X, b22, hc']
          (try simp (disch := omega) only [nI_clamp, pz_in_nI2, pz_in_nI2L, pv_gt, nI_add, nI_addL, nI_Ladd, pk_mul, nI_mulL, nI_Lmul, pk_sub, nI_subL, nI_Lsub, nI_inc, nI_clampL, Nat.add_sub_cancel, pz_wi_else, pz_wl_else, vu_eq, vu_ne, pz_wi_gc, pz_wi_ga, pz_wi_gn, pz_wi_gl, pz_wi_gr, pz_wi_same, pz_wi_X, pz_wl_gc, pz_wl_ga, pz_wl_gn, pz_wl_gi, pz_wl_gr, pz_wl_same, pz_wl_X, pz_wr_gc, pz_wr_ga, pz_wr_gn, pz_wr_gi, pz_wr_gl, pz_wr_same, pz_wr_X, b22, hc'])
          refine po_go ?_
          refine pw_cut (mi := mz_132) (b := bz_132_185) rfl rfl (ih (j + 1) (by omega) (by omega) M3 (s2.tr ((sm.mono (K := [158]) (sm.wl sm.rf (by simp)) (by decide)).tr s3 (by decide) : sm [157, 158] M2 M3) (by decide)) ?_ ?_) rfl
          · rw [hnext]; exact t3
          · rw [hnext]; exact u3
    refine pw_blk (mi := mz_132) (b := bz_132_182) rfl rfl ?_
    simp only [bz_132_182, pz_cut_t, pz_cut_f, pz_cut_n, pv_gt, pv_ts, pv_tn, ev_ic0, ev_ist8n, ev_ist8i, ev_ist8r, ev_ist8e, ev_ist8l, ev_nil, pz_wi_gc, pz_wi_ga, pz_wi_gn, pz_wi_gl, pz_wi_gr, pz_wi_same, pz_wi_X, pz_wl_gc, pz_wl_ga, pz_wl_gn, pz_wl_gi, pz_wl_gr, pz_wl_same, pz_wl_X, pz_wr_gc, pz_wr_ga, pz_wr_gn, pz_wr_gi, pz_wr_gl, pz_wr_same, pz_wr_X]
    (try simp (disch := omega) only [nI_clamp, pz_in_nI2, pz_in_nI2L, pv_gt, nI_add, nI_addL, nI_Ladd, pk_mul, nI_mulL, nI_Lmul, pk_sub, nI_subL, nI_Lsub, nI_inc, nI_clampL, Nat.add_sub_cancel, pz_wi_else, pz_wl_else, vu_eq, vu_ne, pz_wi_gc, pz_wi_ga, pz_wi_gn, pz_wi_gl, pz_wi_gr, pz_wi_same, pz_wi_X, pz_wl_gc, pz_wl_ga, pz_wl_gn, pz_wl_gi, pz_wl_gr, pz_wl_same, pz_wl_X, pz_wr_gc, pz_wr_ga, pz_wr_gn, pz_wr_gi, pz_wr_gl, pz_wr_same, pz_wr_X])
    refine po_go ?_
    refine pw_cut (mi := mz_132) (b := bz_132_185) rfl rfl (key 0 (by omega) M1 sm.rf ?_ ?_) rfl
    · rw [st0]; exact hT1
    · rw [st0]; exact hs1
  -- layBehind and the stop
  have mid : ∀ M1 oth q0, rf M M1 → gl M1 156 = gl M 156 → agN 24 (gl M1 157) q0.1 → agN 5 (gl M1 158) q0.2 → (∀ M', rf M M' → gl M' 156 = gl M 156 → agN 24 (gl M' 157) (arS B (i + 1) (oth * (onN al cr wk B i h (mp i)).toInt64 / 1000) (if mp i = true then haS (drF dp sv B) er i (oth * (stp wk (h i)).toInt64 / 1000) q0 else xpU B (lkG al B i) (xsq (shr al cr B i h) (1000 - stp wk (h i))) oth (haS (drF dp sv B) er i (oth * (stp wk (h i)).toInt64 / 1000) q0) (cnt (pj al i) B))).1 → agN 5 (gl M' 158) (arS B (i + 1) (oth * (onN al cr wk B i h (mp i)).toInt64 / 1000) (if mp i = true then haS (drF dp sv B) er i (oth * (stp wk (h i)).toInt64 / 1000) q0 else xpU B (lkG al B i) (xsq (shr al cr B i h) (1000 - stp wk (h i))) oth (haS (drF dp sv B) er i (oth * (stp wk (h i)).toInt64 / 1000) q0) (cnt (pj al i) B))).2 → pw d 132 (258, [some (.ref 120), none, some (.int J), some (.int o), some (.int (nI n)), some (.int (nI i)), none, none, none, none, none], [], M') Q) → pw d 132 (158, [some (.ref 120), none, some (.int J), some (.int o), some (.int (nI n)), some (.int (nI i)), some (.long oth), none, none, none, none], [], M1) Q := by
    intro M1 oth q0 s1 m1 hT1 hs1 k1
    have xx := x.fr s1
    obtain ⟨v1, v2, v3, v4, v5, v6, v7, ⟨y1, y2, y3, y4⟩, v8, v9⟩ := id xx
    refine pw_blk (mi := mz_132) (b := bz_132_158) rfl rfl ?_
    simp only [bz_132_158, pz_cut_t, pz_cut_f, pz_cut_n, pv_gt, pv_ts, pv_tn, ev_ald0, ev_eld0, ev_ild5, ev_cv1_11, pz_wi_gc, pz_wi_ga, pz_wi_gn, pz_wi_gl, pz_wi_gr, pz_wi_same, pz_wi_X, pz_wl_gc, pz_wl_ga, pz_wl_gn, pz_wl_gi, pz_wl_gr, pz_wl_same, pz_wl_X, pz_wr_gc, pz_wr_ga, pz_wr_gn, pz_wr_gi, pz_wr_gl, pz_wr_same, pz_wr_X, so_120 v1]
    (try simp (disch := omega) only [nI_clamp, pz_in_nI2, pz_in_nI2L, pv_gt, nI_add, nI_addL, nI_Ladd, pk_mul, nI_mulL, nI_Lmul, pk_sub, nI_subL, nI_Lsub, nI_inc, nI_clampL, Nat.add_sub_cancel, pz_wi_else, pz_wl_else, vu_eq, vu_ne, pz_wi_gc, pz_wi_ga, pz_wi_gn, pz_wi_gl, pz_wi_gr, pz_wi_same, pz_wi_X, pz_wl_gc, pz_wl_ga, pz_wl_gn, pz_wl_gi, pz_wl_gr, pz_wl_same, pz_wl_X, pz_wr_gc, pz_wr_ga, pz_wr_gn, pz_wr_gi, pz_wr_gl, pz_wr_same, pz_wr_X])
    (try refine po_gP (Nat.le_of_ble_eq_true rfl) ?_)
    refine po_call (by omega) (r_layBehind (by omega) v1 v2 v3 z1 v5 z2 hi v6 z7 v7 z8 y1 y2 z3 z4 (v9 i (by omega)) (fun M2 s2 f120 f155 => ?_))
    have r2 : rf M1 M2 := ⟨s2.mono (by decide), fun j h1 h2 => by rw [f120, vu_ne h2, vu_ne h1]⟩
    have x2 := xx.fr r2
    have hS2 := x2.1
    have g49 : gi M2 120 49 = stp wk (h i) := by rw [f120, vu_ne (by decide), vu_eq]
    refine pw_blk (mi := mz_132) (b := bz_132_164) rfl rfl ?_
    simp only [bz_132_164, pz_cut_t, pz_cut_f, pz_cut_n, pv_gt, pv_ts, pv_tn, ev_ald0, ev_eld0, ev_ild5, ev_lld6, ev_gf11_0, ev_i2l, ev_lmul, ev_ldl1000, ev_ldiv, ev_cv2_11, pz_wi_gc, pz_wi_ga, pz_wi_gn, pz_wi_gl, pz_wi_gr, pz_wi_same, pz_wi_X, pz_wl_gc, pz_wl_ga, pz_wl_gn, pz_wl_gi, pz_wl_gr, pz_wl_same, pz_wl_X, pz_wr_gc, pz_wr_ga, pz_wr_gn, pz_wr_gi, pz_wr_gl, pz_wr_same, pz_wr_X, so_120 v1, so_120 hS2, g49]
    (try simp (disch := omega) only [nI_clamp, pz_in_nI2, pz_in_nI2L, pv_gt, nI_add, nI_addL, nI_Ladd, pk_mul, nI_mulL, nI_Lmul, pk_sub, nI_subL, nI_Lsub, nI_inc, nI_clampL, Nat.add_sub_cancel, pz_wi_else, pz_wl_else, vu_eq, vu_ne, pz_wi_gc, pz_wi_ga, pz_wi_gn, pz_wi_gl, pz_wi_gr, pz_wi_same, pz_wi_X, pz_wl_gc, pz_wl_ga, pz_wl_gn, pz_wl_gi, pz_wl_gr, pz_wl_same, pz_wl_X, pz_wr_gc, pz_wr_ga, pz_wr_gn, pz_wr_gi, pz_wr_gl, pz_wr_same, pz_wr_X, so_120 hS2, g49])
    (try refine po_gP (by first | decide | assumption) ?_)
    (try refine po_gP (Nat.le_of_ble_eq_true rfl) ?_)
    refine po_call (by omega) (r_stopParts (by omega) x2 b hi (by rw [s2.l (by decide)]; exact hT1) (by rw [s2.l (by decide)]; exact hs1) (fun M3 s3 t3 u3 => ?_))
    refine pw_cut (mi := mz_132) (b := bz_132_182) rfl rfl (tail M3 oth _ ((s1.tr r2).tr (rf.of s3 (by decide))) ?_ ?_ ?_ t3 u3 k1) rfl
    · rw [s3.l (by decide), s2.l (by decide)]; exact m1
    · rw [s3.i (by decide), f120, vu_eq]
    · intro j hj
      rw [s3.i (by decide)]
      exact f155 j hj
  by_cases hJ : nI i = J
  · have hit : itS J o i all = all * o.toInt64 / 1000 := if_pos hJ
    rw [hit] at k
    unfold spS at k
    refine pw_blk (mi := mz_132) (b := bz_132_117) rfl rfl ?_
    simp only [bz_132_117, pz_cut_t, pz_cut_f, pz_cut_n, pv_gt, pv_ts, pv_tn, ev_ald0, ev_eld0, ev_gf11_2, ev_ild5, ea_lald, ev_lst6n, ev_lst6i, ev_lst6r, ev_lst6e, ev_lst6l, ev_ild2, ev_ic_ne, pz_wi_gc, pz_wi_ga, pz_wi_gn, pz_wi_gl, pz_wi_gr, pz_wi_same, pz_wi_X, pz_wl_gc, pz_wl_ga, pz_wl_gn, pz_wl_gi, pz_wl_gr, pz_wl_same, pz_wl_X, pz_wr_gc, pz_wr_ga, pz_wr_gn, pz_wr_gi, pz_wr_gl, pz_wr_same, pz_wr_X, so_120 x1, sr_120_57 x1, sa_156 x1, sn_156 x1, hall, sa_158 x1, sn_158 x1, sa_157 x1, sn_157 x1, sa_155 x1, sn_155 x1]
    (try simp (disch := omega) only [nI_clamp, pz_in_nI2, pz_in_nI2L, pv_gt, nI_add, nI_addL, nI_Ladd, pk_mul, nI_mulL, nI_Lmul, pk_sub, nI_subL, nI_Lsub, nI_inc, nI_clampL, Nat.add_sub_cancel, pz_wi_else, pz_wl_else, vu_eq, vu_ne, pz_wi_gc, pz_wi_ga, pz_wi_gn, pz_wi_gl, pz_wi_gr, pz_wi_same, pz_wi_X, pz_wl_gc, pz_wl_ga, pz_wl_gn, pz_wl_gi, pz_wl_gr, pz_wl_same, pz_wl_X, pz_wr_gc, pz_wr_ga, pz_wr_gn, pz_wr_gi, pz_wr_gl, pz_wr_same, pz_wr_X, hall])
    (try refine po_gI (by first | exact pz_in_nI (by omega) (by decide) | decide | assumption) ?_)
    refine po_brP (fun q117 => ?_) (fun q117 => ?_)
    · first
      | exact absurd q117 (by decide)
      | exact absurd trivial q117
      | exact q117.elim
      | (exfalso; (try simp (disch := omega) only [nI_ltI, nI_leI, nI_eq, nI_ltL, nI_leL, nI_eqL, nI_Llt, nI_Lle, nI_Leq, nI_eqm, nI_meq, nI_ltm, nI_lem, nI_mlt, nI_mle, lg0, lgl, lgg, lgle, lgge, Int32.not_lt, Int32.not_le, Int64.not_lt, Int64.not_le, not_false_eq_true, not_true_eq_false, Decidable.not_not, ge_iff_le, gt_iff_lt] at q117) <;> omega)
      | exact absurd q117 (by with_reducible assumption)
      | exact absurd (by with_reducible assumption) q117
      | exact absurd (Decidable.not_not.mp q117) (by with_reducible assumption)
      | exact absurd (by with_reducible assumption) (Int32.not_le.mpr q117)
      | exact absurd (by with_reducible assumption) (Int32.not_lt.mpr q117)
    · skip
      (try simp (disch := omega) only [nI_ltI, nI_leI, nI_eq, nI_ltL, nI_leL, nI_eqL, nI_Llt, nI_Lle, nI_Leq, nI_eqm, nI_meq, nI_ltm, nI_lem, nI_mlt, nI_mle, lg0, lgl, lgg, lgle, lgge, Int32.not_lt, Int32.not_le, Int64.not_lt, Int64.not_le, not_false_eq_true, not_true_eq_false, Decidable.not_not, ge_iff_le, gt_iff_lt] at q117)
      refine pw_blk (mi := mz_132) (b := bz_132_132) rfl rfl ?_
      simp only [bz_132_132, pz_cut_t, pz_cut_f, pz_cut_n, pv_gt, pv_ts, pv_tn, ev_lld6, ev_ild3, ev_i2l, ev_lmul, ev_ldl1000, ev_ldiv, ev_lst8n, ev_lst8i, ev_lst8r, ev_lst8e, ev_lst8l, ev_ald0, ev_eld0, ev_ild5, ev_lld8, ev_cv2_11, pz_wi_gc, pz_wi_ga, pz_wi_gn, pz_wi_gl, pz_wi_gr, pz_wi_same, pz_wi_X, pz_wl_gc, pz_wl_ga, pz_wl_gn, pz_wl_gi, pz_wl_gr, pz_wl_same, pz_wl_X, pz_wr_gc, pz_wr_ga, pz_wr_gn, pz_wr_gi, pz_wr_gl, pz_wr_same, pz_wr_X, so_120 x1, hall]
      (try simp (disch := omega) only [nI_clamp, pz_in_nI2, pz_in_nI2L, pv_gt, nI_add, nI_addL, nI_Ladd, pk_mul, nI_mulL, nI_Lmul, pk_sub, nI_subL, nI_Lsub, nI_inc, nI_clampL, Nat.add_sub_cancel, pz_wi_else, pz_wl_else, vu_eq, vu_ne, pz_wi_gc, pz_wi_ga, pz_wi_gn, pz_wi_gl, pz_wi_gr, pz_wi_same, pz_wi_X, pz_wl_gc, pz_wl_ga, pz_wl_gn, pz_wl_gi, pz_wl_gr, pz_wl_same, pz_wl_X, pz_wr_gc, pz_wr_ga, pz_wr_gn, pz_wr_gi, pz_wr_gl, pz_wr_same, pz_wr_X, hall])
      (try refine po_gP (by first | decide | assumption) ?_)
      (try refine po_gP (Nat.le_of_ble_eq_true rfl) ?_)
      refine po_call (by omega) (r_stopParts (by omega) x b hi hT hs (fun M2 s2 t2 u2 => ?_))
      refine pw_blk (mi := mz_132) (b := bz_132_151) rfl rfl ?_
      simp only [bz_132_151, pz_cut_t, pz_cut_f, pz_cut_n, pv_gt, pv_ts, pv_tn, ev_lld6, ev_lld8, ev_lsub, ev_lst6n, ev_lst6i, ev_lst6r, ev_lst6e, ev_lst6l, ev_nil, pz_wi_gc, pz_wi_ga, pz_wi_gn, pz_wi_gl, pz_wi_gr, pz_wi_same, pz_wi_X, pz_wl_gc, pz_wl_ga, pz_wl_gn, pz_wl_gi, pz_wl_gr, pz_wl_same, pz_wl_X, pz_wr_gc, pz_wr_ga, pz_wr_gn, pz_wr_gi, pz_wr_gl, pz_wr_same, pz_wr_X, hall]
      (try simp (disch := omega) only [nI_clamp, pz_in_nI2, pz_in_nI2L, pv_gt, nI_add, nI_addL, nI_Ladd, pk_mul, nI_mulL, nI_Lmul, pk_sub, nI_subL, nI_Lsub, nI_inc, nI_clampL, Nat.add_sub_cancel, pz_wi_else, pz_wl_else, vu_eq, vu_ne, pz_wi_gc, pz_wi_ga, pz_wi_gn, pz_wi_gl, pz_wi_gr, pz_wi_same, pz_wi_X, pz_wl_gc, pz_wl_ga, pz_wl_gn, pz_wl_gi, pz_wl_gr, pz_wl_same, pz_wl_X, pz_wr_gc, pz_wr_ga, pz_wr_gn, pz_wr_gi, pz_wr_gl, pz_wr_same, pz_wr_X, hall])
      refine po_go ?_
      refine pw_cut (mi := mz_132) (b := bz_132_158) rfl rfl (mid M2 (all - all * o.toInt64 / 1000) _ (rf.of s2 (by decide)) (s2.l (by decide)) t2 u2 ?_) rfl
      rw [haS_add]
      exact k
  · have hit : itS J o i all = 0 := if_neg hJ
    rw [hit, Int64.sub_zero] at k
    unfold spS at k
    rw [Int64.zero_add] at k
    refine pw_blk (mi := mz_132) (b := bz_132_117) rfl rfl ?_
    simp only [bz_132_117, pz_cut_t, pz_cut_f, pz_cut_n, pv_gt, pv_ts, pv_tn, ev_ald0, ev_eld0, ev_gf11_2, ev_ild5, ea_lald, ev_lst6n, ev_lst6i, ev_lst6r, ev_lst6e, ev_lst6l, ev_ild2, ev_ic_ne, pz_wi_gc, pz_wi_ga, pz_wi_gn, pz_wi_gl, pz_wi_gr, pz_wi_same, pz_wi_X, pz_wl_gc, pz_wl_ga, pz_wl_gn, pz_wl_gi, pz_wl_gr, pz_wl_same, pz_wl_X, pz_wr_gc, pz_wr_ga, pz_wr_gn, pz_wr_gi, pz_wr_gl, pz_wr_same, pz_wr_X, so_120 x1, sr_120_57 x1, sa_156 x1, sn_156 x1, hall, sa_158 x1, sn_158 x1, sa_157 x1, sn_157 x1, sa_155 x1, sn_155 x1]
    (try simp (disch := omega) only [nI_clamp, pz_in_nI2, pz_in_nI2L, pv_gt, nI_add, nI_addL, nI_Ladd, pk_mul, nI_mulL, nI_Lmul, pk_sub, nI_subL, nI_Lsub, nI_inc, nI_clampL, Nat.add_sub_cancel, pz_wi_else, pz_wl_else, vu_eq, vu_ne, pz_wi_gc, pz_wi_ga, pz_wi_gn, pz_wi_gl, pz_wi_gr, pz_wi_same, pz_wi_X, pz_wl_gc, pz_wl_ga, pz_wl_gn, pz_wl_gi, pz_wl_gr, pz_wl_same, pz_wl_X, pz_wr_gc, pz_wr_ga, pz_wr_gn, pz_wr_gi, pz_wr_gl, pz_wr_same, pz_wr_X, hall])
    (try refine po_gI (by first | exact pz_in_nI (by omega) (by decide) | decide | assumption) ?_)
    refine po_brP (fun q117 => ?_) (fun q117 => ?_)
    · skip
      (try simp (disch := omega) only [nI_ltI, nI_leI, nI_eq, nI_ltL, nI_leL, nI_eqL, nI_Llt, nI_Lle, nI_Leq, nI_eqm, nI_meq, nI_ltm, nI_lem, nI_mlt, nI_mle, lg0, lgl, lgg, lgle, lgge, Int32.not_lt, Int32.not_le, Int64.not_lt, Int64.not_le, not_false_eq_true, not_true_eq_false, Decidable.not_not, ge_iff_le, gt_iff_lt] at q117)
      exact mid M all q rf.refl rfl hT hs k
    · first
      | exact absurd q117 (by decide)
      | exact absurd trivial q117
      | exact q117.elim
      | (exfalso; (try simp (disch := omega) only [nI_ltI, nI_leI, nI_eq, nI_ltL, nI_leL, nI_eqL, nI_Llt, nI_Lle, nI_Leq, nI_eqm, nI_meq, nI_ltm, nI_lem, nI_mlt, nI_mle, lg0, lgl, lgg, lgle, lgge, Int32.not_lt, Int32.not_le, Int64.not_lt, Int64.not_le, not_false_eq_true, not_true_eq_false, Decidable.not_not, ge_iff_le, gt_iff_lt] at q117) <;> omega)
      | exact absurd q117 (by with_reducible assumption)
      | exact absurd (by with_reducible assumption) q117
      | exact absurd (Decidable.not_not.mp q117) (by with_reducible assumption)
      | exact absurd (by with_reducible assumption) (Int32.not_le.mpr q117)
      | exact absurd (by with_reducible assumption) (Int32.not_lt.mpr q117)
end LAYT2
