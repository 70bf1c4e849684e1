/-! ===== play ===== -/
section PLAY
variable {d : Nat} {M M' M'' : pz_M} {Q : Option Value × pz_M → Prop}
theorem ev_ldc_w1103515245N {q : Nat} {f pc b z : Nat} {es : List pz_E} {M : pz_M} {st : List Value} {L : pz_L} : pz_evB f ((pc, .ldc_w q, 1103515245, b, z) :: es) L (st) M = pz_evB f es L (.int 1103515245 :: st) M := id rfl
theorem ev_ldc1103515245N {q : Nat} {f pc b : Nat} {es : List pz_E} {M : pz_M} {st : List Value} {L : pz_L} : pz_evB f ((pc, .ldc q, 1103515245, b, 0) :: es) L (st) M = pz_evB f es L (.int 1103515245 :: st) M := id rfl
theorem ev_imulN {x y : Int32} {f pc a b z : Nat} {es : List pz_E} {M : pz_M} {st : List Value} {L : pz_L} : pz_evB f ((pc, .imul, a, b, z) :: es) L (.int y :: .int x :: st) M = pz_evB f es L (.int (x * y) :: st) M := id rfl
theorem ev_sp12345N {f pc a b z : Nat} {es : List pz_E} {M : pz_M} {st : List Value} {L : pz_L} : pz_evB f ((pc, .sipush 12345, a, b, z) :: es) L (st) M = pz_evB f es L (.int 12345 :: st) M := id rfl
theorem ev_iaddN {x y : Int32} {f pc a b z : Nat} {es : List pz_E} {M : pz_M} {st : List Value} {L : pz_L} : pz_evB f ((pc, .iadd, a, b, z) :: es) L (.int y :: .int x :: st) M = pz_evB f es L (.int (x + y) :: st) M := id rfl
theorem ev_ald0N {x : Nat} {f pc a b z : Nat} {es : List pz_E} {M : pz_M} {st : List Value} {L : pz_L} : pz_evB f ((pc, .aload_n 0, a, b, z) :: es) (some (.ref x) :: L) (st) M = pz_evB f es (some (.ref x) :: L) (.ref x :: st) M := id rfl
theorem ev_bp16N {f pc a b z : Nat} {es : List pz_E} {M : pz_M} {st : List Value} {L : pz_L} : pz_evB f ((pc, .bipush 16, a, b, z) :: es) L (st) M = pz_evB f es L (.int 16 :: st) M := id rfl
theorem ev_iushrN {x y : Int32} {f pc a b z : Nat} {es : List pz_E} {M : pz_M} {st : List Value} {L : pz_L} : pz_evB f ((pc, .iushr, a, b, z) :: es) L (.int y :: .int x :: st) M = pz_evB f es L (.int ((x.toUInt32 >>> (y.toUInt32 &&& Int32.toUInt32 31)).toInt32) :: st) M := id rfl
theorem ev_ild1N {x0 : Option Value} {x : Int32} {f pc a b z : Nat} {es : List pz_E} {M : pz_M} {st : List Value} {L : pz_L} : pz_evB f ((pc, .iload_n 1, a, b, z) :: es) (x0 :: some (.int x) :: L) (st) M = pz_evB f es (x0 :: some (.int x) :: L) (.int x :: st) M := id rfl
theorem ev_iret0N {x : Int32} {f pc a b z : Nat} {es : List pz_E} {M : pz_M} {L : pz_L} : pz_evB f ((pc, .ireturn, 0, b, z) :: es) L ([.int x]) M = some (.inr (.inl (some (.int x), M))) := id rfl
theorem ev_gotoN {off : Int} {f pc a b z : Nat} {es : List pz_E} {M : pz_M} {st : List Value} {L : pz_L} : pz_evB f ((pc, .goto off, a, b, z) :: es) L (st) M = some (.inl (a, L, st, M)) := id rfl
def plD (w : Int32) : Int32 := w * 1103515245 + 12345
def plU (w : Int32) : Int32 := (w.toUInt32 >>> (Int32.toUInt32 16 &&& Int32.toUInt32 31)).toInt32
def plV (w : Int32) : Int32 := plU w - plU w / 1000 * 1000
theorem m_draw (hS : SH M) (h : ∀ M', sm [33] M M' → gi M' 33 = va_up (gi M 33) 7 (plD (gi M 33 7)) → Q (some (.int (plV (plD (gi M 33 7)))), M')) : pm d 246 [.ref 33, .int 1000] M Q := by
  unfold plV plU plD at h
  refine pm_ent (L := [some (.ref 33), some (.int 1000)]) rfl (Nat.le_of_ble_eq_true rfl) ?_
  refine pw_blk (mi := mz_246) (b := bz_246_0) rfl rfl ?_
  simp only [bz_246_0, pz_cut_t, pz_cut_f, pz_cut_n, pv_gt, pv_ts, pv_tn, ev_ald0N, ev_eld0, ev_gf3_0, ev_ldc1103515245N, ev_imulN, ev_sp12345N, ev_iaddN, ev_pf3_0, ev_ild1N, ev_ifle, pz_wi_gc, pz_wi_ga, pz_wi_gn, pz_wi_gl, pz_wi_gr, pz_wi_same, pz_wi_X, pz_wl_gc, pz_wl_ga, pz_wl_gn, pz_wl_gi, pz_wl_gr, pz_wl_same, pz_wl_X, pz_wr_gc, pz_wr_ga, pz_wr_gn, pz_wr_gi, pz_wr_gl, pz_wr_same, pz_wr_X, so_33 hS]
  (try simp (disch := omega) only [nI_clamp, pz_in_nI2, pz_in_nI2L, pv_gt, nI_add, nI_addL, nI_Ladd, pk_mul, nI_mulL, nI_Lmul, pk_sub, nI_subL, nI_Lsub, nI_inc, nI_clampL, Nat.add_sub_cancel, pz_wi_else, pz_wl_else, vu_eq, vu_ne, pz_wi_gc, pz_wi_ga, pz_wi_gn, pz_wi_gl, pz_wi_gr, pz_wi_same, pz_wi_X, pz_wl_gc, pz_wl_ga, pz_wl_gn, pz_wl_gi, pz_wl_gr, pz_wl_same, pz_wl_X, pz_wr_gc, pz_wr_ga, pz_wr_gn, pz_wr_gi, pz_wr_gl, pz_wr_same, pz_wr_X])
  refine po_brP (fun q0 => ?_) (fun q0 => ?_)
  · first
    | exact absurd q0 (by decide)
    | exact absurd trivial q0
    | exact q0.elim
    | (exfalso; (try simp (disch := omega) only [nI_ltI, nI_leI, nI_eq, nI_ltL, nI_leL, nI_eqL, nI_Llt, nI_Lle, nI_Leq, nI_eqm, nI_meq, nI_ltm, nI_lem, nI_mlt, nI_mle, lg0, lgl, lgg, lgle, lgge, Int32.not_lt, Int32.not_le, Int64.not_lt, Int64.not_le, not_false_eq_true, not_true_eq_false, Decidable.not_not, ge_iff_le, gt_iff_lt] at q0) <;> omega)
    | exact absurd q0 (by with_reducible assumption)
    | exact absurd (by with_reducible assumption) q0
    | exact absurd (Decidable.not_not.mp q0) (by with_reducible assumption)
    | exact absurd (by with_reducible assumption) (Int32.not_le.mpr q0)
    | exact absurd (by with_reducible assumption) (Int32.not_lt.mpr q0)
  · skip
    (try simp (disch := omega) only [nI_ltI, nI_leI, nI_eq, nI_ltL, nI_leL, nI_eqL, nI_Llt, nI_Lle, nI_Leq, nI_eqm, nI_meq, nI_ltm, nI_lem, nI_mlt, nI_mle, lg0, lgl, lgg, lgle, lgge, Int32.not_lt, Int32.not_le, Int64.not_lt, Int64.not_le, not_false_eq_true, not_true_eq_false, Decidable.not_not, ge_iff_le, gt_iff_lt] at q0)
    refine pw_blk (mi := mz_246) (b := bz_246_19) rfl rfl ?_
    simp only [bz_246_19, pz_cut_t, pz_cut_f, pz_cut_n, pv_gt, pv_ts, pv_tn, ev_ald0N, ev_eld0, ev_gf3_0, ev_bp16N, ev_iushrN, ev_ild1N, ev_irem, ev_gotoN, pz_wi_gc, pz_wi_ga, pz_wi_gn, pz_wi_gl, pz_wi_gr, pz_wi_same, pz_wi_X, pz_wl_gc, pz_wl_ga, pz_wl_gn, pz_wl_gi, pz_wl_gr, pz_wl_same, pz_wl_X, pz_wr_gc, pz_wr_ga, pz_wr_gn, pz_wr_gi, pz_wr_gl, pz_wr_same, pz_wr_X, so_33 hS]
    (try simp (disch := omega) only [nI_clamp, pz_in_nI2, pz_in_nI2L, pv_gt, nI_add, nI_addL, nI_Ladd, pk_mul, nI_mulL, nI_Lmul, pk_sub, nI_subL, nI_Lsub, nI_inc, nI_clampL, Nat.add_sub_cancel, pz_wi_else, pz_wl_else, vu_eq, vu_ne, pz_wi_gc, pz_wi_ga, pz_wi_gn, pz_wi_gl, pz_wi_gr, pz_wi_same, pz_wi_X, pz_wl_gc, pz_wl_ga, pz_wl_gn, pz_wl_gi, pz_wl_gr, pz_wl_same, pz_wl_X, pz_wr_gc, pz_wr_ga, pz_wr_gn, pz_wr_gi, pz_wr_gl, pz_wr_same, pz_wr_X])
    (try refine po_gP (by first | decide | assumption) ?_)
    refine po_go ?_
    refine pw_blk (mi := mz_246) (b := bz_246_32) rfl rfl ?_
    simp only [bz_246_32, pz_cut_t, pz_cut_f, pz_cut_n, pv_gt, pv_ts, pv_tn, ev_iret0N, pz_wi_gc, pz_wi_ga, pz_wi_gn, pz_wi_gl, pz_wi_gr, pz_wi_same, pz_wi_X, pz_wl_gc, pz_wl_ga, pz_wl_gn, pz_wl_gi, pz_wl_gr, pz_wl_same, pz_wl_X, pz_wr_gc, pz_wr_ga, pz_wr_gn, pz_wr_gi, pz_wr_gl, pz_wr_same, pz_wr_X]
    (try simp (disch := omega) only [nI_clamp, pz_in_nI2, pz_in_nI2L, pv_gt, nI_add, nI_addL, nI_Ladd, pk_mul, nI_mulL, nI_Lmul, pk_sub, nI_subL, nI_Lsub, nI_inc, nI_clampL, Nat.add_sub_cancel, pz_wi_else, pz_wl_else, vu_eq, vu_ne, pz_wi_gc, pz_wi_ga, pz_wi_gn, pz_wi_gl, pz_wi_gr, pz_wi_same, pz_wi_X, pz_wl_gc, pz_wl_ga, pz_wl_gn, pz_wl_gi, pz_wl_gr, pz_wl_same, pz_wl_X, pz_wr_gc, pz_wr_ga, pz_wr_gn, pz_wr_gi, pz_wr_gl, pz_wr_same, pz_wr_X])
    exact po_ret (h _ (sm.wi sm.rf (by simp)) pz_wi_same)
theorem r_draw (hS : SH M) (h : ∀ M', sm [120] M M' → gi M' 120 = va_up (gi M 120) 47 (plD (gi M 120 47)) → Q (some (.int (plV (plD (gi M 120 47)))), M')) : pm d 202 [.ref 120, .int 1000] M Q := by
  unfold plV plU plD at h
  refine pm_ent (L := [some (.ref 120), some (.int 1000)]) rfl (Nat.le_of_ble_eq_true rfl) ?_
  refine pw_blk (mi := mz_202) (b := bz_202_0) rfl rfl ?_
  simp only [bz_202_0, pz_cut_t, pz_cut_f, pz_cut_n, pv_gt, pv_ts, pv_tn, ev_ald0N, ev_eld0, ev_gf11_0, ev_ldc_w1103515245N, ev_imulN, ev_sp12345N, ev_iaddN, ev_pf11_0, ev_bp16N, ev_iushrN, ev_ild1N, ev_irem, ev_iret0N, pz_wi_gc, pz_wi_ga, pz_wi_gn, pz_wi_gl, pz_wi_gr, pz_wi_same, pz_wi_X, pz_wl_gc, pz_wl_ga, pz_wl_gn, pz_wl_gi, pz_wl_gr, pz_wl_same, pz_wl_X, pz_wr_gc, pz_wr_ga, pz_wr_gn, pz_wr_gi, pz_wr_gl, pz_wr_same, pz_wr_X, so_120 hS]
  (try simp (disch := omega) only [nI_clamp, pz_in_nI2, pz_in_nI2L, pv_gt, nI_add, nI_addL, nI_Ladd, pk_mul, nI_mulL, nI_Lmul, pk_sub, nI_subL, nI_Lsub, nI_inc, nI_clampL, Nat.add_sub_cancel, pz_wi_else, pz_wl_else, vu_eq, vu_ne, pz_wi_gc, pz_wi_ga, pz_wi_gn, pz_wi_gl, pz_wi_gr, pz_wi_same, pz_wi_X, pz_wl_gc, pz_wl_ga, pz_wl_gn, pz_wl_gi, pz_wl_gr, pz_wl_same, pz_wl_X, pz_wr_gc, pz_wr_ga, pz_wr_gn, pz_wr_gi, pz_wr_gl, pz_wr_same, pz_wr_X])
  (try refine po_gP (by first | decide | assumption) ?_)
  exact po_ret (h _ (sm.wi sm.rf (by simp)) pz_wi_same)
/-- stop and the first k shares together -/
def blS (f : Nat → Int32) (s0 st : Int32) : Nat → Int32
  | 0 => st
  | k + 1 => blS f s0 st k + xsq f s0 k
/-- the first share below which a draw falls -/
def cfS (bl : Nat → Int32) (v : Int32) : Nat → Nat → Option Nat
  | 0, _ => none
  | c + 1, k => if v < bl (k + 1) then some k else cfS bl v c (k + 1)
theorem cfS_lt {bl : Nat → Int32} {v : Int32} : ∀ c k j, cfS bl v c k = some j → k ≤ j ∧ j < k + c
  | 0, _, _, h => by cases h
  | c + 1, k, j, h => by
    rw [cfS] at h
    split at h
    · cases h
      omega
    · have := cfS_lt c (k + 1) j h
      omega
theorem m_crossingFor {al : Nat → Nat → Nat} {cr wk B b : Nat} {h : Nat → Int32} {v : Int32} (hS : SH M) (hF : RFa M al B) (hB : B ≤ 24) (hb : b < B) (hW : isW M al cr wk B b h) (k : Q (some (.int (oI ((cfS (blS (shr al cr B b h) (1000 - stp wk (h b)) (stp wk (h b))) v (cnt (pj al b) B) 0).map (lkG al B b)))), M)) : pm d 248 [.ref 39, .int (nI b), .int v] M Q := by
  have hlen := cnt_lt24 (al := al) B hb
  obtain ⟨c40, c41⟩ := hF b hb
  obtain ⟨w44, w45, w43⟩ := hW
  have key : ∀ c q, q + c = cnt (pj al b) B → Q (some (.int (oI ((cfS (blS (shr al cr B b h) (1000 - stp wk (h b)) (stp wk (h b))) v c q).map (lkG al B b)))), M) → pw d 248 (16, [some (.ref 39), some (.int (nI b)), some (.int v), some (.int (nI (b * 24))), some (.int (blS (shr al cr B b h) (1000 - stp wk (h b)) (stp wk (h b)) q)), some (.int (nI (b * 24 + q)))], [], M) Q := by
    intro c
    induction c with
    | zero =>
      intro q hq k
      have hq2 : q = cnt (pj al b) B := by omega
      subst hq2
      refine pw_blk (mi := mz_248) (b := bz_248_16) rfl rfl ?_
      simp only [bz_248_16, pz_cut_t, pz_cut_f, pz_cut_n, pv_gt, pv_ts, pv_tn, ev_ild5, ev_ild3, ev_ald0, ev_eld0, ev_gf1_2, ev_ild1, ea_iald, ev_iadd, ev_ic_ge, pz_wi_gc, pz_wi_ga, pz_wi_gn, pz_wi_gl, pz_wi_gr, pz_wi_same, pz_wi_X, pz_wl_gc, pz_wl_ga, pz_wl_gn, pz_wl_gi, pz_wl_gr, pz_wl_same, pz_wl_X, pz_wr_gc, pz_wr_ga, pz_wr_gn, pz_wr_gi, pz_wr_gl, pz_wr_same, pz_wr_X, so_39 hS, sr_39_1 hS, sa_40 hS, sn_40 hS, c40, sa_44 hS, sn_44 hS, sa_43 hS, sn_43 hS, sa_41 hS, sn_41 hS]
      (try simp (disch := omega) only [nI_clamp, pz_in_nI2, pz_in_nI2L, pv_gt, nI_add, nI_addL, nI_Ladd, pk_mul, nI_mulL, nI_Lmul, pk_sub, nI_subL, nI_Lsub, nI_inc, nI_clampL, Nat.add_sub_cancel, pz_wi_else, pz_wl_else, vu_eq, vu_ne, pz_wi_gc, pz_wi_ga, pz_wi_gn, pz_wi_gl, pz_wi_gr, pz_wi_same, pz_wi_X, pz_wl_gc, pz_wl_ga, pz_wl_gn, pz_wl_gi, pz_wl_gr, pz_wl_same, pz_wl_X, pz_wr_gc, pz_wr_ga, pz_wr_gn, pz_wr_gi, pz_wr_gl, pz_wr_same, pz_wr_X, c40])
      (try refine po_gI (by first | exact pz_in_nI (by omega) (by decide) | decide | assumption) ?_)
      refine po_brP (fun q16 => ?_) (fun q16 => ?_)
      · skip
        (try simp (disch := omega) only [nI_ltI, nI_leI, nI_eq, nI_ltL, nI_leL, nI_eqL, nI_Llt, nI_Lle, nI_Leq, nI_eqm, nI_meq, nI_ltm, nI_lem, nI_mlt, nI_mle, lg0, lgl, lgg, lgle, lgge, Int32.not_lt, Int32.not_le, Int64.not_lt, Int64.not_le, not_false_eq_true, not_true_eq_false, Decidable.not_not, ge_iff_le, gt_iff_lt] at q16)
        refine pw_blk (mi := mz_248) (b := bz_248_61) rfl rfl ?_
        simp only [bz_248_61, pz_cut_t, pz_cut_f, pz_cut_n, pv_gt, pv_ts, pv_tn, ev_icm1, ev_iret0, pz_wi_gc, pz_wi_ga, pz_wi_gn, pz_wi_gl, pz_wi_gr, pz_wi_same, pz_wi_X, pz_wl_gc, pz_wl_ga, pz_wl_gn, pz_wl_gi, pz_wl_gr, pz_wl_same, pz_wl_X, pz_wr_gc, pz_wr_ga, pz_wr_gn, pz_wr_gi, pz_wr_gl, pz_wr_same, pz_wr_X, c40]
        (try simp (disch := omega) only [nI_clamp, pz_in_nI2, pz_in_nI2L, pv_gt, nI_add, nI_addL, nI_Ladd, pk_mul, nI_mulL, nI_Lmul, pk_sub, nI_subL, nI_Lsub, nI_inc, nI_clampL, Nat.add_sub_cancel, pz_wi_else, pz_wl_else, vu_eq, vu_ne, pz_wi_gc, pz_wi_ga, pz_wi_gn, pz_wi_gl, pz_wi_gr, pz_wi_same, pz_wi_X, pz_wl_gc, pz_wl_ga, pz_wl_gn, pz_wl_gi, pz_wl_gr, pz_wl_same, pz_wl_X, pz_wr_gc, pz_wr_ga, pz_wr_gn, pz_wr_gi, pz_wr_gl, pz_wr_same, pz_wr_X, c40])
        exact po_ret k
      · first
        | exact absurd q16 (by decide)
        | exact absurd trivial q16
        | exact q16.elim
        | (exfalso; (try simp (disch := omega) only [nI_ltI, nI_leI, nI_eq, nI_ltL, nI_leL, nI_eqL, nI_Llt, nI_Lle, nI_Leq, nI_eqm, nI_meq, nI_ltm, nI_lem, nI_mlt, nI_mle, lg0, lgl, lgg, lgle, lgge, Int32.not_lt, Int32.not_le, Int64.not_lt, Int64.not_le, not_false_eq_true, not_true_eq_false, Decidable.not_not, ge_iff_le, gt_iff_lt] at q16) <;> omega)
        | exact absurd q16 (by with_reducible assumption)
        | exact absurd (by with_reducible assumption) q16
        | exact absurd (Decidable.not_not.mp q16) (by with_reducible assumption)
        | exact absurd (by with_reducible assumption) (Int32.not_le.mpr q16)
        | exact absurd (by with_reducible assumption) (Int32.not_lt.mpr q16)
    | succ c ih =>
      intro q hq k
      rw [cfS] at k
      have g1 : b * 24 + q = 24 * b + q := by omega
      have d41' : gi M 41 (b * 24 + q) = nI (lkG al B b q) := by rw [g1]; exact (c41 q (by omega)).1
      have d43' : gi M 43 (b * 24 + q) = xsq (shr al cr B b h) (1000 - stp wk (h b)) q := by rw [g1]; exact w43 q (by omega)
      have e1 : blS (shr al cr B b h) (1000 - stp wk (h b)) (stp wk (h b)) q + xsq (shr al cr B b h) (1000 - stp wk (h b)) q = blS (shr al cr B b h) (1000 - stp wk (h b)) (stp wk (h b)) (q + 1) := rfl
      refine pw_blk (mi := mz_248) (b := bz_248_16) rfl rfl ?_
      simp only [bz_248_16, pz_cut_t, pz_cut_f, pz_cut_n, pv_gt, pv_ts, pv_tn, ev_ild5, ev_ild3, ev_ald0, ev_eld0, ev_gf1_2, ev_ild1, ea_iald, ev_iadd, ev_ic_ge, pz_wi_gc, pz_wi_ga, pz_wi_gn, pz_wi_gl, pz_wi_gr, pz_wi_same, pz_wi_X, pz_wl_gc, pz_wl_ga, pz_wl_gn, pz_wl_gi, pz_wl_gr, pz_wl_same, pz_wl_X, pz_wr_gc, pz_wr_ga, pz_wr_gn, pz_wr_gi, pz_wr_gl, pz_wr_same, pz_wr_X, so_39 hS, sr_39_1 hS, sa_40 hS, sn_40 hS, c40, d41', d43', e1, sa_44 hS, sn_44 hS, sa_43 hS, sn_43 hS, sa_41 hS, sn_41 hS]
      (try simp (disch := omega) only [nI_clamp, pz_in_nI2, pz_in_nI2L, pv_gt, nI_add, nI_addL, nI_Ladd, pk_mul, nI_mulL, nI_Lmul, pk_sub, nI_subL, nI_Lsub, nI_inc, nI_clampL, Nat.add_sub_cancel, pz_wi_else, pz_wl_else, vu_eq, vu_ne, pz_wi_gc, pz_wi_ga, pz_wi_gn, pz_wi_gl, pz_wi_gr, pz_wi_same, pz_wi_X, pz_wl_gc, pz_wl_ga, pz_wl_gn, pz_wl_gi, pz_wl_gr, pz_wl_same, pz_wl_X, pz_wr_gc, pz_wr_ga, pz_wr_gn, pz_wr_gi, pz_wr_gl, pz_wr_same, pz_wr_X, c40, d41', d43', e1])
      (try refine po_gI (by first | exact pz_in_nI (by omega) (by decide) | decide | assumption) ?_)
      refine po_brP (fun q16 => ?_) (fun q16 => ?_)
      · first
        | exact absurd q16 (by decide)
        | exact absurd trivial q16
        | exact q16.elim
        | (exfalso; (try simp (disch := omega) only [nI_ltI, nI_leI, nI_eq, nI_ltL, nI_leL, nI_eqL, nI_Llt, nI_Lle, nI_Leq, nI_eqm, nI_meq, nI_ltm, nI_lem, nI_mlt, nI_mle, lg0, lgl, lgg, lgle, lgge, Int32.not_lt, Int32.not_le, Int64.not_lt, Int64.not_le, not_false_eq_true, not_true_eq_false, Decidable.not_not, ge_iff_le, gt_iff_lt] at q16) <;> omega)
        | exact absurd q16 (by with_reducible assumption)
        | exact absurd (by with_reducible assumption) q16
        | exact absurd (Decidable.not_not.mp q16) (by with_reducible assumption)
        | exact absurd (by with_reducible assumption) (Int32.not_le.mpr q16)
        | exact absurd (by with_reducible assumption) (Int32.not_lt.mpr q16)
      · skip
        (try simp (disch := omega) only [nI_ltI, nI_leI, nI_eq, nI_ltL, nI_leL, nI_eqL, nI_Llt, nI_Lle, nI_Leq, nI_eqm, nI_meq, nI_ltm, nI_lem, nI_mlt, nI_mle, lg0, lgl, lgg, lgle, lgge, Int32.not_lt, Int32.not_le, Int64.not_lt, Int64.not_le, not_false_eq_true, not_true_eq_false, Decidable.not_not, ge_iff_le, gt_iff_lt] at q16)
        refine pw_blk (mi := mz_248) (b := bz_248_29) rfl rfl ?_
        simp only [bz_248_29, pz_cut_t, pz_cut_f, pz_cut_n, pv_gt, pv_ts, pv_tn, ev_ild4, ev_ald0, ev_eld0, ev_gf1_2, ev_ild5, ea_iald, ev_iadd, ev_ist4n, ev_ist4i, ev_ist4r, ev_ist4e, ev_ist4l, ev_ild2, ev_ic_ge, pz_wi_gc, pz_wi_ga, pz_wi_gn, pz_wi_gl, pz_wi_gr, pz_wi_same, pz_wi_X, pz_wl_gc, pz_wl_ga, pz_wl_gn, pz_wl_gi, pz_wl_gr, pz_wl_same, pz_wl_X, pz_wr_gc, pz_wr_ga, pz_wr_gn, pz_wr_gi, pz_wr_gl, pz_wr_same, pz_wr_X, so_39 hS, sr_39_4 hS, sa_43 hS, sn_43 hS, c40, d41', d43', e1, sa_44 hS, sn_44 hS, sa_40 hS, sn_40 hS, sa_41 hS, sn_41 hS]
        (try simp (disch := omega) only [nI_clamp, pz_in_nI2, pz_in_nI2L, pv_gt, nI_add, nI_addL, nI_Ladd, pk_mul, nI_mulL, nI_Lmul, pk_sub, nI_subL, nI_Lsub, nI_inc, nI_clampL, Nat.add_sub_cancel, pz_wi_else, pz_wl_else, vu_eq, vu_ne, pz_wi_gc, pz_wi_ga, pz_wi_gn, pz_wi_gl, pz_wi_gr, pz_wi_same, pz_wi_X, pz_wl_gc, pz_wl_ga, pz_wl_gn, pz_wl_gi, pz_wl_gr, pz_wl_same, pz_wl_X, pz_wr_gc, pz_wr_ga, pz_wr_gn, pz_wr_gi, pz_wr_gl, pz_wr_same, pz_wr_X, c40, d41', d43', e1])
        (try refine po_gI (by first | exact pz_in_nI (by omega) (by decide) | decide | assumption) ?_)
        refine po_brP (fun q29 => ?_) (fun q29 => ?_)
        · first
          | exact absurd q29 (by decide)
          | exact absurd trivial q29
          | exact q29.elim
          | (exfalso; (try simp (disch := omega) only [nI_ltI, nI_leI, nI_eq, nI_ltL, nI_leL, nI_eqL, nI_Llt, nI_Lle, nI_Leq, nI_eqm, nI_meq, nI_ltm, nI_lem, nI_mlt, nI_mle, lg0, lgl, lgg, lgle, lgge, Int32.not_lt, Int32.not_le, Int64.not_lt, Int64.not_le, not_false_eq_true, not_true_eq_false, Decidable.not_not, ge_iff_le, gt_iff_lt] at q29) <;> omega)
          | exact absurd q29 (by with_reducible assumption)
          | exact absurd (by with_reducible assumption) q29
          | exact absurd (Decidable.not_not.mp q29) (by with_reducible assumption)
          | exact absurd (by with_reducible assumption) (Int32.not_le.mpr q29)
          | exact absurd (by with_reducible assumption) (Int32.not_lt.mpr q29)
          | skip
            (try simp (disch := omega) only [nI_ltI, nI_leI, nI_eq, nI_ltL, nI_leL, nI_eqL, nI_Llt, nI_Lle, nI_Leq, nI_eqm, nI_meq, nI_ltm, nI_lem, nI_mlt, nI_mle, lg0, lgl, lgg, lgle, lgge, Int32.not_lt, Int32.not_le, Int64.not_lt, Int64.not_le, not_false_eq_true, not_true_eq_false, Decidable.not_not, ge_iff_le, gt_iff_lt] at q29)
            rw [if_neg (Int32.not_lt.mpr q29)] at k
            refine pw_blk (mi := mz_248) (b := bz_248_55) rfl rfl ?_
            simp only [bz_248_55, pz_cut_t, pz_cut_f, pz_cut_n, pv_gt, pv_ts, pv_tn, ev_inc5n, ev_inc5i, ev_inc5r, ev_inc5e, ev_goto, pz_wi_gc, pz_wi_ga, pz_wi_gn, pz_wi_gl, pz_wi_gr, pz_wi_same, pz_wi_X, pz_wl_gc, pz_wl_ga, pz_wl_gn, pz_wl_gi, pz_wl_gr, pz_wl_same, pz_wl_X, pz_wr_gc, pz_wr_ga, pz_wr_gn, pz_wr_gi, pz_wr_gl, pz_wr_same, pz_wr_X, c40, d41', d43', e1]
            (try simp (disch := omega) only [nI_clamp, pz_in_nI2, pz_in_nI2L, pv_gt, nI_add, nI_addL, nI_Ladd, pk_mul, nI_mulL, nI_Lmul, pk_sub, nI_subL, nI_Lsub, nI_inc, nI_clampL, Nat.add_sub_cancel, pz_wi_else, pz_wl_else, vu_eq, vu_ne, pz_wi_gc, pz_wi_ga, pz_wi_gn, pz_wi_gl, pz_wi_gr, pz_wi_same, pz_wi_X, pz_wl_gc, pz_wl_ga, pz_wl_gn, pz_wl_gi, pz_wl_gr, pz_wl_same, pz_wl_X, pz_wr_gc, pz_wr_ga, pz_wr_gn, pz_wr_gi, pz_wr_gl, pz_wr_same, pz_wr_X, c40, d41', d43', e1])
            refine po_go ?_
            exact ih (q + 1) (by omega) k
        · first
          | exact absurd q29 (by decide)
          | exact absurd trivial q29
          | exact q29.elim
          | (exfalso; (try simp (disch := omega) only [nI_ltI, nI_leI, nI_eq, nI_ltL, nI_leL, nI_eqL, nI_Llt, nI_Lle, nI_Leq, nI_eqm, nI_meq, nI_ltm, nI_lem, nI_mlt, nI_mle, lg0, lgl, lgg, lgle, lgge, Int32.not_lt, Int32.not_le, Int64.not_lt, Int64.not_le, not_false_eq_true, not_true_eq_false, Decidable.not_not, ge_iff_le, gt_iff_lt] at q29) <;> omega)
          | exact absurd q29 (by with_reducible assumption)
          | exact absurd (by with_reducible assumption) q29
          | exact absurd (Decidable.not_not.mp q29) (by with_reducible assumption)
          | exact absurd (by with_reducible assumption) (Int32.not_le.mpr q29)
          | exact absurd (by with_reducible assumption) (Int32.not_lt.mpr q29)
          | skip
            (try simp (disch := omega) only [nI_ltI, nI_leI, nI_eq, nI_ltL, nI_leL, nI_eqL, nI_Llt, nI_Lle, nI_Leq, nI_eqm, nI_meq, nI_ltm, nI_lem, nI_mlt, nI_mle, lg0, lgl, lgg, lgle, lgge, Int32.not_lt, Int32.not_le, Int64.not_lt, Int64.not_le, not_false_eq_true, not_true_eq_false, Decidable.not_not, ge_iff_le, gt_iff_lt] at q29)
            rw [if_pos q29] at k
            refine pw_blk (mi := mz_248) (b := bz_248_47) rfl rfl ?_
            simp only [bz_248_47, pz_cut_t, pz_cut_f, pz_cut_n, pv_gt, pv_ts, pv_tn, ev_ald0, ev_eld0, ev_gf1_2, ev_ild5, ea_iald, ev_iret0, pz_wi_gc, pz_wi_ga, pz_wi_gn, pz_wi_gl, pz_wi_gr, pz_wi_same, pz_wi_X, pz_wl_gc, pz_wl_ga, pz_wl_gn, pz_wl_gi, pz_wl_gr, pz_wl_same, pz_wl_X, pz_wr_gc, pz_wr_ga, pz_wr_gn, pz_wr_gi, pz_wr_gl, pz_wr_same, pz_wr_X, so_39 hS, sr_39_2 hS, sa_41 hS, sn_41 hS, c40, d41', d43', e1, sa_44 hS, sn_44 hS, sa_40 hS, sn_40 hS, sa_43 hS, sn_43 hS]
            (try simp (disch := omega) only [nI_clamp, pz_in_nI2, pz_in_nI2L, pv_gt, nI_add, nI_addL, nI_Ladd, pk_mul, nI_mulL, nI_Lmul, pk_sub, nI_subL, nI_Lsub, nI_inc, nI_clampL, Nat.add_sub_cancel, pz_wi_else, pz_wl_else, vu_eq, vu_ne, pz_wi_gc, pz_wi_ga, pz_wi_gn, pz_wi_gl, pz_wi_gr, pz_wi_same, pz_wi_X, pz_wl_gc, pz_wl_ga, pz_wl_gn, pz_wl_gi, pz_wl_gr, pz_wl_same, pz_wl_X, pz_wr_gc, pz_wr_ga, pz_wr_gn, pz_wr_gi, pz_wr_gl, pz_wr_same, pz_wr_X, c40, d41', d43', e1])
            (try refine po_gI (by first | exact pz_in_nI (by omega) (by decide) | decide | assumption) ?_)
            exact po_ret k
  refine pm_ent (L := [some (.ref 39), some (.int (nI b)), some (.int v), none, none, none]) rfl (Nat.le_of_ble_eq_true rfl) ?_
  refine pw_blk (mi := mz_248) (b := bz_248_0) rfl rfl ?_
  simp only [bz_248_0, pz_cut_t, pz_cut_f, pz_cut_n, pv_gt, pv_ts, pv_tn, ev_ild1, ev_bp24, ev_imul, ev_ist3n, ev_ist3i, ev_ist3r, ev_ist3e, ev_ist3l, ev_ald0, ev_eld0, ev_gf1_2, ea_iald, ev_ist4n, ev_ist4i, ev_ist4r, ev_ist4e, ev_ist4l, ev_ild3, ev_ist5n, ev_ist5i, ev_ist5r, ev_ist5e, ev_ist5l, ev_nil, pz_wi_gc, pz_wi_ga, pz_wi_gn, pz_wi_gl, pz_wi_gr, pz_wi_same, pz_wi_X, pz_wl_gc, pz_wl_ga, pz_wl_gn, pz_wl_gi, pz_wl_gr, pz_wl_same, pz_wl_X, pz_wr_gc, pz_wr_ga, pz_wr_gn, pz_wr_gi, pz_wr_gl, pz_wr_same, pz_wr_X, so_39 hS, sr_39_5 hS, sa_44 hS, sn_44 hS, w44, sa_40 hS, sn_40 hS, sa_43 hS, sn_43 hS, sa_41 hS, sn_41 hS]
  (try simp (disch := omega) only [nI_clamp, pz_in_nI2, pz_in_nI2L, pv_gt, nI_add, nI_addL, nI_Ladd, pk_mul, nI_mulL, nI_Lmul, pk_sub, nI_subL, nI_Lsub, nI_inc, nI_clampL, Nat.add_sub_cancel, pz_wi_else, pz_wl_else, vu_eq, vu_ne, pz_wi_gc, pz_wi_ga, pz_wi_gn, pz_wi_gl, pz_wi_gr, pz_wi_same, pz_wi_X, pz_wl_gc, pz_wl_ga, pz_wl_gn, pz_wl_gi, pz_wl_gr, pz_wl_same, pz_wl_X, pz_wr_gc, pz_wr_ga, pz_wr_gn, pz_wr_gi, pz_wr_gl, pz_wr_same, pz_wr_X, w44])
  (try refine po_gI (by first | exact pz_in_nI (by omega) (by decide) | decide | assumption) ?_)
  refine po_go ?_
  exact key (cnt (pj al b) B) 0 (by omega) k
/-- the counts behind a stop -/
def stC (er b : Nat) (D : Option Nat) (c : Nat → Int32) : Nat → Int32 := match D with
  | none => va_up (va_up c 2 (c 2 + 1)) 4 (c 4 + 1)
  | some dd => va_up (if er < dd - b then va_up (va_up c 2 (c 2 + 1)) 4 (c 4 + 1) else va_up c 2 (c 2 + 1)) 3 (c 3 + 1)
theorem m_stopAt (hd : 2 ≤ d) {B sv er b D : Nat} {c : Nat → Int32} (hS : SH M) (b1 : gi M 4 0 = nI B) (hB : B ≤ 24) (hsv : gi M 17 4 = nI sv) (sv2 : sv ≤ 24) (her : gi M 17 5 = nI er) (he : er ≤ 24) (hb : b < B) (hD : D < 2 ^ 24) (e4 : gi M 33 4 = nI D) (hc : gi M 51 = c) (k : ∀ M', sm [51] M M' → gi M' 51 = (match drF D.testBit sv B b with | none => va_up (stC er b none c) 0 2 | some dd => stC er b (some dd) c) → Q (some (.int (oI (drF D.testBit sv B b))), M')) : pm d 247 [.ref 50, .int (nI b)] M Q := by
  have hp : ∀ i, i < B → dbt (nI D) i = bI (D.testBit i) := fun i hi => dbt_nI hD (by omega)
  have hdo := fun Q' q' => m_doorFor (d := d - 1) (Q := Q') (M := M) (b := b) hS b1 hB hsv sv2 (by omega) hp q'
  have hdr : ∀ dd, drF D.testBit sv B b = some dd → b ≤ dd ∧ dd < 24 := fun dd hd => by
    have := dor_lt _ _ _ hd
    omega
  have e : dor D.testBit sv b (B - (b + 1)) (b + 1) = drF D.testBit sv B b := rfl
  rw [e] at hdo
  generalize hv : drF D.testBit sv B b = v at hdo hdr k
  have hS2 : SH (pz_wi M 51 (va_up c 2 (c 2 + 1))) := hS.sm (K := [51]) (sm.wi sm.rf (by simp))
  cases v with
  | none =>
    refine pm_ent (L := [some (.ref 50), some (.int (nI b)), none]) rfl (Nat.le_of_ble_eq_true rfl) ?_
    refine pw_blk (mi := mz_247) (b := bz_247_0) rfl rfl ?_
    simp only [bz_247_0, pz_cut_t, pz_cut_f, pz_cut_n, pv_gt, pv_ts, pv_tn, ev_ald0, ev_eld0, ev_gf5_2, ev_ild1, ev_gf3_0, ev_cv2_8, pz_wi_gc, pz_wi_ga, pz_wi_gn, pz_wi_gl, pz_wi_gr, pz_wi_same, pz_wi_X, pz_wl_gc, pz_wl_ga, pz_wl_gn, pz_wl_gi, pz_wl_gr, pz_wl_same, pz_wl_X, pz_wr_gc, pz_wr_ga, pz_wr_gn, pz_wr_gi, pz_wr_gl, pz_wr_same, pz_wr_X, so_50 hS, sr_50_0 hS, so_4 hS, sr_50_1 hS, so_33 hS, e4, hc, oI]
    (try simp (disch := omega) only [nI_clamp, pz_in_nI2, pz_in_nI2L, pv_gt, nI_add, nI_addL, nI_Ladd, pk_mul, nI_mulL, nI_Lmul, pk_sub, nI_subL, nI_Lsub, nI_inc, nI_clampL, Nat.add_sub_cancel, pz_wi_else, pz_wl_else, vu_eq, vu_ne, pz_wi_gc, pz_wi_ga, pz_wi_gn, pz_wi_gl, pz_wi_gr, pz_wi_same, pz_wi_X, pz_wl_gc, pz_wl_ga, pz_wl_gn, pz_wl_gi, pz_wl_gr, pz_wl_same, pz_wl_X, pz_wr_gc, pz_wr_ga, pz_wr_gn, pz_wr_gi, pz_wr_gl, pz_wr_same, pz_wr_X, e4, hc, oI])
    (try refine po_gP (Nat.le_of_ble_eq_true rfl) ?_)
    refine po_call (by omega) (hdo _ ?_)
    refine pw_blk (mi := mz_247) (b := bz_247_15) rfl rfl ?_
    simp only [bz_247_15, pz_cut_t, pz_cut_f, pz_cut_n, pv_gt, pv_ts, pv_tn, ev_ist2n, ev_ist2i, ev_ist2r, ev_ist2e, ev_ist2l, ev_ald0, ev_eld0, ev_gf5_2, ev_ic2, ev_dup2, ea_iald, ev_ic1, ev_iadd, ea_iast, ev_ild1, ev_ild2, ev_cv2_1, pz_wi_gc, pz_wi_ga, pz_wi_gn, pz_wi_gl, pz_wi_gr, pz_wi_same, pz_wi_X, pz_wl_gc, pz_wl_ga, pz_wl_gn, pz_wl_gi, pz_wl_gr, pz_wl_same, pz_wl_X, pz_wr_gc, pz_wr_ga, pz_wr_gn, pz_wr_gi, pz_wr_gl, pz_wr_same, pz_wr_X, so_50 hS, sr_50_3 hS, sa_51 hS, sn_51 hS, sr_50_2 hS, so_39 hS, e4, hc, oI]
    (try simp (disch := omega) only [nI_clamp, pz_in_nI2, pz_in_nI2L, pv_gt, nI_add, nI_addL, nI_Ladd, pk_mul, nI_mulL, nI_Lmul, pk_sub, nI_subL, nI_Lsub, nI_inc, nI_clampL, Nat.add_sub_cancel, pz_wi_else, pz_wl_else, vu_eq, vu_ne, pz_wi_gc, pz_wi_ga, pz_wi_gn, pz_wi_gl, pz_wi_gr, pz_wi_same, pz_wi_X, pz_wl_gc, pz_wl_ga, pz_wl_gn, pz_wl_gi, pz_wl_gr, pz_wl_same, pz_wl_X, pz_wr_gc, pz_wr_ga, pz_wr_gn, pz_wr_gi, pz_wr_gl, pz_wr_same, pz_wr_X, e4, hc, oI])
    (try refine po_gI (by first | exact pz_in_nI (by omega) (by decide) | decide | assumption) ?_)
    (try refine po_gI (by first | exact pz_in_nI (by omega) (by decide) | decide | assumption) ?_)
    (try refine po_gP (Nat.le_of_ble_eq_true rfl) ?_)
    refine po_call (by omega) (m_isHeard (D := none) hS2 her he (by omega) (fun d hd => by cases hd) ?_)
    refine pw_blk (mi := mz_247) (b := bz_247_35) rfl rfl ?_
    simp only [bz_247_35, pz_cut_t, pz_cut_f, pz_cut_n, pv_gt, pv_ts, pv_tn, ev_ifeq, pz_wi_gc, pz_wi_ga, pz_wi_gn, pz_wi_gl, pz_wi_gr, pz_wi_same, pz_wi_X, pz_wl_gc, pz_wl_ga, pz_wl_gn, pz_wl_gi, pz_wl_gr, pz_wl_same, pz_wl_X, pz_wr_gc, pz_wr_ga, pz_wr_gn, pz_wr_gi, pz_wr_gl, pz_wr_same, pz_wr_X, e4, hc, oI]
    (try simp (disch := omega) only [nI_clamp, pz_in_nI2, pz_in_nI2L, pv_gt, nI_add, nI_addL, nI_Ladd, pk_mul, nI_mulL, nI_Lmul, pk_sub, nI_subL, nI_Lsub, nI_inc, nI_clampL, Nat.add_sub_cancel, pz_wi_else, pz_wl_else, vu_eq, vu_ne, pz_wi_gc, pz_wi_ga, pz_wi_gn, pz_wi_gl, pz_wi_gr, pz_wi_same, pz_wi_X, pz_wl_gc, pz_wl_ga, pz_wl_gn, pz_wl_gi, pz_wl_gr, pz_wl_same, pz_wl_X, pz_wr_gc, pz_wr_ga, pz_wr_gn, pz_wr_gi, pz_wr_gl, pz_wr_same, pz_wr_X, e4, hc, oI])
    refine po_brP (fun q35 => ?_) (fun q35 => ?_)
    · first
      | exact absurd q35 (by decide)
      | exact absurd trivial q35
      | exact q35.elim
      | (exfalso; (try simp (disch := omega) only [nI_ltI, nI_leI, nI_eq, nI_ltL, nI_leL, nI_eqL, nI_Llt, nI_Lle, nI_Leq, nI_eqm, nI_meq, nI_ltm, nI_lem, nI_mlt, nI_mle, lg0, lgl, lgg, lgle, lgge, Int32.not_lt, Int32.not_le, Int64.not_lt, Int64.not_le, not_false_eq_true, not_true_eq_false, Decidable.not_not, ge_iff_le, gt_iff_lt] at q35) <;> omega)
      | exact absurd q35 (by with_reducible assumption)
      | exact absurd (by with_reducible assumption) q35
      | exact absurd (Decidable.not_not.mp q35) (by with_reducible assumption)
      | exact absurd (by with_reducible assumption) (Int32.not_le.mpr q35)
      | exact absurd (by with_reducible assumption) (Int32.not_lt.mpr q35)
    · skip
      (try simp (disch := omega) only [nI_ltI, nI_leI, nI_eq, nI_ltL, nI_leL, nI_eqL, nI_Llt, nI_Lle, nI_Leq, nI_eqm, nI_meq, nI_ltm, nI_lem, nI_mlt, nI_mle, lg0, lgl, lgg, lgle, lgge, Int32.not_lt, Int32.not_le, Int64.not_lt, Int64.not_le, not_false_eq_true, not_true_eq_false, Decidable.not_not, ge_iff_le, gt_iff_lt] at q35)
      refine pw_blk (mi := mz_247) (b := bz_247_38) rfl rfl ?_
      simp only [bz_247_38, pz_cut_t, pz_cut_f, pz_cut_n, pv_gt, pv_ts, pv_tn, ev_ald0, ev_eld0, ev_gf5_2, ev_ic4, ev_dup2, ea_iald, ev_ic1, ev_iadd, ea_iast, ev_nil, pz_wi_gc, pz_wi_ga, pz_wi_gn, pz_wi_gl, pz_wi_gr, pz_wi_same, pz_wi_X, pz_wl_gc, pz_wl_ga, pz_wl_gn, pz_wl_gi, pz_wl_gr, pz_wl_same, pz_wl_X, pz_wr_gc, pz_wr_ga, pz_wr_gn, pz_wr_gi, pz_wr_gl, pz_wr_same, pz_wr_X, so_50 hS, sr_50_3 hS, sa_51 hS, sn_51 hS, e4, hc, oI]
      (try simp (disch := omega) only [nI_clamp, pz_in_nI2, pz_in_nI2L, pv_gt, nI_add, nI_addL, nI_Ladd, pk_mul, nI_mulL, nI_Lmul, pk_sub, nI_subL, nI_Lsub, nI_inc, nI_clampL, Nat.add_sub_cancel, pz_wi_else, pz_wl_else, vu_eq, vu_ne, pz_wi_gc, pz_wi_ga, pz_wi_gn, pz_wi_gl, pz_wi_gr, pz_wi_same, pz_wi_X, pz_wl_gc, pz_wl_ga, pz_wl_gn, pz_wl_gi, pz_wl_gr, pz_wl_same, pz_wl_X, pz_wr_gc, pz_wr_ga, pz_wr_gn, pz_wr_gi, pz_wr_gl, pz_wr_same, pz_wr_X, e4, hc, oI])
      (try refine po_gI (by first | exact pz_in_nI (by omega) (by decide) | decide | assumption) ?_)
      (try refine po_gI (by first | exact pz_in_nI (by omega) (by decide) | decide | assumption) ?_)
      refine po_go ?_
      refine pw_blk (mi := mz_247) (b := bz_247_48) rfl rfl ?_
      simp only [bz_247_48, pz_cut_t, pz_cut_f, pz_cut_n, pv_gt, pv_ts, pv_tn, ev_ild2, ev_icm1, ev_ic_ne, pz_wi_gc, pz_wi_ga, pz_wi_gn, pz_wi_gl, pz_wi_gr, pz_wi_same, pz_wi_X, pz_wl_gc, pz_wl_ga, pz_wl_gn, pz_wl_gi, pz_wl_gr, pz_wl_same, pz_wl_X, pz_wr_gc, pz_wr_ga, pz_wr_gn, pz_wr_gi, pz_wr_gl, pz_wr_same, pz_wr_X, e4, hc, oI]
      (try simp (disch := omega) only [nI_clamp, pz_in_nI2, pz_in_nI2L, pv_gt, nI_add, nI_addL, nI_Ladd, pk_mul, nI_mulL, nI_Lmul, pk_sub, nI_subL, nI_Lsub, nI_inc, nI_clampL, Nat.add_sub_cancel, pz_wi_else, pz_wl_else, vu_eq, vu_ne, pz_wi_gc, pz_wi_ga, pz_wi_gn, pz_wi_gl, pz_wi_gr, pz_wi_same, pz_wi_X, pz_wl_gc, pz_wl_ga, pz_wl_gn, pz_wl_gi, pz_wl_gr, pz_wl_same, pz_wl_X, pz_wr_gc, pz_wr_ga, pz_wr_gn, pz_wr_gi, pz_wr_gl, pz_wr_same, pz_wr_X, e4, hc, oI])
      refine po_brP (fun q48 => ?_) (fun q48 => ?_)
      · first
        | exact absurd q48 (by decide)
        | exact absurd trivial q48
        | exact q48.elim
        | (exfalso; (try simp (disch := omega) only [nI_ltI, nI_leI, nI_eq, nI_ltL, nI_leL, nI_eqL, nI_Llt, nI_Lle, nI_Leq, nI_eqm, nI_meq, nI_ltm, nI_lem, nI_mlt, nI_mle, lg0, lgl, lgg, lgle, lgge, Int32.not_lt, Int32.not_le, Int64.not_lt, Int64.not_le, not_false_eq_true, not_true_eq_false, Decidable.not_not, ge_iff_le, gt_iff_lt] at q48) <;> omega)
        | exact absurd q48 (by with_reducible assumption)
        | exact absurd (by with_reducible assumption) q48
        | exact absurd (Decidable.not_not.mp q48) (by with_reducible assumption)
        | exact absurd (by with_reducible assumption) (Int32.not_le.mpr q48)
        | exact absurd (by with_reducible assumption) (Int32.not_lt.mpr q48)
      · skip
        (try simp (disch := omega) only [nI_ltI, nI_leI, nI_eq, nI_ltL, nI_leL, nI_eqL, nI_Llt, nI_Lle, nI_Leq, nI_eqm, nI_meq, nI_ltm, nI_lem, nI_mlt, nI_mle, lg0, lgl, lgg, lgle, lgge, Int32.not_lt, Int32.not_le, Int64.not_lt, Int64.not_le, not_false_eq_true, not_true_eq_false, Decidable.not_not, ge_iff_le, gt_iff_lt] at q48)
        refine pw_blk (mi := mz_247) (b := bz_247_53) rfl rfl ?_
        simp only [bz_247_53, pz_cut_t, pz_cut_f, pz_cut_n, pv_gt, pv_ts, pv_tn, ev_ald0, ev_eld0, ev_gf5_2, ev_ic0, ev_ic2, ea_iast, ev_goto, pz_wi_gc, pz_wi_ga, pz_wi_gn, pz_wi_gl, pz_wi_gr, pz_wi_same, pz_wi_X, pz_wl_gc, pz_wl_ga, pz_wl_gn, pz_wl_gi, pz_wl_gr, pz_wl_same, pz_wl_X, pz_wr_gc, pz_wr_ga, pz_wr_gn, pz_wr_gi, pz_wr_gl, pz_wr_same, pz_wr_X, so_50 hS, sr_50_3 hS, sa_51 hS, sn_51 hS, e4, hc, oI]
        (try simp (disch := omega) only [nI_clamp, pz_in_nI2, pz_in_nI2L, pv_gt, nI_add, nI_addL, nI_Ladd, pk_mul, nI_mulL, nI_Lmul, pk_sub, nI_subL, nI_Lsub, nI_inc, nI_clampL, Nat.add_sub_cancel, pz_wi_else, pz_wl_else, vu_eq, vu_ne, pz_wi_gc, pz_wi_ga, pz_wi_gn, pz_wi_gl, pz_wi_gr, pz_wi_same, pz_wi_X, pz_wl_gc, pz_wl_ga, pz_wl_gn, pz_wl_gi, pz_wl_gr, pz_wl_same, pz_wl_X, pz_wr_gc, pz_wr_ga, pz_wr_gn, pz_wr_gi, pz_wr_gl, pz_wr_same, pz_wr_X, e4, hc, oI])
        (try refine po_gI (by first | exact pz_in_nI (by omega) (by decide) | decide | assumption) ?_)
        refine po_go ?_
        refine pw_blk (mi := mz_247) (b := bz_247_73) rfl rfl ?_
        simp only [bz_247_73, pz_cut_t, pz_cut_f, pz_cut_n, pv_gt, pv_ts, pv_tn, ev_ild2, ev_iret0, pz_wi_gc, pz_wi_ga, pz_wi_gn, pz_wi_gl, pz_wi_gr, pz_wi_same, pz_wi_X, pz_wl_gc, pz_wl_ga, pz_wl_gn, pz_wl_gi, pz_wl_gr, pz_wl_same, pz_wl_X, pz_wr_gc, pz_wr_ga, pz_wr_gn, pz_wr_gi, pz_wr_gl, pz_wr_same, pz_wr_X, e4, hc, oI]
        (try simp (disch := omega) only [nI_clamp, pz_in_nI2, pz_in_nI2L, pv_gt, nI_add, nI_addL, nI_Ladd, pk_mul, nI_mulL, nI_Lmul, pk_sub, nI_subL, nI_Lsub, nI_inc, nI_clampL, Nat.add_sub_cancel, pz_wi_else, pz_wl_else, vu_eq, vu_ne, pz_wi_gc, pz_wi_ga, pz_wi_gn, pz_wi_gl, pz_wi_gr, pz_wi_same, pz_wi_X, pz_wl_gc, pz_wl_ga, pz_wl_gn, pz_wl_gi, pz_wl_gr, pz_wl_same, pz_wl_X, pz_wr_gc, pz_wr_ga, pz_wr_gn, pz_wr_gi, pz_wr_gl, pz_wr_same, pz_wr_X, e4, hc, oI])
        refine po_ret (k _ (sm.wi (sm.wi (sm.wi sm.rf (by simp)) (by simp)) (by simp)) ?_)
        rw [pz_wi_same]
        rfl
  | some dd =>
    obtain ⟨h1, h2⟩ := hdr dd rfl
    simp only [stC] at k
    by_cases hcc : er < dd - b
    · rw [if_pos hcc] at k
      have hdec : decide (er < dd - b) = true := decide_eq_true hcc
      refine pm_ent (L := [some (.ref 50), some (.int (nI b)), none]) rfl (Nat.le_of_ble_eq_true rfl) ?_
      refine pw_blk (mi := mz_247) (b := bz_247_0) rfl rfl ?_
      simp only [bz_247_0, pz_cut_t, pz_cut_f, pz_cut_n, pv_gt, pv_ts, pv_tn, ev_ald0, ev_eld0, ev_gf5_2, ev_ild1, ev_gf3_0, ev_cv2_8, pz_wi_gc, pz_wi_ga, pz_wi_gn, pz_wi_gl, pz_wi_gr, pz_wi_same, pz_wi_X, pz_wl_gc, pz_wl_ga, pz_wl_gn, pz_wl_gi, pz_wl_gr, pz_wl_same, pz_wl_X, pz_wr_gc, pz_wr_ga, pz_wr_gn, pz_wr_gi, pz_wr_gl, pz_wr_same, pz_wr_X, so_50 hS, sr_50_0 hS, so_4 hS, sr_50_1 hS, so_33 hS, e4, hc, oI, hdec, bI_t]
      (try simp (disch := omega) only [nI_clamp, pz_in_nI2, pz_in_nI2L, pv_gt, nI_add, nI_addL, nI_Ladd, pk_mul, nI_mulL, nI_Lmul, pk_sub, nI_subL, nI_Lsub, nI_inc, nI_clampL, Nat.add_sub_cancel, pz_wi_else, pz_wl_else, vu_eq, vu_ne, pz_wi_gc, pz_wi_ga, pz_wi_gn, pz_wi_gl, pz_wi_gr, pz_wi_same, pz_wi_X, pz_wl_gc, pz_wl_ga, pz_wl_gn, pz_wl_gi, pz_wl_gr, pz_wl_same, pz_wl_X, pz_wr_gc, pz_wr_ga, pz_wr_gn, pz_wr_gi, pz_wr_gl, pz_wr_same, pz_wr_X, e4, hc, oI, hdec, bI_t])
      (try refine po_gP (Nat.le_of_ble_eq_true rfl) ?_)
      refine po_call (by omega) (hdo _ ?_)
      refine pw_blk (mi := mz_247) (b := bz_247_15) rfl rfl ?_
      simp only [bz_247_15, pz_cut_t, pz_cut_f, pz_cut_n, pv_gt, pv_ts, pv_tn, ev_ist2n, ev_ist2i, ev_ist2r, ev_ist2e, ev_ist2l, ev_ald0, ev_eld0, ev_gf5_2, ev_ic2, ev_dup2, ea_iald, ev_ic1, ev_iadd, ea_iast, ev_ild1, ev_ild2, ev_cv2_1, pz_wi_gc, pz_wi_ga, pz_wi_gn, pz_wi_gl, pz_wi_gr, pz_wi_same, pz_wi_X, pz_wl_gc, pz_wl_ga, pz_wl_gn, pz_wl_gi, pz_wl_gr, pz_wl_same, pz_wl_X, pz_wr_gc, pz_wr_ga, pz_wr_gn, pz_wr_gi, pz_wr_gl, pz_wr_same, pz_wr_X, so_50 hS, sr_50_3 hS, sa_51 hS, sn_51 hS, sr_50_2 hS, so_39 hS, e4, hc, oI, hdec, bI_t]
      (try simp (disch := omega) only [nI_clamp, pz_in_nI2, pz_in_nI2L, pv_gt, nI_add, nI_addL, nI_Ladd, pk_mul, nI_mulL, nI_Lmul, pk_sub, nI_subL, nI_Lsub, nI_inc, nI_clampL, Nat.add_sub_cancel, pz_wi_else, pz_wl_else, vu_eq, vu_ne, pz_wi_gc, pz_wi_ga, pz_wi_gn, pz_wi_gl, pz_wi_gr, pz_wi_same, pz_wi_X, pz_wl_gc, pz_wl_ga, pz_wl_gn, pz_wl_gi, pz_wl_gr, pz_wl_same, pz_wl_X, pz_wr_gc, pz_wr_ga, pz_wr_gn, pz_wr_gi, pz_wr_gl, pz_wr_same, pz_wr_X, e4, hc, oI, hdec, bI_t])
      (try refine po_gI (by first | exact pz_in_nI (by omega) (by decide) | decide | assumption) ?_)
      (try refine po_gI (by first | exact pz_in_nI (by omega) (by decide) | decide | assumption) ?_)
      (try refine po_gP (Nat.le_of_ble_eq_true rfl) ?_)
      refine po_call (by omega) (m_isHeard (D := some dd) hS2 her he (by omega) (fun d hd => by cases hd; exact ⟨h1, h2⟩) ?_)
      refine pw_blk (mi := mz_247) (b := bz_247_35) rfl rfl ?_
      simp only [bz_247_35, pz_cut_t, pz_cut_f, pz_cut_n, pv_gt, pv_ts, pv_tn, ev_ifeq, pz_wi_gc, pz_wi_ga, pz_wi_gn, pz_wi_gl, pz_wi_gr, pz_wi_same, pz_wi_X, pz_wl_gc, pz_wl_ga, pz_wl_gn, pz_wl_gi, pz_wl_gr, pz_wl_same, pz_wl_X, pz_wr_gc, pz_wr_ga, pz_wr_gn, pz_wr_gi, pz_wr_gl, pz_wr_same, pz_wr_X, e4, hc, oI, hdec, bI_t]
      (try simp (disch := omega) only [nI_clamp, pz_in_nI2, pz_in_nI2L, pv_gt, nI_add, nI_addL, nI_Ladd, pk_mul, nI_mulL, nI_Lmul, pk_sub, nI_subL, nI_Lsub, nI_inc, nI_clampL, Nat.add_sub_cancel, pz_wi_else, pz_wl_else, vu_eq, vu_ne, pz_wi_gc, pz_wi_ga, pz_wi_gn, pz_wi_gl, pz_wi_gr, pz_wi_same, pz_wi_X, pz_wl_gc, pz_wl_ga, pz_wl_gn, pz_wl_gi, pz_wl_gr, pz_wl_same, pz_wl_X, pz_wr_gc, pz_wr_ga, pz_wr_gn, pz_wr_gi, pz_wr_gl, pz_wr_same, pz_wr_X, e4, hc, oI, hdec, bI_t])
      refine po_brP (fun q35 => ?_) (fun q35 => ?_)
      · first
        | exact absurd q35 (by decide)
        | exact absurd trivial q35
        | exact q35.elim
        | (exfalso; (try simp (disch := omega) only [nI_ltI, nI_leI, nI_eq, nI_ltL, nI_leL, nI_eqL, nI_Llt, nI_Lle, nI_Leq, nI_eqm, nI_meq, nI_ltm, nI_lem, nI_mlt, nI_mle, lg0, lgl, lgg, lgle, lgge, Int32.not_lt, Int32.not_le, Int64.not_lt, Int64.not_le, not_false_eq_true, not_true_eq_false, Decidable.not_not, ge_iff_le, gt_iff_lt] at q35) <;> omega)
        | exact absurd q35 (by with_reducible assumption)
        | exact absurd (by with_reducible assumption) q35
        | exact absurd (Decidable.not_not.mp q35) (by with_reducible assumption)
        | exact absurd (by with_reducible assumption) (Int32.not_le.mpr q35)
        | exact absurd (by with_reducible assumption) (Int32.not_lt.mpr q35)
      · skip
        (try simp (disch := omega) only [nI_ltI, nI_leI, nI_eq, nI_ltL, nI_leL, nI_eqL, nI_Llt, nI_Lle, nI_Leq, nI_eqm, nI_meq, nI_ltm, nI_lem, nI_mlt, nI_mle, lg0, lgl, lgg, lgle, lgge, Int32.not_lt, Int32.not_le, Int64.not_lt, Int64.not_le, not_false_eq_true, not_true_eq_false, Decidable.not_not, ge_iff_le, gt_iff_lt] at q35)
        refine pw_blk (mi := mz_247) (b := bz_247_38) rfl rfl ?_
        simp only [bz_247_38, pz_cut_t, pz_cut_f, pz_cut_n, pv_gt, pv_ts, pv_tn, ev_ald0, ev_eld0, ev_gf5_2, ev_ic4, ev_dup2, ea_iald, ev_ic1, ev_iadd, ea_iast, ev_nil, pz_wi_gc, pz_wi_ga, pz_wi_gn, pz_wi_gl, pz_wi_gr, pz_wi_same, pz_wi_X, pz_wl_gc, pz_wl_ga, pz_wl_gn, pz_wl_gi, pz_wl_gr, pz_wl_same, pz_wl_X, pz_wr_gc, pz_wr_ga, pz_wr_gn, pz_wr_gi, pz_wr_gl, pz_wr_same, pz_wr_X, so_50 hS, sr_50_3 hS, sa_51 hS, sn_51 hS, e4, hc, oI, hdec, bI_t]
        (try simp (disch := omega) only [nI_clamp, pz_in_nI2, pz_in_nI2L, pv_gt, nI_add, nI_addL, nI_Ladd, pk_mul, nI_mulL, nI_Lmul, pk_sub, nI_subL, nI_Lsub, nI_inc, nI_clampL, Nat.add_sub_cancel, pz_wi_else, pz_wl_else, vu_eq, vu_ne, pz_wi_gc, pz_wi_ga, pz_wi_gn, pz_wi_gl, pz_wi_gr, pz_wi_same, pz_wi_X, pz_wl_gc, pz_wl_ga, pz_wl_gn, pz_wl_gi, pz_wl_gr, pz_wl_same, pz_wl_X, pz_wr_gc, pz_wr_ga, pz_wr_gn, pz_wr_gi, pz_wr_gl, pz_wr_same, pz_wr_X, e4, hc, oI, hdec, bI_t])
        (try refine po_gI (by first | exact pz_in_nI (by omega) (by decide) | decide | assumption) ?_)
        (try refine po_gI (by first | exact pz_in_nI (by omega) (by decide) | decide | assumption) ?_)
        refine po_go ?_
        refine pw_blk (mi := mz_247) (b := bz_247_48) rfl rfl ?_
        simp only [bz_247_48, pz_cut_t, pz_cut_f, pz_cut_n, pv_gt, pv_ts, pv_tn, ev_ild2, ev_icm1, ev_ic_ne, pz_wi_gc, pz_wi_ga, pz_wi_gn, pz_wi_gl, pz_wi_gr, pz_wi_same, pz_wi_X, pz_wl_gc, pz_wl_ga, pz_wl_gn, pz_wl_gi, pz_wl_gr, pz_wl_same, pz_wl_X, pz_wr_gc, pz_wr_ga, pz_wr_gn, pz_wr_gi, pz_wr_gl, pz_wr_same, pz_wr_X, e4, hc, oI, hdec, bI_t]
        (try simp (disch := omega) only [nI_clamp, pz_in_nI2, pz_in_nI2L, pv_gt, nI_add, nI_addL, nI_Ladd, pk_mul, nI_mulL, nI_Lmul, pk_sub, nI_subL, nI_Lsub, nI_inc, nI_clampL, Nat.add_sub_cancel, pz_wi_else, pz_wl_else, vu_eq, vu_ne, pz_wi_gc, pz_wi_ga, pz_wi_gn, pz_wi_gl, pz_wi_gr, pz_wi_same, pz_wi_X, pz_wl_gc, pz_wl_ga, pz_wl_gn, pz_wl_gi, pz_wl_gr, pz_wl_same, pz_wl_X, pz_wr_gc, pz_wr_ga, pz_wr_gn, pz_wr_gi, pz_wr_gl, pz_wr_same, pz_wr_X, e4, hc, oI, hdec, bI_t])
        refine po_brP (fun q48 => ?_) (fun q48 => ?_)
        · skip
          (try simp (disch := omega) only [nI_ltI, nI_leI, nI_eq, nI_ltL, nI_leL, nI_eqL, nI_Llt, nI_Lle, nI_Leq, nI_eqm, nI_meq, nI_ltm, nI_lem, nI_mlt, nI_mle, lg0, lgl, lgg, lgle, lgge, Int32.not_lt, Int32.not_le, Int64.not_lt, Int64.not_le, not_false_eq_true, not_true_eq_false, Decidable.not_not, ge_iff_le, gt_iff_lt] at q48)
          refine pw_blk (mi := mz_247) (b := bz_247_63) rfl rfl ?_
          simp only [bz_247_63, pz_cut_t, pz_cut_f, pz_cut_n, pv_gt, pv_ts, pv_tn, ev_ald0, ev_eld0, ev_gf5_2, ev_ic3, ev_dup2, ea_iald, ev_ic1, ev_iadd, ea_iast, ev_nil, pz_wi_gc, pz_wi_ga, pz_wi_gn, pz_wi_gl, pz_wi_gr, pz_wi_same, pz_wi_X, pz_wl_gc, pz_wl_ga, pz_wl_gn, pz_wl_gi, pz_wl_gr, pz_wl_same, pz_wl_X, pz_wr_gc, pz_wr_ga, pz_wr_gn, pz_wr_gi, pz_wr_gl, pz_wr_same, pz_wr_X, so_50 hS, sr_50_3 hS, sa_51 hS, sn_51 hS, e4, hc, oI, hdec, bI_t]
          (try simp (disch := omega) only [nI_clamp, pz_in_nI2, pz_in_nI2L, pv_gt, nI_add, nI_addL, nI_Ladd, pk_mul, nI_mulL, nI_Lmul, pk_sub, nI_subL, nI_Lsub, nI_inc, nI_clampL, Nat.add_sub_cancel, pz_wi_else, pz_wl_else, vu_eq, vu_ne, pz_wi_gc, pz_wi_ga, pz_wi_gn, pz_wi_gl, pz_wi_gr, pz_wi_same, pz_wi_X, pz_wl_gc, pz_wl_ga, pz_wl_gn, pz_wl_gi, pz_wl_gr, pz_wl_same, pz_wl_X, pz_wr_gc, pz_wr_ga, pz_wr_gn, pz_wr_gi, pz_wr_gl, pz_wr_same, pz_wr_X, e4, hc, oI, hdec, bI_t])
          (try refine po_gI (by first | exact pz_in_nI (by omega) (by decide) | decide | assumption) ?_)
          (try refine po_gI (by first | exact pz_in_nI (by omega) (by decide) | decide | assumption) ?_)
          refine po_go ?_
          refine pw_blk (mi := mz_247) (b := bz_247_73) rfl rfl ?_
          simp only [bz_247_73, pz_cut_t, pz_cut_f, pz_cut_n, pv_gt, pv_ts, pv_tn, ev_ild2, ev_iret0, pz_wi_gc, pz_wi_ga, pz_wi_gn, pz_wi_gl, pz_wi_gr, pz_wi_same, pz_wi_X, pz_wl_gc, pz_wl_ga, pz_wl_gn, pz_wl_gi, pz_wl_gr, pz_wl_same, pz_wl_X, pz_wr_gc, pz_wr_ga, pz_wr_gn, pz_wr_gi, pz_wr_gl, pz_wr_same, pz_wr_X, e4, hc, oI, hdec, bI_t]
          (try simp (disch := omega) only [nI_clamp, pz_in_nI2, pz_in_nI2L, pv_gt, nI_add, nI_addL, nI_Ladd, pk_mul, nI_mulL, nI_Lmul, pk_sub, nI_subL, nI_Lsub, nI_inc, nI_clampL, Nat.add_sub_cancel, pz_wi_else, pz_wl_else, vu_eq, vu_ne, pz_wi_gc, pz_wi_ga, pz_wi_gn, pz_wi_gl, pz_wi_gr, pz_wi_same, pz_wi_X, pz_wl_gc, pz_wl_ga, pz_wl_gn, pz_wl_gi, pz_wl_gr, pz_wl_same, pz_wl_X, pz_wr_gc, pz_wr_ga, pz_wr_gn, pz_wr_gi, pz_wr_gl, pz_wr_same, pz_wr_X, e4, hc, oI, hdec, bI_t])
          refine po_ret (k _ (sm.wi (sm.wi (sm.wi sm.rf (by simp)) (by simp)) (by simp)) ?_)
          rw [pz_wi_same]
        · first
          | exact absurd q48 (by decide)
          | exact absurd trivial q48
          | exact q48.elim
          | (exfalso; (try simp (disch := omega) only [nI_ltI, nI_leI, nI_eq, nI_ltL, nI_leL, nI_eqL, nI_Llt, nI_Lle, nI_Leq, nI_eqm, nI_meq, nI_ltm, nI_lem, nI_mlt, nI_mle, lg0, lgl, lgg, lgle, lgge, Int32.not_lt, Int32.not_le, Int64.not_lt, Int64.not_le, not_false_eq_true, not_true_eq_false, Decidable.not_not, ge_iff_le, gt_iff_lt] at q48) <;> omega)
          | exact absurd q48 (by with_reducible assumption)
          | exact absurd (by with_reducible assumption) q48
          | exact absurd (Decidable.not_not.mp q48) (by with_reducible assumption)
          | exact absurd (by with_reducible assumption) (Int32.not_le.mpr q48)
          | exact absurd (by with_reducible assumption) (Int32.not_lt.mpr q48)
    · rw [if_neg hcc] at k
      have hdec : decide (er < dd - b) = false := decide_eq_false hcc
      refine pm_ent (L := [some (.ref 50), some (.int (nI b)), none]) rfl (Nat.le_of_ble_eq_true rfl) ?_
      refine pw_blk (mi := mz_247) (b := bz_247_0) rfl rfl ?_
      simp only [bz_247_0, pz_cut_t, pz_cut_f, pz_cut_n, pv_gt, pv_ts, pv_tn, ev_ald0, ev_eld0, ev_gf5_2, ev_ild1, ev_gf3_0, ev_cv2_8, pz_wi_gc, pz_wi_ga, pz_wi_gn, pz_wi_gl, pz_wi_gr, pz_wi_same, pz_wi_X, pz_wl_gc, pz_wl_ga, pz_wl_gn, pz_wl_gi, pz_wl_gr, pz_wl_same, pz_wl_X, pz_wr_gc, pz_wr_ga, pz_wr_gn, pz_wr_gi, pz_wr_gl, pz_wr_same, pz_wr_X, so_50 hS, sr_50_0 hS, so_4 hS, sr_50_1 hS, so_33 hS, e4, hc, oI, hdec, bI_f]
      (try simp (disch := omega) only [nI_clamp, pz_in_nI2, pz_in_nI2L, pv_gt, nI_add, nI_addL, nI_Ladd, pk_mul, nI_mulL, nI_Lmul, pk_sub, nI_subL, nI_Lsub, nI_inc, nI_clampL, Nat.add_sub_cancel, pz_wi_else, pz_wl_else, vu_eq, vu_ne, pz_wi_gc, pz_wi_ga, pz_wi_gn, pz_wi_gl, pz_wi_gr, pz_wi_same, pz_wi_X, pz_wl_gc, pz_wl_ga, pz_wl_gn, pz_wl_gi, pz_wl_gr, pz_wl_same, pz_wl_X, pz_wr_gc, pz_wr_ga, pz_wr_gn, pz_wr_gi, pz_wr_gl, pz_wr_same, pz_wr_X, e4, hc, oI, hdec, bI_f])
      (try refine po_gP (Nat.le_of_ble_eq_true rfl) ?_)
      refine po_call (by omega) (hdo _ ?_)
      refine pw_blk (mi := mz_247) (b := bz_247_15) rfl rfl ?_
      simp only [bz_247_15, pz_cut_t, pz_cut_f, pz_cut_n, pv_gt, pv_ts, pv_tn, ev_ist2n, ev_ist2i, ev_ist2r, ev_ist2e, ev_ist2l, ev_ald0, ev_eld0, ev_gf5_2, ev_ic2, ev_dup2, ea_iald, ev_ic1, ev_iadd, ea_iast, ev_ild1, ev_ild2, ev_cv2_1, pz_wi_gc, pz_wi_ga, pz_wi_gn, pz_wi_gl, pz_wi_gr, pz_wi_same, pz_wi_X, pz_wl_gc, pz_wl_ga, pz_wl_gn, pz_wl_gi, pz_wl_gr, pz_wl_same, pz_wl_X, pz_wr_gc, pz_wr_ga, pz_wr_gn, pz_wr_gi, pz_wr_gl, pz_wr_same, pz_wr_X, so_50 hS, sr_50_3 hS, sa_51 hS, sn_51 hS, sr_50_2 hS, so_39 hS, e4, hc, oI, hdec, bI_f]
      (try simp (disch := omega) only [nI_clamp, pz_in_nI2, pz_in_nI2L, pv_gt, nI_add, nI_addL, nI_Ladd, pk_mul, nI_mulL, nI_Lmul, pk_sub, nI_subL, nI_Lsub, nI_inc, nI_clampL, Nat.add_sub_cancel, pz_wi_else, pz_wl_else, vu_eq, vu_ne, pz_wi_gc, pz_wi_ga, pz_wi_gn, pz_wi_gl, pz_wi_gr, pz_wi_same, pz_wi_X, pz_wl_gc, pz_wl_ga, pz_wl_gn, pz_wl_gi, pz_wl_gr, pz_wl_same, pz_wl_X, pz_wr_gc, pz_wr_ga, pz_wr_gn, pz_wr_gi, pz_wr_gl, pz_wr_same, pz_wr_X, e4, hc, oI, hdec, bI_f])
      (try refine po_gI (by first | exact pz_in_nI (by omega) (by decide) | decide | assumption) ?_)
      (try refine po_gI (by first | exact pz_in_nI (by omega) (by decide) | decide | assumption) ?_)
      (try refine po_gP (Nat.le_of_ble_eq_true rfl) ?_)
      refine po_call (by omega) (m_isHeard (D := some dd) hS2 her he (by omega) (fun d hd => by cases hd; exact ⟨h1, h2⟩) ?_)
      refine pw_blk (mi := mz_247) (b := bz_247_35) rfl rfl ?_
      simp only [bz_247_35, pz_cut_t, pz_cut_f, pz_cut_n, pv_gt, pv_ts, pv_tn, ev_ifeq, pz_wi_gc, pz_wi_ga, pz_wi_gn, pz_wi_gl, pz_wi_gr, pz_wi_same, pz_wi_X, pz_wl_gc, pz_wl_ga, pz_wl_gn, pz_wl_gi, pz_wl_gr, pz_wl_same, pz_wl_X, pz_wr_gc, pz_wr_ga, pz_wr_gn, pz_wr_gi, pz_wr_gl, pz_wr_same, pz_wr_X, e4, hc, oI, hdec, bI_f]
      (try simp (disch := omega) only [nI_clamp, pz_in_nI2, pz_in_nI2L, pv_gt, nI_add, nI_addL, nI_Ladd, pk_mul, nI_mulL, nI_Lmul, pk_sub, nI_subL, nI_Lsub, nI_inc, nI_clampL, Nat.add_sub_cancel, pz_wi_else, pz_wl_else, vu_eq, vu_ne, pz_wi_gc, pz_wi_ga, pz_wi_gn, pz_wi_gl, pz_wi_gr, pz_wi_same, pz_wi_X, pz_wl_gc, pz_wl_ga, pz_wl_gn, pz_wl_gi, pz_wl_gr, pz_wl_same, pz_wl_X, pz_wr_gc, pz_wr_ga, pz_wr_gn, pz_wr_gi, pz_wr_gl, pz_wr_same, pz_wr_X, e4, hc, oI, hdec, bI_f])
      refine po_brP (fun q35 => ?_) (fun q35 => ?_)
      · skip
        (try simp (disch := omega) only [nI_ltI, nI_leI, nI_eq, nI_ltL, nI_leL, nI_eqL, nI_Llt, nI_Lle, nI_Leq, nI_eqm, nI_meq, nI_ltm, nI_lem, nI_mlt, nI_mle, lg0, lgl, lgg, lgle, lgge, Int32.not_lt, Int32.not_le, Int64.not_lt, Int64.not_le, not_false_eq_true, not_true_eq_false, Decidable.not_not, ge_iff_le, gt_iff_lt] at q35)
        refine pw_blk (mi := mz_247) (b := bz_247_48) rfl rfl ?_
        simp only [bz_247_48, pz_cut_t, pz_cut_f, pz_cut_n, pv_gt, pv_ts, pv_tn, ev_ild2, ev_icm1, ev_ic_ne, pz_wi_gc, pz_wi_ga, pz_wi_gn, pz_wi_gl, pz_wi_gr, pz_wi_same, pz_wi_X, pz_wl_gc, pz_wl_ga, pz_wl_gn, pz_wl_gi, pz_wl_gr, pz_wl_same, pz_wl_X, pz_wr_gc, pz_wr_ga, pz_wr_gn, pz_wr_gi, pz_wr_gl, pz_wr_same, pz_wr_X, e4, hc, oI, hdec, bI_f]
        (try simp (disch := omega) only [nI_clamp, pz_in_nI2, pz_in_nI2L, pv_gt, nI_add, nI_addL, nI_Ladd, pk_mul, nI_mulL, nI_Lmul, pk_sub, nI_subL, nI_Lsub, nI_inc, nI_clampL, Nat.add_sub_cancel, pz_wi_else, pz_wl_else, vu_eq, vu_ne, pz_wi_gc, pz_wi_ga, pz_wi_gn, pz_wi_gl, pz_wi_gr, pz_wi_same, pz_wi_X, pz_wl_gc, pz_wl_ga, pz_wl_gn, pz_wl_gi, pz_wl_gr, pz_wl_same, pz_wl_X, pz_wr_gc, pz_wr_ga, pz_wr_gn, pz_wr_gi, pz_wr_gl, pz_wr_same, pz_wr_X, e4, hc, oI, hdec, bI_f])
        refine po_brP (fun q48 => ?_) (fun q48 => ?_)
        · skip
          (try simp (disch := omega) only [nI_ltI, nI_leI, nI_eq, nI_ltL, nI_leL, nI_eqL, nI_Llt, nI_Lle, nI_Leq, nI_eqm, nI_meq, nI_ltm, nI_lem, nI_mlt, nI_mle, lg0, lgl, lgg, lgle, lgge, Int32.not_lt, Int32.not_le, Int64.not_lt, Int64.not_le, not_false_eq_true, not_true_eq_false, Decidable.not_not, ge_iff_le, gt_iff_lt] at q48)
          refine pw_blk (mi := mz_247) (b := bz_247_63) rfl rfl ?_
          simp only [bz_247_63, pz_cut_t, pz_cut_f, pz_cut_n, pv_gt, pv_ts, pv_tn, ev_ald0, ev_eld0, ev_gf5_2, ev_ic3, ev_dup2, ea_iald, ev_ic1, ev_iadd, ea_iast, ev_nil, pz_wi_gc, pz_wi_ga, pz_wi_gn, pz_wi_gl, pz_wi_gr, pz_wi_same, pz_wi_X, pz_wl_gc, pz_wl_ga, pz_wl_gn, pz_wl_gi, pz_wl_gr, pz_wl_same, pz_wl_X, pz_wr_gc, pz_wr_ga, pz_wr_gn, pz_wr_gi, pz_wr_gl, pz_wr_same, pz_wr_X, so_50 hS, sr_50_3 hS, sa_51 hS, sn_51 hS, e4, hc, oI, hdec, bI_f]
          (try simp (disch := omega) only [nI_clamp, pz_in_nI2, pz_in_nI2L, pv_gt, nI_add, nI_addL, nI_Ladd, pk_mul, nI_mulL, nI_Lmul, pk_sub, nI_subL, nI_Lsub, nI_inc, nI_clampL, Nat.add_sub_cancel, pz_wi_else, pz_wl_else, vu_eq, vu_ne, pz_wi_gc, pz_wi_ga, pz_wi_gn, pz_wi_gl, pz_wi_gr, pz_wi_same, pz_wi_X, pz_wl_gc, pz_wl_ga, pz_wl_gn, pz_wl_gi, pz_wl_gr, pz_wl_same, pz_wl_X, pz_wr_gc, pz_wr_ga, pz_wr_gn, pz_wr_gi, pz_wr_gl, pz_wr_same, pz_wr_X, e4, hc, oI, hdec, bI_f])
          (try refine po_gI (by first | exact pz_in_nI (by omega) (by decide) | decide | assumption) ?_)
          (try refine po_gI (by first | exact pz_in_nI (by omega) (by decide) | decide | assumption) ?_)
          refine po_go ?_
          refine pw_blk (mi := mz_247) (b := bz_247_73) rfl rfl ?_
          simp only [bz_247_73, pz_cut_t, pz_cut_f, pz_cut_n, pv_gt, pv_ts, pv_tn, ev_ild2, ev_iret0, pz_wi_gc, pz_wi_ga, pz_wi_gn, pz_wi_gl, pz_wi_gr, pz_wi_same, pz_wi_X, pz_wl_gc, pz_wl_ga, pz_wl_gn, pz_wl_gi, pz_wl_gr, pz_wl_same, pz_wl_X, pz_wr_gc, pz_wr_ga, pz_wr_gn, pz_wr_gi, pz_wr_gl, pz_wr_same, pz_wr_X, e4, hc, oI, hdec, bI_f]
          (try simp (disch := omega) only [nI_clamp, pz_in_nI2, pz_in_nI2L, pv_gt, nI_add, nI_addL, nI_Ladd, pk_mul, nI_mulL, nI_Lmul, pk_sub, nI_subL, nI_Lsub, nI_inc, nI_clampL, Nat.add_sub_cancel, pz_wi_else, pz_wl_else, vu_eq, vu_ne, pz_wi_gc, pz_wi_ga, pz_wi_gn, pz_wi_gl, pz_wi_gr, pz_wi_same, pz_wi_X, pz_wl_gc, pz_wl_ga, pz_wl_gn, pz_wl_gi, pz_wl_gr, pz_wl_same, pz_wl_X, pz_wr_gc, pz_wr_ga, pz_wr_gn, pz_wr_gi, pz_wr_gl, pz_wr_same, pz_wr_X, e4, hc, oI, hdec, bI_f])
          refine po_ret (k _ (sm.wi (sm.wi sm.rf (by simp)) (by simp)) ?_)
          rw [pz_wi_same]
        · first
          | exact absurd q48 (by decide)
          | exact absurd trivial q48
          | exact q48.elim
          | (exfalso; (try simp (disch := omega) only [nI_ltI, nI_leI, nI_eq, nI_ltL, nI_leL, nI_eqL, nI_Llt, nI_Lle, nI_Leq, nI_eqm, nI_meq, nI_ltm, nI_lem, nI_mlt, nI_mle, lg0, lgl, lgg, lgle, lgge, Int32.not_lt, Int32.not_le, Int64.not_lt, Int64.not_le, not_false_eq_true, not_true_eq_false, Decidable.not_not, ge_iff_le, gt_iff_lt] at q48) <;> omega)
          | exact absurd q48 (by with_reducible assumption)
          | exact absurd (by with_reducible assumption) q48
          | exact absurd (Decidable.not_not.mp q48) (by with_reducible assumption)
          | exact absurd (by with_reducible assumption) (Int32.not_le.mpr q48)
          | exact absurd (by with_reducible assumption) (Int32.not_lt.mpr q48)
      · first
        | exact absurd q35 (by decide)
        | exact absurd trivial q35
        | exact q35.elim
        | (exfalso; (try simp (disch := omega) only [nI_ltI, nI_leI, nI_eq, nI_ltL, nI_leL, nI_eqL, nI_Llt, nI_Lle, nI_Leq, nI_eqm, nI_meq, nI_ltm, nI_lem, nI_mlt, nI_mle, lg0, lgl, lgg, lgle, lgge, Int32.not_lt, Int32.not_le, Int64.not_lt, Int64.not_le, not_false_eq_true, not_true_eq_false, Decidable.not_not, ge_iff_le, gt_iff_lt] at q35) <;> omega)
        | exact absurd q35 (by with_reducible assumption)
        | exact absurd (by with_reducible assumption) q35
        | exact absurd (Decidable.not_not.mp q35) (by with_reducible assumption)
        | exact absurd (by with_reducible assumption) (Int32.not_le.mpr q35)
        | exact absurd (by with_reducible assumption) (Int32.not_lt.mpr q35)
def ag5 (M : pz_M) (c : Nat → Int32) : Prop := ∀ i, 1 ≤ i → i ≤ 5 → gi M 120 (51 + i) = c i
section
variable (al : Nat → Nat → Nat) (g cr wk sv er B D E to : Nat) (y : Int32)
/-- a step of a play: rows, w, counts behind it; where it goes on, or how it ended -/
def pst (R : Nat → T3) (w : Int32) (c : Nat → Int32) (b : Nat) : (Nat → T3) × Int32 × (Nat → Int32) × (Nat ⊕ Int32) :=
  if plV (plD w) < stp wk (R b).1 then
    (match drF D.testBit sv B b with
      | none => (R, plD w, stC er b none c, .inr 2)
      | some dd => (R, plD w, stC er b (some dd) c, .inl dd))
  else match (if E.testBit b = true then none else cfS (blS (shr al cr B b (fun i => (R i).1)) (1000 - stp wk (R b).1) (stp wk (R b).1)) (plV (plD w)) (cnt (pj al b) B) 0) with
    | some k => (upT R (lkG al B b k) (gT (nI g) y (R (lkG al B b k))), plD w, va_up c 5 (c 5 + 1), if B ≤ lkG al B b k + 1 then .inr 1 else .inl (lkG al B b k + 1))
    | none => (upT R b (gT (nI g) y (R b)), plD w, c, if b = to then .inr 0 else if B ≤ b + 1 then .inr 1 else .inl (b + 1))
def plR : Nat → (Nat → T3) → Int32 → (Nat → Int32) → Nat → Nat × (Nat → T3) × Int32 × (Nat → Int32)
  | 0, R, w, c, _ => (0, R, w, va_up c 0 3)
  | n + 1, R, w, c, b => match pst al g cr wk sv er B D E to y R w (va_up c 1 (nI b)) b with
    | (R', w', c', .inl b') => ((plR n R' w' c' b').1 + 1, (plR n R' w' c' b').2)
    | (R', w', c', .inr how) => (1, R', w', va_up c' 0 how)
end
end PLAY
