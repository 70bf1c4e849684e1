/-! ===== the END in millionths, from the first bar ===== -/
section ENDOF
variable {d : Nat} {M M' M'' : pz_M} {Q : Option Value × pz_M → Prop}
def endJ (al : Nat → Nat → Nat) (cr wk sv er B D E : Nat) (h : Nat → Int32) (J o : Int32) : Int32 := ((thS al cr wk er B h (drF D.testBit sv B) E.testBit J o (va_up (fun _ => 0) 0 1000000000) 120).2 0 / 1000).toInt32
theorem m_endOf (hd : 8 ≤ d) {al : Nat → Nat → Nat} {cr wk sv er B D E o : Nat} {h : Nat → Int32} (hS : SH M) (hM : isMind M o) (ho : 33 = o ∨ 50 ≤ o) (hF : RFa M al B) (b1 : gi M 4 0 = nI B) (hB : B ≤ 24) (h0 : 0 < B) (l2 : gi M 17 2 = nI cr) (l3 : gi M 17 3 = nI wk) (l4 : gi M 17 4 = nI sv) (sv2 : sv ≤ 24) (l5 : gi M 17 5 = nI er) (er2 : er ≤ 24) (hD : D < 2 ^ 24) (hE : E < 2 ^ 24) (xD : gi M o 4 = nI D) (xE : gi M o 5 = nI E) (hh : gi M (o + 1) = h) (k : ∀ M', sg [43, 44, 45, 46, 47, 48, 49] M M' → Q (some (.int (endJ al cr wk sv er B D E h (-1) 0)), M')) : pm d 152 [.ref 39, .ref o] M Q := by
  obtain ⟨c1, ⟨r0, r1, r2, r3⟩, ⟨a1, a2, a3, a4⟩, ⟨n1, n2, n3, n4⟩⟩ := id hM
  refine pm_ent (L := [some (.ref 39), some (.ref o)]) rfl (Nat.le_of_ble_eq_true rfl) ?_
  refine pw_blk (mi := mz_152) (b := bz_152_0) rfl rfl ?_
  simp only [bz_152_0, pz_cut_t, pz_cut_f, pz_cut_n, pv_gt, pv_ts, pv_tn, ev_ald0, ev_eld0, ev_ald1, ev_eld1, ev_gf3_2, ev_cv1_1, pz_wi_gc, pz_wi_ga, pz_wi_gn, pz_wi_gl, pz_wi_gr, pz_wi_same, pz_wi_X, pz_wl_gc, pz_wl_ga, pz_wl_gn, pz_wl_gi, pz_wl_gr, pz_wl_same, pz_wl_X, pz_wr_gc, pz_wr_ga, pz_wr_gn, pz_wr_gi, pz_wr_gl, pz_wr_same, pz_wr_X, so_39 hS, c1, r0, r1, r2, r3, a1, a2, a3, a4, n1, n2, n3, n4]
  (try simp (disch := omega) only [nI_clamp, pz_in_nI2, pz_in_nI2L, pv_gt, nI_add, nI_addL, nI_Ladd, pk_mul, nI_mulL, nI_Lmul, pk_sub, nI_subL, nI_Lsub, nI_inc, nI_clampL, Nat.add_sub_cancel, pz_wi_else, pz_wl_else, vu_eq, vu_ne, pz_wi_gc, pz_wi_ga, pz_wi_gn, pz_wi_gl, pz_wi_gr, pz_wi_same, pz_wi_X, pz_wl_gc, pz_wl_ga, pz_wl_gn, pz_wl_gi, pz_wl_gr, pz_wl_same, pz_wl_X, pz_wr_gc, pz_wr_ga, pz_wr_gn, pz_wr_gi, pz_wr_gl, pz_wr_same, pz_wr_X, c1, r0, r1, r2, r3, a1, a2, a3, a4, n1, n2, n3, n4])
  (try refine po_gP (Nat.le_of_ble_eq_true rfl) ?_)
  refine po_call (by omega) (m_weighAll (by omega) hS hF b1 hB l2 l3 hh a1 n1 (by omega) (fun M1 s1 w1 => ?_))
  have hS1 := hS.sm s1
  have d1 : gc M1 o = some 3 := by rw [s1.c]; exact c1
  have e4 : gi M1 o 4 = nI D := by rw [s1.i (by simp; omega)]; exact xD
  have e5 : gi M1 o 5 = nI E := by rw [s1.i (by simp; omega)]; exact xE
  refine pw_blk (mi := mz_152) (b := bz_152_8) rfl rfl ?_
  simp only [bz_152_8, pz_cut_t, pz_cut_f, pz_cut_n, pv_gt, pv_ts, pv_tn, ev_ald0, ev_eld0, ev_ic0, ev_icm1, ev_ald1, ev_eld1, ev_gf3_0, ev_cv5_1, pz_wi_gc, pz_wi_ga, pz_wi_gn, pz_wi_gl, pz_wi_gr, pz_wi_same, pz_wi_X, pz_wl_gc, pz_wl_ga, pz_wl_gn, pz_wl_gi, pz_wl_gr, pz_wl_same, pz_wl_X, pz_wr_gc, pz_wr_ga, pz_wr_gn, pz_wr_gi, pz_wr_gl, pz_wr_same, pz_wr_X, so_39 hS, c1, r0, r1, r2, r3, a1, a2, a3, a4, n1, n2, n3, n4, so_39 hS1, d1, e4, e5]
  (try simp (disch := omega) only [nI_clamp, pz_in_nI2, pz_in_nI2L, pv_gt, nI_add, nI_addL, nI_Ladd, pk_mul, nI_mulL, nI_Lmul, pk_sub, nI_subL, nI_Lsub, nI_inc, nI_clampL, Nat.add_sub_cancel, pz_wi_else, pz_wl_else, vu_eq, vu_ne, pz_wi_gc, pz_wi_ga, pz_wi_gn, pz_wi_gl, pz_wi_gr, pz_wi_same, pz_wi_X, pz_wl_gc, pz_wl_ga, pz_wl_gn, pz_wl_gi, pz_wl_gr, pz_wl_same, pz_wl_X, pz_wr_gc, pz_wr_ga, pz_wr_gn, pz_wr_gi, pz_wr_gl, pz_wr_same, pz_wr_X, c1, r0, r1, r2, r3, a1, a2, a3, a4, n1, n2, n3, n4, so_39 hS1, d1, e4, e5])
  (try refine po_gP (Nat.le_of_ble_eq_true rfl) ?_)
  refine po_call (by omega) (m_send (f := 0) (by omega) hS1 (hF.fr (s1.i (by decide)) (s1.i (by decide)) (s1.i (by decide))) w1 (by rw [s1.i (k := 4) (by decide)]; exact b1) hB h0 (sv := sv) (by rw [s1.i (k := 17) (by decide)]; exact l4) sv2 (er := er) (by rw [s1.i (k := 17) (by decide)]; exact l5) er2 hD hE (fun M2 s2 u2 => ?_))
  have hS2 := s2.S
  refine pw_blk (mi := mz_152) (b := bz_152_23) rfl rfl ?_
  simp only [bz_152_23, pz_cut_t, pz_cut_f, pz_cut_n, pv_gt, pv_ts, pv_tn, ev_ald0, ev_eld0, ev_ic0, ev_cv1_1, pz_wi_gc, pz_wi_ga, pz_wi_gn, pz_wi_gl, pz_wi_gr, pz_wi_same, pz_wi_X, pz_wl_gc, pz_wl_ga, pz_wl_gn, pz_wl_gi, pz_wl_gr, pz_wl_same, pz_wl_X, pz_wr_gc, pz_wr_ga, pz_wr_gn, pz_wr_gi, pz_wr_gl, pz_wr_same, pz_wr_X, so_39 hS, c1, r0, r1, r2, r3, a1, a2, a3, a4, n1, n2, n3, n4, so_39 hS2]
  (try simp (disch := omega) only [nI_clamp, pz_in_nI2, pz_in_nI2L, pv_gt, nI_add, nI_addL, nI_Ladd, pk_mul, nI_mulL, nI_Lmul, pk_sub, nI_subL, nI_Lsub, nI_inc, nI_clampL, Nat.add_sub_cancel, pz_wi_else, pz_wl_else, vu_eq, vu_ne, pz_wi_gc, pz_wi_ga, pz_wi_gn, pz_wi_gl, pz_wi_gr, pz_wi_same, pz_wi_X, pz_wl_gc, pz_wl_ga, pz_wl_gn, pz_wl_gi, pz_wl_gr, pz_wl_same, pz_wl_X, pz_wr_gc, pz_wr_ga, pz_wr_gn, pz_wr_gi, pz_wr_gl, pz_wr_same, pz_wr_X, c1, r0, r1, r2, r3, a1, a2, a3, a4, n1, n2, n3, n4, so_39 hS2])
  (try refine po_gP (Nat.le_of_ble_eq_true rfl) ?_)
  refine po_call (by omega) (m_millionths (w := 0) hS2 (by decide) ?_)
  refine pw_blk (mi := mz_152) (b := bz_152_28) rfl rfl ?_
  simp only [bz_152_28, pz_cut_t, pz_cut_f, pz_cut_n, pv_gt, pv_ts, pv_tn, ev_iret0, pz_wi_gc, pz_wi_ga, pz_wi_gn, pz_wi_gl, pz_wi_gr, pz_wi_same, pz_wi_X, pz_wl_gc, pz_wl_ga, pz_wl_gn, pz_wl_gi, pz_wl_gr, pz_wl_same, pz_wl_X, pz_wr_gc, pz_wr_ga, pz_wr_gn, pz_wr_gi, pz_wr_gl, pz_wr_same, pz_wr_X, c1, r0, r1, r2, r3, a1, a2, a3, a4, n1, n2, n3, n4]
  (try simp (disch := omega) only [nI_clamp, pz_in_nI2, pz_in_nI2L, pv_gt, nI_add, nI_addL, nI_Ladd, pk_mul, nI_mulL, nI_Lmul, pk_sub, nI_subL, nI_Lsub, nI_inc, nI_clampL, Nat.add_sub_cancel, pz_wi_else, pz_wl_else, vu_eq, vu_ne, pz_wi_gc, pz_wi_ga, pz_wi_gn, pz_wi_gl, pz_wi_gr, pz_wi_same, pz_wi_X, pz_wl_gc, pz_wl_ga, pz_wl_gn, pz_wl_gi, pz_wl_gr, pz_wl_same, pz_wl_X, pz_wr_gc, pz_wr_ga, pz_wr_gn, pz_wr_gi, pz_wr_gl, pz_wr_same, pz_wr_X, c1, r0, r1, r2, r3, a1, a2, a3, a4, n1, n2, n3, n4])
  refine po_ret ?_
  rw [u2 0 (by decide)]
  exact k M2 (((s1.sg hS).mono (by decide)).tr s2 (by decide))
theorem r_endOf (hd : 8 ≤ d) {r B cr wk sv er D E : Nat} {al : Nat → Nat → Nat} {h : Nat → Int32} {J o : Int32} (x : rcx M r B cr wk sv er al h D.testBit E.testBit) (b : rbd r B cr wk sv er al h) (h0 : 0 < B) (k : ∀ M', rf M M' → Q (some (.int (endJ al cr wk sv er B D E h J o)), M')) : pm d 141 [.ref 120, .int 0, .int J, .int o] M Q := by
  have x1 := x.1
  refine pm_ent (L := [some (.ref 120), some (.int 0), some (.int J), some (.int o)]) rfl (Nat.le_of_ble_eq_true rfl) ?_
  refine pw_blk (mi := mz_141) (b := bz_141_0) rfl rfl ?_
  simp only [bz_141_0, pz_cut_t, pz_cut_f, pz_cut_n, pv_gt, pv_ts, pv_tn, ev_ald0, ev_eld0, ev_ild1, ev_ild2, ev_ild3, ev_cv3_11, pz_wi_gc, pz_wi_ga, pz_wi_gn, pz_wi_gl, pz_wi_gr, pz_wi_same, pz_wi_X, pz_wl_gc, pz_wl_ga, pz_wl_gn, pz_wl_gi, pz_wl_gr, pz_wl_same, pz_wl_X, pz_wr_gc, pz_wr_ga, pz_wr_gn, pz_wr_gi, pz_wr_gl, pz_wr_same, pz_wr_X, so_120 x1]
  (try simp (disch := omega) only [nI_clamp, pz_in_nI2, pz_in_nI2L, pv_gt, nI_add, nI_addL, nI_Ladd, pk_mul, nI_mulL, nI_Lmul, pk_sub, nI_subL, nI_Lsub, nI_inc, nI_clampL, Nat.add_sub_cancel, pz_wi_else, pz_wl_else, vu_eq, vu_ne, pz_wi_gc, pz_wi_ga, pz_wi_gn, pz_wi_gl, pz_wi_gr, pz_wi_same, pz_wi_X, pz_wl_gc, pz_wl_ga, pz_wl_gn, pz_wl_gi, pz_wl_gr, pz_wl_same, pz_wl_X, pz_wr_gc, pz_wr_ga, pz_wr_gn, pz_wr_gi, pz_wr_gl, pz_wr_same, pz_wr_X])
  (try refine po_gP (Nat.le_of_ble_eq_true rfl) ?_)
  refine po_call (by omega) (r_layThrough (f := 0) (by omega) x b h0 (fun M3 s3 u3 => ?_))
  have hS3 := (x.fr s3).1
  refine pw_blk (mi := mz_141) (b := bz_141_7) rfl rfl ?_
  simp only [bz_141_7, pz_cut_t, pz_cut_f, pz_cut_n, pv_gt, pv_ts, pv_tn, ev_ald0, ev_eld0, ev_gf11_2, ev_ic0, ea_lald, ev_ldl1000, ev_ldiv, ev_l2i, ev_iret0, pz_wi_gc, pz_wi_ga, pz_wi_gn, pz_wi_gl, pz_wi_gr, pz_wi_same, pz_wi_X, pz_wl_gc, pz_wl_ga, pz_wl_gn, pz_wl_gi, pz_wl_gr, pz_wl_same, pz_wl_X, pz_wr_gc, pz_wr_ga, pz_wr_gn, pz_wr_gi, pz_wr_gl, pz_wr_same, pz_wr_X, so_120 x1, sr_120_59 x1, sa_158 x1, sn_158 x1, so_120 hS3, sr_120_59 hS3, sa_158 hS3, sn_158 hS3]
  (try simp (disch := omega) only [nI_clamp, pz_in_nI2, pz_in_nI2L, pv_gt, nI_add, nI_addL, nI_Ladd, pk_mul, nI_mulL, nI_Lmul, pk_sub, nI_subL, nI_Lsub, nI_inc, nI_clampL, Nat.add_sub_cancel, pz_wi_else, pz_wl_else, vu_eq, vu_ne, pz_wi_gc, pz_wi_ga, pz_wi_gn, pz_wi_gl, pz_wi_gr, pz_wi_same, pz_wi_X, pz_wl_gc, pz_wl_ga, pz_wl_gn, pz_wl_gi, pz_wl_gr, pz_wl_same, pz_wl_X, pz_wr_gc, pz_wr_ga, pz_wr_gn, pz_wr_gi, pz_wr_gl, pz_wr_same, pz_wr_X, so_120 hS3, sr_120_59 hS3, sa_158 hS3, sn_158 hS3])
  (try refine po_gI (by first | exact pz_in_nI (by omega) (by decide) | decide | assumption) ?_)
  (try refine po_gP (by first | decide | assumption) ?_)
  refine po_ret ?_
  rw [u3 0 (by decide)]
  exact k M3 s3
end ENDOF
