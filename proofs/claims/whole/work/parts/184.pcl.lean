/-! ===== a piece that is read: what the class takes over ===== -/
section PCL
variable {d : Nat} {M M' : pz_M} {Q : Option Value × pz_M → Prop} {T : Nat → Nat} {L : Nat}
/-- the class holds the piece -/
def cs4 (M : pz_M) (c : Sc) : Prop := (gi M 4 0 = nI c.B ∧ gi M 4 3 = nI c.H ∧ gi M 4 6 = nI c.P ∧ gi M 4 10 = nI c.N ∧ gi M 4 16 = nI c.D ∧ gi M 4 17 = nI c.E) ∧ (∀ i, i < c.B → gl M 5 i = p5 (c.lk i) ∧ gi M 6 i = nI (c.ho i)) ∧ (∀ i, i < c.H → gl M 7 i = p5 (c.hw i) ∧ gi M 8 i = nI (c.hf i)) ∧ (∀ i, i < c.P → gl M 9 i = p5 (c.pw i) ∧ gi M 10 i = nI (c.hf (c.pf i)) ∧ gi M 11 i = nI (c.he (c.pt i)) - 1) ∧ (∀ i, i < c.N → gl M 12 i = p5 (c.nw i) ∧ gi M 13 i = nI (c.na i) ∧ gi M 14 i = nI (c.nb i) ∧ gi M 15 i = nI (c.nt i) ∧ gi M 16 i = nI (c.ns i)) ∧ ∀ i, i < 6 → gi M 17 i = nI (c.lw i)
def s4K : List Nat := [4, 5, 6, 7, 8, 9, 10, 11, 12, 13, 14, 15, 16, 17]
theorem cs4.fr {c : Sc} (x : cs4 M c) (e : ag s4K M M') : cs4 M' c := by
  unfold cs4 at x ⊢
  simp only [(e 4 (by decide)).1, (e 4 (by decide)).2, (e 5 (by decide)).1, (e 5 (by decide)).2, (e 6 (by decide)).1, (e 6 (by decide)).2, (e 7 (by decide)).1, (e 7 (by decide)).2, (e 8 (by decide)).1, (e 8 (by decide)).2, (e 9 (by decide)).1, (e 9 (by decide)).2, (e 10 (by decide)).1, (e 10 (by decide)).2, (e 11 (by decide)).1, (e 11 (by decide)).2, (e 12 (by decide)).1, (e 12 (by decide)).2, (e 13 (by decide)).1, (e 13 (by decide)).2, (e 14 (by decide)).1, (e 14 (by decide)).2, (e 15 (by decide)).1, (e 15 (by decide)).2, (e 16 (by decide)).1, (e 16 (by decide)).2, (e 17 (by decide)).1, (e 17 (by decide)).2]
  exact x
theorem cpy_at {α : Type} {f g : Nat → α} {n i : Nat} (h : i < n) : va_cpy f g 0 0 n i = f i := by
  unfold va_cpy
  rw [if_pos (by omega)]
  rw [show 0 + (i - 0) = i by omega]
theorem clamp8 : Int32.toNatClampNeg 8 = 8 := by decide
set_option maxHeartbeats 8000000 in
theorem m_scoreCopy {c : Sc} (hS : SH M) (o : okS c) (x : csc M c) (h1 : gi M 19 18 = 0 ∨ gi M 19 18 = 1) (k : ∀ M', sm s4K M M' → cs4 M' c → Q (none, M')) : pm d 99 [.ref 4, .ref 19] M Q := by
  obtain ⟨⟨x1, x2, x3, x4, x5, x6, -⟩, y1, y2, y3, y4, y5⟩ := id x
  obtain ⟨o1, o2, o3, o4, -⟩ := o.1
  refine pm_ent (L := [some (.ref 4), some (.ref 19)]) rfl (Nat.le_of_ble_eq_true rfl) ?_
  refine pw_blk (mi := mz_99) (b := bz_99_0) rfl rfl ?_
  simp only [bz_99_0, pz_cut_t, pz_cut_f, pz_cut_n, pv_gt, pv_ts, pv_tn, ev_ald0, ev_eld0, ev_ald1, ev_eld1, ev_gf8_0, ev_pf8_0, ev_gf8_2, ev_ic0, ev_bp24, ea_cpi, ea_cpl, ea_cpe, ev_bp8, ev_ic4, ev_bp6, ev_gf8_3, ev_pf8_3, ev_ret, pz_wi_gc, pz_wi_ga, pz_wi_gn, pz_wi_gl, pz_wi_gr, pz_wi_same, pz_wi_X, pz_wl_gc, pz_wl_ga, pz_wl_gn, pz_wl_gi, pz_wl_gr, pz_wl_same, pz_wl_X, pz_wr_gc, pz_wr_ga, pz_wr_gn, pz_wr_gi, pz_wr_gl, pz_wr_same, pz_wr_X, so_4 hS, sr_4_1 hS, sa_5 hS, sn_5 hS, sr_4_2 hS, sa_6 hS, sn_6 hS, sr_4_4 hS, sa_7 hS, sn_7 hS, sr_4_5 hS, sa_8 hS, sn_8 hS, sr_4_7 hS, sa_9 hS, sn_9 hS, sr_4_8 hS, sa_10 hS, sn_10 hS, sr_4_9 hS, sa_11 hS, sn_11 hS, sr_4_11 hS, sa_12 hS, sn_12 hS, sr_4_12 hS, sa_13 hS, sn_13 hS, sr_4_13 hS, sa_14 hS, sn_14 hS, sr_4_14 hS, sa_15 hS, sn_15 hS, sr_4_15 hS, sa_16 hS, sn_16 hS, sr_4_19 hS, sa_17 hS, sn_17 hS, so_19 hS, sr_19_1 hS, sr_19_2 hS, sr_19_4 hS, sr_19_5 hS, sr_19_7 hS, sr_19_8 hS, sr_19_9 hS, sr_19_11 hS, sr_19_12 hS, sr_19_13 hS, sr_19_14 hS, sr_19_15 hS, sr_19_19 hS, sa_20 hS, sn_20 hS, sa_21 hS, sn_21 hS, sa_22 hS, sn_22 hS, sa_23 hS, sn_23 hS, sa_24 hS, sn_24 hS, sa_25 hS, sn_25 hS, sa_26 hS, sn_26 hS, sa_27 hS, sn_27 hS, sa_28 hS, sn_28 hS, sa_29 hS, sn_29 hS, sa_30 hS, sn_30 hS, sa_31 hS, sn_31 hS, sa_32 hS, sn_32 hS, clamp24, clamp8, clamp4, clamp6, clamp00, and_self]
  (try simp (disch := omega) only [nI_clamp, pz_in_nI2, pz_in_nI2L, pv_gt, nI_add, nI_addL, nI_Ladd, pk_mul, nI_mulL, nI_Lmul, pk_sub, nI_subL, nI_Lsub, nI_inc, nI_clampL, Nat.add_sub_cancel, pz_wi_else, pz_wl_else, vu_eq, vu_ne, pz_wi_gc, pz_wi_ga, pz_wi_gn, pz_wi_gl, pz_wi_gr, pz_wi_same, pz_wi_X, pz_wl_gc, pz_wl_ga, pz_wl_gn, pz_wl_gi, pz_wl_gr, pz_wl_same, pz_wl_X, pz_wr_gc, pz_wr_ga, pz_wr_gn, pz_wr_gi, pz_wr_gl, pz_wr_same, pz_wr_X, so_19 hS, sr_19_1 hS, sr_19_2 hS, sr_19_4 hS, sr_19_5 hS, sr_19_7 hS, sr_19_8 hS, sr_19_9 hS, sr_19_11 hS, sr_19_12 hS, sr_19_13 hS, sr_19_14 hS, sr_19_15 hS, sr_19_19 hS, sa_20 hS, sn_20 hS, sa_21 hS, sn_21 hS, sa_22 hS, sn_22 hS, sa_23 hS, sn_23 hS, sa_24 hS, sn_24 hS, sa_25 hS, sn_25 hS, sa_26 hS, sn_26 hS, sa_27 hS, sn_27 hS, sa_28 hS, sn_28 hS, sa_29 hS, sn_29 hS, sa_30 hS, sn_30 hS, sa_31 hS, sn_31 hS, sa_32 hS, sn_32 hS, clamp24, clamp8, clamp4, clamp6, clamp00, and_self])
  (try refine po_gP (by first | decide | decide | exact h1 | assumption) ?_)
  (try refine po_gP (by first | decide | decide | exact h1 | assumption) ?_)
  (try refine po_gP (by first | decide | decide | exact h1 | assumption) ?_)
  (try refine po_gP (by first | decide | decide | exact h1 | assumption) ?_)
  (try refine po_gP (by first | decide | decide | exact h1 | assumption) ?_)
  (try refine po_gP (by first | decide | decide | exact h1 | assumption) ?_)
  (try refine po_gP (by first | decide | decide | exact h1 | assumption) ?_)
  (try refine po_gP (by first | decide | decide | exact h1 | assumption) ?_)
  (try refine po_gP (by first | decide | decide | exact h1 | assumption) ?_)
  (try refine po_gP (by first | decide | decide | exact h1 | assumption) ?_)
  (try refine po_gP (by first | decide | decide | exact h1 | assumption) ?_)
  (try refine po_gP (by first | decide | decide | exact h1 | assumption) ?_)
  (try refine po_gP (by first | decide | decide | exact h1 | assumption) ?_)
  (try refine po_gP (by first | decide | decide | exact h1 | assumption) ?_)
  refine po_then (fun M1 hM1 => ?_)
  have s1 : sm s4K M M1 := by
    rw [hM1]
    (repeat' first | with_reducible exact sm.rf | with_reducible refine sm.wi ?_ ?_ | with_reducible refine sm.wl ?_ ?_)
    all_goals decide
  have e5 : gl M1 5 = va_cpy (gl M 20) (gl M 5) 0 0 24 := by
    rw [hM1]
    simp (disch := decide) only [pz_wi_same, pz_wi_else, pz_wl_same, pz_wl_else, pz_wi_gl, pz_wl_gi]
  have e6 : gi M1 6 = va_cpy (gi M 21) (gi M 6) 0 0 24 := by
    rw [hM1]
    simp (disch := decide) only [pz_wi_same, pz_wi_else, pz_wl_same, pz_wl_else, pz_wi_gl, pz_wl_gi]
  have e7 : gl M1 7 = va_cpy (gl M 22) (gl M 7) 0 0 8 := by
    rw [hM1]
    simp (disch := decide) only [pz_wi_same, pz_wi_else, pz_wl_same, pz_wl_else, pz_wi_gl, pz_wl_gi]
  have e8 : gi M1 8 = va_cpy (gi M 23) (gi M 8) 0 0 8 := by
    rw [hM1]
    simp (disch := decide) only [pz_wi_same, pz_wi_else, pz_wl_same, pz_wl_else, pz_wi_gl, pz_wl_gi]
  have e9 : gl M1 9 = va_cpy (gl M 24) (gl M 9) 0 0 4 := by
    rw [hM1]
    simp (disch := decide) only [pz_wi_same, pz_wi_else, pz_wl_same, pz_wl_else, pz_wi_gl, pz_wl_gi]
  have e10 : gi M1 10 = va_cpy (gi M 25) (gi M 10) 0 0 4 := by
    rw [hM1]
    simp (disch := decide) only [pz_wi_same, pz_wi_else, pz_wl_same, pz_wl_else, pz_wi_gl, pz_wl_gi]
  have e11 : gi M1 11 = va_cpy (gi M 26) (gi M 11) 0 0 4 := by
    rw [hM1]
    simp (disch := decide) only [pz_wi_same, pz_wi_else, pz_wl_same, pz_wl_else, pz_wi_gl, pz_wl_gi]
  have e12 : gl M1 12 = va_cpy (gl M 27) (gl M 12) 0 0 6 := by
    rw [hM1]
    simp (disch := decide) only [pz_wi_same, pz_wi_else, pz_wl_same, pz_wl_else, pz_wi_gl, pz_wl_gi]
  have e13 : gi M1 13 = va_cpy (gi M 28) (gi M 13) 0 0 6 := by
    rw [hM1]
    simp (disch := decide) only [pz_wi_same, pz_wi_else, pz_wl_same, pz_wl_else, pz_wi_gl, pz_wl_gi]
  have e14 : gi M1 14 = va_cpy (gi M 29) (gi M 14) 0 0 6 := by
    rw [hM1]
    simp (disch := decide) only [pz_wi_same, pz_wi_else, pz_wl_same, pz_wl_else, pz_wi_gl, pz_wl_gi]
  have e15 : gi M1 15 = va_cpy (gi M 30) (gi M 15) 0 0 6 := by
    rw [hM1]
    simp (disch := decide) only [pz_wi_same, pz_wi_else, pz_wl_same, pz_wl_else, pz_wi_gl, pz_wl_gi]
  have e16 : gi M1 16 = va_cpy (gi M 31) (gi M 16) 0 0 6 := by
    rw [hM1]
    simp (disch := decide) only [pz_wi_same, pz_wi_else, pz_wl_same, pz_wl_else, pz_wi_gl, pz_wl_gi]
  have e17 : gi M1 17 = va_cpy (gi M 32) (gi M 17) 0 0 6 := by
    rw [hM1]
    simp (disch := decide) only [pz_wi_same, pz_wi_else, pz_wl_same, pz_wl_else, pz_wi_gl, pz_wl_gi]
  have f0 : gi M1 4 = va_up (va_up (va_up (va_up (va_up (va_up (va_up (gi M 4) 0 (gi M 19 0)) 3 (gi M 19 3)) 6 (gi M 19 6)) 10 (gi M 19 10)) 16 (gi M 19 16)) 17 (gi M 19 17)) 18 (gi M 19 18) := by
    rw [hM1]
    simp (disch := decide) only [pz_wi_same, pz_wi_else, pz_wl_same, pz_wl_else, pz_wi_gl, pz_wl_gi]
  refine k M1 s1 ⟨⟨?_, ?_, ?_, ?_, ?_, ?_⟩, fun i hi => ?_, fun i hi => ?_, fun i hi => ?_, fun i hi => ?_, fun i hi => ?_⟩
  · rw [f0]
    simp (disch := decide) only [vu_eq, vu_ne]
    exact x1
  · rw [f0]
    simp (disch := decide) only [vu_eq, vu_ne]
    exact x2
  · rw [f0]
    simp (disch := decide) only [vu_eq, vu_ne]
    exact x3
  · rw [f0]
    simp (disch := decide) only [vu_eq, vu_ne]
    exact x4
  · rw [f0]
    simp (disch := decide) only [vu_eq, vu_ne]
    exact x5
  · rw [f0]
    simp (disch := decide) only [vu_eq, vu_ne]
    exact x6
  · rw [e5, e6, cpy_at (by omega), cpy_at (by omega)]
    exact y1 i hi
  · rw [e7, e8, cpy_at (by omega), cpy_at (by omega)]
    exact y2 i hi
  · rw [e9, e10, e11, cpy_at (by omega), cpy_at (by omega), cpy_at (by omega)]
    exact y3 i hi
  · rw [e12, e13, e14, e15, e16, cpy_at (by omega), cpy_at (by omega), cpy_at (by omega), cpy_at (by omega), cpy_at (by omega)]
    exact y4 i hi
  · rw [e17, cpy_at hi]
    exact y5 i hi
theorem m_mindBegin {D E : Nat} (hd : 1 ≤ d) (hS : SH M) (e16 : gi M 4 16 = nI D) (e17 : gi M 4 17 = nI E) (k : ∀ M', sm [33, 34, 35, 36, 37] M M' → gi M' 34 = rowC 0 24 (gi M 34) → gi M' 35 = rowC 0 24 (gi M 35) → gi M' 36 = rowC 0 24 (gi M 36) → gi M' 37 = rowC (-1) 24 (gi M 37) → gi M' 33 = va_up (va_up (va_up (gi M 33) 4 (nI D)) 5 (nI E)) 6 0 → Q (none, M')) : pm d 100 [.ref 33, .ref 4] M Q := by
  refine pm_ent (L := [some (.ref 33), some (.ref 4)]) rfl (Nat.le_of_ble_eq_true rfl) ?_
  refine pw_blk (mi := mz_100) (b := bz_100_0) rfl rfl ?_
  simp only [bz_100_0, pz_cut_t, pz_cut_f, pz_cut_n, pv_gt, pv_ts, pv_tn, ev_ald0, ev_eld0, ev_gf3_2, ev_ic0, ev_cs2, pz_wi_gc, pz_wi_ga, pz_wi_gn, pz_wi_gl, pz_wi_gr, pz_wi_same, pz_wi_X, pz_wl_gc, pz_wl_ga, pz_wl_gn, pz_wl_gi, pz_wl_gr, pz_wl_same, pz_wl_X, pz_wr_gc, pz_wr_ga, pz_wr_gn, pz_wr_gi, pz_wr_gl, pz_wr_same, pz_wr_X, so_33 hS, sr_33_0 hS, sa_34 hS, sn_34 hS]
  (try simp (disch := omega) only [nI_clamp, pz_in_nI2, pz_in_nI2L, pv_gt, nI_add, nI_addL, nI_Ladd, pk_mul, nI_mulL, nI_Lmul, pk_sub, nI_subL, nI_Lsub, nI_inc, nI_clampL, Nat.add_sub_cancel, pz_wi_else, pz_wl_else, vu_eq, vu_ne, pz_wi_gc, pz_wi_ga, pz_wi_gn, pz_wi_gl, pz_wi_gr, pz_wi_same, pz_wi_X, pz_wl_gc, pz_wl_ga, pz_wl_gn, pz_wl_gi, pz_wl_gr, pz_wl_same, pz_wl_X, pz_wr_gc, pz_wr_ga, pz_wr_gn, pz_wr_gi, pz_wr_gl, pz_wr_same, pz_wr_X])
  (try refine po_gP (Nat.le_of_ble_eq_true rfl) ?_)
  refine po_call (by omega) (m_fill (sa_34 hS) (sn_34 hS) (by decide) (fun M1 s1 e1 => ?_))
  have hS1 := hS.sm s1
  refine pw_blk (mi := mz_100) (b := bz_100_8) rfl rfl ?_
  simp only [bz_100_8, pz_cut_t, pz_cut_f, pz_cut_n, pv_gt, pv_ts, pv_tn, ev_ald0, ev_eld0, ev_gf3_2, ev_ic0, ev_cs2, pz_wi_gc, pz_wi_ga, pz_wi_gn, pz_wi_gl, pz_wi_gr, pz_wi_same, pz_wi_X, pz_wl_gc, pz_wl_ga, pz_wl_gn, pz_wl_gi, pz_wl_gr, pz_wl_same, pz_wl_X, pz_wr_gc, pz_wr_ga, pz_wr_gn, pz_wr_gi, pz_wr_gl, pz_wr_same, pz_wr_X, so_33 hS, sr_33_1 hS, sa_35 hS, sn_35 hS, so_33 hS1, sr_33_1 hS1]
  (try simp (disch := omega) only [nI_clamp, pz_in_nI2, pz_in_nI2L, pv_gt, nI_add, nI_addL, nI_Ladd, pk_mul, nI_mulL, nI_Lmul, pk_sub, nI_subL, nI_Lsub, nI_inc, nI_clampL, Nat.add_sub_cancel, pz_wi_else, pz_wl_else, vu_eq, vu_ne, pz_wi_gc, pz_wi_ga, pz_wi_gn, pz_wi_gl, pz_wi_gr, pz_wi_same, pz_wi_X, pz_wl_gc, pz_wl_ga, pz_wl_gn, pz_wl_gi, pz_wl_gr, pz_wl_same, pz_wl_X, pz_wr_gc, pz_wr_ga, pz_wr_gn, pz_wr_gi, pz_wr_gl, pz_wr_same, pz_wr_X, so_33 hS1, sr_33_1 hS1])
  (try refine po_gP (Nat.le_of_ble_eq_true rfl) ?_)
  refine po_call (by omega) (m_fill (sa_35 hS1) (sn_35 hS1) (by decide) (fun M2 s2 e2 => ?_))
  have hS2 := hS1.sm s2
  refine pw_blk (mi := mz_100) (b := bz_100_16) rfl rfl ?_
  simp only [bz_100_16, pz_cut_t, pz_cut_f, pz_cut_n, pv_gt, pv_ts, pv_tn, ev_ald0, ev_eld0, ev_gf3_2, ev_ic0, ev_cs2, pz_wi_gc, pz_wi_ga, pz_wi_gn, pz_wi_gl, pz_wi_gr, pz_wi_same, pz_wi_X, pz_wl_gc, pz_wl_ga, pz_wl_gn, pz_wl_gi, pz_wl_gr, pz_wl_same, pz_wl_X, pz_wr_gc, pz_wr_ga, pz_wr_gn, pz_wr_gi, pz_wr_gl, pz_wr_same, pz_wr_X, so_33 hS, sr_33_2 hS, sa_36 hS, sn_36 hS, so_33 hS2, sr_33_2 hS2]
  (try simp (disch := omega) only [nI_clamp, pz_in_nI2, pz_in_nI2L, pv_gt, nI_add, nI_addL, nI_Ladd, pk_mul, nI_mulL, nI_Lmul, pk_sub, nI_subL, nI_Lsub, nI_inc, nI_clampL, Nat.add_sub_cancel, pz_wi_else, pz_wl_else, vu_eq, vu_ne, pz_wi_gc, pz_wi_ga, pz_wi_gn, pz_wi_gl, pz_wi_gr, pz_wi_same, pz_wi_X, pz_wl_gc, pz_wl_ga, pz_wl_gn, pz_wl_gi, pz_wl_gr, pz_wl_same, pz_wl_X, pz_wr_gc, pz_wr_ga, pz_wr_gn, pz_wr_gi, pz_wr_gl, pz_wr_same, pz_wr_X, so_33 hS2, sr_33_2 hS2])
  (try refine po_gP (Nat.le_of_ble_eq_true rfl) ?_)
  refine po_call (by omega) (m_fill (sa_36 hS2) (sn_36 hS2) (by decide) (fun M3 s3 e3 => ?_))
  have hS3 := hS2.sm s3
  refine pw_blk (mi := mz_100) (b := bz_100_24) rfl rfl ?_
  simp only [bz_100_24, pz_cut_t, pz_cut_f, pz_cut_n, pv_gt, pv_ts, pv_tn, ev_ald0, ev_eld0, ev_gf3_2, ev_icm1, ev_cs2, pz_wi_gc, pz_wi_ga, pz_wi_gn, pz_wi_gl, pz_wi_gr, pz_wi_same, pz_wi_X, pz_wl_gc, pz_wl_ga, pz_wl_gn, pz_wl_gi, pz_wl_gr, pz_wl_same, pz_wl_X, pz_wr_gc, pz_wr_ga, pz_wr_gn, pz_wr_gi, pz_wr_gl, pz_wr_same, pz_wr_X, so_33 hS, sr_33_3 hS, sa_37 hS, sn_37 hS, so_33 hS3, sr_33_3 hS3]
  (try simp (disch := omega) only [nI_clamp, pz_in_nI2, pz_in_nI2L, pv_gt, nI_add, nI_addL, nI_Ladd, pk_mul, nI_mulL, nI_Lmul, pk_sub, nI_subL, nI_Lsub, nI_inc, nI_clampL, Nat.add_sub_cancel, pz_wi_else, pz_wl_else, vu_eq, vu_ne, pz_wi_gc, pz_wi_ga, pz_wi_gn, pz_wi_gl, pz_wi_gr, pz_wi_same, pz_wi_X, pz_wl_gc, pz_wl_ga, pz_wl_gn, pz_wl_gi, pz_wl_gr, pz_wl_same, pz_wl_X, pz_wr_gc, pz_wr_ga, pz_wr_gn, pz_wr_gi, pz_wr_gl, pz_wr_same, pz_wr_X, so_33 hS3, sr_33_3 hS3])
  (try refine po_gP (Nat.le_of_ble_eq_true rfl) ?_)
  refine po_call (by omega) (m_fill (sa_37 hS3) (sn_37 hS3) (by decide) (fun M4 s4 e4 => ?_))
  have hS4 := hS3.sm s4
  have g16 : gi M4 4 16 = nI D := by rw [s4.i (by decide), s3.i (by decide), s2.i (by decide), s1.i (by decide)]; exact e16
  have g17 : gi M4 4 17 = nI E := by rw [s4.i (by decide), s3.i (by decide), s2.i (by decide), s1.i (by decide)]; exact e17
  refine pw_blk (mi := mz_100) (b := bz_100_32) rfl rfl ?_
  simp only [bz_100_32, pz_cut_t, pz_cut_f, pz_cut_n, pv_gt, pv_ts, pv_tn, ev_ald0, ev_eld0, ev_ald1, ev_eld1, ev_gf8_0, ev_pf3_0, ev_ic0, ev_ret, pz_wi_gc, pz_wi_ga, pz_wi_gn, pz_wi_gl, pz_wi_gr, pz_wi_same, pz_wi_X, pz_wl_gc, pz_wl_ga, pz_wl_gn, pz_wl_gi, pz_wl_gr, pz_wl_same, pz_wl_X, pz_wr_gc, pz_wr_ga, pz_wr_gn, pz_wr_gi, pz_wr_gl, pz_wr_same, pz_wr_X, so_4 hS, so_33 hS, so_33 hS4, so_4 hS4, g16, g17]
  (try simp (disch := omega) only [nI_clamp, pz_in_nI2, pz_in_nI2L, pv_gt, nI_add, nI_addL, nI_Ladd, pk_mul, nI_mulL, nI_Lmul, pk_sub, nI_subL, nI_Lsub, nI_inc, nI_clampL, Nat.add_sub_cancel, pz_wi_else, pz_wl_else, vu_eq, vu_ne, pz_wi_gc, pz_wi_ga, pz_wi_gn, pz_wi_gl, pz_wi_gr, pz_wi_same, pz_wi_X, pz_wl_gc, pz_wl_ga, pz_wl_gn, pz_wl_gi, pz_wl_gr, pz_wl_same, pz_wl_X, pz_wr_gc, pz_wr_ga, pz_wr_gn, pz_wr_gi, pz_wr_gl, pz_wr_same, pz_wr_X, so_33 hS4, so_4 hS4, g16, g17])
  refine po_then (fun M5 hM5 => ?_)
  have s5 : sm [33] M4 M5 := by
    rw [hM5]
    (repeat' first | exact sm.rf | refine sm.wi ?_ (by decide))
  refine k M5 ?_ ?_ ?_ ?_ ?_ ?_
  · exact ((((s1.mono (by decide)).tr s2 (by decide)).tr s3 (by decide)).tr s4 (by decide)).tr s5 (by decide)
  · rw [s5.i (by decide), s4.i (by decide), s3.i (by decide), s2.i (by decide), e1]
  · rw [s5.i (by decide), s4.i (by decide), s3.i (by decide), e2, s1.i (by decide)]
  · rw [s5.i (by decide), s4.i (by decide), e3, s2.i (by decide), s1.i (by decide)]
  · rw [s5.i (by decide), e4, s3.i (by decide), s2.i (by decide), s1.i (by decide)]
  · rw [hM5, pz_wi_same]
    (try simp (disch := decide) only [pz_wi_same])
    rw [s4.i (by decide), s3.i (by decide), s2.i (by decide), s1.i (by decide)]
/-- the bars below j that are alike with i -/
def lkj (lk : Nat → Int64) (i j : Nat) : List Nat := (List.range j).filter (fun j => decide (j ≠ i) && decide (0 < alk lk i j 9 0))
theorem lkj_y {lk : Nat → Int64} {i j : Nat} (h1 : j ≠ i) (h2 : 0 < alk lk i j 9 0) : lkj lk i (j + 1) = lkj lk i j ++ [j] := by
  unfold lkj
  rw [List.range_succ, List.filter_append]
  congr 1
  simp [h1, h2]
theorem lkj_n {lk : Nat → Int64} {i j : Nat} (h : ¬ (j ≠ i ∧ 0 < alk lk i j 9 0)) : lkj lk i (j + 1) = lkj lk i j := by
  unfold lkj
  rw [List.range_succ, List.filter_append]
  have : List.filter (fun j => decide (j ≠ i) && decide (0 < alk lk i j 9 0)) [j] = [] := by
    rw [List.filter_cons, if_neg (by simpa using h)]
    rfl
  rw [this, List.append_nil]
theorem lkj_len {lk : Nat → Int64} {i j : Nat} : (lkj lk i j).length ≤ j := by
  have h := List.length_filter_le (fun j => decide (j ≠ i) && decide (0 < alk lk i j 9 0)) (List.range j)
  rw [List.length_range] at h
  exact h
def fr2 (M : pz_M) (lk : Nat → Int64) (i : Nat) (l : List Nat) : Prop := ∀ k, k < l.length → gi M 41 (24 * i + k) = nI (l.getD k 0) ∧ gi M 42 (24 * i + k) = nI (alk lk i (l.getD k 0) 9 0)
def frw (M : pz_M) (lk : Nat → Int64) (B i : Nat) : Prop := gi M 40 i = nI (lkj lk i B).length ∧ fr2 M lk i (lkj lk i B)
theorem fr2_w {lk : Nat → Int64} {i j n : Nat} {l : List Nat} (h : fr2 M lk i l) (hn : l.length = n) (e1 : gi M' 41 = va_up (gi M 41) (i * 24 + n) (nI j)) (e2 : gi M' 42 = va_up (gi M 42) (i * 24 + n) (nI (alk lk i j 9 0))) : fr2 M' lk i (l ++ [j]) := by
  intro k hk
  rw [List.length_append, List.length_singleton] at hk
  rw [e1, e2]
  by_cases q : k = n
  · subst q
    rw [show 24 * i + k = i * 24 + k by omega, vu_eq, vu_eq]
    have : (l ++ [j]).getD k 0 = j := by
      rw [List.getD_eq_getElem?_getD, List.getElem?_append_right (by omega), hn, Nat.sub_self]
      rfl
    rw [this]
    exact ⟨rfl, rfl⟩
  · rw [vu_ne (by omega), vu_ne (by omega)]
    have : (l ++ [j]).getD k 0 = l.getD k 0 := by
      rw [List.getD_eq_getElem?_getD, List.getElem?_append_left (by omega), ← List.getD_eq_getElem?_getD]
    rw [this]
    exact h k (by omega)
theorem frw_w {lk : Nat → Int64} {B i i' n : Nat} {x y : Int32} (h : frw M lk B i') (hB : B ≤ 24) (hi : i' < i) (e0 : gi M' 40 = gi M 40) (e1 : gi M' 41 = va_up (gi M 41) (i * 24 + n) x) (e2 : gi M' 42 = va_up (gi M 42) (i * 24 + n) y) : frw M' lk B i' := by
  have hl := lkj_len (lk := lk) (i := i') (j := B)
  refine ⟨by rw [e0]; exact h.1, fun k hk => ?_⟩
  rw [e1, e2, vu_ne (by omega), vu_ne (by omega)]
  exact h.2 k hk
theorem m_flowBegin {B : Nat} (hd : 1 ≤ d) (hS : SH M) (hB : B ≤ 24) (e0 : gi M 4 0 = nI B) (k : ∀ M', sm [40, 41, 42] M M' → RFl M' B → Q (none, M')) : pm d 101 [.ref 39] M Q := by
  have outer : ∀ i, i ≤ B → ∀ M', sm [40, 41, 42] M M' → (∀ i', i' < i → frw M' (gl M 5) B i') → pw d 101 (2, [some (.ref 39), some (.int (nI i)), none, none, none, none], [], M') Q := by
    refine upto (fun i hi ih => ?_)
    intro M' s h
    have hS' := hS.sm s
    have e0' : gi M' 4 0 = nI B := by rw [s.i (by decide)]; exact e0
    by_cases hiB : i = B
    · subst hiB
      refine pw_blk (mi := mz_101) (b := bz_101_2) rfl rfl ?_
      simp only [bz_101_2, pz_cut_t, pz_cut_f, pz_cut_n, pv_gt, pv_ts, pv_tn, ev_ild1, ev_ald0, ev_eld0, ev_gf1_2, ev_gf8_0, ev_ic_ge, pz_wi_gc, pz_wi_ga, pz_wi_gn, pz_wi_gl, pz_wi_gr, pz_wi_same, pz_wi_X, pz_wl_gc, pz_wl_ga, pz_wl_gn, pz_wl_gi, pz_wl_gr, pz_wl_same, pz_wl_X, pz_wr_gc, pz_wr_ga, pz_wr_gn, pz_wr_gi, pz_wr_gl, pz_wr_same, pz_wr_X, so_39 hS', sr_39_0 hS', so_4 hS', e0']
      (try simp (disch := omega) only [nI_clamp, pz_in_nI2, pz_in_nI2L, pv_gt, nI_add, nI_addL, nI_Ladd, pk_mul, nI_mulL, nI_Lmul, pk_sub, nI_subL, nI_Lsub, nI_inc, nI_clampL, Nat.add_sub_cancel, pz_wi_else, pz_wl_else, vu_eq, vu_ne, pz_wi_gc, pz_wi_ga, pz_wi_gn, pz_wi_gl, pz_wi_gr, pz_wi_same, pz_wi_X, pz_wl_gc, pz_wl_ga, pz_wl_gn, pz_wl_gi, pz_wl_gr, pz_wl_same, pz_wl_X, pz_wr_gc, pz_wr_ga, pz_wr_gn, pz_wr_gi, pz_wr_gl, pz_wr_same, pz_wr_X, e0'])
      refine po_brP (fun q2 => ?_) (fun q2 => ?_)
      · skip
        (try simp (disch := omega) only [nI_ltI, nI_leI, nI_eq, nI_ltL, nI_leL, nI_eqL, nI_Llt, nI_Lle, nI_Leq, nI_eqm, nI_meq, nI_ltm, nI_lem, nI_mlt, nI_mle, lg0, lgl, lgg, lgle, lgge, Int32.not_lt, Int32.not_le, Int64.not_lt, Int64.not_le, not_false_eq_true, not_true_eq_false, Decidable.not_not, ge_iff_le, gt_iff_lt] at q2)
        refine pw_blk (mi := mz_101) (b := bz_101_104) rfl rfl ?_
        simp only [bz_101_104, pz_cut_t, pz_cut_f, pz_cut_n, pv_gt, pv_ts, pv_tn, ev_ret, pz_wi_gc, pz_wi_ga, pz_wi_gn, pz_wi_gl, pz_wi_gr, pz_wi_same, pz_wi_X, pz_wl_gc, pz_wl_ga, pz_wl_gn, pz_wl_gi, pz_wl_gr, pz_wl_same, pz_wl_X, pz_wr_gc, pz_wr_ga, pz_wr_gn, pz_wr_gi, pz_wr_gl, pz_wr_same, pz_wr_X, e0']
        (try simp (disch := omega) only [nI_clamp, pz_in_nI2, pz_in_nI2L, pv_gt, nI_add, nI_addL, nI_Ladd, pk_mul, nI_mulL, nI_Lmul, pk_sub, nI_subL, nI_Lsub, nI_inc, nI_clampL, Nat.add_sub_cancel, pz_wi_else, pz_wl_else, vu_eq, vu_ne, pz_wi_gc, pz_wi_ga, pz_wi_gn, pz_wi_gl, pz_wi_gr, pz_wi_same, pz_wi_X, pz_wl_gc, pz_wl_ga, pz_wl_gn, pz_wl_gi, pz_wl_gr, pz_wl_same, pz_wl_X, pz_wr_gc, pz_wr_ga, pz_wr_gn, pz_wr_gi, pz_wr_gl, pz_wr_same, pz_wr_X, e0'])
        refine po_ret (k M' s (fun i' hi' => ?_))
        have z := h i' hi'
        rw [s.l (by decide)]
        exact z
      · first
        | exact absurd q2 (by decide)
        | exact absurd trivial q2
        | exact q2.elim
        | (exfalso; (try simp (disch := omega) only [nI_ltI, nI_leI, nI_eq, nI_ltL, nI_leL, nI_eqL, nI_Llt, nI_Lle, nI_Leq, nI_eqm, nI_meq, nI_ltm, nI_lem, nI_mlt, nI_mle, lg0, lgl, lgg, lgle, lgge, Int32.not_lt, Int32.not_le, Int64.not_lt, Int64.not_le, not_false_eq_true, not_true_eq_false, Decidable.not_not, ge_iff_le, gt_iff_lt] at q2) <;> omega)
        | exact absurd q2 (by with_reducible assumption)
        | exact absurd (by with_reducible assumption) q2
        | exact absurd (Decidable.not_not.mp q2) (by with_reducible assumption)
        | exact absurd (by with_reducible assumption) (Int32.not_le.mpr q2)
        | exact absurd (by with_reducible assumption) (Int32.not_lt.mpr q2)
    · have inner : ∀ j, j ≤ B → ∀ M', sm [40, 41, 42] M M' → (∀ i', i' < i → frw M' (gl M 5) B i') → fr2 M' (gl M 5) i (lkj (gl M 5) i j) → pw d 101 (23, [some (.ref 39), some (.int (nI i)), some (.int (nI (i * 24))), some (.int (nI (lkj (gl M 5) i j).length)), some (.int (nI j)), none], [], M') Q := by
        refine upto (fun j hj ih2 => ?_)
        intro M1 s1 h1 h2
        have hS1 := hS.sm s1
        have g0 : gi M1 4 0 = nI B := by rw [s1.i (by decide)]; exact e0
        have g5 : gl M1 5 = gl M 5 := s1.l (by decide)
        have hl := lkj_len (lk := gl M 5) (i := i) (j := j)
        by_cases hjB : j = B
        · have nx := fun M2 s2 q => ih (i + 1) (by omega) (by omega) M2 s2 q
          subst hjB
          generalize hn : (lkj (gl M 5) i j).length = n at hl
          refine pw_blk (mi := mz_101) (b := bz_101_23) rfl rfl ?_
          simp only [bz_101_23, pz_cut_t, pz_cut_f, pz_cut_n, pv_gt, pv_ts, pv_tn, ev_ild4, ev_ald0, ev_eld0, ev_gf1_2, ev_gf8_0, ev_ic_ge, pz_wi_gc, pz_wi_ga, pz_wi_gn, pz_wi_gl, pz_wi_gr, pz_wi_same, pz_wi_X, pz_wl_gc, pz_wl_ga, pz_wl_gn, pz_wl_gi, pz_wl_gr, pz_wl_same, pz_wl_X, pz_wr_gc, pz_wr_ga, pz_wr_gn, pz_wr_gi, pz_wr_gl, pz_wr_same, pz_wr_X, so_39 hS1, sr_39_0 hS1, so_4 hS1, g0]
          (try simp (disch := omega) only [nI_clamp, pz_in_nI2, pz_in_nI2L, pv_gt, nI_add, nI_addL, nI_Ladd, pk_mul, nI_mulL, nI_Lmul, pk_sub, nI_subL, nI_Lsub, nI_inc, nI_clampL, Nat.add_sub_cancel, pz_wi_else, pz_wl_else, vu_eq, vu_ne, pz_wi_gc, pz_wi_ga, pz_wi_gn, pz_wi_gl, pz_wi_gr, pz_wi_same, pz_wi_X, pz_wl_gc, pz_wl_ga, pz_wl_gn, pz_wl_gi, pz_wl_gr, pz_wl_same, pz_wl_X, pz_wr_gc, pz_wr_ga, pz_wr_gn, pz_wr_gi, pz_wr_gl, pz_wr_same, pz_wr_X, g0])
          refine po_brP (fun q23 => ?_) (fun q23 => ?_)
          · skip
            (try simp (disch := omega) only [nI_ltI, nI_leI, nI_eq, nI_ltL, nI_leL, nI_eqL, nI_Llt, nI_Lle, nI_Leq, nI_eqm, nI_meq, nI_ltm, nI_lem, nI_mlt, nI_mle, lg0, lgl, lgg, lgle, lgge, Int32.not_lt, Int32.not_le, Int64.not_lt, Int64.not_le, not_false_eq_true, not_true_eq_false, Decidable.not_not, ge_iff_le, gt_iff_lt] at q23)
            refine pw_blk (mi := mz_101) (b := bz_101_91) rfl rfl ?_
            simp only [bz_101_91, pz_cut_t, pz_cut_f, pz_cut_n, pv_gt, pv_ts, pv_tn, ev_ald0, ev_eld0, ev_gf1_2, ev_ild1, ev_ild3, ea_iast, ev_inc1n, ev_inc1i, ev_inc1r, ev_inc1e, ev_goto, pz_wi_gc, pz_wi_ga, pz_wi_gn, pz_wi_gl, pz_wi_gr, pz_wi_same, pz_wi_X, pz_wl_gc, pz_wl_ga, pz_wl_gn, pz_wl_gi, pz_wl_gr, pz_wl_same, pz_wl_X, pz_wr_gc, pz_wr_ga, pz_wr_gn, pz_wr_gi, pz_wr_gl, pz_wr_same, pz_wr_X, so_39 hS1, sr_39_1 hS1, sa_40 hS1, sn_40 hS1, g0, sa_41 hS1, sn_41 hS1, sa_42 hS1, sn_42 hS1]
            (try simp (disch := omega) only [nI_clamp, pz_in_nI2, pz_in_nI2L, pv_gt, nI_add, nI_addL, nI_Ladd, pk_mul, nI_mulL, nI_Lmul, pk_sub, nI_subL, nI_Lsub, nI_inc, nI_clampL, Nat.add_sub_cancel, pz_wi_else, pz_wl_else, vu_eq, vu_ne, pz_wi_gc, pz_wi_ga, pz_wi_gn, pz_wi_gl, pz_wi_gr, pz_wi_same, pz_wi_X, pz_wl_gc, pz_wl_ga, pz_wl_gn, pz_wl_gi, pz_wl_gr, pz_wl_same, pz_wl_X, pz_wr_gc, pz_wr_ga, pz_wr_gn, pz_wr_gi, pz_wr_gl, pz_wr_same, pz_wr_X, g0])
            (try refine po_gI (by first | exact pz_in_nI (by omega) (by decide) | decide | assumption) ?_)
            refine po_go ?_
            refine pw_cut (mi := mz_101) (b := bz_101_2) rfl rfl (nx _ (sm.wi s1 (by decide)) (fun i' hi' => ?_)) rfl
            by_cases q : i' = i
            · subst q
              refine ⟨?_, fun k hk => ?_⟩
              · rw [pz_wi_same, vu_eq, hn]
              · simp (disch := decide) only [pz_wi_else]
                exact h2 k hk
            · have z := h1 i' (by omega)
              refine ⟨?_, fun k hk => ?_⟩
              · rw [pz_wi_same, vu_ne q]
                exact z.1
              · simp (disch := decide) only [pz_wi_else]
                exact z.2 k hk
          · first
            | exact absurd q23 (by decide)
            | exact absurd trivial q23
            | exact q23.elim
            | (exfalso; (try simp (disch := omega) only [nI_ltI, nI_leI, nI_eq, nI_ltL, nI_leL, nI_eqL, nI_Llt, nI_Lle, nI_Leq, nI_eqm, nI_meq, nI_ltm, nI_lem, nI_mlt, nI_mle, lg0, lgl, lgg, lgle, lgge, Int32.not_lt, Int32.not_le, Int64.not_lt, Int64.not_le, not_false_eq_true, not_true_eq_false, Decidable.not_not, ge_iff_le, gt_iff_lt] at q23) <;> omega)
            | exact absurd q23 (by with_reducible assumption)
            | exact absurd (by with_reducible assumption) q23
            | exact absurd (Decidable.not_not.mp q23) (by with_reducible assumption)
            | exact absurd (by with_reducible assumption) (Int32.not_le.mpr q23)
            | exact absurd (by with_reducible assumption) (Int32.not_lt.mpr q23)
        · have nx := fun M2 s2 q p => ih2 (j + 1) (by omega) (by omega) M2 s2 q p
          by_cases hij : i = j
          · subst hij
            rw [lkj_n (fun z => z.1 rfl)] at nx
            generalize hn : (lkj (gl M 5) i i).length = n at hl nx
            refine pw_blk (mi := mz_101) (b := bz_101_23) rfl rfl ?_
            simp only [bz_101_23, pz_cut_t, pz_cut_f, pz_cut_n, pv_gt, pv_ts, pv_tn, ev_ild4, ev_ald0, ev_eld0, ev_gf1_2, ev_gf8_0, ev_ic_ge, pz_wi_gc, pz_wi_ga, pz_wi_gn, pz_wi_gl, pz_wi_gr, pz_wi_same, pz_wi_X, pz_wl_gc, pz_wl_ga, pz_wl_gn, pz_wl_gi, pz_wl_gr, pz_wl_same, pz_wl_X, pz_wr_gc, pz_wr_ga, pz_wr_gn, pz_wr_gi, pz_wr_gl, pz_wr_same, pz_wr_X, so_39 hS1, sr_39_0 hS1, so_4 hS1, g0]
            (try simp (disch := omega) only [nI_clamp, pz_in_nI2, pz_in_nI2L, pv_gt, nI_add, nI_addL, nI_Ladd, pk_mul, nI_mulL, nI_Lmul, pk_sub, nI_subL, nI_Lsub, nI_inc, nI_clampL, Nat.add_sub_cancel, pz_wi_else, pz_wl_else, vu_eq, vu_ne, pz_wi_gc, pz_wi_ga, pz_wi_gn, pz_wi_gl, pz_wi_gr, pz_wi_same, pz_wi_X, pz_wl_gc, pz_wl_ga, pz_wl_gn, pz_wl_gi, pz_wl_gr, pz_wl_same, pz_wl_X, pz_wr_gc, pz_wr_ga, pz_wr_gn, pz_wr_gi, pz_wr_gl, pz_wr_same, pz_wr_X, g0])
            refine po_brP (fun q23 => ?_) (fun q23 => ?_)
            · first
              | exact absurd q23 (by decide)
              | exact absurd trivial q23
              | exact q23.elim
              | (exfalso; (try simp (disch := omega) only [nI_ltI, nI_leI, nI_eq, nI_ltL, nI_leL, nI_eqL, nI_Llt, nI_Lle, nI_Leq, nI_eqm, nI_meq, nI_ltm, nI_lem, nI_mlt, nI_mle, lg0, lgl, lgg, lgle, lgge, Int32.not_lt, Int32.not_le, Int64.not_lt, Int64.not_le, not_false_eq_true, not_true_eq_false, Decidable.not_not, ge_iff_le, gt_iff_lt] at q23) <;> omega)
              | exact absurd q23 (by with_reducible assumption)
              | exact absurd (by with_reducible assumption) q23
              | exact absurd (Decidable.not_not.mp q23) (by with_reducible assumption)
              | exact absurd (by with_reducible assumption) (Int32.not_le.mpr q23)
              | exact absurd (by with_reducible assumption) (Int32.not_lt.mpr q23)
            · skip
              (try simp (disch := omega) only [nI_ltI, nI_leI, nI_eq, nI_ltL, nI_leL, nI_eqL, nI_Llt, nI_Lle, nI_Leq, nI_eqm, nI_meq, nI_ltm, nI_lem, nI_mlt, nI_mle, lg0, lgl, lgg, lgle, lgge, Int32.not_lt, Int32.not_le, Int64.not_lt, Int64.not_le, not_false_eq_true, not_true_eq_false, Decidable.not_not, ge_iff_le, gt_iff_lt] at q23)
              refine pw_blk (mi := mz_101) (b := bz_101_35) rfl rfl ?_
              simp only [bz_101_35, pz_cut_t, pz_cut_f, pz_cut_n, pv_gt, pv_ts, pv_tn, ev_ild1, ev_ild4, ev_ic_ne, pz_wi_gc, pz_wi_ga, pz_wi_gn, pz_wi_gl, pz_wi_gr, pz_wi_same, pz_wi_X, pz_wl_gc, pz_wl_ga, pz_wl_gn, pz_wl_gi, pz_wl_gr, pz_wl_same, pz_wl_X, pz_wr_gc, pz_wr_ga, pz_wr_gn, pz_wr_gi, pz_wr_gl, pz_wr_same, pz_wr_X, g0]
              (try simp (disch := omega) only [nI_clamp, pz_in_nI2, pz_in_nI2L, pv_gt, nI_add, nI_addL, nI_Ladd, pk_mul, nI_mulL, nI_Lmul, pk_sub, nI_subL, nI_Lsub, nI_inc, nI_clampL, Nat.add_sub_cancel, pz_wi_else, pz_wl_else, vu_eq, vu_ne, pz_wi_gc, pz_wi_ga, pz_wi_gn, pz_wi_gl, pz_wi_gr, pz_wi_same, pz_wi_X, pz_wl_gc, pz_wl_ga, pz_wl_gn, pz_wl_gi, pz_wl_gr, pz_wl_same, pz_wl_X, pz_wr_gc, pz_wr_ga, pz_wr_gn, pz_wr_gi, pz_wr_gl, pz_wr_same, pz_wr_X, g0])
              refine po_brP (fun q35 => ?_) (fun q35 => ?_)
              · first
                | exact absurd q35 (by decide)
                | exact absurd trivial q35
                | exact q35.elim
                | (exfalso; (try simp (disch := omega) only [nI_ltI, nI_leI, nI_eq, nI_ltL, nI_leL, nI_eqL, nI_Llt, nI_Lle, nI_Leq, nI_eqm, nI_meq, nI_ltm, nI_lem, nI_mlt, nI_mle, lg0, lgl, lgg, lgle, lgge, Int32.not_lt, Int32.not_le, Int64.not_lt, Int64.not_le, not_false_eq_true, not_true_eq_false, Decidable.not_not, ge_iff_le, gt_iff_lt] at q35) <;> omega)
                | exact absurd q35 (by with_reducible assumption)
                | exact absurd (by with_reducible assumption) q35
                | exact absurd (Decidable.not_not.mp q35) (by with_reducible assumption)
                | exact absurd (by with_reducible assumption) (Int32.not_le.mpr q35)
                | exact absurd (by with_reducible assumption) (Int32.not_lt.mpr q35)
              · skip
                (try simp (disch := omega) only [nI_ltI, nI_leI, nI_eq, nI_ltL, nI_leL, nI_eqL, nI_Llt, nI_Lle, nI_Leq, nI_eqm, nI_meq, nI_ltm, nI_lem, nI_mlt, nI_mle, lg0, lgl, lgg, lgle, lgge, Int32.not_lt, Int32.not_le, Int64.not_lt, Int64.not_le, not_false_eq_true, not_true_eq_false, Decidable.not_not, ge_iff_le, gt_iff_lt] at q35)
                refine pw_blk (mi := mz_101) (b := bz_101_41) rfl rfl ?_
                simp only [bz_101_41, pz_cut_t, pz_cut_f, pz_cut_n, pv_gt, pv_ts, pv_tn, ev_ic0, ev_goto, pz_wi_gc, pz_wi_ga, pz_wi_gn, pz_wi_gl, pz_wi_gr, pz_wi_same, pz_wi_X, pz_wl_gc, pz_wl_ga, pz_wl_gn, pz_wl_gi, pz_wl_gr, pz_wl_same, pz_wl_X, pz_wr_gc, pz_wr_ga, pz_wr_gn, pz_wr_gi, pz_wr_gl, pz_wr_same, pz_wr_X, g0]
                (try simp (disch := omega) only [nI_clamp, pz_in_nI2, pz_in_nI2L, pv_gt, nI_add, nI_addL, nI_Ladd, pk_mul, nI_mulL, nI_Lmul, pk_sub, nI_subL, nI_Lsub, nI_inc, nI_clampL, Nat.add_sub_cancel, pz_wi_else, pz_wl_else, vu_eq, vu_ne, pz_wi_gc, pz_wi_ga, pz_wi_gn, pz_wi_gl, pz_wi_gr, pz_wi_same, pz_wi_X, pz_wl_gc, pz_wl_ga, pz_wl_gn, pz_wl_gi, pz_wl_gr, pz_wl_same, pz_wl_X, pz_wr_gc, pz_wr_ga, pz_wr_gn, pz_wr_gi, pz_wr_gl, pz_wr_same, pz_wr_X, g0])
                refine po_go ?_
                refine pw_blk (mi := mz_101) (b := bz_101_55) rfl rfl ?_
                simp only [bz_101_55, pz_cut_t, pz_cut_f, pz_cut_n, pv_gt, pv_ts, pv_tn, ev_ist5n, ev_ist5i, ev_ist5r, ev_ist5e, ev_ist5l, ev_ild5, ev_ifle, pz_wi_gc, pz_wi_ga, pz_wi_gn, pz_wi_gl, pz_wi_gr, pz_wi_same, pz_wi_X, pz_wl_gc, pz_wl_ga, pz_wl_gn, pz_wl_gi, pz_wl_gr, pz_wl_same, pz_wl_X, pz_wr_gc, pz_wr_ga, pz_wr_gn, pz_wr_gi, pz_wr_gl, pz_wr_same, pz_wr_X, g0]
                (try simp (disch := omega) only [nI_clamp, pz_in_nI2, pz_in_nI2L, pv_gt, nI_add, nI_addL, nI_Ladd, pk_mul, nI_mulL, nI_Lmul, pk_sub, nI_subL, nI_Lsub, nI_inc, nI_clampL, Nat.add_sub_cancel, pz_wi_else, pz_wl_else, vu_eq, vu_ne, pz_wi_gc, pz_wi_ga, pz_wi_gn, pz_wi_gl, pz_wi_gr, pz_wi_same, pz_wi_X, pz_wl_gc, pz_wl_ga, pz_wl_gn, pz_wl_gi, pz_wl_gr, pz_wl_same, pz_wl_X, pz_wr_gc, pz_wr_ga, pz_wr_gn, pz_wr_gi, pz_wr_gl, pz_wr_same, pz_wr_X, g0])
                refine po_brP (fun q55 => ?_) (fun q55 => ?_)
                · skip
                  (try simp (disch := omega) only [nI_ltI, nI_leI, nI_eq, nI_ltL, nI_leL, nI_eqL, nI_Llt, nI_Lle, nI_Leq, nI_eqm, nI_meq, nI_ltm, nI_lem, nI_mlt, nI_mle, lg0, lgl, lgg, lgle, lgge, Int32.not_lt, Int32.not_le, Int64.not_lt, Int64.not_le, not_false_eq_true, not_true_eq_false, Decidable.not_not, ge_iff_le, gt_iff_lt] at q55)
                  refine pw_blk (mi := mz_101) (b := bz_101_85) rfl rfl ?_
                  simp only [bz_101_85, pz_cut_t, pz_cut_f, pz_cut_n, pv_gt, pv_ts, pv_tn, ev_inc4n, ev_inc4i, ev_inc4r, ev_inc4e, ev_goto, pz_wi_gc, pz_wi_ga, pz_wi_gn, pz_wi_gl, pz_wi_gr, pz_wi_same, pz_wi_X, pz_wl_gc, pz_wl_ga, pz_wl_gn, pz_wl_gi, pz_wl_gr, pz_wl_same, pz_wl_X, pz_wr_gc, pz_wr_ga, pz_wr_gn, pz_wr_gi, pz_wr_gl, pz_wr_same, pz_wr_X, g0]
                  (try simp (disch := omega) only [nI_clamp, pz_in_nI2, pz_in_nI2L, pv_gt, nI_add, nI_addL, nI_Ladd, pk_mul, nI_mulL, nI_Lmul, pk_sub, nI_subL, nI_Lsub, nI_inc, nI_clampL, Nat.add_sub_cancel, pz_wi_else, pz_wl_else, vu_eq, vu_ne, pz_wi_gc, pz_wi_ga, pz_wi_gn, pz_wi_gl, pz_wi_gr, pz_wi_same, pz_wi_X, pz_wl_gc, pz_wl_ga, pz_wl_gn, pz_wl_gi, pz_wl_gr, pz_wl_same, pz_wl_X, pz_wr_gc, pz_wr_ga, pz_wr_gn, pz_wr_gi, pz_wr_gl, pz_wr_same, pz_wr_X, g0])
                  refine po_go ?_
                  exact pw_cut (mi := mz_101) (b := bz_101_23) rfl rfl (nx M1 s1 h1 h2) rfl
                · first
                  | exact absurd q55 (by decide)
                  | exact absurd trivial q55
                  | exact q55.elim
                  | (exfalso; (try simp (disch := omega) only [nI_ltI, nI_leI, nI_eq, nI_ltL, nI_leL, nI_eqL, nI_Llt, nI_Lle, nI_Leq, nI_eqm, nI_meq, nI_ltm, nI_lem, nI_mlt, nI_mle, lg0, lgl, lgg, lgle, lgge, Int32.not_lt, Int32.not_le, Int64.not_lt, Int64.not_le, not_false_eq_true, not_true_eq_false, Decidable.not_not, ge_iff_le, gt_iff_lt] at q55) <;> omega)
                  | exact absurd q55 (by with_reducible assumption)
                  | exact absurd (by with_reducible assumption) q55
                  | exact absurd (Decidable.not_not.mp q55) (by with_reducible assumption)
                  | exact absurd (by with_reducible assumption) (Int32.not_le.mpr q55)
                  | exact absurd (by with_reducible assumption) (Int32.not_lt.mpr q55)
          · by_cases ha : 0 < alk (gl M 5) i j 9 0
            · have ha9 := alk_le (gl M 5) i j 9 0
              rw [lkj_y (fun z => hij z.symm) ha] at nx
              rw [List.length_append, List.length_singleton] at nx
              generalize hn : (lkj (gl M 5) i j).length = n at hl nx
              have fz : ∀ M2, M2 = pz_wi (pz_wi M1 41 (va_up (gi M1 41) (i * 24 + n) (nI j))) 42 (va_up (gi M1 42) (i * 24 + n) (nI (alk (gl M 5) i j 9 0))) → sm [40, 41, 42] M M2 ∧ (∀ i', i' < i → frw M2 (gl M 5) B i') ∧ fr2 M2 (gl M 5) i (lkj (gl M 5) i j ++ [j]) := by
                intro M2 hM2
                have q0 : gi M2 40 = gi M1 40 := by rw [hM2]; simp (disch := decide) only [pz_wi_else]
                have q1 : gi M2 41 = va_up (gi M1 41) (i * 24 + n) (nI j) := by rw [hM2]; simp (disch := decide) only [pz_wi_else, pz_wi_same]
                have q2 : gi M2 42 = va_up (gi M1 42) (i * 24 + n) (nI (alk (gl M 5) i j 9 0)) := by rw [hM2, pz_wi_same]
                refine ⟨?_, fun i' hi' => frw_w (h1 i' hi') hB hi' q0 q1 q2, fr2_w h2 hn q1 q2⟩
                rw [hM2]
                exact sm.wi (sm.wi s1 (by decide)) (by decide)
              generalize hx : alk (gl M 5) i j 9 0 = x at ha ha9 fz
              refine pw_blk (mi := mz_101) (b := bz_101_23) rfl rfl ?_
              simp only [bz_101_23, pz_cut_t, pz_cut_f, pz_cut_n, pv_gt, pv_ts, pv_tn, ev_ild4, ev_ald0, ev_eld0, ev_gf1_2, ev_gf8_0, ev_ic_ge, pz_wi_gc, pz_wi_ga, pz_wi_gn, pz_wi_gl, pz_wi_gr, pz_wi_same, pz_wi_X, pz_wl_gc, pz_wl_ga, pz_wl_gn, pz_wl_gi, pz_wl_gr, pz_wl_same, pz_wl_X, pz_wr_gc, pz_wr_ga, pz_wr_gn, pz_wr_gi, pz_wr_gl, pz_wr_same, pz_wr_X, so_39 hS1, sr_39_0 hS1, so_4 hS1, g0, so_4 hS1]
              (try simp (disch := omega) only [nI_clamp, pz_in_nI2, pz_in_nI2L, pv_gt, nI_add, nI_addL, nI_Ladd, pk_mul, nI_mulL, nI_Lmul, pk_sub, nI_subL, nI_Lsub, nI_inc, nI_clampL, Nat.add_sub_cancel, pz_wi_else, pz_wl_else, vu_eq, vu_ne, pz_wi_gc, pz_wi_ga, pz_wi_gn, pz_wi_gl, pz_wi_gr, pz_wi_same, pz_wi_X, pz_wl_gc, pz_wl_ga, pz_wl_gn, pz_wl_gi, pz_wl_gr, pz_wl_same, pz_wl_X, pz_wr_gc, pz_wr_ga, pz_wr_gn, pz_wr_gi, pz_wr_gl, pz_wr_same, pz_wr_X, g0, so_4 hS1])
              refine po_brP (fun q23 => ?_) (fun q23 => ?_)
              · first
                | exact absurd q23 (by decide)
                | exact absurd trivial q23
                | exact q23.elim
                | (exfalso; (try simp (disch := omega) only [nI_ltI, nI_leI, nI_eq, nI_ltL, nI_leL, nI_eqL, nI_Llt, nI_Lle, nI_Leq, nI_eqm, nI_meq, nI_ltm, nI_lem, nI_mlt, nI_mle, lg0, lgl, lgg, lgle, lgge, Int32.not_lt, Int32.not_le, Int64.not_lt, Int64.not_le, not_false_eq_true, not_true_eq_false, Decidable.not_not, ge_iff_le, gt_iff_lt] at q23) <;> omega)
                | exact absurd q23 (by with_reducible assumption)
                | exact absurd (by with_reducible assumption) q23
                | exact absurd (Decidable.not_not.mp q23) (by with_reducible assumption)
                | exact absurd (by with_reducible assumption) (Int32.not_le.mpr q23)
                | exact absurd (by with_reducible assumption) (Int32.not_lt.mpr q23)
              · skip
                (try simp (disch := omega) only [nI_ltI, nI_leI, nI_eq, nI_ltL, nI_leL, nI_eqL, nI_Llt, nI_Lle, nI_Leq, nI_eqm, nI_meq, nI_ltm, nI_lem, nI_mlt, nI_mle, lg0, lgl, lgg, lgle, lgge, Int32.not_lt, Int32.not_le, Int64.not_lt, Int64.not_le, not_false_eq_true, not_true_eq_false, Decidable.not_not, ge_iff_le, gt_iff_lt] at q23)
                refine pw_blk (mi := mz_101) (b := bz_101_35) rfl rfl ?_
                simp only [bz_101_35, pz_cut_t, pz_cut_f, pz_cut_n, pv_gt, pv_ts, pv_tn, ev_ild1, ev_ild4, ev_ic_ne, pz_wi_gc, pz_wi_ga, pz_wi_gn, pz_wi_gl, pz_wi_gr, pz_wi_same, pz_wi_X, pz_wl_gc, pz_wl_ga, pz_wl_gn, pz_wl_gi, pz_wl_gr, pz_wl_same, pz_wl_X, pz_wr_gc, pz_wr_ga, pz_wr_gn, pz_wr_gi, pz_wr_gl, pz_wr_same, pz_wr_X, g0, so_4 hS1]
                (try simp (disch := omega) only [nI_clamp, pz_in_nI2, pz_in_nI2L, pv_gt, nI_add, nI_addL, nI_Ladd, pk_mul, nI_mulL, nI_Lmul, pk_sub, nI_subL, nI_Lsub, nI_inc, nI_clampL, Nat.add_sub_cancel, pz_wi_else, pz_wl_else, vu_eq, vu_ne, pz_wi_gc, pz_wi_ga, pz_wi_gn, pz_wi_gl, pz_wi_gr, pz_wi_same, pz_wi_X, pz_wl_gc, pz_wl_ga, pz_wl_gn, pz_wl_gi, pz_wl_gr, pz_wl_same, pz_wl_X, pz_wr_gc, pz_wr_ga, pz_wr_gn, pz_wr_gi, pz_wr_gl, pz_wr_same, pz_wr_X, g0, so_4 hS1])
                refine po_brP (fun q35 => ?_) (fun q35 => ?_)
                · skip
                  (try simp (disch := omega) only [nI_ltI, nI_leI, nI_eq, nI_ltL, nI_leL, nI_eqL, nI_Llt, nI_Lle, nI_Leq, nI_eqm, nI_meq, nI_ltm, nI_lem, nI_mlt, nI_mle, lg0, lgl, lgg, lgle, lgge, Int32.not_lt, Int32.not_le, Int64.not_lt, Int64.not_le, not_false_eq_true, not_true_eq_false, Decidable.not_not, ge_iff_le, gt_iff_lt] at q35)
                  refine pw_blk (mi := mz_101) (b := bz_101_45) rfl rfl ?_
                  simp only [bz_101_45, pz_cut_t, pz_cut_f, pz_cut_n, pv_gt, pv_ts, pv_tn, ev_ald0, ev_eld0, ev_gf1_2, ev_ild1, ev_ild4, ev_cv2_8, pz_wi_gc, pz_wi_ga, pz_wi_gn, pz_wi_gl, pz_wi_gr, pz_wi_same, pz_wi_X, pz_wl_gc, pz_wl_ga, pz_wl_gn, pz_wl_gi, pz_wl_gr, pz_wl_same, pz_wl_X, pz_wr_gc, pz_wr_ga, pz_wr_gn, pz_wr_gi, pz_wr_gl, pz_wr_same, pz_wr_X, so_39 hS1, sr_39_0 hS1, so_4 hS1, g0, so_4 hS1]
                  (try simp (disch := omega) only [nI_clamp, pz_in_nI2, pz_in_nI2L, pv_gt, nI_add, nI_addL, nI_Ladd, pk_mul, nI_mulL, nI_Lmul, pk_sub, nI_subL, nI_Lsub, nI_inc, nI_clampL, Nat.add_sub_cancel, pz_wi_else, pz_wl_else, vu_eq, vu_ne, pz_wi_gc, pz_wi_ga, pz_wi_gn, pz_wi_gl, pz_wi_gr, pz_wi_same, pz_wi_X, pz_wl_gc, pz_wl_ga, pz_wl_gn, pz_wl_gi, pz_wl_gr, pz_wl_same, pz_wl_X, pz_wr_gc, pz_wr_ga, pz_wr_gn, pz_wr_gi, pz_wr_gl, pz_wr_same, pz_wr_X, g0, so_4 hS1])
                  (try refine po_gP (Nat.le_of_ble_eq_true rfl) ?_)
                  refine po_call (by omega) (m_countAlike hS1 (by omega) (by omega) ?_)
                  rw [g5, hx]
                  refine pw_blk (mi := mz_101) (b := bz_101_55) rfl rfl ?_
                  simp only [bz_101_55, pz_cut_t, pz_cut_f, pz_cut_n, pv_gt, pv_ts, pv_tn, ev_ist5n, ev_ist5i, ev_ist5r, ev_ist5e, ev_ist5l, ev_ild5, ev_ifle, pz_wi_gc, pz_wi_ga, pz_wi_gn, pz_wi_gl, pz_wi_gr, pz_wi_same, pz_wi_X, pz_wl_gc, pz_wl_ga, pz_wl_gn, pz_wl_gi, pz_wl_gr, pz_wl_same, pz_wl_X, pz_wr_gc, pz_wr_ga, pz_wr_gn, pz_wr_gi, pz_wr_gl, pz_wr_same, pz_wr_X, g0, so_4 hS1]
                  (try simp (disch := omega) only [nI_clamp, pz_in_nI2, pz_in_nI2L, pv_gt, nI_add, nI_addL, nI_Ladd, pk_mul, nI_mulL, nI_Lmul, pk_sub, nI_subL, nI_Lsub, nI_inc, nI_clampL, Nat.add_sub_cancel, pz_wi_else, pz_wl_else, vu_eq, vu_ne, pz_wi_gc, pz_wi_ga, pz_wi_gn, pz_wi_gl, pz_wi_gr, pz_wi_same, pz_wi_X, pz_wl_gc, pz_wl_ga, pz_wl_gn, pz_wl_gi, pz_wl_gr, pz_wl_same, pz_wl_X, pz_wr_gc, pz_wr_ga, pz_wr_gn, pz_wr_gi, pz_wr_gl, pz_wr_same, pz_wr_X, g0, so_4 hS1])
                  refine po_brP (fun q55 => ?_) (fun q55 => ?_)
                  · first
                    | exact absurd q55 (by decide)
                    | exact absurd trivial q55
                    | exact q55.elim
                    | (exfalso; (try simp (disch := omega) only [nI_ltI, nI_leI, nI_eq, nI_ltL, nI_leL, nI_eqL, nI_Llt, nI_Lle, nI_Leq, nI_eqm, nI_meq, nI_ltm, nI_lem, nI_mlt, nI_mle, lg0, lgl, lgg, lgle, lgge, Int32.not_lt, Int32.not_le, Int64.not_lt, Int64.not_le, not_false_eq_true, not_true_eq_false, Decidable.not_not, ge_iff_le, gt_iff_lt] at q55) <;> omega)
                    | exact absurd q55 (by with_reducible assumption)
                    | exact absurd (by with_reducible assumption) q55
                    | exact absurd (Decidable.not_not.mp q55) (by with_reducible assumption)
                    | exact absurd (by with_reducible assumption) (Int32.not_le.mpr q55)
                    | exact absurd (by with_reducible assumption) (Int32.not_lt.mpr q55)
                  · skip
                    (try simp (disch := omega) only [nI_ltI, nI_leI, nI_eq, nI_ltL, nI_leL, nI_eqL, nI_Llt, nI_Lle, nI_Leq, nI_eqm, nI_meq, nI_ltm, nI_lem, nI_mlt, nI_mle, lg0, lgl, lgg, lgle, lgge, Int32.not_lt, Int32.not_le, Int64.not_lt, Int64.not_le, not_false_eq_true, not_true_eq_false, Decidable.not_not, ge_iff_le, gt_iff_lt] at q55)
                    refine pw_blk (mi := mz_101) (b := bz_101_62) rfl rfl ?_
                    simp only [bz_101_62, pz_cut_t, pz_cut_f, pz_cut_n, pv_gt, pv_ts, pv_tn, ev_ald0, ev_eld0, ev_gf1_2, ev_ild2, ev_ild3, ev_iadd, ev_ild4, ea_iast, ev_ild5, ev_inc3n, ev_inc3i, ev_inc3r, ev_inc3e, ev_nil, pz_wi_gc, pz_wi_ga, pz_wi_gn, pz_wi_gl, pz_wi_gr, pz_wi_same, pz_wi_X, pz_wl_gc, pz_wl_ga, pz_wl_gn, pz_wl_gi, pz_wl_gr, pz_wl_same, pz_wl_X, pz_wr_gc, pz_wr_ga, pz_wr_gn, pz_wr_gi, pz_wr_gl, pz_wr_same, pz_wr_X, so_39 hS1, sr_39_2 hS1, sa_41 hS1, sn_41 hS1, sr_39_3 hS1, sa_42 hS1, sn_42 hS1, g0, so_4 hS1, sa_40 hS1, sn_40 hS1]
                    (try simp (disch := omega) only [nI_clamp, pz_in_nI2, pz_in_nI2L, pv_gt, nI_add, nI_addL, nI_Ladd, pk_mul, nI_mulL, nI_Lmul, pk_sub, nI_subL, nI_Lsub, nI_inc, nI_clampL, Nat.add_sub_cancel, pz_wi_else, pz_wl_else, vu_eq, vu_ne, pz_wi_gc, pz_wi_ga, pz_wi_gn, pz_wi_gl, pz_wi_gr, pz_wi_same, pz_wi_X, pz_wl_gc, pz_wl_ga, pz_wl_gn, pz_wl_gi, pz_wl_gr, pz_wl_same, pz_wl_X, pz_wr_gc, pz_wr_ga, pz_wr_gn, pz_wr_gi, pz_wr_gl, pz_wr_same, pz_wr_X, g0, so_4 hS1])
                    (try refine po_gI (by first | exact pz_in_nI (by omega) (by decide) | decide | assumption) ?_)
                    (try refine po_gI (by first | exact pz_in_nI (by omega) (by decide) | decide | assumption) ?_)
                    refine po_go ?_
                    refine pw_blk (mi := mz_101) (b := bz_101_85) rfl rfl ?_
                    simp only [bz_101_85, pz_cut_t, pz_cut_f, pz_cut_n, pv_gt, pv_ts, pv_tn, ev_inc4n, ev_inc4i, ev_inc4r, ev_inc4e, ev_goto, pz_wi_gc, pz_wi_ga, pz_wi_gn, pz_wi_gl, pz_wi_gr, pz_wi_same, pz_wi_X, pz_wl_gc, pz_wl_ga, pz_wl_gn, pz_wl_gi, pz_wl_gr, pz_wl_same, pz_wl_X, pz_wr_gc, pz_wr_ga, pz_wr_gn, pz_wr_gi, pz_wr_gl, pz_wr_same, pz_wr_X, g0, so_4 hS1]
                    (try simp (disch := omega) only [nI_clamp, pz_in_nI2, pz_in_nI2L, pv_gt, nI_add, nI_addL, nI_Ladd, pk_mul, nI_mulL, nI_Lmul, pk_sub, nI_subL, nI_Lsub, nI_inc, nI_clampL, Nat.add_sub_cancel, pz_wi_else, pz_wl_else, vu_eq, vu_ne, pz_wi_gc, pz_wi_ga, pz_wi_gn, pz_wi_gl, pz_wi_gr, pz_wi_same, pz_wi_X, pz_wl_gc, pz_wl_ga, pz_wl_gn, pz_wl_gi, pz_wl_gr, pz_wl_same, pz_wl_X, pz_wr_gc, pz_wr_ga, pz_wr_gn, pz_wr_gi, pz_wr_gl, pz_wr_same, pz_wr_X, g0, so_4 hS1])
                    refine po_go ?_
                    obtain ⟨y1, y2, y3⟩ := fz _ rfl
                    exact pw_cut (mi := mz_101) (b := bz_101_23) rfl rfl (nx _ y1 y2 y3) rfl
                · first
                  | exact absurd q35 (by decide)
                  | exact absurd trivial q35
                  | exact q35.elim
                  | (exfalso; (try simp (disch := omega) only [nI_ltI, nI_leI, nI_eq, nI_ltL, nI_leL, nI_eqL, nI_Llt, nI_Lle, nI_Leq, nI_eqm, nI_meq, nI_ltm, nI_lem, nI_mlt, nI_mle, lg0, lgl, lgg, lgle, lgge, Int32.not_lt, Int32.not_le, Int64.not_lt, Int64.not_le, not_false_eq_true, not_true_eq_false, Decidable.not_not, ge_iff_le, gt_iff_lt] at q35) <;> omega)
                  | exact absurd q35 (by with_reducible assumption)
                  | exact absurd (by with_reducible assumption) q35
                  | exact absurd (Decidable.not_not.mp q35) (by with_reducible assumption)
                  | exact absurd (by with_reducible assumption) (Int32.not_le.mpr q35)
                  | exact absurd (by with_reducible assumption) (Int32.not_lt.mpr q35)
            · rw [lkj_n (fun z => ha z.2)] at nx
              generalize hn : (lkj (gl M 5) i j).length = n at hl nx
              have hx : alk (gl M 5) i j 9 0 = 0 := by omega
              refine pw_blk (mi := mz_101) (b := bz_101_23) rfl rfl ?_
              simp only [bz_101_23, pz_cut_t, pz_cut_f, pz_cut_n, pv_gt, pv_ts, pv_tn, ev_ild4, ev_ald0, ev_eld0, ev_gf1_2, ev_gf8_0, ev_ic_ge, pz_wi_gc, pz_wi_ga, pz_wi_gn, pz_wi_gl, pz_wi_gr, pz_wi_same, pz_wi_X, pz_wl_gc, pz_wl_ga, pz_wl_gn, pz_wl_gi, pz_wl_gr, pz_wl_same, pz_wl_X, pz_wr_gc, pz_wr_ga, pz_wr_gn, pz_wr_gi, pz_wr_gl, pz_wr_same, pz_wr_X, so_39 hS1, sr_39_0 hS1, so_4 hS1, g0, so_4 hS1]
              (try simp (disch := omega) only [nI_clamp, pz_in_nI2, pz_in_nI2L, pv_gt, nI_add, nI_addL, nI_Ladd, pk_mul, nI_mulL, nI_Lmul, pk_sub, nI_subL, nI_Lsub, nI_inc, nI_clampL, Nat.add_sub_cancel, pz_wi_else, pz_wl_else, vu_eq, vu_ne, pz_wi_gc, pz_wi_ga, pz_wi_gn, pz_wi_gl, pz_wi_gr, pz_wi_same, pz_wi_X, pz_wl_gc, pz_wl_ga, pz_wl_gn, pz_wl_gi, pz_wl_gr, pz_wl_same, pz_wl_X, pz_wr_gc, pz_wr_ga, pz_wr_gn, pz_wr_gi, pz_wr_gl, pz_wr_same, pz_wr_X, g0, so_4 hS1])
              refine po_brP (fun q23 => ?_) (fun q23 => ?_)
              · first
                | exact absurd q23 (by decide)
                | exact absurd trivial q23
                | exact q23.elim
                | (exfalso; (try simp (disch := omega) only [nI_ltI, nI_leI, nI_eq, nI_ltL, nI_leL, nI_eqL, nI_Llt, nI_Lle, nI_Leq, nI_eqm, nI_meq, nI_ltm, nI_lem, nI_mlt, nI_mle, lg0, lgl, lgg, lgle, lgge, Int32.not_lt, Int32.not_le, Int64.not_lt, Int64.not_le, not_false_eq_true, not_true_eq_false, Decidable.not_not, ge_iff_le, gt_iff_lt] at q23) <;> omega)
                | exact absurd q23 (by with_reducible assumption)
                | exact absurd (by with_reducible assumption) q23
                | exact absurd (Decidable.not_not.mp q23) (by with_reducible assumption)
                | exact absurd (by with_reducible assumption) (Int32.not_le.mpr q23)
                | exact absurd (by with_reducible assumption) (Int32.not_lt.mpr q23)
              · skip
                (try simp (disch := omega) only [nI_ltI, nI_leI, nI_eq, nI_ltL, nI_leL, nI_eqL, nI_Llt, nI_Lle, nI_Leq, nI_eqm, nI_meq, nI_ltm, nI_lem, nI_mlt, nI_mle, lg0, lgl, lgg, lgle, lgge, Int32.not_lt, Int32.not_le, Int64.not_lt, Int64.not_le, not_false_eq_true, not_true_eq_false, Decidable.not_not, ge_iff_le, gt_iff_lt] at q23)
                refine pw_blk (mi := mz_101) (b := bz_101_35) rfl rfl ?_
                simp only [bz_101_35, pz_cut_t, pz_cut_f, pz_cut_n, pv_gt, pv_ts, pv_tn, ev_ild1, ev_ild4, ev_ic_ne, pz_wi_gc, pz_wi_ga, pz_wi_gn, pz_wi_gl, pz_wi_gr, pz_wi_same, pz_wi_X, pz_wl_gc, pz_wl_ga, pz_wl_gn, pz_wl_gi, pz_wl_gr, pz_wl_same, pz_wl_X, pz_wr_gc, pz_wr_ga, pz_wr_gn, pz_wr_gi, pz_wr_gl, pz_wr_same, pz_wr_X, g0, so_4 hS1]
                (try simp (disch := omega) only [nI_clamp, pz_in_nI2, pz_in_nI2L, pv_gt, nI_add, nI_addL, nI_Ladd, pk_mul, nI_mulL, nI_Lmul, pk_sub, nI_subL, nI_Lsub, nI_inc, nI_clampL, Nat.add_sub_cancel, pz_wi_else, pz_wl_else, vu_eq, vu_ne, pz_wi_gc, pz_wi_ga, pz_wi_gn, pz_wi_gl, pz_wi_gr, pz_wi_same, pz_wi_X, pz_wl_gc, pz_wl_ga, pz_wl_gn, pz_wl_gi, pz_wl_gr, pz_wl_same, pz_wl_X, pz_wr_gc, pz_wr_ga, pz_wr_gn, pz_wr_gi, pz_wr_gl, pz_wr_same, pz_wr_X, g0, so_4 hS1])
                refine po_brP (fun q35 => ?_) (fun q35 => ?_)
                · skip
                  (try simp (disch := omega) only [nI_ltI, nI_leI, nI_eq, nI_ltL, nI_leL, nI_eqL, nI_Llt, nI_Lle, nI_Leq, nI_eqm, nI_meq, nI_ltm, nI_lem, nI_mlt, nI_mle, lg0, lgl, lgg, lgle, lgge, Int32.not_lt, Int32.not_le, Int64.not_lt, Int64.not_le, not_false_eq_true, not_true_eq_false, Decidable.not_not, ge_iff_le, gt_iff_lt] at q35)
                  refine pw_blk (mi := mz_101) (b := bz_101_45) rfl rfl ?_
                  simp only [bz_101_45, pz_cut_t, pz_cut_f, pz_cut_n, pv_gt, pv_ts, pv_tn, ev_ald0, ev_eld0, ev_gf1_2, ev_ild1, ev_ild4, ev_cv2_8, pz_wi_gc, pz_wi_ga, pz_wi_gn, pz_wi_gl, pz_wi_gr, pz_wi_same, pz_wi_X, pz_wl_gc, pz_wl_ga, pz_wl_gn, pz_wl_gi, pz_wl_gr, pz_wl_same, pz_wl_X, pz_wr_gc, pz_wr_ga, pz_wr_gn, pz_wr_gi, pz_wr_gl, pz_wr_same, pz_wr_X, so_39 hS1, sr_39_0 hS1, so_4 hS1, g0, so_4 hS1]
                  (try simp (disch := omega) only [nI_clamp, pz_in_nI2, pz_in_nI2L, pv_gt, nI_add, nI_addL, nI_Ladd, pk_mul, nI_mulL, nI_Lmul, pk_sub, nI_subL, nI_Lsub, nI_inc, nI_clampL, Nat.add_sub_cancel, pz_wi_else, pz_wl_else, vu_eq, vu_ne, pz_wi_gc, pz_wi_ga, pz_wi_gn, pz_wi_gl, pz_wi_gr, pz_wi_same, pz_wi_X, pz_wl_gc, pz_wl_ga, pz_wl_gn, pz_wl_gi, pz_wl_gr, pz_wl_same, pz_wl_X, pz_wr_gc, pz_wr_ga, pz_wr_gn, pz_wr_gi, pz_wr_gl, pz_wr_same, pz_wr_X, g0, so_4 hS1])
                  (try refine po_gP (Nat.le_of_ble_eq_true rfl) ?_)
                  refine po_call (by omega) (m_countAlike hS1 (by omega) (by omega) ?_)
                  rw [g5, hx]
                  refine pw_blk (mi := mz_101) (b := bz_101_55) rfl rfl ?_
                  simp only [bz_101_55, pz_cut_t, pz_cut_f, pz_cut_n, pv_gt, pv_ts, pv_tn, ev_ist5n, ev_ist5i, ev_ist5r, ev_ist5e, ev_ist5l, ev_ild5, ev_ifle, pz_wi_gc, pz_wi_ga, pz_wi_gn, pz_wi_gl, pz_wi_gr, pz_wi_same, pz_wi_X, pz_wl_gc, pz_wl_ga, pz_wl_gn, pz_wl_gi, pz_wl_gr, pz_wl_same, pz_wl_X, pz_wr_gc, pz_wr_ga, pz_wr_gn, pz_wr_gi, pz_wr_gl, pz_wr_same, pz_wr_X, g0, so_4 hS1]
                  (try simp (disch := omega) only [nI_clamp, pz_in_nI2, pz_in_nI2L, pv_gt, nI_add, nI_addL, nI_Ladd, pk_mul, nI_mulL, nI_Lmul, pk_sub, nI_subL, nI_Lsub, nI_inc, nI_clampL, Nat.add_sub_cancel, pz_wi_else, pz_wl_else, vu_eq, vu_ne, pz_wi_gc, pz_wi_ga, pz_wi_gn, pz_wi_gl, pz_wi_gr, pz_wi_same, pz_wi_X, pz_wl_gc, pz_wl_ga, pz_wl_gn, pz_wl_gi, pz_wl_gr, pz_wl_same, pz_wl_X, pz_wr_gc, pz_wr_ga, pz_wr_gn, pz_wr_gi, pz_wr_gl, pz_wr_same, pz_wr_X, g0, so_4 hS1])
                  refine po_brP (fun q55 => ?_) (fun q55 => ?_)
                  · skip
                    (try simp (disch := omega) only [nI_ltI, nI_leI, nI_eq, nI_ltL, nI_leL, nI_eqL, nI_Llt, nI_Lle, nI_Leq, nI_eqm, nI_meq, nI_ltm, nI_lem, nI_mlt, nI_mle, lg0, lgl, lgg, lgle, lgge, Int32.not_lt, Int32.not_le, Int64.not_lt, Int64.not_le, not_false_eq_true, not_true_eq_false, Decidable.not_not, ge_iff_le, gt_iff_lt] at q55)
                    refine pw_blk (mi := mz_101) (b := bz_101_85) rfl rfl ?_
                    simp only [bz_101_85, pz_cut_t, pz_cut_f, pz_cut_n, pv_gt, pv_ts, pv_tn, ev_inc4n, ev_inc4i, ev_inc4r, ev_inc4e, ev_goto, pz_wi_gc, pz_wi_ga, pz_wi_gn, pz_wi_gl, pz_wi_gr, pz_wi_same, pz_wi_X, pz_wl_gc, pz_wl_ga, pz_wl_gn, pz_wl_gi, pz_wl_gr, pz_wl_same, pz_wl_X, pz_wr_gc, pz_wr_ga, pz_wr_gn, pz_wr_gi, pz_wr_gl, pz_wr_same, pz_wr_X, g0, so_4 hS1]
                    (try simp (disch := omega) only [nI_clamp, pz_in_nI2, pz_in_nI2L, pv_gt, nI_add, nI_addL, nI_Ladd, pk_mul, nI_mulL, nI_Lmul, pk_sub, nI_subL, nI_Lsub, nI_inc, nI_clampL, Nat.add_sub_cancel, pz_wi_else, pz_wl_else, vu_eq, vu_ne, pz_wi_gc, pz_wi_ga, pz_wi_gn, pz_wi_gl, pz_wi_gr, pz_wi_same, pz_wi_X, pz_wl_gc, pz_wl_ga, pz_wl_gn, pz_wl_gi, pz_wl_gr, pz_wl_same, pz_wl_X, pz_wr_gc, pz_wr_ga, pz_wr_gn, pz_wr_gi, pz_wr_gl, pz_wr_same, pz_wr_X, g0, so_4 hS1])
                    refine po_go ?_
                    exact pw_cut (mi := mz_101) (b := bz_101_23) rfl rfl (nx M1 s1 h1 h2) rfl
                  · first
                    | exact absurd q55 (by decide)
                    | exact absurd trivial q55
                    | exact q55.elim
                    | (exfalso; (try simp (disch := omega) only [nI_ltI, nI_leI, nI_eq, nI_ltL, nI_leL, nI_eqL, nI_Llt, nI_Lle, nI_Leq, nI_eqm, nI_meq, nI_ltm, nI_lem, nI_mlt, nI_mle, lg0, lgl, lgg, lgle, lgge, Int32.not_lt, Int32.not_le, Int64.not_lt, Int64.not_le, not_false_eq_true, not_true_eq_false, Decidable.not_not, ge_iff_le, gt_iff_lt] at q55) <;> omega)
                    | exact absurd q55 (by with_reducible assumption)
                    | exact absurd (by with_reducible assumption) q55
                    | exact absurd (Decidable.not_not.mp q55) (by with_reducible assumption)
                    | exact absurd (by with_reducible assumption) (Int32.not_le.mpr q55)
                    | exact absurd (by with_reducible assumption) (Int32.not_lt.mpr q55)
                · first
                  | exact absurd q35 (by decide)
                  | exact absurd trivial q35
                  | exact q35.elim
                  | (exfalso; (try simp (disch := omega) only [nI_ltI, nI_leI, nI_eq, nI_ltL, nI_leL, nI_eqL, nI_Llt, nI_Lle, nI_Leq, nI_eqm, nI_meq, nI_ltm, nI_lem, nI_mlt, nI_mle, lg0, lgl, lgg, lgle, lgge, Int32.not_lt, Int32.not_le, Int64.not_lt, Int64.not_le, not_false_eq_true, not_true_eq_false, Decidable.not_not, ge_iff_le, gt_iff_lt] at q35) <;> omega)
                  | exact absurd q35 (by with_reducible assumption)
                  | exact absurd (by with_reducible assumption) q35
                  | exact absurd (Decidable.not_not.mp q35) (by with_reducible assumption)
                  | exact absurd (by with_reducible assumption) (Int32.not_le.mpr q35)
                  | exact absurd (by with_reducible assumption) (Int32.not_lt.mpr q35)
      have z := inner 0 (by omega) M' s h (fun k hk => absurd (show k < 0 from hk) (by omega))
      refine pw_blk (mi := mz_101) (b := bz_101_2) rfl rfl ?_
      simp only [bz_101_2, pz_cut_t, pz_cut_f, pz_cut_n, pv_gt, pv_ts, pv_tn, ev_ild1, ev_ald0, ev_eld0, ev_gf1_2, ev_gf8_0, ev_ic_ge, pz_wi_gc, pz_wi_ga, pz_wi_gn, pz_wi_gl, pz_wi_gr, pz_wi_same, pz_wi_X, pz_wl_gc, pz_wl_ga, pz_wl_gn, pz_wl_gi, pz_wl_gr, pz_wl_same, pz_wl_X, pz_wr_gc, pz_wr_ga, pz_wr_gn, pz_wr_gi, pz_wr_gl, pz_wr_same, pz_wr_X, so_39 hS', sr_39_0 hS', so_4 hS', e0']
      (try simp (disch := omega) only [nI_clamp, pz_in_nI2, pz_in_nI2L, pv_gt, nI_add, nI_addL, nI_Ladd, pk_mul, nI_mulL, nI_Lmul, pk_sub, nI_subL, nI_Lsub, nI_inc, nI_clampL, Nat.add_sub_cancel, pz_wi_else, pz_wl_else, vu_eq, vu_ne, pz_wi_gc, pz_wi_ga, pz_wi_gn, pz_wi_gl, pz_wi_gr, pz_wi_same, pz_wi_X, pz_wl_gc, pz_wl_ga, pz_wl_gn, pz_wl_gi, pz_wl_gr, pz_wl_same, pz_wl_X, pz_wr_gc, pz_wr_ga, pz_wr_gn, pz_wr_gi, pz_wr_gl, pz_wr_same, pz_wr_X, e0'])
      refine po_brP (fun q2 => ?_) (fun q2 => ?_)
      · first
        | exact absurd q2 (by decide)
        | exact absurd trivial q2
        | exact q2.elim
        | (exfalso; (try simp (disch := omega) only [nI_ltI, nI_leI, nI_eq, nI_ltL, nI_leL, nI_eqL, nI_Llt, nI_Lle, nI_Leq, nI_eqm, nI_meq, nI_ltm, nI_lem, nI_mlt, nI_mle, lg0, lgl, lgg, lgle, lgge, Int32.not_lt, Int32.not_le, Int64.not_lt, Int64.not_le, not_false_eq_true, not_true_eq_false, Decidable.not_not, ge_iff_le, gt_iff_lt] at q2) <;> omega)
        | exact absurd q2 (by with_reducible assumption)
        | exact absurd (by with_reducible assumption) q2
        | exact absurd (Decidable.not_not.mp q2) (by with_reducible assumption)
        | exact absurd (by with_reducible assumption) (Int32.not_le.mpr q2)
        | exact absurd (by with_reducible assumption) (Int32.not_lt.mpr q2)
      · skip
        (try simp (disch := omega) only [nI_ltI, nI_leI, nI_eq, nI_ltL, nI_leL, nI_eqL, nI_Llt, nI_Lle, nI_Leq, nI_eqm, nI_meq, nI_ltm, nI_lem, nI_mlt, nI_mle, lg0, lgl, lgg, lgle, lgge, Int32.not_lt, Int32.not_le, Int64.not_lt, Int64.not_le, not_false_eq_true, not_true_eq_false, Decidable.not_not, ge_iff_le, gt_iff_lt] at q2)
        refine pw_blk (mi := mz_101) (b := bz_101_13) rfl rfl ?_
        simp only [bz_101_13, pz_cut_t, pz_cut_f, pz_cut_n, pv_gt, pv_ts, pv_tn, ev_ild1, ev_bp24, ev_imul, ev_ist2n, ev_ist2i, ev_ist2r, ev_ist2e, ev_ist2l, ev_ic0, ev_ist3n, ev_ist3i, ev_ist3r, ev_ist3e, ev_ist3l, ev_ist4n, ev_ist4i, ev_ist4r, ev_ist4e, ev_ist4l, ev_nil, pz_wi_gc, pz_wi_ga, pz_wi_gn, pz_wi_gl, pz_wi_gr, pz_wi_same, pz_wi_X, pz_wl_gc, pz_wl_ga, pz_wl_gn, pz_wl_gi, pz_wl_gr, pz_wl_same, pz_wl_X, pz_wr_gc, pz_wr_ga, pz_wr_gn, pz_wr_gi, pz_wr_gl, pz_wr_same, pz_wr_X, e0']
        (try simp (disch := omega) only [nI_clamp, pz_in_nI2, pz_in_nI2L, pv_gt, nI_add, nI_addL, nI_Ladd, pk_mul, nI_mulL, nI_Lmul, pk_sub, nI_subL, nI_Lsub, nI_inc, nI_clampL, Nat.add_sub_cancel, pz_wi_else, pz_wl_else, vu_eq, vu_ne, pz_wi_gc, pz_wi_ga, pz_wi_gn, pz_wi_gl, pz_wi_gr, pz_wi_same, pz_wi_X, pz_wl_gc, pz_wl_ga, pz_wl_gn, pz_wl_gi, pz_wl_gr, pz_wl_same, pz_wl_X, pz_wr_gc, pz_wr_ga, pz_wr_gn, pz_wr_gi, pz_wr_gl, pz_wr_same, pz_wr_X, e0'])
        refine po_go ?_
        exact z
  refine pm_ent (L := [some (.ref 39), none, none, none, none, none]) rfl (Nat.le_of_ble_eq_true rfl) ?_
  refine pw_blk (mi := mz_101) (b := bz_101_0) rfl rfl ?_
  simp only [bz_101_0, pz_cut_t, pz_cut_f, pz_cut_n, pv_gt, pv_ts, pv_tn, ev_ic0, ev_ist1n, ev_ist1i, ev_ist1r, ev_ist1e, ev_ist1l, ev_nil, pz_wi_gc, pz_wi_ga, pz_wi_gn, pz_wi_gl, pz_wi_gr, pz_wi_same, pz_wi_X, pz_wl_gc, pz_wl_ga, pz_wl_gn, pz_wl_gi, pz_wl_gr, pz_wl_same, pz_wl_X, pz_wr_gc, pz_wr_ga, pz_wr_gn, pz_wr_gi, pz_wr_gl, pz_wr_same, pz_wr_X]
  (try simp (disch := omega) only [nI_clamp, pz_in_nI2, pz_in_nI2L, pv_gt, nI_add, nI_addL, nI_Ladd, pk_mul, nI_mulL, nI_Lmul, pk_sub, nI_subL, nI_Lsub, nI_inc, nI_clampL, Nat.add_sub_cancel, pz_wi_else, pz_wl_else, vu_eq, vu_ne, pz_wi_gc, pz_wi_ga, pz_wi_gn, pz_wi_gl, pz_wi_gr, pz_wi_same, pz_wi_X, pz_wl_gc, pz_wl_ga, pz_wl_gn, pz_wl_gi, pz_wl_gr, pz_wl_same, pz_wl_X, pz_wr_gc, pz_wr_ga, pz_wr_gn, pz_wr_gi, pz_wr_gl, pz_wr_same, pz_wr_X])
  refine po_go ?_
  exact pw_cut (mi := mz_101) (b := bz_101_2) rfl rfl (outer 0 (by omega) M sm.rf (fun i' h => absurd h (by omega))) rfl
theorem m_rulesEmpty {o : Nat} (ho : gc M o = some 6) (k : ∀ M', sm [o] M M' → gi M' o = va_up (va_up (va_up (gi M o) 0 0) 1 0) 2 0 → Q (none, M')) : pm d 102 [.ref o] M Q := by
  refine pm_ent (L := [some (.ref o)]) rfl (Nat.le_of_ble_eq_true rfl) ?_
  refine pw_blk (mi := mz_102) (b := bz_102_0) rfl rfl ?_
  simp only [bz_102_0, pz_cut_t, pz_cut_f, pz_cut_n, pv_gt, pv_ts, pv_tn, ev_ald0, ev_eld0, ev_ic0, ev_pf6_0, ev_ret, pz_wi_gc, pz_wi_ga, pz_wi_gn, pz_wi_gl, pz_wi_gr, pz_wi_same, pz_wi_X, pz_wl_gc, pz_wl_ga, pz_wl_gn, pz_wl_gi, pz_wl_gr, pz_wl_same, pz_wl_X, pz_wr_gc, pz_wr_ga, pz_wr_gn, pz_wr_gi, pz_wr_gl, pz_wr_same, pz_wr_X, ho]
  (try simp (disch := omega) only [nI_clamp, pz_in_nI2, pz_in_nI2L, pv_gt, nI_add, nI_addL, nI_Ladd, pk_mul, nI_mulL, nI_Lmul, pk_sub, nI_subL, nI_Lsub, nI_inc, nI_clampL, Nat.add_sub_cancel, pz_wi_else, pz_wl_else, vu_eq, vu_ne, pz_wi_gc, pz_wi_ga, pz_wi_gn, pz_wi_gl, pz_wi_gr, pz_wi_same, pz_wi_X, pz_wl_gc, pz_wl_ga, pz_wl_gn, pz_wl_gi, pz_wl_gr, pz_wl_same, pz_wl_X, pz_wr_gc, pz_wr_ga, pz_wr_gn, pz_wr_gi, pz_wr_gl, pz_wr_same, pz_wr_X, ho])
  refine po_then (fun M1 hM1 => ?_)
  refine k M1 ?_ ?_
  · rw [hM1]
    (repeat' first | exact sm.rf | refine sm.wi ?_ (by simp))
  · rw [hM1]
    simp only [pz_wi_same]
end PCL
