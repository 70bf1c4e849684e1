/-! ===== untell on both sides ===== -/
section UNTELL
variable {d : Nat} {M M' : pz_M} {Q : Option Value × pz_M → Prop}
theorem m_untell (hd : 1 ≤ d) (hS : SH M) {o N : Nat} {p w : Int32} (ho : p = 0 ∧ o = 81 ∨ ¬ p = 0 ∧ o = 87) (hN : N ≤ 40) (hn : gi M o 5 = nI N) (h1 : ∀ i, i < N → w = nI i → gi M (o + 5) i = -1 → ∀ M', sm [o + 5] M M' → gi M' (o + 5) = va_up (gi M (o + 5)) i (gi M 0 13) → Q (some (.int 1), M')) (h0 : (∀ i, i < N → w = nI i → ¬ gi M (o + 5) i = -1) → Q (some (.int 0), M)) : pm d 57 [.ref 0, .int p, .int w] M Q := by
  refine pm_ent (L := [some (.ref 0), some (.int p), some (.int w)]) rfl (Nat.le_of_ble_eq_true rfl) ?_
  refine pw_blk (mi := mz_57) (b := bz_57_0) rfl rfl ?_
  simp only [bz_57_0, pz_cut_t, pz_cut_f, pz_cut_n, pv_gt, pv_ts, pv_tn, ev_ild1, ev_ifeq, pz_wi_gc, pz_wi_ga, pz_wi_gn, pz_wi_gl, pz_wi_gr, pz_wi_same, pz_wi_X, pz_wl_gc, pz_wl_ga, pz_wl_gn, pz_wl_gi, pz_wl_gr, pz_wl_same, pz_wl_X, pz_wr_gc, pz_wr_ga, pz_wr_gn, pz_wr_gi, pz_wr_gl, pz_wr_same, pz_wr_X]
  rcases ho with ⟨hp, ho⟩ | ⟨hp, ho⟩
  · subst ho
    refine po_brP (fun _ => ?_) (fun q => absurd hp q)
    refine pw_blk (mi := mz_57) (b := bz_57_19) rfl rfl ?_
    simp only [bz_57_19, pz_cut_t, pz_cut_f, pz_cut_n, pv_gt, pv_ts, pv_tn, ev_ald0, ev_eld0, ev_gf0_2, ev_ild2, ev_gf0_0, ev_cv2_2, pz_wi_gc, pz_wi_ga, pz_wi_gn, pz_wi_gl, pz_wi_gr, pz_wi_same, pz_wi_X, pz_wl_gc, pz_wl_ga, pz_wl_gn, pz_wl_gi, pz_wl_gr, pz_wl_same, pz_wl_X, pz_wr_gc, pz_wr_ga, pz_wr_gn, pz_wr_gi, pz_wr_gl, pz_wr_same, pz_wr_X, so_0 hS, sr_0_8 hS, so_81 hS, ev_cv2_2]
    refine po_gP (Nat.le_of_ble_eq_true rfl) (po_call (by omega) (m_takeBack hS.ledgD hN hn (fun i hi e u M1 s1 e1 => ?_) (fun z => ?_)))
    · refine pw_blk (mi := mz_57) (b := bz_57_31) rfl rfl ?_
      simp only [bz_57_31, pz_cut_t, pz_cut_f, pz_cut_n, pv_gt, pv_ts, pv_tn, ev_iret1, pz_wi_gc, pz_wi_ga, pz_wi_gn, pz_wi_gl, pz_wi_gr, pz_wi_same, pz_wi_X, pz_wl_gc, pz_wl_ga, pz_wl_gn, pz_wl_gi, pz_wl_gr, pz_wl_same, pz_wl_X, pz_wr_gc, pz_wr_ga, pz_wr_gn, pz_wr_gi, pz_wr_gl, pz_wr_same, pz_wr_X]
      first | exact po_ret (h1 i hi e u M1 s1 e1) | exact po_gP (by decide) (po_ret (h1 i hi e u M1 s1 e1))
    · refine pw_blk (mi := mz_57) (b := bz_57_31) rfl rfl ?_
      simp only [bz_57_31, pz_cut_t, pz_cut_f, pz_cut_n, pv_gt, pv_ts, pv_tn, ev_iret1, pz_wi_gc, pz_wi_ga, pz_wi_gn, pz_wi_gl, pz_wi_gr, pz_wi_same, pz_wi_X, pz_wl_gc, pz_wl_ga, pz_wl_gn, pz_wl_gi, pz_wl_gr, pz_wl_same, pz_wl_X, pz_wr_gc, pz_wr_ga, pz_wr_gn, pz_wr_gi, pz_wr_gl, pz_wr_same, pz_wr_X]
      first | exact po_ret (h0 z) | exact po_gP (by decide) (po_ret (h0 z))
  · subst ho
    refine po_brP (fun q => absurd q hp) (fun _ => ?_)
    refine pw_blk (mi := mz_57) (b := bz_57_4) rfl rfl ?_
    simp only [bz_57_4, pz_cut_t, pz_cut_f, pz_cut_n, pv_gt, pv_ts, pv_tn, ev_ald0, ev_eld0, ev_gf0_2, ev_ild2, ev_gf0_0, ev_cv2_2, pz_wi_gc, pz_wi_ga, pz_wi_gn, pz_wi_gl, pz_wi_gr, pz_wi_same, pz_wi_X, pz_wl_gc, pz_wl_ga, pz_wl_gn, pz_wl_gi, pz_wl_gr, pz_wl_same, pz_wl_X, pz_wr_gc, pz_wr_ga, pz_wr_gn, pz_wr_gi, pz_wr_gl, pz_wr_same, pz_wr_X, so_0 hS, sr_0_9 hS, so_87 hS, ev_cv2_2]
    refine po_gP (Nat.le_of_ble_eq_true rfl) (po_call (by omega) (m_takeBack hS.ledgP hN hn (fun i hi e u M1 s1 e1 => ?_) (fun z => ?_)))
    · refine pw_blk (mi := mz_57) (b := bz_57_16) rfl rfl ?_
      simp only [bz_57_16, pz_cut_t, pz_cut_f, pz_cut_n, pv_gt, pv_ts, pv_tn, ev_goto, pz_wi_gc, pz_wi_ga, pz_wi_gn, pz_wi_gl, pz_wi_gr, pz_wi_same, pz_wi_X, pz_wl_gc, pz_wl_ga, pz_wl_gn, pz_wl_gi, pz_wl_gr, pz_wl_same, pz_wl_X, pz_wr_gc, pz_wr_ga, pz_wr_gn, pz_wr_gi, pz_wr_gl, pz_wr_same, pz_wr_X]
      refine po_go ?_
      refine pw_blk (mi := mz_57) (b := bz_57_31) rfl rfl ?_
      simp only [bz_57_31, pz_cut_t, pz_cut_f, pz_cut_n, pv_gt, pv_ts, pv_tn, ev_iret1, pz_wi_gc, pz_wi_ga, pz_wi_gn, pz_wi_gl, pz_wi_gr, pz_wi_same, pz_wi_X, pz_wl_gc, pz_wl_ga, pz_wl_gn, pz_wl_gi, pz_wl_gr, pz_wl_same, pz_wl_X, pz_wr_gc, pz_wr_ga, pz_wr_gn, pz_wr_gi, pz_wr_gl, pz_wr_same, pz_wr_X]
      first | exact po_ret (h1 i hi e u M1 s1 e1) | exact po_gP (by decide) (po_ret (h1 i hi e u M1 s1 e1))
    · refine pw_blk (mi := mz_57) (b := bz_57_16) rfl rfl ?_
      simp only [bz_57_16, pz_cut_t, pz_cut_f, pz_cut_n, pv_gt, pv_ts, pv_tn, ev_goto, pz_wi_gc, pz_wi_ga, pz_wi_gn, pz_wi_gl, pz_wi_gr, pz_wi_same, pz_wi_X, pz_wl_gc, pz_wl_ga, pz_wl_gn, pz_wl_gi, pz_wl_gr, pz_wl_same, pz_wl_X, pz_wr_gc, pz_wr_ga, pz_wr_gn, pz_wr_gi, pz_wr_gl, pz_wr_same, pz_wr_X]
      refine po_go ?_
      refine pw_blk (mi := mz_57) (b := bz_57_31) rfl rfl ?_
      simp only [bz_57_31, pz_cut_t, pz_cut_f, pz_cut_n, pv_gt, pv_ts, pv_tn, ev_iret1, pz_wi_gc, pz_wi_ga, pz_wi_gn, pz_wi_gl, pz_wi_gr, pz_wi_same, pz_wi_X, pz_wl_gc, pz_wl_ga, pz_wl_gn, pz_wl_gi, pz_wl_gr, pz_wl_same, pz_wl_X, pz_wr_gc, pz_wr_ga, pz_wr_gn, pz_wr_gi, pz_wr_gl, pz_wr_same, pz_wr_X]
      first | exact po_ret (h0 z) | exact po_gP (by decide) (po_ret (h0 z))
theorem ix_of {x : Int32} {N : Nat} (hN : N ≤ 40) (a : 0 ≤ x) (b : x ≤ nI N - 1) : ∃ i, i < N ∧ x = nI i := by
  have e : (nI N - 1).toInt = (N : Int) - 1 := pk_sub_toInt (a := N) (b := 1) (by omega) (by decide)
  obtain ⟨j, hj, q⟩ := nI_of (Int32.not_lt.mpr a)
  have c := Int32.le_iff_toInt_le.mp b
  rw [e, q, nI_toInt hj] at c
  exact ⟨j, by omega, q⟩
theorem ix_to {x : Int32} {N i : Nat} (hN : N ≤ 40) (hi : i < N) (e : x = nI i) : 0 ≤ x ∧ x ≤ nI N - 1 := by
  have e1 : nI N - 1 = nI (N - 1) := pk_sub (a := N) (b := 1) (by omega)
  rw [e, e1]
  exact ⟨nI_pos' (by omega), nI_le (by omega) (by omega)⟩
theorem r_untellD (hd : 1 ≤ d) (hS : SH M) {N : Nat} {w : Int32} (hN : N ≤ 40) (hn : gi M 120 89 = nI N) (h1 : ∀ i, i < N → w = nI i → gi M 170 i < 0 → ∀ M', sm [170] M M' → gi M' 170 = va_up (gi M 170) i (gi M 120 91) → Q (some (.int 1), M')) (h0 : (∀ i, i < N → w = nI i → ¬ gi M 170 i < 0) → Q (some (.int 0), M)) : pm d 58 [.ref 120, .int 0, .int w] M Q := by
  refine pm_ent (L := [some (.ref 120), some (.int 0), some (.int w)]) rfl (Nat.le_of_ble_eq_true rfl) ?_
  refine pw_blk (mi := mz_58) (b := bz_58_0) rfl rfl ?_
  simp only [bz_58_0, pz_cut_t, pz_cut_f, pz_cut_n, pv_gt, pv_ts, pv_tn, ev_ild2, ev_ic0, ev_ild1, ev_ifeq, pz_wi_gc, pz_wi_ga, pz_wi_gn, pz_wi_gl, pz_wi_gr, pz_wi_same, pz_wi_X, pz_wl_gc, pz_wl_ga, pz_wl_gn, pz_wl_gi, pz_wl_gr, pz_wl_same, pz_wl_X, pz_wr_gc, pz_wr_ga, pz_wr_gn, pz_wr_gi, pz_wr_gl, pz_wr_same, pz_wr_X]
  refine po_brP (fun _ => ?_) (fun q => absurd trivial q)
  refine pw_blk (mi := mz_58) (b := bz_58_13) rfl rfl ?_
  simp only [bz_58_13, pz_cut_t, pz_cut_f, pz_cut_n, pv_gt, pv_ts, pv_tn, ev_ald0, ev_eld0, ev_gf11_0, ev_nil, pz_wi_gc, pz_wi_ga, pz_wi_gn, pz_wi_gl, pz_wi_gr, pz_wi_same, pz_wi_X, pz_wl_gc, pz_wl_ga, pz_wl_gn, pz_wl_gi, pz_wl_gr, pz_wl_same, pz_wl_X, pz_wr_gc, pz_wr_ga, pz_wr_gn, pz_wr_gi, pz_wr_gl, pz_wr_same, pz_wr_X, so_120 hS]
  refine po_go ?_
  refine pw_blk (mi := mz_58) (b := bz_58_17) rfl rfl ?_
  simp only [bz_58_17, pz_cut_t, pz_cut_f, pz_cut_n, pv_gt, pv_ts, pv_tn, ev_ic1, ev_isub, ev_cs3, pz_wi_gc, pz_wi_ga, pz_wi_gn, pz_wi_gl, pz_wi_gr, pz_wi_same, pz_wi_X, pz_wl_gc, pz_wl_ga, pz_wl_gn, pz_wl_gi, pz_wl_gr, pz_wl_same, pz_wl_X, pz_wr_gc, pz_wr_ga, pz_wr_gn, pz_wr_gi, pz_wr_gl, pz_wr_same, pz_wr_X, hn]
  refine po_gP (Nat.le_of_ble_eq_true rfl) (po_call (by omega) (r_isIn (fun a b => ?_) (fun z => ?_)))
  · obtain ⟨i, hi, e⟩ := ix_of hN a b
    have hbn : (nI i).toNatClampNeg = i := nI_clamp (by omega)
    subst e
    refine pw_blk (mi := mz_58) (b := bz_58_22) rfl rfl ?_
    simp only [bz_58_22, pz_cut_t, pz_cut_f, pz_cut_n, pv_gt, pv_ts, pv_tn, ev_ifeq, pz_wi_gc, pz_wi_ga, pz_wi_gn, pz_wi_gl, pz_wi_gr, pz_wi_same, pz_wi_X, pz_wl_gc, pz_wl_ga, pz_wl_gn, pz_wl_gi, pz_wl_gr, pz_wl_same, pz_wl_X, pz_wr_gc, pz_wr_ga, pz_wr_gn, pz_wr_gi, pz_wr_gl, pz_wr_same, pz_wr_X]
    refine po_brP (fun q => absurd q (by decide)) (fun _ => ?_)
    refine pw_blk (mi := mz_58) (b := bz_58_25) rfl rfl ?_
    simp only [bz_58_25, pz_cut_t, pz_cut_f, pz_cut_n, pv_gt, pv_ts, pv_tn, ev_ild1, ev_ifeq, pz_wi_gc, pz_wi_ga, pz_wi_gn, pz_wi_gl, pz_wi_gr, pz_wi_same, pz_wi_X, pz_wl_gc, pz_wl_ga, pz_wl_gn, pz_wl_gi, pz_wl_gr, pz_wl_same, pz_wl_X, pz_wr_gc, pz_wr_ga, pz_wr_gn, pz_wr_gi, pz_wr_gl, pz_wr_same, pz_wr_X]
    refine po_brP (fun _ => ?_) (fun q => absurd trivial q)
    refine pw_blk (mi := mz_58) (b := bz_58_38) rfl rfl ?_
    simp only [bz_58_38, pz_cut_t, pz_cut_f, pz_cut_n, pv_gt, pv_ts, pv_tn, ev_ald0, ev_eld0, ev_gf11_2, ev_ild2, ea_iald, ev_nil, pz_wi_gc, pz_wi_ga, pz_wi_gn, pz_wi_gl, pz_wi_gr, pz_wi_same, pz_wi_X, pz_wl_gc, pz_wl_ga, pz_wl_gn, pz_wl_gi, pz_wl_gr, pz_wl_same, pz_wl_X, pz_wr_gc, pz_wr_ga, pz_wr_gn, pz_wr_gi, pz_wr_gl, pz_wr_same, pz_wr_X, so_120 hS, sr_120_83 hS, sa_170 hS, sn_170 hS, hbn]
    refine po_g (pz_in_nI (by omega) (by decide)) ?_
    refine po_go ?_
    refine pw_blk (mi := mz_58) (b := bz_58_44) rfl rfl ?_
    simp only [bz_58_44, pz_cut_t, pz_cut_f, pz_cut_n, pv_gt, pv_ts, pv_tn, ev_iflt, pz_wi_gc, pz_wi_ga, pz_wi_gn, pz_wi_gl, pz_wi_gr, pz_wi_same, pz_wi_X, pz_wl_gc, pz_wl_ga, pz_wl_gn, pz_wl_gi, pz_wl_gr, pz_wl_same, pz_wl_X, pz_wr_gc, pz_wr_ga, pz_wr_gn, pz_wr_gi, pz_wr_gl, pz_wr_same, pz_wr_X]
    refine po_brP (fun q => ?_) (fun q => ?_)
    · refine pw_blk (mi := mz_58) (b := bz_58_49) rfl rfl ?_
      simp only [bz_58_49, pz_cut_t, pz_cut_f, pz_cut_n, pv_gt, pv_ts, pv_tn, ev_ild1, ev_ifeq, pz_wi_gc, pz_wi_ga, pz_wi_gn, pz_wi_gl, pz_wi_gr, pz_wi_same, pz_wi_X, pz_wl_gc, pz_wl_ga, pz_wl_gn, pz_wl_gi, pz_wl_gr, pz_wl_same, pz_wl_X, pz_wr_gc, pz_wr_ga, pz_wr_gn, pz_wr_gi, pz_wr_gl, pz_wr_same, pz_wr_X]
      refine po_brP (fun _ => ?_) (fun q => absurd trivial q)
      refine pw_blk (mi := mz_58) (b := bz_58_66) rfl rfl ?_
      simp only [bz_58_66, pz_cut_t, pz_cut_f, pz_cut_n, pv_gt, pv_ts, pv_tn, ev_ald0, ev_eld0, ev_gf11_2, ev_ild2, ev_gf11_0, ea_iast, ev_nil, pz_wi_gc, pz_wi_ga, pz_wi_gn, pz_wi_gl, pz_wi_gr, pz_wi_same, pz_wi_X, pz_wl_gc, pz_wl_ga, pz_wl_gn, pz_wl_gi, pz_wl_gr, pz_wl_same, pz_wl_X, pz_wr_gc, pz_wr_ga, pz_wr_gn, pz_wr_gi, pz_wr_gl, pz_wr_same, pz_wr_X, so_120 hS, sr_120_83 hS, sa_170 hS, sn_170 hS, hbn]
      refine po_g (pz_in_nI (by omega) (by decide)) ?_
      refine po_go ?_
      refine pw_blk (mi := mz_58) (b := bz_58_76) rfl rfl ?_
      simp only [bz_58_76, pz_cut_t, pz_cut_f, pz_cut_n, pv_gt, pv_ts, pv_tn, ev_ic1, ev_iret1, pz_wi_gc, pz_wi_ga, pz_wi_gn, pz_wi_gl, pz_wi_gr, pz_wi_same, pz_wi_X, pz_wl_gc, pz_wl_ga, pz_wl_gn, pz_wl_gi, pz_wl_gr, pz_wl_same, pz_wl_X, pz_wr_gc, pz_wr_ga, pz_wr_gn, pz_wr_gi, pz_wr_gl, pz_wr_same, pz_wr_X]
      first | exact po_ret (h1 i hi rfl q _ (sm.rf.wi (by decide)) pz_wi_same) | exact po_gP (by decide) (po_ret (h1 i hi rfl q _ (sm.rf.wi (by decide)) pz_wi_same))
    · refine pw_blk (mi := mz_58) (b := bz_58_47) rfl rfl ?_
      simp only [bz_58_47, pz_cut_t, pz_cut_f, pz_cut_n, pv_gt, pv_ts, pv_tn, ev_ic0, ev_iret1, pz_wi_gc, pz_wi_ga, pz_wi_gn, pz_wi_gl, pz_wi_gr, pz_wi_same, pz_wi_X, pz_wl_gc, pz_wl_ga, pz_wl_gn, pz_wl_gi, pz_wl_gr, pz_wl_same, pz_wl_X, pz_wr_gc, pz_wr_ga, pz_wr_gn, pz_wr_gi, pz_wr_gl, pz_wr_same, pz_wr_X]
      first | exact po_ret (h0 (fun j hj e => by rw [← (nI_eq (by omega) (by omega)).mp e]; exact q)) | exact po_gP (by decide) (po_ret (h0 (fun j hj e => by rw [← (nI_eq (by omega) (by omega)).mp e]; exact q)))
  · refine pw_blk (mi := mz_58) (b := bz_58_22) rfl rfl ?_
    simp only [bz_58_22, pz_cut_t, pz_cut_f, pz_cut_n, pv_gt, pv_ts, pv_tn, ev_ifeq, pz_wi_gc, pz_wi_ga, pz_wi_gn, pz_wi_gl, pz_wi_gr, pz_wi_same, pz_wi_X, pz_wl_gc, pz_wl_ga, pz_wl_gn, pz_wl_gi, pz_wl_gr, pz_wl_same, pz_wl_X, pz_wr_gc, pz_wr_ga, pz_wr_gn, pz_wr_gi, pz_wr_gl, pz_wr_same, pz_wr_X]
    refine po_brP (fun _ => ?_) (fun q => absurd trivial q)
    refine pw_blk (mi := mz_58) (b := bz_58_47) rfl rfl ?_
    simp only [bz_58_47, pz_cut_t, pz_cut_f, pz_cut_n, pv_gt, pv_ts, pv_tn, ev_ic0, ev_iret1, pz_wi_gc, pz_wi_ga, pz_wi_gn, pz_wi_gl, pz_wi_gr, pz_wi_same, pz_wi_X, pz_wl_gc, pz_wl_ga, pz_wl_gn, pz_wl_gi, pz_wl_gr, pz_wl_same, pz_wl_X, pz_wr_gc, pz_wr_ga, pz_wr_gn, pz_wr_gi, pz_wr_gl, pz_wr_same, pz_wr_X]
    first | exact po_ret (h0 (fun i hi e => absurd (ix_to hN hi e) z)) | exact po_gP (by decide) (po_ret (h0 (fun i hi e => absurd (ix_to hN hi e) z)))
theorem r_untellP (hd : 1 ≤ d) (hS : SH M) {N : Nat} {p w : Int32} (hp : ¬ p = 0) (hN : N ≤ 40) (hn : gi M 120 90 = nI N) (h1 : ∀ i, i < N → w = nI i → gi M 174 i < 0 → ∀ M', sm [174] M M' → gi M' 174 = va_up (gi M 174) i (gi M 120 91) → Q (some (.int 1), M')) (h0 : (∀ i, i < N → w = nI i → ¬ gi M 174 i < 0) → Q (some (.int 0), M)) : pm d 58 [.ref 120, .int p, .int w] M Q := by
  refine pm_ent (L := [some (.ref 120), some (.int p), some (.int w)]) rfl (Nat.le_of_ble_eq_true rfl) ?_
  refine pw_blk (mi := mz_58) (b := bz_58_0) rfl rfl ?_
  simp only [bz_58_0, pz_cut_t, pz_cut_f, pz_cut_n, pv_gt, pv_ts, pv_tn, ev_ild2, ev_ic0, ev_ild1, ev_ifeq, pz_wi_gc, pz_wi_ga, pz_wi_gn, pz_wi_gl, pz_wi_gr, pz_wi_same, pz_wi_X, pz_wl_gc, pz_wl_ga, pz_wl_gn, pz_wl_gi, pz_wl_gr, pz_wl_same, pz_wl_X, pz_wr_gc, pz_wr_ga, pz_wr_gn, pz_wr_gi, pz_wr_gl, pz_wr_same, pz_wr_X]
  refine po_brP (fun q => absurd q hp) (fun _ => ?_)
  refine pw_blk (mi := mz_58) (b := bz_58_6) rfl rfl ?_
  simp only [bz_58_6, pz_cut_t, pz_cut_f, pz_cut_n, pv_gt, pv_ts, pv_tn, ev_ald0, ev_eld0, ev_gf11_0, ev_goto, pz_wi_gc, pz_wi_ga, pz_wi_gn, pz_wi_gl, pz_wi_gr, pz_wi_same, pz_wi_X, pz_wl_gc, pz_wl_ga, pz_wl_gn, pz_wl_gi, pz_wl_gr, pz_wl_same, pz_wl_X, pz_wr_gc, pz_wr_ga, pz_wr_gn, pz_wr_gi, pz_wr_gl, pz_wr_same, pz_wr_X, so_120 hS]
  refine po_go ?_
  refine pw_blk (mi := mz_58) (b := bz_58_17) rfl rfl ?_
  simp only [bz_58_17, pz_cut_t, pz_cut_f, pz_cut_n, pv_gt, pv_ts, pv_tn, ev_ic1, ev_isub, ev_cs3, pz_wi_gc, pz_wi_ga, pz_wi_gn, pz_wi_gl, pz_wi_gr, pz_wi_same, pz_wi_X, pz_wl_gc, pz_wl_ga, pz_wl_gn, pz_wl_gi, pz_wl_gr, pz_wl_same, pz_wl_X, pz_wr_gc, pz_wr_ga, pz_wr_gn, pz_wr_gi, pz_wr_gl, pz_wr_same, pz_wr_X, hn]
  refine po_gP (Nat.le_of_ble_eq_true rfl) (po_call (by omega) (r_isIn (fun a b => ?_) (fun z => ?_)))
  · obtain ⟨i, hi, e⟩ := ix_of hN a b
    have hbn : (nI i).toNatClampNeg = i := nI_clamp (by omega)
    subst e
    refine pw_blk (mi := mz_58) (b := bz_58_22) rfl rfl ?_
    simp only [bz_58_22, pz_cut_t, pz_cut_f, pz_cut_n, pv_gt, pv_ts, pv_tn, ev_ifeq, pz_wi_gc, pz_wi_ga, pz_wi_gn, pz_wi_gl, pz_wi_gr, pz_wi_same, pz_wi_X, pz_wl_gc, pz_wl_ga, pz_wl_gn, pz_wl_gi, pz_wl_gr, pz_wl_same, pz_wl_X, pz_wr_gc, pz_wr_ga, pz_wr_gn, pz_wr_gi, pz_wr_gl, pz_wr_same, pz_wr_X]
    refine po_brP (fun q => absurd q (by decide)) (fun _ => ?_)
    refine pw_blk (mi := mz_58) (b := bz_58_25) rfl rfl ?_
    simp only [bz_58_25, pz_cut_t, pz_cut_f, pz_cut_n, pv_gt, pv_ts, pv_tn, ev_ild1, ev_ifeq, pz_wi_gc, pz_wi_ga, pz_wi_gn, pz_wi_gl, pz_wi_gr, pz_wi_same, pz_wi_X, pz_wl_gc, pz_wl_ga, pz_wl_gn, pz_wl_gi, pz_wl_gr, pz_wl_same, pz_wl_X, pz_wr_gc, pz_wr_ga, pz_wr_gn, pz_wr_gi, pz_wr_gl, pz_wr_same, pz_wr_X]
    refine po_brP (fun q => absurd q hp) (fun _ => ?_)
    refine pw_blk (mi := mz_58) (b := bz_58_29) rfl rfl ?_
    simp only [bz_58_29, pz_cut_t, pz_cut_f, pz_cut_n, pv_gt, pv_ts, pv_tn, ev_ald0, ev_eld0, ev_gf11_2, ev_ild2, ea_iald, ev_goto, pz_wi_gc, pz_wi_ga, pz_wi_gn, pz_wi_gl, pz_wi_gr, pz_wi_same, pz_wi_X, pz_wl_gc, pz_wl_ga, pz_wl_gn, pz_wl_gi, pz_wl_gr, pz_wl_same, pz_wl_X, pz_wr_gc, pz_wr_ga, pz_wr_gn, pz_wr_gi, pz_wr_gl, pz_wr_same, pz_wr_X, so_120 hS, sr_120_87 hS, sa_174 hS, sn_174 hS, hbn]
    refine po_g (pz_in_nI (by omega) (by decide)) ?_
    refine po_go ?_
    refine pw_blk (mi := mz_58) (b := bz_58_44) rfl rfl ?_
    simp only [bz_58_44, pz_cut_t, pz_cut_f, pz_cut_n, pv_gt, pv_ts, pv_tn, ev_iflt, pz_wi_gc, pz_wi_ga, pz_wi_gn, pz_wi_gl, pz_wi_gr, pz_wi_same, pz_wi_X, pz_wl_gc, pz_wl_ga, pz_wl_gn, pz_wl_gi, pz_wl_gr, pz_wl_same, pz_wl_X, pz_wr_gc, pz_wr_ga, pz_wr_gn, pz_wr_gi, pz_wr_gl, pz_wr_same, pz_wr_X]
    refine po_brP (fun q => ?_) (fun q => ?_)
    · refine pw_blk (mi := mz_58) (b := bz_58_49) rfl rfl ?_
      simp only [bz_58_49, pz_cut_t, pz_cut_f, pz_cut_n, pv_gt, pv_ts, pv_tn, ev_ild1, ev_ifeq, pz_wi_gc, pz_wi_ga, pz_wi_gn, pz_wi_gl, pz_wi_gr, pz_wi_same, pz_wi_X, pz_wl_gc, pz_wl_ga, pz_wl_gn, pz_wl_gi, pz_wl_gr, pz_wl_same, pz_wl_X, pz_wr_gc, pz_wr_ga, pz_wr_gn, pz_wr_gi, pz_wr_gl, pz_wr_same, pz_wr_X]
      refine po_brP (fun q => absurd q hp) (fun _ => ?_)
      refine pw_blk (mi := mz_58) (b := bz_58_53) rfl rfl ?_
      simp only [bz_58_53, pz_cut_t, pz_cut_f, pz_cut_n, pv_gt, pv_ts, pv_tn, ev_ald0, ev_eld0, ev_gf11_2, ev_ild2, ev_gf11_0, ea_iast, ev_goto, pz_wi_gc, pz_wi_ga, pz_wi_gn, pz_wi_gl, pz_wi_gr, pz_wi_same, pz_wi_X, pz_wl_gc, pz_wl_ga, pz_wl_gn, pz_wl_gi, pz_wl_gr, pz_wl_same, pz_wl_X, pz_wr_gc, pz_wr_ga, pz_wr_gn, pz_wr_gi, pz_wr_gl, pz_wr_same, pz_wr_X, so_120 hS, sr_120_87 hS, sa_174 hS, sn_174 hS, hbn]
      refine po_g (pz_in_nI (by omega) (by decide)) ?_
      refine po_go ?_
      refine pw_blk (mi := mz_58) (b := bz_58_76) rfl rfl ?_
      simp only [bz_58_76, pz_cut_t, pz_cut_f, pz_cut_n, pv_gt, pv_ts, pv_tn, ev_ic1, ev_iret1, pz_wi_gc, pz_wi_ga, pz_wi_gn, pz_wi_gl, pz_wi_gr, pz_wi_same, pz_wi_X, pz_wl_gc, pz_wl_ga, pz_wl_gn, pz_wl_gi, pz_wl_gr, pz_wl_same, pz_wl_X, pz_wr_gc, pz_wr_ga, pz_wr_gn, pz_wr_gi, pz_wr_gl, pz_wr_same, pz_wr_X]
      first | exact po_ret (h1 i hi rfl q _ (sm.rf.wi (by decide)) pz_wi_same) | exact po_gP (by decide) (po_ret (h1 i hi rfl q _ (sm.rf.wi (by decide)) pz_wi_same))
    · refine pw_blk (mi := mz_58) (b := bz_58_47) rfl rfl ?_
      simp only [bz_58_47, pz_cut_t, pz_cut_f, pz_cut_n, pv_gt, pv_ts, pv_tn, ev_ic0, ev_iret1, pz_wi_gc, pz_wi_ga, pz_wi_gn, pz_wi_gl, pz_wi_gr, pz_wi_same, pz_wi_X, pz_wl_gc, pz_wl_ga, pz_wl_gn, pz_wl_gi, pz_wl_gr, pz_wl_same, pz_wl_X, pz_wr_gc, pz_wr_ga, pz_wr_gn, pz_wr_gi, pz_wr_gl, pz_wr_same, pz_wr_X]
      first | exact po_ret (h0 (fun j hj e => by rw [← (nI_eq (by omega) (by omega)).mp e]; exact q)) | exact po_gP (by decide) (po_ret (h0 (fun j hj e => by rw [← (nI_eq (by omega) (by omega)).mp e]; exact q)))
  · refine pw_blk (mi := mz_58) (b := bz_58_22) rfl rfl ?_
    simp only [bz_58_22, pz_cut_t, pz_cut_f, pz_cut_n, pv_gt, pv_ts, pv_tn, ev_ifeq, pz_wi_gc, pz_wi_ga, pz_wi_gn, pz_wi_gl, pz_wi_gr, pz_wi_same, pz_wi_X, pz_wl_gc, pz_wl_ga, pz_wl_gn, pz_wl_gi, pz_wl_gr, pz_wl_same, pz_wl_X, pz_wr_gc, pz_wr_ga, pz_wr_gn, pz_wr_gi, pz_wr_gl, pz_wr_same, pz_wr_X]
    refine po_brP (fun _ => ?_) (fun q => absurd trivial q)
    refine pw_blk (mi := mz_58) (b := bz_58_47) rfl rfl ?_
    simp only [bz_58_47, pz_cut_t, pz_cut_f, pz_cut_n, pv_gt, pv_ts, pv_tn, ev_ic0, ev_iret1, pz_wi_gc, pz_wi_ga, pz_wi_gn, pz_wi_gl, pz_wi_gr, pz_wi_same, pz_wi_X, pz_wl_gc, pz_wl_ga, pz_wl_gn, pz_wl_gi, pz_wl_gr, pz_wl_same, pz_wl_X, pz_wr_gc, pz_wr_ga, pz_wr_gn, pz_wr_gi, pz_wr_gl, pz_wr_same, pz_wr_X]
    first | exact po_ret (h0 (fun i hi e => absurd (ix_to hN hi e) z)) | exact po_gP (by decide) (po_ret (h0 (fun i hi e => absurd (ix_to hN hi e) z)))
theorem isUn.neg {u : Int32} (h : isUn u) : u < 0 ↔ u = -1 := by
  rcases h with h | h
  · rw [h]
    decide
  · exact ⟨fun q => absurd h (Int32.not_le.mpr q), fun q => absurd h (by rw [q]; decide)⟩
/-- what untell leaves behind in row a of the class and row b of the reference -/
def untO (M M' : pz_M) (a b N : Nat) (w : Int32) : Prop := M' = M ∨ ∃ i, i < N ∧ w = nI i ∧ sm [a, b] M M' ∧ gi M' a = va_up (gi M a) i (gi M 0 13) ∧ gi M' b = va_up (gi M b) i (gi M 0 13)
theorem op_untellD (hd : 1 ≤ d) (hS : SH M) (ht : gi M 0 13 = gi M 120 91) {N : Nat} {w : Int32} (hN : N ≤ 40) (n1 : gi M 81 5 = nI N) (n2 : gi M 120 89 = nI N) (hr : ∀ i, i < N → gi M 86 i = gi M 170 i ∧ isUn (gi M 86 i)) : pm d 57 [.ref 0, .int 0, .int w] M (fun r1 => pm d 58 [.ref 120, .int 0, .int w] r1.2 (fun r2 => r1.1 = r2.1 ∧ untO M r2.2 86 170 N w)) := by
  refine m_untell hd hS (o := 81) (Or.inl ⟨rfl, rfl⟩) hN n1 (fun i hi e u M1 s1 e1 => ?_) (fun z => ?_)
  · have e120 : gi M1 120 = gi M 120 := s1.i (by decide)
    have e170 : gi M1 170 = gi M 170 := s1.i (by decide)
    obtain ⟨a1, a2⟩ := hr i hi
    have hu : gi M1 170 i < 0 := by
      rw [e170, ← a1]
      exact a2.neg.mpr u
    refine r_untellD hd (hS.sm s1) hN (by rw [e120]; exact n2) (fun i' hi' e' u' M2 s2 e2 => ⟨rfl, Or.inr ⟨i, hi, e, ?_, ?_, ?_⟩⟩) (fun z => absurd hu (z i hi e))
    · exact (s1.mono (by decide)).tr s2 (by decide)
    · rw [s2.i (by decide)]
      exact e1
    · have ei : i = i' := (nI_eq (by omega) (by omega)).mp (by rw [← e, ← e'])
      rw [e2, e170, e120, ← ht, ei]
  · refine r_untellD hd hS hN n2 (fun i hi e u => ?_) (fun _ => ⟨rfl, Or.inl rfl⟩)
    obtain ⟨a1, a2⟩ := hr i hi
    exact absurd (a2.neg.mp (by rw [a1]; exact u)) (z i hi e)
theorem op_untellP (hd : 1 ≤ d) (hS : SH M) (ht : gi M 0 13 = gi M 120 91) {N : Nat} {p w : Int32} (hp : ¬ p = 0) (hN : N ≤ 40) (n1 : gi M 87 5 = nI N) (n2 : gi M 120 90 = nI N) (hr : ∀ i, i < N → gi M 92 i = gi M 174 i ∧ isUn (gi M 92 i)) : pm d 57 [.ref 0, .int p, .int w] M (fun r1 => pm d 58 [.ref 120, .int p, .int w] r1.2 (fun r2 => r1.1 = r2.1 ∧ untO M r2.2 92 174 N w)) := by
  refine m_untell hd hS (o := 87) (Or.inr ⟨hp, rfl⟩) hN n1 (fun i hi e u M1 s1 e1 => ?_) (fun z => ?_)
  · have e120 : gi M1 120 = gi M 120 := s1.i (by decide)
    have e174 : gi M1 174 = gi M 174 := s1.i (by decide)
    obtain ⟨a1, a2⟩ := hr i hi
    have hu : gi M1 174 i < 0 := by
      rw [e174, ← a1]
      exact a2.neg.mpr u
    refine r_untellP hd (hS.sm s1) hp hN (by rw [e120]; exact n2) (fun i' hi' e' u' M2 s2 e2 => ⟨rfl, Or.inr ⟨i, hi, e, ?_, ?_, ?_⟩⟩) (fun z => absurd hu (z i hi e))
    · exact (s1.mono (by decide)).tr s2 (by decide)
    · rw [s2.i (by decide)]
      exact e1
    · have ei : i = i' := (nI_eq (by omega) (by omega)).mp (by rw [← e, ← e'])
      rw [e2, e174, e120, ← ht, ei]
  · refine r_untellP hd hS hp hN n2 (fun i hi e u => ?_) (fun _ => ⟨rfl, Or.inl rfl⟩)
    obtain ⟨a1, a2⟩ := hr i hi
    exact absurd (a2.neg.mp (by rw [a1]; exact u)) (z i hi e)
end UNTELL
