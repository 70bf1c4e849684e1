section LEDG2
variable {d : Nat} {M : pz_M} {Q : Option Value × pz_M → Prop}
theorem isLedger.sm {K : List Nat} {M' : pz_M} {o : Nat} (h : isLedger M o) (s : sm K M M') : isLedger M' o := by
  unfold isLedger
  rw [s.c, s.r, s.a, s.a, s.a, s.a, s.a, s.n, s.n, s.n, s.n, s.n]
  exact h
theorem SH.ledgD (h : SH M) : isLedger M 81 := ⟨so_81 h, ⟨sr_81_0 h, sr_81_1 h, sr_81_2 h, sr_81_3 h, sr_81_4 h⟩, ⟨sa_82 h, sa_83 h, sa_84 h, sa_85 h, sa_86 h⟩, ⟨sn_82 h, sn_83 h, sn_84 h, sn_85 h, sn_86 h⟩⟩
theorem SH.ledgP (h : SH M) : isLedger M 87 := ⟨so_87 h, ⟨sr_87_0 h, sr_87_1 h, sr_87_2 h, sr_87_3 h, sr_87_4 h⟩, ⟨sa_88 h, sa_89 h, sa_90 h, sa_91 h, sa_92 h⟩, ⟨sn_88 h, sn_89 h, sn_90 h, sn_91 h, sn_92 h⟩⟩
theorem SH.mind (h : SH M) : isMind M 33 := ⟨so_33 h, ⟨sr_33_0 h, sr_33_1 h, sr_33_2 h, sr_33_3 h⟩, ⟨sa_34 h, sa_35 h, sa_36 h, sa_37 h⟩, ⟨sn_34 h, sn_35 h, sn_36 h, sn_37 h⟩⟩
theorem l_countAll (hd : 1 ≤ d) {o N : Nat} {k : Int32} (hM : isLedger M o) (hN : N ≤ 40) (hn : gi M o 5 = nI N) (h : Q (some (.int (nI (cnt (ldK M o k) N))), M)) : ∀ (c i : Nat), i + c = N → pw d 159 (4, [some (.ref o), some (.int k), some (.int (nI (cnt (ldK M o k) i))), some (.int (nI i))], [], M) Q := by
  intro c
  have hM' := hM
  obtain ⟨c1, ⟨r0, r1, r2, r3, r4⟩, ⟨a1, a2, a3, a4, a5⟩, ⟨n1, n2, n3, n4, n5⟩⟩ := hM'
  induction c with
  | zero =>
    intro i hi
    have hi' : i = N := by omega
    subst hi'
    refine pw_blk (mi := mz_159) (b := bz_159_4) rfl rfl ?_
    simp only [bz_159_4, pz_cut_t, pz_cut_f, pz_cut_n, pv_gt, pv_ts, pv_tn, ev_ild3, ev_ald0, ev_eld0, ev_gf2_0, ev_ic_ge, pz_wi_gc, pz_wi_ga, pz_wi_gn, pz_wi_gl, pz_wi_gr, pz_wi_same, pz_wi_X, pz_wl_gc, pz_wl_ga, pz_wl_gn, pz_wl_gi, pz_wl_gr, pz_wl_same, pz_wl_X, pz_wr_gc, pz_wr_ga, pz_wr_gn, pz_wr_gi, pz_wr_gl, pz_wr_same, pz_wr_X, c1, hn]
    refine po_brP (fun _ => ?_) (fun q => absurd (nI_le (Nat.le_refl _) (by omega)) q)
    refine pw_blk (mi := mz_159) (b := bz_159_30) rfl rfl ?_
    simp only [bz_159_30, pz_cut_t, pz_cut_f, pz_cut_n, pv_gt, pv_ts, pv_tn, ev_ild2, ev_iret0, pz_wi_gc, pz_wi_ga, pz_wi_gn, pz_wi_gl, pz_wi_gr, pz_wi_same, pz_wi_X, pz_wl_gc, pz_wl_ga, pz_wl_gn, pz_wl_gi, pz_wl_gr, pz_wl_same, pz_wl_X, pz_wr_gc, pz_wr_ga, pz_wr_gn, pz_wr_gi, pz_wr_gl, pz_wr_same, pz_wr_X]
    exact h
  | succ c ih =>
    intro i hi
    refine pw_blk (mi := mz_159) (b := bz_159_4) rfl rfl ?_
    simp only [bz_159_4, pz_cut_t, pz_cut_f, pz_cut_n, pv_gt, pv_ts, pv_tn, ev_ild3, ev_ald0, ev_eld0, ev_gf2_0, ev_ic_ge, pz_wi_gc, pz_wi_ga, pz_wi_gn, pz_wi_gl, pz_wi_gr, pz_wi_same, pz_wi_X, pz_wl_gc, pz_wl_ga, pz_wl_gn, pz_wl_gi, pz_wl_gr, pz_wl_same, pz_wl_X, pz_wr_gc, pz_wr_ga, pz_wr_gn, pz_wr_gi, pz_wr_gl, pz_wr_same, pz_wr_X, c1, hn]
    refine po_brP (fun q => absurd q (nI_ge (by omega) (by omega))) (fun _ => ?_)
    refine pw_blk (mi := mz_159) (b := bz_159_12) rfl rfl ?_
    simp only [bz_159_12, pz_cut_t, pz_cut_f, pz_cut_n, pv_gt, pv_ts, pv_tn, ev_ald0, ev_eld0, ev_ild3, ev_ild1, ev_cv2_2, pz_wi_gc, pz_wi_ga, pz_wi_gn, pz_wi_gl, pz_wi_gr, pz_wi_same, pz_wi_X, pz_wl_gc, pz_wl_ga, pz_wl_gn, pz_wl_gi, pz_wl_gr, pz_wl_same, pz_wl_X, pz_wr_gc, pz_wr_ga, pz_wr_gn, pz_wr_gi, pz_wr_gl, pz_wr_same, pz_wr_X, c1, ev_cv2_2]
    refine po_gP (Nat.le_of_ble_eq_true rfl) (po_call hd (m_counts hM (by omega) (fun z => ?_) (fun z => ?_)))
    · refine pw_blk (mi := mz_159) (b := bz_159_18) rfl rfl ?_
      simp only [bz_159_18, pz_cut_t, pz_cut_f, pz_cut_n, pv_gt, pv_ts, pv_tn, ev_ifeq, pz_wi_gc, pz_wi_ga, pz_wi_gn, pz_wi_gl, pz_wi_gr, pz_wi_same, pz_wi_X, pz_wl_gc, pz_wl_ga, pz_wl_gn, pz_wl_gi, pz_wl_gr, pz_wl_same, pz_wl_X, pz_wr_gc, pz_wr_ga, pz_wr_gn, pz_wr_gi, pz_wr_gl, pz_wr_same, pz_wr_X]
      refine po_brP (fun q2 => absurd q2 (by decide)) (fun _ => ?_)
      refine pw_blk (mi := mz_159) (b := bz_159_21) rfl rfl ?_
      simp only [bz_159_21, pz_cut_t, pz_cut_f, pz_cut_n, pv_gt, pv_ts, pv_tn, ev_inc2n, ev_inc2i, ev_inc2r, ev_inc2e, ev_nil, pz_wi_gc, pz_wi_ga, pz_wi_gn, pz_wi_gl, pz_wi_gr, pz_wi_same, pz_wi_X, pz_wl_gc, pz_wl_ga, pz_wl_gn, pz_wl_gi, pz_wl_gr, pz_wl_same, pz_wl_X, pz_wr_gc, pz_wr_ga, pz_wr_gn, pz_wr_gi, pz_wr_gl, pz_wr_same, pz_wr_X, inc1]
      refine po_go ?_
      refine pw_blk (mi := mz_159) (b := bz_159_24) rfl rfl ?_
      simp only [bz_159_24, pz_cut_t, pz_cut_f, pz_cut_n, pv_gt, pv_ts, pv_tn, ev_inc3n, ev_inc3i, ev_inc3r, ev_inc3e, ev_goto, pz_wi_gc, pz_wi_ga, pz_wi_gn, pz_wi_gl, pz_wi_gr, pz_wi_same, pz_wi_X, pz_wl_gc, pz_wl_ga, pz_wl_gn, pz_wl_gi, pz_wl_gr, pz_wl_same, pz_wl_X, pz_wr_gc, pz_wr_ga, pz_wr_gn, pz_wr_gi, pz_wr_gl, pz_wr_same, pz_wr_X, inc1]
      refine po_go ?_
      have := ih (i + 1) (by omega)
      rw [cnt_t z] at this
      exact this
    · refine pw_blk (mi := mz_159) (b := bz_159_18) rfl rfl ?_
      simp only [bz_159_18, pz_cut_t, pz_cut_f, pz_cut_n, pv_gt, pv_ts, pv_tn, ev_ifeq, pz_wi_gc, pz_wi_ga, pz_wi_gn, pz_wi_gl, pz_wi_gr, pz_wi_same, pz_wi_X, pz_wl_gc, pz_wl_ga, pz_wl_gn, pz_wl_gi, pz_wl_gr, pz_wl_same, pz_wl_X, pz_wr_gc, pz_wr_ga, pz_wr_gn, pz_wr_gi, pz_wr_gl, pz_wr_same, pz_wr_X]
      refine po_brP (fun _ => ?_) (fun q2 => absurd trivial q2)
      refine pw_blk (mi := mz_159) (b := bz_159_24) rfl rfl ?_
      simp only [bz_159_24, pz_cut_t, pz_cut_f, pz_cut_n, pv_gt, pv_ts, pv_tn, ev_inc3n, ev_inc3i, ev_inc3r, ev_inc3e, ev_goto, pz_wi_gc, pz_wi_ga, pz_wi_gn, pz_wi_gl, pz_wi_gr, pz_wi_same, pz_wi_X, pz_wl_gc, pz_wl_ga, pz_wl_gn, pz_wl_gi, pz_wl_gr, pz_wl_same, pz_wl_X, pz_wr_gc, pz_wr_ga, pz_wr_gn, pz_wr_gi, pz_wr_gl, pz_wr_same, pz_wr_X, inc1]
      refine po_go ?_
      have := ih (i + 1) (by omega)
      rw [cnt_f z] at this
      exact this
theorem m_countAll (hd : 1 ≤ d) {o N : Nat} {k : Int32} (hM : isLedger M o) (hN : N ≤ 40) (hn : gi M o 5 = nI N) (h : Q (some (.int (nI (cnt (ldK M o k) N))), M)) : pm d 159 [.ref o, .int k] M Q := by
  refine pm_ent (L := [some (.ref o), some (.int k), none, none]) rfl (Nat.le_of_ble_eq_true rfl) ?_
  refine pw_blk (mi := mz_159) (b := bz_159_0) rfl rfl ?_
  simp only [bz_159_0, pz_cut_t, pz_cut_f, pz_cut_n, pv_gt, pv_ts, pv_tn, ev_ic0, ev_ist2n, ev_ist2i, ev_ist2r, ev_ist2e, ev_ist2l, ev_ist3n, ev_ist3i, ev_ist3r, ev_ist3e, ev_ist3l, ev_nil, pz_wi_gc, pz_wi_ga, pz_wi_gn, pz_wi_gl, pz_wi_gr, pz_wi_same, pz_wi_X, pz_wl_gc, pz_wl_ga, pz_wl_gn, pz_wl_gi, pz_wl_gr, pz_wl_same, pz_wl_X, pz_wr_gc, pz_wr_ga, pz_wr_gn, pz_wr_gi, pz_wr_gl, pz_wr_same, pz_wr_X]
  refine po_go ?_
  exact l_countAll hd hM hN hn h N 0 (by omega)
/-- takeBack -/
theorem m_takeBack {o N : Nat} {w t : Int32} (hM : isLedger M o) (hN : N ≤ 40) (hn : gi M o 5 = nI N) (h1 : ∀ i, i < N → w = nI i → gi M (o + 5) i = -1 → ∀ M', sm [o + 5] M M' → gi M' (o + 5) = va_up (gi M (o + 5)) i t → Q (some (.int 1), M')) (h0 : (∀ i, i < N → w = nI i → ¬ gi M (o + 5) i = -1) → Q (some (.int 0), M)) : pm d 156 [.ref o, .int w, .int t] M Q := by
  obtain ⟨c1, ⟨r0, r1, r2, r3, r4⟩, ⟨a1, a2, a3, a4, a5⟩, ⟨n1, n2, n3, n4, n5⟩⟩ := hM
  refine pm_ent (L := [some (.ref o), some (.int w), some (.int t)]) rfl (Nat.le_of_ble_eq_true rfl) ?_
  refine pw_blk (mi := mz_156) (b := bz_156_0) rfl rfl ?_
  simp only [bz_156_0, pz_cut_t, pz_cut_f, pz_cut_n, pv_gt, pv_ts, pv_tn, ev_ild1, ev_iflt, pz_wi_gc, pz_wi_ga, pz_wi_gn, pz_wi_gl, pz_wi_gr, pz_wi_same, pz_wi_X, pz_wl_gc, pz_wl_ga, pz_wl_gn, pz_wl_gi, pz_wl_gr, pz_wl_same, pz_wl_X, pz_wr_gc, pz_wr_ga, pz_wr_gn, pz_wr_gi, pz_wr_gl, pz_wr_same, pz_wr_X]
  refine po_brP (fun q => ?_) (fun q => ?_)
  · refine pw_blk (mi := mz_156) (b := bz_156_22) rfl rfl ?_
    simp only [bz_156_22, pz_cut_t, pz_cut_f, pz_cut_n, pv_gt, pv_ts, pv_tn, ev_ic0, ev_iret1, pz_wi_gc, pz_wi_ga, pz_wi_gn, pz_wi_gl, pz_wi_gr, pz_wi_same, pz_wi_X, pz_wl_gc, pz_wl_ga, pz_wl_gn, pz_wl_gi, pz_wl_gr, pz_wl_same, pz_wl_X, pz_wr_gc, pz_wr_ga, pz_wr_gn, pz_wr_gi, pz_wr_gl, pz_wr_same, pz_wr_X]
    first | exact po_ret (h0 (fun i hi e => absurd q (by rw [e]; exact nI_pos (by omega)))) | exact po_gP (by decide) (po_ret (h0 (fun i hi e => absurd q (by rw [e]; exact nI_pos (by omega)))))
  · obtain ⟨i, hi, rfl⟩ := nI_of q
    refine pw_blk (mi := mz_156) (b := bz_156_4) rfl rfl ?_
    simp only [bz_156_4, pz_cut_t, pz_cut_f, pz_cut_n, pv_gt, pv_ts, pv_tn, ev_ild1, ev_ald0, ev_eld0, ev_gf2_0, ev_ic_ge, pz_wi_gc, pz_wi_ga, pz_wi_gn, pz_wi_gl, pz_wi_gr, pz_wi_same, pz_wi_X, pz_wl_gc, pz_wl_ga, pz_wl_gn, pz_wl_gi, pz_wl_gr, pz_wl_same, pz_wl_X, pz_wr_gc, pz_wr_ga, pz_wr_gn, pz_wr_gi, pz_wr_gl, pz_wr_same, pz_wr_X, c1, hn]
    refine po_brP (fun q2 => ?_) (fun q2 => ?_)
    · refine pw_blk (mi := mz_156) (b := bz_156_22) rfl rfl ?_
      simp only [bz_156_22, pz_cut_t, pz_cut_f, pz_cut_n, pv_gt, pv_ts, pv_tn, ev_ic0, ev_iret1, pz_wi_gc, pz_wi_ga, pz_wi_gn, pz_wi_gl, pz_wi_gr, pz_wi_same, pz_wi_X, pz_wl_gc, pz_wl_ga, pz_wl_gn, pz_wl_gi, pz_wl_gr, pz_wl_same, pz_wl_X, pz_wr_gc, pz_wr_ga, pz_wr_gn, pz_wr_gi, pz_wr_gl, pz_wr_same, pz_wr_X]
      first | exact po_ret (h0 (fun j hj e => absurd q2 (by rw [e]; exact nI_ge hj (by omega)))) | exact po_gP (by decide) (po_ret (h0 (fun j hj e => absurd q2 (by rw [e]; exact nI_ge hj (by omega)))))
    · have hiN : i < N := by
        rcases Nat.lt_or_ge i N with z | z
        · exact z
        · exact absurd (nI_le z hi) q2
      have hbn : (nI i).toNatClampNeg = i := nI_clamp hi
      have hin : pz_in (nI i) 40 = true := pz_in_nI (by omega) (by decide)
      refine pw_blk (mi := mz_156) (b := bz_156_12) rfl rfl ?_
      simp only [bz_156_12, pz_cut_t, pz_cut_f, pz_cut_n, pv_gt, pv_ts, pv_tn, ev_ald0, ev_eld0, ev_gf2_2, ev_ild1, ea_iald, ev_icm1, ev_ic_eq, pz_wi_gc, pz_wi_ga, pz_wi_gn, pz_wi_gl, pz_wi_gr, pz_wi_same, pz_wi_X, pz_wl_gc, pz_wl_ga, pz_wl_gn, pz_wl_gi, pz_wl_gr, pz_wl_same, pz_wl_X, pz_wr_gc, pz_wr_ga, pz_wr_gn, pz_wr_gi, pz_wr_gl, pz_wr_same, pz_wr_X, c1, r4, a5, n5, hin, hbn]
      refine po_brP (fun q3 => ?_) (fun q3 => ?_)
      · refine pw_blk (mi := mz_156) (b := bz_156_24) rfl rfl ?_
        simp only [bz_156_24, pz_cut_t, pz_cut_f, pz_cut_n, pv_gt, pv_ts, pv_tn, ev_ald0, ev_eld0, ev_gf2_2, ev_ild1, ev_ild2, ea_iast, ev_ic1, ev_iret1, pz_wi_gc, pz_wi_ga, pz_wi_gn, pz_wi_gl, pz_wi_gr, pz_wi_same, pz_wi_X, pz_wl_gc, pz_wl_ga, pz_wl_gn, pz_wl_gi, pz_wl_gr, pz_wl_same, pz_wl_X, pz_wr_gc, pz_wr_ga, pz_wr_gn, pz_wr_gi, pz_wr_gl, pz_wr_same, pz_wr_X, c1, r4, a5, n5, hin, hbn]
        first | exact po_ret (h1 i hiN rfl q3 _ (sm.rf.wi (by simp)) pz_wi_same) | exact po_gP (by decide) (po_ret (h1 i hiN rfl q3 _ (sm.rf.wi (by simp)) pz_wi_same))
      · refine pw_blk (mi := mz_156) (b := bz_156_22) rfl rfl ?_
        simp only [bz_156_22, pz_cut_t, pz_cut_f, pz_cut_n, pv_gt, pv_ts, pv_tn, ev_ic0, ev_iret1, pz_wi_gc, pz_wi_ga, pz_wi_gn, pz_wi_gl, pz_wi_gr, pz_wi_same, pz_wi_X, pz_wl_gc, pz_wl_ga, pz_wl_gn, pz_wl_gi, pz_wl_gr, pz_wl_same, pz_wl_X, pz_wr_gc, pz_wr_ga, pz_wr_gn, pz_wr_gi, pz_wr_gl, pz_wr_same, pz_wr_X]
        first | exact po_ret (h0 (fun j hj e => by rw [← (nI_eq hi (by omega)).mp e]; exact q3)) | exact po_gP (by decide) (po_ret (h0 (fun j hj e => by rw [← (nI_eq hi (by omega)).mp e]; exact q3)))
end LEDG2
