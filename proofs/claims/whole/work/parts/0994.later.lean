/-! ===== later on both sides ===== -/
section LATER
variable {d : Nat} {M : pz_M} {Q : Option Value × pz_M → Prop}
def ltr (x t : Int32) : Prop := 0 ≤ x ∧ x ≤ 1000 ∧ t + x ≤ 100000
theorem m_later (hS : SH M) {x : Int32} (h1 : ltr x (gi M 0 13) → ∀ M', sm [0] M M' → gi M' 0 = va_up (gi M 0) 13 (gi M 0 13 + x) → Q (some (.int (gi M 0 13 + x)), M')) (h0 : ¬ ltr x (gi M 0 13) → Q (some (.int (-1)), M)) : pm d 59 [.ref 0, .int x] M Q := by
  refine pm_ent (L := [some (.ref 0), some (.int x)]) rfl (Nat.le_of_ble_eq_true rfl) ?_
  refine pw_blk (mi := mz_59) (b := bz_59_0) rfl rfl ?_
  simp only [bz_59_0, pz_cut_t, pz_cut_f, pz_cut_n, pv_gt, pv_ts, pv_tn, ev_ild1, ev_iflt, pz_wi_gc, pz_wi_ga, pz_wi_gn, pz_wi_gl, pz_wi_gr, pz_wi_same, pz_wi_X, pz_wl_gc, pz_wl_ga, pz_wl_gn, pz_wl_gi, pz_wl_gr, pz_wl_same, pz_wl_X, pz_wr_gc, pz_wr_ga, pz_wr_gn, pz_wr_gi, pz_wr_gl, pz_wr_same, pz_wr_X]
  refine po_brP (fun q => ?_) (fun q => ?_)
  · refine pw_blk (mi := mz_59) (b := bz_59_22) rfl rfl ?_
    simp only [bz_59_22, pz_cut_t, pz_cut_f, pz_cut_n, pv_gt, pv_ts, pv_tn, ev_icm1, ev_iret0, pz_wi_gc, pz_wi_ga, pz_wi_gn, pz_wi_gl, pz_wi_gr, pz_wi_same, pz_wi_X, pz_wl_gc, pz_wl_ga, pz_wl_gn, pz_wl_gi, pz_wl_gr, pz_wl_same, pz_wl_X, pz_wr_gc, pz_wr_ga, pz_wr_gn, pz_wr_gi, pz_wr_gl, pz_wr_same, pz_wr_X]
    exact h0 (fun z => Int32.not_le.mpr q z.1)
  · refine pw_blk (mi := mz_59) (b := bz_59_4) rfl rfl ?_
    simp only [bz_59_4, pz_cut_t, pz_cut_f, pz_cut_n, pv_gt, pv_ts, pv_tn, ev_ild1, ev_sp1000, ev_ic_gt, pz_wi_gc, pz_wi_ga, pz_wi_gn, pz_wi_gl, pz_wi_gr, pz_wi_same, pz_wi_X, pz_wl_gc, pz_wl_ga, pz_wl_gn, pz_wl_gi, pz_wl_gr, pz_wl_same, pz_wl_X, pz_wr_gc, pz_wr_ga, pz_wr_gn, pz_wr_gi, pz_wr_gl, pz_wr_same, pz_wr_X]
    refine po_brP (fun q2 => ?_) (fun q2 => ?_)
    · refine pw_blk (mi := mz_59) (b := bz_59_22) rfl rfl ?_
      simp only [bz_59_22, pz_cut_t, pz_cut_f, pz_cut_n, pv_gt, pv_ts, pv_tn, ev_icm1, ev_iret0, pz_wi_gc, pz_wi_ga, pz_wi_gn, pz_wi_gl, pz_wi_gr, pz_wi_same, pz_wi_X, pz_wl_gc, pz_wl_ga, pz_wl_gn, pz_wl_gi, pz_wl_gr, pz_wl_same, pz_wl_X, pz_wr_gc, pz_wr_ga, pz_wr_gn, pz_wr_gi, pz_wr_gl, pz_wr_same, pz_wr_X]
      exact h0 (fun z => Int32.not_le.mpr q2 z.2.1)
    · refine pw_blk (mi := mz_59) (b := bz_59_11) rfl rfl ?_
      simp only [bz_59_11, pz_cut_t, pz_cut_f, pz_cut_n, pv_gt, pv_ts, pv_tn, ev_ald0, ev_eld0, ev_gf0_0, ev_ild1, ev_iadd, ev_ldc100000, ev_ic_le, pz_wi_gc, pz_wi_ga, pz_wi_gn, pz_wi_gl, pz_wi_gr, pz_wi_same, pz_wi_X, pz_wl_gc, pz_wl_ga, pz_wl_gn, pz_wl_gi, pz_wl_gr, pz_wl_same, pz_wl_X, pz_wr_gc, pz_wr_ga, pz_wr_gn, pz_wr_gi, pz_wr_gl, pz_wr_same, pz_wr_X, so_0 hS]
      refine po_brP (fun q3 => ?_) (fun q3 => ?_)
      · have r := h1 ⟨Int32.not_lt.mp q, Int32.not_lt.mp q2, q3⟩
        refine pw_blk (mi := mz_59) (b := bz_59_24) rfl rfl ?_
        simp only [bz_59_24, pz_cut_t, pz_cut_f, pz_cut_n, pv_gt, pv_ts, pv_tn, ev_ald0, ev_eld0, ev_dupi, ev_dupr, ev_dupe, ev_gf0_0, ev_ild1, ev_iadd, ev_pf0_0, ev_iret0, pz_wi_gc, pz_wi_ga, pz_wi_gn, pz_wi_gl, pz_wi_gr, pz_wi_same, pz_wi_X, pz_wl_gc, pz_wl_ga, pz_wl_gn, pz_wl_gi, pz_wl_gr, pz_wl_same, pz_wl_X, pz_wr_gc, pz_wr_ga, pz_wr_gn, pz_wr_gi, pz_wr_gl, pz_wr_same, pz_wr_X, so_0 hS]
        first | exact po_ret (r _ (sm.rf.wi (by decide)) pz_wi_same) | exact po_gP (by decide) (po_ret (r _ (sm.rf.wi (by decide)) pz_wi_same))
      · refine pw_blk (mi := mz_59) (b := bz_59_22) rfl rfl ?_
        simp only [bz_59_22, pz_cut_t, pz_cut_f, pz_cut_n, pv_gt, pv_ts, pv_tn, ev_icm1, ev_iret0, pz_wi_gc, pz_wi_ga, pz_wi_gn, pz_wi_gl, pz_wi_gr, pz_wi_same, pz_wi_X, pz_wl_gc, pz_wl_ga, pz_wl_gn, pz_wl_gi, pz_wl_gr, pz_wl_same, pz_wl_X, pz_wr_gc, pz_wr_ga, pz_wr_gn, pz_wr_gi, pz_wr_gl, pz_wr_same, pz_wr_X]
        exact h0 (fun z => q3 z.2.2)
theorem r_later (hd : 1 ≤ d) (hS : SH M) {x : Int32} (h1 : ltr x (gi M 120 91) → ∀ M', sm [120] M M' → gi M' 120 = va_up (gi M 120) 91 (gi M 120 91 + x) → Q (some (.int (gi M 120 91 + x)), M')) (h0 : ¬ ltr x (gi M 120 91) → Q (some (.int (-1)), M)) : pm d 60 [.ref 120, .int x] M Q := by
  refine pm_ent (L := [some (.ref 120), some (.int x)]) rfl (Nat.le_of_ble_eq_true rfl) ?_
  refine pw_blk (mi := mz_60) (b := bz_60_0) rfl rfl ?_
  simp only [bz_60_0, pz_cut_t, pz_cut_f, pz_cut_n, pv_gt, pv_ts, pv_tn, ev_ild1, ev_ic0, ev_sp1000, ev_cs3, pz_wi_gc, pz_wi_ga, pz_wi_gn, pz_wi_gl, pz_wi_gr, pz_wi_same, pz_wi_X, pz_wl_gc, pz_wl_ga, pz_wl_gn, pz_wl_gi, pz_wl_gr, pz_wl_same, pz_wl_X, pz_wr_gc, pz_wr_ga, pz_wr_gn, pz_wr_gi, pz_wr_gl, pz_wr_same, pz_wr_X]
  refine po_gP (Nat.le_of_ble_eq_true rfl) (po_call (by omega) (r_isIn (fun a b => ?_) (fun z => ?_)))
  · refine pw_blk (mi := mz_60) (b := bz_60_8) rfl rfl ?_
    simp only [bz_60_8, pz_cut_t, pz_cut_f, pz_cut_n, pv_gt, pv_ts, pv_tn, ev_ifeq, pz_wi_gc, pz_wi_ga, pz_wi_gn, pz_wi_gl, pz_wi_gr, pz_wi_same, pz_wi_X, pz_wl_gc, pz_wl_ga, pz_wl_gn, pz_wl_gi, pz_wl_gr, pz_wl_same, pz_wl_X, pz_wr_gc, pz_wr_ga, pz_wr_gn, pz_wr_gi, pz_wr_gl, pz_wr_same, pz_wr_X]
    refine po_brP (fun q => absurd q (by decide)) (fun _ => ?_)
    refine pw_blk (mi := mz_60) (b := bz_60_11) rfl rfl ?_
    simp only [bz_60_11, pz_cut_t, pz_cut_f, pz_cut_n, pv_gt, pv_ts, pv_tn, ev_ald0, ev_eld0, ev_gf11_0, ev_ild1, ev_iadd, ev_ldc_w100000, ev_ic_le, pz_wi_gc, pz_wi_ga, pz_wi_gn, pz_wi_gl, pz_wi_gr, pz_wi_same, pz_wi_X, pz_wl_gc, pz_wl_ga, pz_wl_gn, pz_wl_gi, pz_wl_gr, pz_wl_same, pz_wl_X, pz_wr_gc, pz_wr_ga, pz_wr_gn, pz_wr_gi, pz_wr_gl, pz_wr_same, pz_wr_X, so_120 hS]
    refine po_brP (fun q3 => ?_) (fun q3 => ?_)
    · have r := h1 ⟨a, b, q3⟩
      refine pw_blk (mi := mz_60) (b := bz_60_25) rfl rfl ?_
      simp only [bz_60_25, pz_cut_t, pz_cut_f, pz_cut_n, pv_gt, pv_ts, pv_tn, ev_ald0, ev_eld0, ev_dupi, ev_dupr, ev_dupe, ev_gf11_0, ev_ild1, ev_iadd, ev_pf11_0, ev_iret0, pz_wi_gc, pz_wi_ga, pz_wi_gn, pz_wi_gl, pz_wi_gr, pz_wi_same, pz_wi_X, pz_wl_gc, pz_wl_ga, pz_wl_gn, pz_wl_gi, pz_wl_gr, pz_wl_same, pz_wl_X, pz_wr_gc, pz_wr_ga, pz_wr_gn, pz_wr_gi, pz_wr_gl, pz_wr_same, pz_wr_X, so_120 hS]
      first | exact po_ret (r _ (sm.rf.wi (by decide)) pz_wi_same) | exact po_gP (by decide) (po_ret (r _ (sm.rf.wi (by decide)) pz_wi_same))
    · refine pw_blk (mi := mz_60) (b := bz_60_23) rfl rfl ?_
      simp only [bz_60_23, pz_cut_t, pz_cut_f, pz_cut_n, pv_gt, pv_ts, pv_tn, ev_icm1, ev_iret0, pz_wi_gc, pz_wi_ga, pz_wi_gn, pz_wi_gl, pz_wi_gr, pz_wi_same, pz_wi_X, pz_wl_gc, pz_wl_ga, pz_wl_gn, pz_wl_gi, pz_wl_gr, pz_wl_same, pz_wl_X, pz_wr_gc, pz_wr_ga, pz_wr_gn, pz_wr_gi, pz_wr_gl, pz_wr_same, pz_wr_X]
      exact h0 (fun z => q3 z.2.2)
  · refine pw_blk (mi := mz_60) (b := bz_60_8) rfl rfl ?_
    simp only [bz_60_8, pz_cut_t, pz_cut_f, pz_cut_n, pv_gt, pv_ts, pv_tn, ev_ifeq, pz_wi_gc, pz_wi_ga, pz_wi_gn, pz_wi_gl, pz_wi_gr, pz_wi_same, pz_wi_X, pz_wl_gc, pz_wl_ga, pz_wl_gn, pz_wl_gi, pz_wl_gr, pz_wl_same, pz_wl_X, pz_wr_gc, pz_wr_ga, pz_wr_gn, pz_wr_gi, pz_wr_gl, pz_wr_same, pz_wr_X]
    refine po_brP (fun _ => ?_) (fun q => absurd trivial q)
    refine pw_blk (mi := mz_60) (b := bz_60_23) rfl rfl ?_
    simp only [bz_60_23, pz_cut_t, pz_cut_f, pz_cut_n, pv_gt, pv_ts, pv_tn, ev_icm1, ev_iret0, pz_wi_gc, pz_wi_ga, pz_wi_gn, pz_wi_gl, pz_wi_gr, pz_wi_same, pz_wi_X, pz_wl_gc, pz_wl_ga, pz_wl_gn, pz_wl_gi, pz_wl_gr, pz_wl_same, pz_wl_X, pz_wr_gc, pz_wr_ga, pz_wr_gn, pz_wr_gi, pz_wr_gl, pz_wr_same, pz_wr_X]
    exact h0 (fun y => z ⟨y.1, y.2.1⟩)
theorem op_later (hd : 1 ≤ d) (hS : SH M) (h1 : gi M 0 13 = gi M 120 91) {x : Int32} : pm d 59 [.ref 0, .int x] M (fun r1 => pm d 60 [.ref 120, .int x] r1.2 (fun r2 => r1.1 = r2.1 ∧ (r2.2 = M ∨ ltr x (gi M 0 13) ∧ sm [0, 120] M r2.2 ∧ gi r2.2 0 = va_up (gi M 0) 13 (gi M 0 13 + x) ∧ gi r2.2 120 = va_up (gi M 120) 91 (gi M 0 13 + x)))) := by
  refine m_later hS (fun l M1 s1 e1 => ?_) (fun z => ?_)
  · have e : gi M1 120 = gi M 120 := s1.i (by decide)
    refine r_later hd (hS.sm s1) (fun _ M2 s2 e2 => ⟨?_, Or.inr ⟨l, ?_, ?_, ?_⟩⟩) (fun z => absurd l ?_)
    · rw [e, h1]
    · exact (s1.mono (by decide)).tr s2 (by decide)
    · rw [s2.i (by decide), e1]
    · rw [e2, e, h1]
    · rw [e, ← h1] at z
      exact z
  · exact r_later hd hS (fun l => absurd (by rw [h1]; exact l) z) (fun _ => ⟨rfl, Or.inl rfl⟩)
end LATER
