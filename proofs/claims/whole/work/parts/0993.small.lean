/-! ===== fault, seed, end on both sides ===== -/
section SMALL
variable {d : Nat} {M : pz_M} {Q : Option Value × pz_M → Prop}
theorem sm.mono {K K' : List Nat} {M M' : pz_M} (h : sm K M M') (hs : ∀ k, k ∈ K → k ∈ K') : sm K' M M' := ⟨h.1, h.2.1, h.2.2.1, fun k hk => h.2.2.2 k (fun q => hk (hs k q))⟩
def flt (x a b : Int32) : Int32 := if x = 0 then a else if x = 1 then b else -1
theorem m_fault (hS : SH M) {x : Int32} (h : Q (some (.int (flt x (gi M 1 11) (gi M 1 12))), M)) : pm d 9 [.ref 0, .int x] M Q := by
  unfold flt at h
  refine pm_ent (L := [some (.ref 0), some (.int x)]) rfl (Nat.le_of_ble_eq_true rfl) ?_
  refine pw_blk (mi := mz_9) (b := bz_9_0) rfl rfl ?_
  simp only [bz_9_0, pz_cut_t, pz_cut_f, pz_cut_n, pv_gt, pv_ts, pv_tn, ev_ild1, ev_ifne, pz_wi_gc, pz_wi_ga, pz_wi_gn, pz_wi_gl, pz_wi_gr, pz_wi_same, pz_wi_X, pz_wl_gc, pz_wl_ga, pz_wl_gn, pz_wl_gi, pz_wl_gr, pz_wl_same, pz_wl_X, pz_wr_gc, pz_wr_ga, pz_wr_gn, pz_wr_gi, pz_wr_gl, pz_wr_same, pz_wr_X]
  refine po_brP (fun q => ?_) (fun q => ?_)
  · rw [if_neg q] at h
    refine pw_blk (mi := mz_9) (b := bz_9_12) rfl rfl ?_
    simp only [bz_9_12, pz_cut_t, pz_cut_f, pz_cut_n, pv_gt, pv_ts, pv_tn, ev_ild1, ev_ic1, ev_ic_ne, pz_wi_gc, pz_wi_ga, pz_wi_gn, pz_wi_gl, pz_wi_gr, pz_wi_same, pz_wi_X, pz_wl_gc, pz_wl_ga, pz_wl_gn, pz_wl_gi, pz_wl_gr, pz_wl_same, pz_wl_X, pz_wr_gc, pz_wr_ga, pz_wr_gn, pz_wr_gi, pz_wr_gl, pz_wr_same, pz_wr_X]
    refine po_brP (fun q2 => ?_) (fun q2 => ?_)
    · rw [if_neg q2] at h
      refine pw_blk (mi := mz_9) (b := bz_9_27) rfl rfl ?_
      simp only [bz_9_27, pz_cut_t, pz_cut_f, pz_cut_n, pv_gt, pv_ts, pv_tn, ev_icm1, ev_nil, pz_wi_gc, pz_wi_ga, pz_wi_gn, pz_wi_gl, pz_wi_gr, pz_wi_same, pz_wi_X, pz_wl_gc, pz_wl_ga, pz_wl_gn, pz_wl_gi, pz_wl_gr, pz_wl_same, pz_wl_X, pz_wr_gc, pz_wr_ga, pz_wr_gn, pz_wr_gi, pz_wr_gl, pz_wr_same, pz_wr_X]
      refine po_go ?_
      refine pw_blk (mi := mz_9) (b := bz_9_28) rfl rfl ?_
      simp only [bz_9_28, pz_cut_t, pz_cut_f, pz_cut_n, pv_gt, pv_ts, pv_tn, ev_iret0, pz_wi_gc, pz_wi_ga, pz_wi_gn, pz_wi_gl, pz_wi_gr, pz_wi_same, pz_wi_X, pz_wl_gc, pz_wl_ga, pz_wl_gn, pz_wl_gi, pz_wl_gr, pz_wl_same, pz_wl_X, pz_wr_gc, pz_wr_ga, pz_wr_gn, pz_wr_gi, pz_wr_gl, pz_wr_same, pz_wr_X]
      exact h
    · rw [if_pos (Decidable.not_not.mp q2)] at h
      refine pw_blk (mi := mz_9) (b := bz_9_17) rfl rfl ?_
      simp only [bz_9_17, pz_cut_t, pz_cut_f, pz_cut_n, pv_gt, pv_ts, pv_tn, ev_ald0, ev_eld0, ev_gf0_2, ev_gf10_0, ev_goto, pz_wi_gc, pz_wi_ga, pz_wi_gn, pz_wi_gl, pz_wi_gr, pz_wi_same, pz_wi_X, pz_wl_gc, pz_wl_ga, pz_wl_gn, pz_wl_gi, pz_wl_gr, pz_wl_same, pz_wl_X, pz_wr_gc, pz_wr_ga, pz_wr_gn, pz_wr_gi, pz_wr_gl, pz_wr_same, pz_wr_X, so_0 hS, sr_0_0 hS, so_1 hS]
      refine po_go ?_
      refine pw_blk (mi := mz_9) (b := bz_9_28) rfl rfl ?_
      simp only [bz_9_28, pz_cut_t, pz_cut_f, pz_cut_n, pv_gt, pv_ts, pv_tn, ev_iret0, pz_wi_gc, pz_wi_ga, pz_wi_gn, pz_wi_gl, pz_wi_gr, pz_wi_same, pz_wi_X, pz_wl_gc, pz_wl_ga, pz_wl_gn, pz_wl_gi, pz_wl_gr, pz_wl_same, pz_wl_X, pz_wr_gc, pz_wr_ga, pz_wr_gn, pz_wr_gi, pz_wr_gl, pz_wr_same, pz_wr_X]
      exact h
  · rw [if_pos (Decidable.not_not.mp q)] at h
    refine pw_blk (mi := mz_9) (b := bz_9_4) rfl rfl ?_
    simp only [bz_9_4, pz_cut_t, pz_cut_f, pz_cut_n, pv_gt, pv_ts, pv_tn, ev_ald0, ev_eld0, ev_gf0_2, ev_gf10_0, ev_iret0, pz_wi_gc, pz_wi_ga, pz_wi_gn, pz_wi_gl, pz_wi_gr, pz_wi_same, pz_wi_X, pz_wl_gc, pz_wl_ga, pz_wl_gn, pz_wl_gi, pz_wl_gr, pz_wl_same, pz_wl_X, pz_wr_gc, pz_wr_ga, pz_wr_gn, pz_wr_gi, pz_wr_gl, pz_wr_same, pz_wr_X, so_0 hS, sr_0_0 hS, so_1 hS]
    exact h
theorem r_fault (hS : SH M) {x : Int32} (h : Q (some (.int (flt x (gi M 120 4) (gi M 120 5))), M)) : pm d 10 [.ref 120, .int x] M Q := by
  unfold flt at h
  refine pm_ent (L := [some (.ref 120), some (.int x)]) rfl (Nat.le_of_ble_eq_true rfl) ?_
  refine pw_blk (mi := mz_10) (b := bz_10_0) rfl rfl ?_
  simp only [bz_10_0, pz_cut_t, pz_cut_f, pz_cut_n, pv_gt, pv_ts, pv_tn, ev_ild1, ev_ifne, pz_wi_gc, pz_wi_ga, pz_wi_gn, pz_wi_gl, pz_wi_gr, pz_wi_same, pz_wi_X, pz_wl_gc, pz_wl_ga, pz_wl_gn, pz_wl_gi, pz_wl_gr, pz_wl_same, pz_wl_X, pz_wr_gc, pz_wr_ga, pz_wr_gn, pz_wr_gi, pz_wr_gl, pz_wr_same, pz_wr_X]
  refine po_brP (fun q => ?_) (fun q => ?_)
  · rw [if_neg q] at h
    refine pw_blk (mi := mz_10) (b := bz_10_11) rfl rfl ?_
    simp only [bz_10_11, pz_cut_t, pz_cut_f, pz_cut_n, pv_gt, pv_ts, pv_tn, ev_ild1, ev_ic1, ev_ic_ne, pz_wi_gc, pz_wi_ga, pz_wi_gn, pz_wi_gl, pz_wi_gr, pz_wi_same, pz_wi_X, pz_wl_gc, pz_wl_ga, pz_wl_gn, pz_wl_gi, pz_wl_gr, pz_wl_same, pz_wl_X, pz_wr_gc, pz_wr_ga, pz_wr_gn, pz_wr_gi, pz_wr_gl, pz_wr_same, pz_wr_X]
    refine po_brP (fun q2 => ?_) (fun q2 => ?_)
    · rw [if_neg q2] at h
      refine pw_blk (mi := mz_10) (b := bz_10_23) rfl rfl ?_
      simp only [bz_10_23, pz_cut_t, pz_cut_f, pz_cut_n, pv_gt, pv_ts, pv_tn, ev_icm1, ev_nil, pz_wi_gc, pz_wi_ga, pz_wi_gn, pz_wi_gl, pz_wi_gr, pz_wi_same, pz_wi_X, pz_wl_gc, pz_wl_ga, pz_wl_gn, pz_wl_gi, pz_wl_gr, pz_wl_same, pz_wl_X, pz_wr_gc, pz_wr_ga, pz_wr_gn, pz_wr_gi, pz_wr_gl, pz_wr_same, pz_wr_X]
      refine po_go ?_
      refine pw_blk (mi := mz_10) (b := bz_10_24) rfl rfl ?_
      simp only [bz_10_24, pz_cut_t, pz_cut_f, pz_cut_n, pv_gt, pv_ts, pv_tn, ev_iret0, pz_wi_gc, pz_wi_ga, pz_wi_gn, pz_wi_gl, pz_wi_gr, pz_wi_same, pz_wi_X, pz_wl_gc, pz_wl_ga, pz_wl_gn, pz_wl_gi, pz_wl_gr, pz_wl_same, pz_wl_X, pz_wr_gc, pz_wr_ga, pz_wr_gn, pz_wr_gi, pz_wr_gl, pz_wr_same, pz_wr_X]
      exact h
    · rw [if_pos (Decidable.not_not.mp q2)] at h
      refine pw_blk (mi := mz_10) (b := bz_10_16) rfl rfl ?_
      simp only [bz_10_16, pz_cut_t, pz_cut_f, pz_cut_n, pv_gt, pv_ts, pv_tn, ev_ald0, ev_eld0, ev_gf11_0, ev_goto, pz_wi_gc, pz_wi_ga, pz_wi_gn, pz_wi_gl, pz_wi_gr, pz_wi_same, pz_wi_X, pz_wl_gc, pz_wl_ga, pz_wl_gn, pz_wl_gi, pz_wl_gr, pz_wl_same, pz_wl_X, pz_wr_gc, pz_wr_ga, pz_wr_gn, pz_wr_gi, pz_wr_gl, pz_wr_same, pz_wr_X, so_120 hS]
      refine po_go ?_
      refine pw_blk (mi := mz_10) (b := bz_10_24) rfl rfl ?_
      simp only [bz_10_24, pz_cut_t, pz_cut_f, pz_cut_n, pv_gt, pv_ts, pv_tn, ev_iret0, pz_wi_gc, pz_wi_ga, pz_wi_gn, pz_wi_gl, pz_wi_gr, pz_wi_same, pz_wi_X, pz_wl_gc, pz_wl_ga, pz_wl_gn, pz_wl_gi, pz_wl_gr, pz_wl_same, pz_wl_X, pz_wr_gc, pz_wr_ga, pz_wr_gn, pz_wr_gi, pz_wr_gl, pz_wr_same, pz_wr_X]
      exact h
  · rw [if_pos (Decidable.not_not.mp q)] at h
    refine pw_blk (mi := mz_10) (b := bz_10_4) rfl rfl ?_
    simp only [bz_10_4, pz_cut_t, pz_cut_f, pz_cut_n, pv_gt, pv_ts, pv_tn, ev_ald0, ev_eld0, ev_gf11_0, ev_goto, pz_wi_gc, pz_wi_ga, pz_wi_gn, pz_wi_gl, pz_wi_gr, pz_wi_same, pz_wi_X, pz_wl_gc, pz_wl_ga, pz_wl_gn, pz_wl_gi, pz_wl_gr, pz_wl_same, pz_wl_X, pz_wr_gc, pz_wr_ga, pz_wr_gn, pz_wr_gi, pz_wr_gl, pz_wr_same, pz_wr_X, so_120 hS]
    refine po_go ?_
    refine pw_blk (mi := mz_10) (b := bz_10_24) rfl rfl ?_
    simp only [bz_10_24, pz_cut_t, pz_cut_f, pz_cut_n, pv_gt, pv_ts, pv_tn, ev_iret0, pz_wi_gc, pz_wi_ga, pz_wi_gn, pz_wi_gl, pz_wi_gr, pz_wi_same, pz_wi_X, pz_wl_gc, pz_wl_ga, pz_wl_gn, pz_wl_gi, pz_wl_gr, pz_wl_same, pz_wl_X, pz_wr_gc, pz_wr_ga, pz_wr_gn, pz_wr_gi, pz_wr_gl, pz_wr_same, pz_wr_X]
    exact h
theorem op_fault (hS : SH M) (h1 : gi M 1 11 = gi M 120 4) (h2 : gi M 1 12 = gi M 120 5) {x : Int32} : pm d 9 [.ref 0, .int x] M (fun r1 => pm d 10 [.ref 120, .int x] r1.2 (fun r2 => r1.1 = r2.1 ∧ r2.2 = M)) := by
  refine m_fault hS (r_fault hS ⟨?_, rfl⟩)
  rw [h1, h2]
theorem m_seed (hS : SH M) {x : Int32} (h : ∀ M', sm [33] M M' → gi M' 33 = va_up (gi M 33) 7 x → Q (some (.int (gi M 33 7)), M')) : pm d 77 [.ref 0, .int x] M Q := by
  refine pm_ent (L := [some (.ref 0), some (.int x), none]) rfl (Nat.le_of_ble_eq_true rfl) ?_
  refine pw_blk (mi := mz_77) (b := bz_77_0) rfl rfl ?_
  simp only [bz_77_0, pz_cut_t, pz_cut_f, pz_cut_n, pv_gt, pv_ts, pv_tn, ev_ald0, ev_eld0, ev_gf0_2, ev_gf3_0, ev_ist2n, ev_ist2i, ev_ist2r, ev_ist2e, ev_ist2l, ev_ild1, ev_pf3_0, ev_ild2, ev_iret0, pz_wi_gc, pz_wi_ga, pz_wi_gn, pz_wi_gl, pz_wi_gr, pz_wi_same, pz_wi_X, pz_wl_gc, pz_wl_ga, pz_wl_gn, pz_wl_gi, pz_wl_gr, pz_wl_same, pz_wl_X, pz_wr_gc, pz_wr_ga, pz_wr_gn, pz_wr_gi, pz_wr_gl, pz_wr_same, pz_wr_X, so_0 hS, sr_0_3 hS, so_33 hS]
  exact h _ (sm.rf.wi (by decide)) pz_wi_same
theorem op_seed (hS : SH M) (h1 : gi M 33 7 = gi M 120 47) {x : Int32} : pm d 77 [.ref 0, .int x] M (fun r1 => pm d 78 [.ref 120, .int x] r1.2 (fun r2 => r1.1 = r2.1 ∧ sm [33, 120] M r2.2 ∧ gi r2.2 33 = va_up (gi M 33) 7 x ∧ gi r2.2 120 = va_up (gi M 120) 47 x)) := by
  refine m_seed hS (fun M1 s1 e1 => r_seed (hS.sm s1) (fun M2 s2 e2 => ⟨?_, ?_, ?_, ?_⟩))
  · rw [s1.i (by decide), h1]
  · exact (s1.mono (by decide)).tr s2 (by decide)
  · rw [s2.i (by decide), e1]
  · rw [e2, s1.i (by decide)]
theorem m_end (hS : SH M) {x : Int32} (h1 : 0 ≤ x → x ≤ gi M 1 2 → ∀ M', sm [1] M M' → gi M' 1 = va_up (gi M 1) 2 x → Q (some (.int x), M')) (h0 : ¬ (0 ≤ x ∧ x ≤ gi M 1 2) → Q (some (.int (-1)), M)) : pm d 5 [.ref 0, .int x] M Q := by
  refine pm_ent (L := [some (.ref 0), some (.int x)]) rfl (Nat.le_of_ble_eq_true rfl) ?_
  refine pw_blk (mi := mz_5) (b := bz_5_0) rfl rfl ?_
  simp only [bz_5_0, pz_cut_t, pz_cut_f, pz_cut_n, pv_gt, pv_ts, pv_tn, ev_ild1, ev_iflt, pz_wi_gc, pz_wi_ga, pz_wi_gn, pz_wi_gl, pz_wi_gr, pz_wi_same, pz_wi_X, pz_wl_gc, pz_wl_ga, pz_wl_gn, pz_wl_gi, pz_wl_gr, pz_wl_same, pz_wl_X, pz_wr_gc, pz_wr_ga, pz_wr_gn, pz_wr_gi, pz_wr_gl, pz_wr_same, pz_wr_X]
  refine po_brP (fun q => ?_) (fun q => ?_)
  · refine pw_blk (mi := mz_5) (b := bz_5_15) rfl rfl ?_
    simp only [bz_5_15, pz_cut_t, pz_cut_f, pz_cut_n, pv_gt, pv_ts, pv_tn, ev_icm1, ev_iret0, pz_wi_gc, pz_wi_ga, pz_wi_gn, pz_wi_gl, pz_wi_gr, pz_wi_same, pz_wi_X, pz_wl_gc, pz_wl_ga, pz_wl_gn, pz_wl_gi, pz_wl_gr, pz_wl_same, pz_wl_X, pz_wr_gc, pz_wr_ga, pz_wr_gn, pz_wr_gi, pz_wr_gl, pz_wr_same, pz_wr_X]
    exact h0 (fun z => Int32.not_le.mpr q z.1)
  · refine pw_blk (mi := mz_5) (b := bz_5_4) rfl rfl ?_
    simp only [bz_5_4, pz_cut_t, pz_cut_f, pz_cut_n, pv_gt, pv_ts, pv_tn, ev_ild1, ev_ald0, ev_eld0, ev_gf0_2, ev_gf10_0, ev_ic_le, pz_wi_gc, pz_wi_ga, pz_wi_gn, pz_wi_gl, pz_wi_gr, pz_wi_same, pz_wi_X, pz_wl_gc, pz_wl_ga, pz_wl_gn, pz_wl_gi, pz_wl_gr, pz_wl_same, pz_wl_X, pz_wr_gc, pz_wr_ga, pz_wr_gn, pz_wr_gi, pz_wr_gl, pz_wr_same, pz_wr_X, so_0 hS, sr_0_0 hS, so_1 hS]
    refine po_brP (fun q2 => ?_) (fun q2 => ?_)
    · refine pw_blk (mi := mz_5) (b := bz_5_17) rfl rfl ?_
      simp only [bz_5_17, pz_cut_t, pz_cut_f, pz_cut_n, pv_gt, pv_ts, pv_tn, ev_ald0, ev_eld0, ev_gf0_2, ev_ild1, ev_pf10_0, ev_iret0, pz_wi_gc, pz_wi_ga, pz_wi_gn, pz_wi_gl, pz_wi_gr, pz_wi_same, pz_wi_X, pz_wl_gc, pz_wl_ga, pz_wl_gn, pz_wl_gi, pz_wl_gr, pz_wl_same, pz_wl_X, pz_wr_gc, pz_wr_ga, pz_wr_gn, pz_wr_gi, pz_wr_gl, pz_wr_same, pz_wr_X, so_0 hS, sr_0_0 hS, so_1 hS]
      exact h1 (Int32.not_lt.mp q) q2 _ (sm.rf.wi (by decide)) pz_wi_same
    · refine pw_blk (mi := mz_5) (b := bz_5_15) rfl rfl ?_
      simp only [bz_5_15, pz_cut_t, pz_cut_f, pz_cut_n, pv_gt, pv_ts, pv_tn, ev_icm1, ev_iret0, pz_wi_gc, pz_wi_ga, pz_wi_gn, pz_wi_gl, pz_wi_gr, pz_wi_same, pz_wi_X, pz_wl_gc, pz_wl_ga, pz_wl_gn, pz_wl_gi, pz_wl_gr, pz_wl_same, pz_wl_X, pz_wr_gc, pz_wr_ga, pz_wr_gn, pz_wr_gi, pz_wr_gl, pz_wr_same, pz_wr_X]
      exact h0 (fun z => q2 z.2)
theorem op_end (hS : SH M) (h1 : gi M 1 2 = gi M 120 2) {x : Int32} : pm d 5 [.ref 0, .int x] M (fun r1 => pm d 6 [.ref 120, .int x] r1.2 (fun r2 => r1.1 = r2.1 ∧ (r2.2 = M ∨ 0 ≤ x ∧ x ≤ gi M 1 2 ∧ sm [1, 120] M r2.2 ∧ gi r2.2 1 = va_up (gi M 1) 2 x ∧ gi r2.2 120 = va_up (gi M 120) 2 x))) := by
  refine m_end hS (fun l u M1 s1 e1 => ?_) (fun z => ?_)
  · refine r_end (hS.sm s1) (fun _ _ M2 s2 e2 => ⟨rfl, Or.inr ⟨l, u, ?_, ?_, ?_⟩⟩) (fun z => absurd ⟨l, ?_⟩ z)
    · exact (s1.mono (by decide)).tr s2 (by decide)
    · rw [s2.i (by decide), e1]
    · rw [e2, s1.i (by decide)]
    · rw [s1.i (by decide), ← h1]
      exact u
  · exact r_end hS (fun l u => absurd ⟨l, by rw [h1]; exact u⟩ z) (fun _ => ⟨rfl, Or.inl rfl⟩)
end SMALL
