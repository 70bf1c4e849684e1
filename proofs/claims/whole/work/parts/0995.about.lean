/-! ===== about on both sides ===== -/
section ABOUT
variable {d : Nat} {M : pz_M} {Q : Option Value × pz_M → Prop}
theorem sw_no {pc n : Nat} {e hi : Int} {offs : Array Int} {x : Int32} (hn : n < 2 ^ 31) (hh : hi + 1 = n) (h : ∀ j, j < n → ¬ x = nI j) : pz_swt pc e 0 hi offs x = ((pc : Int) + e).toNat := by
  unfold pz_swt
  refine if_pos ?_
  rcases pk_ix x hn with q | q | ⟨j, hj, q⟩
  · exact Or.inl (Int32.lt_iff_toInt_lt.mp q)
  · have := Int32.le_iff_toInt_le.mp q
    rw [nI_toInt hn] at this
    exact Or.inr (by omega)
  · exact absurd q (h j hj)
def abC (M : pz_M) : Nat → Int32
  | 0 => gi M 4 0
  | 1 => gi M 4 3
  | 2 => gi M 4 6
  | 3 => gi M 4 10
  | 4 => gi M 81 5
  | 5 => gi M 87 5
  | 6 => gi M 0 13
  | 7 => gi M 33 6
  | 8 => gi M 1 2
  | 9 => gi M 33 7
  | 10 => gi M 93 0
  | 11 => gi M 93 1
  | _ => -1
def abR (M : pz_M) : Nat → Int32
  | 0 => nb M
  | 1 => gi M 124 (bk M)
  | 2 => gi M 125 (bk M)
  | 3 => gi M 126 (bk M)
  | 4 => gi M 120 89
  | 5 => gi M 120 90
  | 6 => gi M 120 91
  | 7 => gi M 120 46
  | 8 => gi M 120 2
  | 9 => gi M 120 47
  | 10 => gi M 120 77
  | 11 => gi M 120 78
  | _ => -1
theorem m_about (hS : SH M) {x : Int32} (h1 : ∀ j, j < 12 → x = nI j → Q (some (.int (abC M j)), M)) (h0 : (∀ j, j < 12 → ¬ x = nI j) → Q (some (.int (-1)), M)) : pm d 83 [.ref 0, .int x] M Q := by
  refine pm_ent (L := [some (.ref 0), some (.int x)]) rfl (Nat.le_of_ble_eq_true rfl) ?_
  by_cases q : ∃ j, j < 12 ∧ x = nI j
  · obtain ⟨j, hj, e⟩ := q
    have r := h1 j hj e
    subst e
    clear h1 h0
    match j, hj, r with
    | 0, _, r =>
      refine pw_blk (mi := mz_83) (b := bz_83_0) rfl rfl ?_
      simp only [bz_83_0, pz_cut_t, pz_cut_f, pz_cut_n, pv_gt, pv_ts, pv_tn, ev_ild1, ev_tsw, pz_wi_gc, pz_wi_ga, pz_wi_gn, pz_wi_gl, pz_wi_gr, pz_wi_same, pz_wi_X, pz_wl_gc, pz_wl_ga, pz_wl_gn, pz_wl_gi, pz_wl_gr, pz_wl_same, pz_wl_X, pz_wr_gc, pz_wr_ga, pz_wr_gn, pz_wr_gi, pz_wr_gl, pz_wr_same, pz_wr_X]
      refine po_go ?_
      rw [show pz_swt _ _ _ _ _ (nI 0) = 64 by decide +kernel]
      refine pw_blk (mi := mz_83) (b := bz_83_64) rfl rfl ?_
      simp only [bz_83_64, pz_cut_t, pz_cut_f, pz_cut_n, pv_gt, pv_ts, pv_tn, ev_ald0, ev_eld0, ev_gf0_2, ev_gf8_0, ev_iret0, pz_wi_gc, pz_wi_ga, pz_wi_gn, pz_wi_gl, pz_wi_gr, pz_wi_same, pz_wi_X, pz_wl_gc, pz_wl_ga, pz_wl_gn, pz_wl_gi, pz_wl_gr, pz_wl_same, pz_wl_X, pz_wr_gc, pz_wr_ga, pz_wr_gn, pz_wr_gi, pz_wr_gl, pz_wr_same, pz_wr_X, so_0 hS, sr_0_1 hS, so_4 hS]
      first | exact po_ret (r) | exact po_gP (by decide) (po_ret (r))
    | 1, _, r =>
      refine pw_blk (mi := mz_83) (b := bz_83_0) rfl rfl ?_
      simp only [bz_83_0, pz_cut_t, pz_cut_f, pz_cut_n, pv_gt, pv_ts, pv_tn, ev_ild1, ev_tsw, pz_wi_gc, pz_wi_ga, pz_wi_gn, pz_wi_gl, pz_wi_gr, pz_wi_same, pz_wi_X, pz_wl_gc, pz_wl_ga, pz_wl_gn, pz_wl_gi, pz_wl_gr, pz_wl_same, pz_wl_X, pz_wr_gc, pz_wr_ga, pz_wr_gn, pz_wr_gi, pz_wr_gl, pz_wr_same, pz_wr_X]
      refine po_go ?_
      rw [show pz_swt _ _ _ _ _ (nI 1) = 72 by decide +kernel]
      refine pw_blk (mi := mz_83) (b := bz_83_72) rfl rfl ?_
      simp only [bz_83_72, pz_cut_t, pz_cut_f, pz_cut_n, pv_gt, pv_ts, pv_tn, ev_ald0, ev_eld0, ev_gf0_2, ev_gf8_0, ev_iret0, pz_wi_gc, pz_wi_ga, pz_wi_gn, pz_wi_gl, pz_wi_gr, pz_wi_same, pz_wi_X, pz_wl_gc, pz_wl_ga, pz_wl_gn, pz_wl_gi, pz_wl_gr, pz_wl_same, pz_wl_X, pz_wr_gc, pz_wr_ga, pz_wr_gn, pz_wr_gi, pz_wr_gl, pz_wr_same, pz_wr_X, so_0 hS, sr_0_1 hS, so_4 hS]
      first | exact po_ret (r) | exact po_gP (by decide) (po_ret (r))
    | 2, _, r =>
      refine pw_blk (mi := mz_83) (b := bz_83_0) rfl rfl ?_
      simp only [bz_83_0, pz_cut_t, pz_cut_f, pz_cut_n, pv_gt, pv_ts, pv_tn, ev_ild1, ev_tsw, pz_wi_gc, pz_wi_ga, pz_wi_gn, pz_wi_gl, pz_wi_gr, pz_wi_same, pz_wi_X, pz_wl_gc, pz_wl_ga, pz_wl_gn, pz_wl_gi, pz_wl_gr, pz_wl_same, pz_wl_X, pz_wr_gc, pz_wr_ga, pz_wr_gn, pz_wr_gi, pz_wr_gl, pz_wr_same, pz_wr_X]
      refine po_go ?_
      rw [show pz_swt _ _ _ _ _ (nI 2) = 80 by decide +kernel]
      refine pw_blk (mi := mz_83) (b := bz_83_80) rfl rfl ?_
      simp only [bz_83_80, pz_cut_t, pz_cut_f, pz_cut_n, pv_gt, pv_ts, pv_tn, ev_ald0, ev_eld0, ev_gf0_2, ev_gf8_0, ev_iret0, pz_wi_gc, pz_wi_ga, pz_wi_gn, pz_wi_gl, pz_wi_gr, pz_wi_same, pz_wi_X, pz_wl_gc, pz_wl_ga, pz_wl_gn, pz_wl_gi, pz_wl_gr, pz_wl_same, pz_wl_X, pz_wr_gc, pz_wr_ga, pz_wr_gn, pz_wr_gi, pz_wr_gl, pz_wr_same, pz_wr_X, so_0 hS, sr_0_1 hS, so_4 hS]
      first | exact po_ret (r) | exact po_gP (by decide) (po_ret (r))
    | 3, _, r =>
      refine pw_blk (mi := mz_83) (b := bz_83_0) rfl rfl ?_
      simp only [bz_83_0, pz_cut_t, pz_cut_f, pz_cut_n, pv_gt, pv_ts, pv_tn, ev_ild1, ev_tsw, pz_wi_gc, pz_wi_ga, pz_wi_gn, pz_wi_gl, pz_wi_gr, pz_wi_same, pz_wi_X, pz_wl_gc, pz_wl_ga, pz_wl_gn, pz_wl_gi, pz_wl_gr, pz_wl_same, pz_wl_X, pz_wr_gc, pz_wr_ga, pz_wr_gn, pz_wr_gi, pz_wr_gl, pz_wr_same, pz_wr_X]
      refine po_go ?_
      rw [show pz_swt _ _ _ _ _ (nI 3) = 88 by decide +kernel]
      refine pw_blk (mi := mz_83) (b := bz_83_88) rfl rfl ?_
      simp only [bz_83_88, pz_cut_t, pz_cut_f, pz_cut_n, pv_gt, pv_ts, pv_tn, ev_ald0, ev_eld0, ev_gf0_2, ev_gf8_0, ev_iret0, pz_wi_gc, pz_wi_ga, pz_wi_gn, pz_wi_gl, pz_wi_gr, pz_wi_same, pz_wi_X, pz_wl_gc, pz_wl_ga, pz_wl_gn, pz_wl_gi, pz_wl_gr, pz_wl_same, pz_wl_X, pz_wr_gc, pz_wr_ga, pz_wr_gn, pz_wr_gi, pz_wr_gl, pz_wr_same, pz_wr_X, so_0 hS, sr_0_1 hS, so_4 hS]
      first | exact po_ret (r) | exact po_gP (by decide) (po_ret (r))
    | 4, _, r =>
      refine pw_blk (mi := mz_83) (b := bz_83_0) rfl rfl ?_
      simp only [bz_83_0, pz_cut_t, pz_cut_f, pz_cut_n, pv_gt, pv_ts, pv_tn, ev_ild1, ev_tsw, pz_wi_gc, pz_wi_ga, pz_wi_gn, pz_wi_gl, pz_wi_gr, pz_wi_same, pz_wi_X, pz_wl_gc, pz_wl_ga, pz_wl_gn, pz_wl_gi, pz_wl_gr, pz_wl_same, pz_wl_X, pz_wr_gc, pz_wr_ga, pz_wr_gn, pz_wr_gi, pz_wr_gl, pz_wr_same, pz_wr_X]
      refine po_go ?_
      rw [show pz_swt _ _ _ _ _ (nI 4) = 96 by decide +kernel]
      refine pw_blk (mi := mz_83) (b := bz_83_96) rfl rfl ?_
      simp only [bz_83_96, pz_cut_t, pz_cut_f, pz_cut_n, pv_gt, pv_ts, pv_tn, ev_ald0, ev_eld0, ev_gf0_2, ev_gf2_0, ev_iret0, pz_wi_gc, pz_wi_ga, pz_wi_gn, pz_wi_gl, pz_wi_gr, pz_wi_same, pz_wi_X, pz_wl_gc, pz_wl_ga, pz_wl_gn, pz_wl_gi, pz_wl_gr, pz_wl_same, pz_wl_X, pz_wr_gc, pz_wr_ga, pz_wr_gn, pz_wr_gi, pz_wr_gl, pz_wr_same, pz_wr_X, so_0 hS, sr_0_8 hS, so_81 hS]
      first | exact po_ret (r) | exact po_gP (by decide) (po_ret (r))
    | 5, _, r =>
      refine pw_blk (mi := mz_83) (b := bz_83_0) rfl rfl ?_
      simp only [bz_83_0, pz_cut_t, pz_cut_f, pz_cut_n, pv_gt, pv_ts, pv_tn, ev_ild1, ev_tsw, pz_wi_gc, pz_wi_ga, pz_wi_gn, pz_wi_gl, pz_wi_gr, pz_wi_same, pz_wi_X, pz_wl_gc, pz_wl_ga, pz_wl_gn, pz_wl_gi, pz_wl_gr, pz_wl_same, pz_wl_X, pz_wr_gc, pz_wr_ga, pz_wr_gn, pz_wr_gi, pz_wr_gl, pz_wr_same, pz_wr_X]
      refine po_go ?_
      rw [show pz_swt _ _ _ _ _ (nI 5) = 104 by decide +kernel]
      refine pw_blk (mi := mz_83) (b := bz_83_104) rfl rfl ?_
      simp only [bz_83_104, pz_cut_t, pz_cut_f, pz_cut_n, pv_gt, pv_ts, pv_tn, ev_ald0, ev_eld0, ev_gf0_2, ev_gf2_0, ev_iret0, pz_wi_gc, pz_wi_ga, pz_wi_gn, pz_wi_gl, pz_wi_gr, pz_wi_same, pz_wi_X, pz_wl_gc, pz_wl_ga, pz_wl_gn, pz_wl_gi, pz_wl_gr, pz_wl_same, pz_wl_X, pz_wr_gc, pz_wr_ga, pz_wr_gn, pz_wr_gi, pz_wr_gl, pz_wr_same, pz_wr_X, so_0 hS, sr_0_9 hS, so_87 hS]
      first | exact po_ret (r) | exact po_gP (by decide) (po_ret (r))
    | 6, _, r =>
      refine pw_blk (mi := mz_83) (b := bz_83_0) rfl rfl ?_
      simp only [bz_83_0, pz_cut_t, pz_cut_f, pz_cut_n, pv_gt, pv_ts, pv_tn, ev_ild1, ev_tsw, pz_wi_gc, pz_wi_ga, pz_wi_gn, pz_wi_gl, pz_wi_gr, pz_wi_same, pz_wi_X, pz_wl_gc, pz_wl_ga, pz_wl_gn, pz_wl_gi, pz_wl_gr, pz_wl_same, pz_wl_X, pz_wr_gc, pz_wr_ga, pz_wr_gn, pz_wr_gi, pz_wr_gl, pz_wr_same, pz_wr_X]
      refine po_go ?_
      rw [show pz_swt _ _ _ _ _ (nI 6) = 112 by decide +kernel]
      refine pw_blk (mi := mz_83) (b := bz_83_112) rfl rfl ?_
      simp only [bz_83_112, pz_cut_t, pz_cut_f, pz_cut_n, pv_gt, pv_ts, pv_tn, ev_ald0, ev_eld0, ev_gf0_0, ev_iret0, pz_wi_gc, pz_wi_ga, pz_wi_gn, pz_wi_gl, pz_wi_gr, pz_wi_same, pz_wi_X, pz_wl_gc, pz_wl_ga, pz_wl_gn, pz_wl_gi, pz_wl_gr, pz_wl_same, pz_wl_X, pz_wr_gc, pz_wr_ga, pz_wr_gn, pz_wr_gi, pz_wr_gl, pz_wr_same, pz_wr_X, so_0 hS]
      first | exact po_ret (r) | exact po_gP (by decide) (po_ret (r))
    | 7, _, r =>
      refine pw_blk (mi := mz_83) (b := bz_83_0) rfl rfl ?_
      simp only [bz_83_0, pz_cut_t, pz_cut_f, pz_cut_n, pv_gt, pv_ts, pv_tn, ev_ild1, ev_tsw, pz_wi_gc, pz_wi_ga, pz_wi_gn, pz_wi_gl, pz_wi_gr, pz_wi_same, pz_wi_X, pz_wl_gc, pz_wl_ga, pz_wl_gn, pz_wl_gi, pz_wl_gr, pz_wl_same, pz_wl_X, pz_wr_gc, pz_wr_ga, pz_wr_gn, pz_wr_gi, pz_wr_gl, pz_wr_same, pz_wr_X]
      refine po_go ?_
      rw [show pz_swt _ _ _ _ _ (nI 7) = 117 by decide +kernel]
      refine pw_blk (mi := mz_83) (b := bz_83_117) rfl rfl ?_
      simp only [bz_83_117, pz_cut_t, pz_cut_f, pz_cut_n, pv_gt, pv_ts, pv_tn, ev_ald0, ev_eld0, ev_gf0_2, ev_gf3_0, ev_iret0, pz_wi_gc, pz_wi_ga, pz_wi_gn, pz_wi_gl, pz_wi_gr, pz_wi_same, pz_wi_X, pz_wl_gc, pz_wl_ga, pz_wl_gn, pz_wl_gi, pz_wl_gr, pz_wl_same, pz_wl_X, pz_wr_gc, pz_wr_ga, pz_wr_gn, pz_wr_gi, pz_wr_gl, pz_wr_same, pz_wr_X, so_0 hS, sr_0_3 hS, so_33 hS]
      first | exact po_ret (r) | exact po_gP (by decide) (po_ret (r))
    | 8, _, r =>
      refine pw_blk (mi := mz_83) (b := bz_83_0) rfl rfl ?_
      simp only [bz_83_0, pz_cut_t, pz_cut_f, pz_cut_n, pv_gt, pv_ts, pv_tn, ev_ild1, ev_tsw, pz_wi_gc, pz_wi_ga, pz_wi_gn, pz_wi_gl, pz_wi_gr, pz_wi_same, pz_wi_X, pz_wl_gc, pz_wl_ga, pz_wl_gn, pz_wl_gi, pz_wl_gr, pz_wl_same, pz_wl_X, pz_wr_gc, pz_wr_ga, pz_wr_gn, pz_wr_gi, pz_wr_gl, pz_wr_same, pz_wr_X]
      refine po_go ?_
      rw [show pz_swt _ _ _ _ _ (nI 8) = 125 by decide +kernel]
      refine pw_blk (mi := mz_83) (b := bz_83_125) rfl rfl ?_
      simp only [bz_83_125, pz_cut_t, pz_cut_f, pz_cut_n, pv_gt, pv_ts, pv_tn, ev_ald0, ev_eld0, ev_gf0_2, ev_gf10_0, ev_iret0, pz_wi_gc, pz_wi_ga, pz_wi_gn, pz_wi_gl, pz_wi_gr, pz_wi_same, pz_wi_X, pz_wl_gc, pz_wl_ga, pz_wl_gn, pz_wl_gi, pz_wl_gr, pz_wl_same, pz_wl_X, pz_wr_gc, pz_wr_ga, pz_wr_gn, pz_wr_gi, pz_wr_gl, pz_wr_same, pz_wr_X, so_0 hS, sr_0_0 hS, so_1 hS]
      first | exact po_ret (r) | exact po_gP (by decide) (po_ret (r))
    | 9, _, r =>
      refine pw_blk (mi := mz_83) (b := bz_83_0) rfl rfl ?_
      simp only [bz_83_0, pz_cut_t, pz_cut_f, pz_cut_n, pv_gt, pv_ts, pv_tn, ev_ild1, ev_tsw, pz_wi_gc, pz_wi_ga, pz_wi_gn, pz_wi_gl, pz_wi_gr, pz_wi_same, pz_wi_X, pz_wl_gc, pz_wl_ga, pz_wl_gn, pz_wl_gi, pz_wl_gr, pz_wl_same, pz_wl_X, pz_wr_gc, pz_wr_ga, pz_wr_gn, pz_wr_gi, pz_wr_gl, pz_wr_same, pz_wr_X]
      refine po_go ?_
      rw [show pz_swt _ _ _ _ _ (nI 9) = 133 by decide +kernel]
      refine pw_blk (mi := mz_83) (b := bz_83_133) rfl rfl ?_
      simp only [bz_83_133, pz_cut_t, pz_cut_f, pz_cut_n, pv_gt, pv_ts, pv_tn, ev_ald0, ev_eld0, ev_gf0_2, ev_gf3_0, ev_iret0, pz_wi_gc, pz_wi_ga, pz_wi_gn, pz_wi_gl, pz_wi_gr, pz_wi_same, pz_wi_X, pz_wl_gc, pz_wl_ga, pz_wl_gn, pz_wl_gi, pz_wl_gr, pz_wl_same, pz_wl_X, pz_wr_gc, pz_wr_ga, pz_wr_gn, pz_wr_gi, pz_wr_gl, pz_wr_same, pz_wr_X, so_0 hS, sr_0_3 hS, so_33 hS]
      first | exact po_ret (r) | exact po_gP (by decide) (po_ret (r))
    | 10, _, r =>
      refine pw_blk (mi := mz_83) (b := bz_83_0) rfl rfl ?_
      simp only [bz_83_0, pz_cut_t, pz_cut_f, pz_cut_n, pv_gt, pv_ts, pv_tn, ev_ild1, ev_tsw, pz_wi_gc, pz_wi_ga, pz_wi_gn, pz_wi_gl, pz_wi_gr, pz_wi_same, pz_wi_X, pz_wl_gc, pz_wl_ga, pz_wl_gn, pz_wl_gi, pz_wl_gr, pz_wl_same, pz_wl_X, pz_wr_gc, pz_wr_ga, pz_wr_gn, pz_wr_gi, pz_wr_gl, pz_wr_same, pz_wr_X]
      refine po_go ?_
      rw [show pz_swt _ _ _ _ _ (nI 10) = 141 by decide +kernel]
      refine pw_blk (mi := mz_83) (b := bz_83_141) rfl rfl ?_
      simp only [bz_83_141, pz_cut_t, pz_cut_f, pz_cut_n, pv_gt, pv_ts, pv_tn, ev_ald0, ev_eld0, ev_gf0_2, ev_gf6_0, ev_iret0, pz_wi_gc, pz_wi_ga, pz_wi_gn, pz_wi_gl, pz_wi_gr, pz_wi_same, pz_wi_X, pz_wl_gc, pz_wl_ga, pz_wl_gn, pz_wl_gi, pz_wl_gr, pz_wl_same, pz_wl_X, pz_wr_gc, pz_wr_ga, pz_wr_gn, pz_wr_gi, pz_wr_gl, pz_wr_same, pz_wr_X, so_0 hS, sr_0_10 hS, so_93 hS]
      first | exact po_ret (r) | exact po_gP (by decide) (po_ret (r))
    | 11, _, r =>
      refine pw_blk (mi := mz_83) (b := bz_83_0) rfl rfl ?_
      simp only [bz_83_0, pz_cut_t, pz_cut_f, pz_cut_n, pv_gt, pv_ts, pv_tn, ev_ild1, ev_tsw, pz_wi_gc, pz_wi_ga, pz_wi_gn, pz_wi_gl, pz_wi_gr, pz_wi_same, pz_wi_X, pz_wl_gc, pz_wl_ga, pz_wl_gn, pz_wl_gi, pz_wl_gr, pz_wl_same, pz_wl_X, pz_wr_gc, pz_wr_ga, pz_wr_gn, pz_wr_gi, pz_wr_gl, pz_wr_same, pz_wr_X]
      refine po_go ?_
      rw [show pz_swt _ _ _ _ _ (nI 11) = 149 by decide +kernel]
      refine pw_blk (mi := mz_83) (b := bz_83_149) rfl rfl ?_
      simp only [bz_83_149, pz_cut_t, pz_cut_f, pz_cut_n, pv_gt, pv_ts, pv_tn, ev_ald0, ev_eld0, ev_gf0_2, ev_gf6_0, ev_iret0, pz_wi_gc, pz_wi_ga, pz_wi_gn, pz_wi_gl, pz_wi_gr, pz_wi_same, pz_wi_X, pz_wl_gc, pz_wl_ga, pz_wl_gn, pz_wl_gi, pz_wl_gr, pz_wl_same, pz_wl_X, pz_wr_gc, pz_wr_ga, pz_wr_gn, pz_wr_gi, pz_wr_gl, pz_wr_same, pz_wr_X, so_0 hS, sr_0_10 hS, so_93 hS]
      first | exact po_ret (r) | exact po_gP (by decide) (po_ret (r))
  · have q' : ∀ j, j < 12 → ¬ x = nI j := fun j hj e => q ⟨j, hj, e⟩
    refine pw_blk (mi := mz_83) (b := bz_83_0) rfl rfl ?_
    simp only [bz_83_0, pz_cut_t, pz_cut_f, pz_cut_n, pv_gt, pv_ts, pv_tn, ev_ild1, ev_tsw, pz_wi_gc, pz_wi_ga, pz_wi_gn, pz_wi_gl, pz_wi_gr, pz_wi_same, pz_wi_X, pz_wl_gc, pz_wl_ga, pz_wl_gn, pz_wl_gi, pz_wl_gr, pz_wl_same, pz_wl_X, pz_wr_gc, pz_wr_ga, pz_wr_gn, pz_wr_gi, pz_wr_gl, pz_wr_same, pz_wr_X]
    refine po_go ?_
    rw [sw_no (n := 12) (by decide) (by decide) q']
    show pw d _ (157, _, _, _) Q
    refine pw_blk (mi := mz_83) (b := bz_83_157) rfl rfl ?_
    simp only [bz_83_157, pz_cut_t, pz_cut_f, pz_cut_n, pv_gt, pv_ts, pv_tn, ev_icm1, ev_iret0, pz_wi_gc, pz_wi_ga, pz_wi_gn, pz_wi_gl, pz_wi_gr, pz_wi_same, pz_wi_X, pz_wl_gc, pz_wl_ga, pz_wl_gn, pz_wl_gi, pz_wl_gr, pz_wl_same, pz_wl_X, pz_wr_gc, pz_wr_ga, pz_wr_gn, pz_wr_gi, pz_wr_gl, pz_wr_same, pz_wr_X]
    exact h0 q'
theorem r_about (hd : 1 ≤ d) (hO : okB M) (hS : SH M) {x : Int32} (h1 : ∀ j, j < 12 → x = nI j → Q (some (.int (abR M j)), M)) (h0 : (∀ j, j < 12 → ¬ x = nI j) → Q (some (.int (-1)), M)) : pm d 84 [.ref 120, .int x] M Q := by
  refine pm_ent (L := [some (.ref 120), some (.int x)]) rfl (Nat.le_of_ble_eq_true rfl) ?_
  by_cases q : ∃ j, j < 12 ∧ x = nI j
  · obtain ⟨j, hj, e⟩ := q
    have r := h1 j hj e
    subst e
    clear h1 h0
    match j, hj, r with
    | 0, _, r =>
      refine pw_blk (mi := mz_84) (b := bz_84_0) rfl rfl ?_
      simp only [bz_84_0, pz_cut_t, pz_cut_f, pz_cut_n, pv_gt, pv_ts, pv_tn, ev_ild1, ev_tsw, pz_wi_gc, pz_wi_ga, pz_wi_gn, pz_wi_gl, pz_wi_gr, pz_wi_same, pz_wi_X, pz_wl_gc, pz_wl_ga, pz_wl_gn, pz_wl_gi, pz_wl_gr, pz_wl_same, pz_wl_X, pz_wr_gc, pz_wr_ga, pz_wr_gn, pz_wr_gi, pz_wr_gl, pz_wr_same, pz_wr_X]
      refine po_go ?_
      rw [show pz_swt _ _ _ _ _ (nI 0) = 64 by decide +kernel]
      refine pw_blk (mi := mz_84) (b := bz_84_64) rfl rfl ?_
      simp only [bz_84_64, pz_cut_t, pz_cut_f, pz_cut_n, pv_gt, pv_ts, pv_tn, ev_ald0, ev_eld0, ev_cv0_11, pz_wi_gc, pz_wi_ga, pz_wi_gn, pz_wi_gl, pz_wi_gr, pz_wi_same, pz_wi_X, pz_wl_gc, pz_wl_ga, pz_wl_gn, pz_wl_gi, pz_wl_gr, pz_wl_same, pz_wl_X, pz_wr_gc, pz_wr_ga, pz_wr_gn, pz_wr_gi, pz_wr_gl, pz_wr_same, pz_wr_X, so_120 hS, ev_cv0_11]
      refine po_gP (Nat.le_of_ble_eq_true rfl) (po_call (by omega) (r_many hS hO ?_))
      refine pw_blk (mi := mz_84) (b := bz_84_68) rfl rfl ?_
      simp only [bz_84_68, pz_cut_t, pz_cut_f, pz_cut_n, pv_gt, pv_ts, pv_tn, ev_iret0, pz_wi_gc, pz_wi_ga, pz_wi_gn, pz_wi_gl, pz_wi_gr, pz_wi_same, pz_wi_X, pz_wl_gc, pz_wl_ga, pz_wl_gn, pz_wl_gi, pz_wl_gr, pz_wl_same, pz_wl_X, pz_wr_gc, pz_wr_ga, pz_wr_gn, pz_wr_gi, pz_wr_gl, pz_wr_same, pz_wr_X]
      first | exact po_ret (r) | exact po_gP (by decide) (po_ret (r))
    | 1, _, r =>
      refine pw_blk (mi := mz_84) (b := bz_84_0) rfl rfl ?_
      simp only [bz_84_0, pz_cut_t, pz_cut_f, pz_cut_n, pv_gt, pv_ts, pv_tn, ev_ild1, ev_tsw, pz_wi_gc, pz_wi_ga, pz_wi_gn, pz_wi_gl, pz_wi_gr, pz_wi_same, pz_wi_X, pz_wl_gc, pz_wl_ga, pz_wl_gn, pz_wl_gi, pz_wl_gr, pz_wl_same, pz_wl_X, pz_wr_gc, pz_wr_ga, pz_wr_gn, pz_wr_gi, pz_wr_gl, pz_wr_same, pz_wr_X]
      refine po_go ?_
      rw [show pz_swt _ _ _ _ _ (nI 1) = 69 by decide +kernel]
      refine pw_blk (mi := mz_84) (b := bz_84_69) rfl rfl ?_
      simp only [bz_84_69, pz_cut_t, pz_cut_f, pz_cut_n, pv_gt, pv_ts, pv_tn, ev_ald0, ev_eld0, ev_gf11_2, ev_gf11_0, ea_iald, ev_iret0, pz_wi_gc, pz_wi_ga, pz_wi_gn, pz_wi_gl, pz_wi_gr, pz_wi_same, pz_wi_X, pz_wl_gc, pz_wl_ga, pz_wl_gn, pz_wl_gi, pz_wl_gr, pz_wl_same, pz_wl_X, pz_wr_gc, pz_wr_ga, pz_wr_gn, pz_wr_gi, pz_wr_gl, pz_wr_same, pz_wr_X, so_120 hS, sr_120_13 hS, sa_124 hS, sn_124 hS]
      refine po_g hO.in ?_
      first | exact po_ret (r) | exact po_gP (by decide) (po_ret (r))
    | 2, _, r =>
      refine pw_blk (mi := mz_84) (b := bz_84_0) rfl rfl ?_
      simp only [bz_84_0, pz_cut_t, pz_cut_f, pz_cut_n, pv_gt, pv_ts, pv_tn, ev_ild1, ev_tsw, pz_wi_gc, pz_wi_ga, pz_wi_gn, pz_wi_gl, pz_wi_gr, pz_wi_same, pz_wi_X, pz_wl_gc, pz_wl_ga, pz_wl_gn, pz_wl_gi, pz_wl_gr, pz_wl_same, pz_wl_X, pz_wr_gc, pz_wr_ga, pz_wr_gn, pz_wr_gi, pz_wr_gl, pz_wr_same, pz_wr_X]
      refine po_go ?_
      rw [show pz_swt _ _ _ _ _ (nI 2) = 79 by decide +kernel]
      refine pw_blk (mi := mz_84) (b := bz_84_79) rfl rfl ?_
      simp only [bz_84_79, pz_cut_t, pz_cut_f, pz_cut_n, pv_gt, pv_ts, pv_tn, ev_ald0, ev_eld0, ev_gf11_2, ev_gf11_0, ea_iald, ev_iret0, pz_wi_gc, pz_wi_ga, pz_wi_gn, pz_wi_gl, pz_wi_gr, pz_wi_same, pz_wi_X, pz_wl_gc, pz_wl_ga, pz_wl_gn, pz_wl_gi, pz_wl_gr, pz_wl_same, pz_wl_X, pz_wr_gc, pz_wr_ga, pz_wr_gn, pz_wr_gi, pz_wr_gl, pz_wr_same, pz_wr_X, so_120 hS, sr_120_14 hS, sa_125 hS, sn_125 hS]
      refine po_g hO.in ?_
      first | exact po_ret (r) | exact po_gP (by decide) (po_ret (r))
    | 3, _, r =>
      refine pw_blk (mi := mz_84) (b := bz_84_0) rfl rfl ?_
      simp only [bz_84_0, pz_cut_t, pz_cut_f, pz_cut_n, pv_gt, pv_ts, pv_tn, ev_ild1, ev_tsw, pz_wi_gc, pz_wi_ga, pz_wi_gn, pz_wi_gl, pz_wi_gr, pz_wi_same, pz_wi_X, pz_wl_gc, pz_wl_ga, pz_wl_gn, pz_wl_gi, pz_wl_gr, pz_wl_same, pz_wl_X, pz_wr_gc, pz_wr_ga, pz_wr_gn, pz_wr_gi, pz_wr_gl, pz_wr_same, pz_wr_X]
      refine po_go ?_
      rw [show pz_swt _ _ _ _ _ (nI 3) = 89 by decide +kernel]
      refine pw_blk (mi := mz_84) (b := bz_84_89) rfl rfl ?_
      simp only [bz_84_89, pz_cut_t, pz_cut_f, pz_cut_n, pv_gt, pv_ts, pv_tn, ev_ald0, ev_eld0, ev_gf11_2, ev_gf11_0, ea_iald, ev_iret0, pz_wi_gc, pz_wi_ga, pz_wi_gn, pz_wi_gl, pz_wi_gr, pz_wi_same, pz_wi_X, pz_wl_gc, pz_wl_ga, pz_wl_gn, pz_wl_gi, pz_wl_gr, pz_wl_same, pz_wl_X, pz_wr_gc, pz_wr_ga, pz_wr_gn, pz_wr_gi, pz_wr_gl, pz_wr_same, pz_wr_X, so_120 hS, sr_120_15 hS, sa_126 hS, sn_126 hS]
      refine po_g hO.in ?_
      first | exact po_ret (r) | exact po_gP (by decide) (po_ret (r))
    | 4, _, r =>
      refine pw_blk (mi := mz_84) (b := bz_84_0) rfl rfl ?_
      simp only [bz_84_0, pz_cut_t, pz_cut_f, pz_cut_n, pv_gt, pv_ts, pv_tn, ev_ild1, ev_tsw, pz_wi_gc, pz_wi_ga, pz_wi_gn, pz_wi_gl, pz_wi_gr, pz_wi_same, pz_wi_X, pz_wl_gc, pz_wl_ga, pz_wl_gn, pz_wl_gi, pz_wl_gr, pz_wl_same, pz_wl_X, pz_wr_gc, pz_wr_ga, pz_wr_gn, pz_wr_gi, pz_wr_gl, pz_wr_same, pz_wr_X]
      refine po_go ?_
      rw [show pz_swt _ _ _ _ _ (nI 4) = 99 by decide +kernel]
      refine pw_blk (mi := mz_84) (b := bz_84_99) rfl rfl ?_
      simp only [bz_84_99, pz_cut_t, pz_cut_f, pz_cut_n, pv_gt, pv_ts, pv_tn, ev_ald0, ev_eld0, ev_gf11_0, ev_iret0, pz_wi_gc, pz_wi_ga, pz_wi_gn, pz_wi_gl, pz_wi_gr, pz_wi_same, pz_wi_X, pz_wl_gc, pz_wl_ga, pz_wl_gn, pz_wl_gi, pz_wl_gr, pz_wl_same, pz_wl_X, pz_wr_gc, pz_wr_ga, pz_wr_gn, pz_wr_gi, pz_wr_gl, pz_wr_same, pz_wr_X, so_120 hS]
      first | exact po_ret (r) | exact po_gP (by decide) (po_ret (r))
    | 5, _, r =>
      refine pw_blk (mi := mz_84) (b := bz_84_0) rfl rfl ?_
      simp only [bz_84_0, pz_cut_t, pz_cut_f, pz_cut_n, pv_gt, pv_ts, pv_tn, ev_ild1, ev_tsw, pz_wi_gc, pz_wi_ga, pz_wi_gn, pz_wi_gl, pz_wi_gr, pz_wi_same, pz_wi_X, pz_wl_gc, pz_wl_ga, pz_wl_gn, pz_wl_gi, pz_wl_gr, pz_wl_same, pz_wl_X, pz_wr_gc, pz_wr_ga, pz_wr_gn, pz_wr_gi, pz_wr_gl, pz_wr_same, pz_wr_X]
      refine po_go ?_
      rw [show pz_swt _ _ _ _ _ (nI 5) = 104 by decide +kernel]
      refine pw_blk (mi := mz_84) (b := bz_84_104) rfl rfl ?_
      simp only [bz_84_104, pz_cut_t, pz_cut_f, pz_cut_n, pv_gt, pv_ts, pv_tn, ev_ald0, ev_eld0, ev_gf11_0, ev_iret0, pz_wi_gc, pz_wi_ga, pz_wi_gn, pz_wi_gl, pz_wi_gr, pz_wi_same, pz_wi_X, pz_wl_gc, pz_wl_ga, pz_wl_gn, pz_wl_gi, pz_wl_gr, pz_wl_same, pz_wl_X, pz_wr_gc, pz_wr_ga, pz_wr_gn, pz_wr_gi, pz_wr_gl, pz_wr_same, pz_wr_X, so_120 hS]
      first | exact po_ret (r) | exact po_gP (by decide) (po_ret (r))
    | 6, _, r =>
      refine pw_blk (mi := mz_84) (b := bz_84_0) rfl rfl ?_
      simp only [bz_84_0, pz_cut_t, pz_cut_f, pz_cut_n, pv_gt, pv_ts, pv_tn, ev_ild1, ev_tsw, pz_wi_gc, pz_wi_ga, pz_wi_gn, pz_wi_gl, pz_wi_gr, pz_wi_same, pz_wi_X, pz_wl_gc, pz_wl_ga, pz_wl_gn, pz_wl_gi, pz_wl_gr, pz_wl_same, pz_wl_X, pz_wr_gc, pz_wr_ga, pz_wr_gn, pz_wr_gi, pz_wr_gl, pz_wr_same, pz_wr_X]
      refine po_go ?_
      rw [show pz_swt _ _ _ _ _ (nI 6) = 109 by decide +kernel]
      refine pw_blk (mi := mz_84) (b := bz_84_109) rfl rfl ?_
      simp only [bz_84_109, pz_cut_t, pz_cut_f, pz_cut_n, pv_gt, pv_ts, pv_tn, ev_ald0, ev_eld0, ev_gf11_0, ev_iret0, pz_wi_gc, pz_wi_ga, pz_wi_gn, pz_wi_gl, pz_wi_gr, pz_wi_same, pz_wi_X, pz_wl_gc, pz_wl_ga, pz_wl_gn, pz_wl_gi, pz_wl_gr, pz_wl_same, pz_wl_X, pz_wr_gc, pz_wr_ga, pz_wr_gn, pz_wr_gi, pz_wr_gl, pz_wr_same, pz_wr_X, so_120 hS]
      first | exact po_ret (r) | exact po_gP (by decide) (po_ret (r))
    | 7, _, r =>
      refine pw_blk (mi := mz_84) (b := bz_84_0) rfl rfl ?_
      simp only [bz_84_0, pz_cut_t, pz_cut_f, pz_cut_n, pv_gt, pv_ts, pv_tn, ev_ild1, ev_tsw, pz_wi_gc, pz_wi_ga, pz_wi_gn, pz_wi_gl, pz_wi_gr, pz_wi_same, pz_wi_X, pz_wl_gc, pz_wl_ga, pz_wl_gn, pz_wl_gi, pz_wl_gr, pz_wl_same, pz_wl_X, pz_wr_gc, pz_wr_ga, pz_wr_gn, pz_wr_gi, pz_wr_gl, pz_wr_same, pz_wr_X]
      refine po_go ?_
      rw [show pz_swt _ _ _ _ _ (nI 7) = 114 by decide +kernel]
      refine pw_blk (mi := mz_84) (b := bz_84_114) rfl rfl ?_
      simp only [bz_84_114, pz_cut_t, pz_cut_f, pz_cut_n, pv_gt, pv_ts, pv_tn, ev_ald0, ev_eld0, ev_gf11_0, ev_iret0, pz_wi_gc, pz_wi_ga, pz_wi_gn, pz_wi_gl, pz_wi_gr, pz_wi_same, pz_wi_X, pz_wl_gc, pz_wl_ga, pz_wl_gn, pz_wl_gi, pz_wl_gr, pz_wl_same, pz_wl_X, pz_wr_gc, pz_wr_ga, pz_wr_gn, pz_wr_gi, pz_wr_gl, pz_wr_same, pz_wr_X, so_120 hS]
      first | exact po_ret (r) | exact po_gP (by decide) (po_ret (r))
    | 8, _, r =>
      refine pw_blk (mi := mz_84) (b := bz_84_0) rfl rfl ?_
      simp only [bz_84_0, pz_cut_t, pz_cut_f, pz_cut_n, pv_gt, pv_ts, pv_tn, ev_ild1, ev_tsw, pz_wi_gc, pz_wi_ga, pz_wi_gn, pz_wi_gl, pz_wi_gr, pz_wi_same, pz_wi_X, pz_wl_gc, pz_wl_ga, pz_wl_gn, pz_wl_gi, pz_wl_gr, pz_wl_same, pz_wl_X, pz_wr_gc, pz_wr_ga, pz_wr_gn, pz_wr_gi, pz_wr_gl, pz_wr_same, pz_wr_X]
      refine po_go ?_
      rw [show pz_swt _ _ _ _ _ (nI 8) = 119 by decide +kernel]
      refine pw_blk (mi := mz_84) (b := bz_84_119) rfl rfl ?_
      simp only [bz_84_119, pz_cut_t, pz_cut_f, pz_cut_n, pv_gt, pv_ts, pv_tn, ev_ald0, ev_eld0, ev_gf11_0, ev_iret0, pz_wi_gc, pz_wi_ga, pz_wi_gn, pz_wi_gl, pz_wi_gr, pz_wi_same, pz_wi_X, pz_wl_gc, pz_wl_ga, pz_wl_gn, pz_wl_gi, pz_wl_gr, pz_wl_same, pz_wl_X, pz_wr_gc, pz_wr_ga, pz_wr_gn, pz_wr_gi, pz_wr_gl, pz_wr_same, pz_wr_X, so_120 hS]
      first | exact po_ret (r) | exact po_gP (by decide) (po_ret (r))
    | 9, _, r =>
      refine pw_blk (mi := mz_84) (b := bz_84_0) rfl rfl ?_
      simp only [bz_84_0, pz_cut_t, pz_cut_f, pz_cut_n, pv_gt, pv_ts, pv_tn, ev_ild1, ev_tsw, pz_wi_gc, pz_wi_ga, pz_wi_gn, pz_wi_gl, pz_wi_gr, pz_wi_same, pz_wi_X, pz_wl_gc, pz_wl_ga, pz_wl_gn, pz_wl_gi, pz_wl_gr, pz_wl_same, pz_wl_X, pz_wr_gc, pz_wr_ga, pz_wr_gn, pz_wr_gi, pz_wr_gl, pz_wr_same, pz_wr_X]
      refine po_go ?_
      rw [show pz_swt _ _ _ _ _ (nI 9) = 124 by decide +kernel]
      refine pw_blk (mi := mz_84) (b := bz_84_124) rfl rfl ?_
      simp only [bz_84_124, pz_cut_t, pz_cut_f, pz_cut_n, pv_gt, pv_ts, pv_tn, ev_ald0, ev_eld0, ev_gf11_0, ev_iret0, pz_wi_gc, pz_wi_ga, pz_wi_gn, pz_wi_gl, pz_wi_gr, pz_wi_same, pz_wi_X, pz_wl_gc, pz_wl_ga, pz_wl_gn, pz_wl_gi, pz_wl_gr, pz_wl_same, pz_wl_X, pz_wr_gc, pz_wr_ga, pz_wr_gn, pz_wr_gi, pz_wr_gl, pz_wr_same, pz_wr_X, so_120 hS]
      first | exact po_ret (r) | exact po_gP (by decide) (po_ret (r))
    | 10, _, r =>
      refine pw_blk (mi := mz_84) (b := bz_84_0) rfl rfl ?_
      simp only [bz_84_0, pz_cut_t, pz_cut_f, pz_cut_n, pv_gt, pv_ts, pv_tn, ev_ild1, ev_tsw, pz_wi_gc, pz_wi_ga, pz_wi_gn, pz_wi_gl, pz_wi_gr, pz_wi_same, pz_wi_X, pz_wl_gc, pz_wl_ga, pz_wl_gn, pz_wl_gi, pz_wl_gr, pz_wl_same, pz_wl_X, pz_wr_gc, pz_wr_ga, pz_wr_gn, pz_wr_gi, pz_wr_gl, pz_wr_same, pz_wr_X]
      refine po_go ?_
      rw [show pz_swt _ _ _ _ _ (nI 10) = 129 by decide +kernel]
      refine pw_blk (mi := mz_84) (b := bz_84_129) rfl rfl ?_
      simp only [bz_84_129, pz_cut_t, pz_cut_f, pz_cut_n, pv_gt, pv_ts, pv_tn, ev_ald0, ev_eld0, ev_gf11_0, ev_iret0, pz_wi_gc, pz_wi_ga, pz_wi_gn, pz_wi_gl, pz_wi_gr, pz_wi_same, pz_wi_X, pz_wl_gc, pz_wl_ga, pz_wl_gn, pz_wl_gi, pz_wl_gr, pz_wl_same, pz_wl_X, pz_wr_gc, pz_wr_ga, pz_wr_gn, pz_wr_gi, pz_wr_gl, pz_wr_same, pz_wr_X, so_120 hS]
      first | exact po_ret (r) | exact po_gP (by decide) (po_ret (r))
    | 11, _, r =>
      refine pw_blk (mi := mz_84) (b := bz_84_0) rfl rfl ?_
      simp only [bz_84_0, pz_cut_t, pz_cut_f, pz_cut_n, pv_gt, pv_ts, pv_tn, ev_ild1, ev_tsw, pz_wi_gc, pz_wi_ga, pz_wi_gn, pz_wi_gl, pz_wi_gr, pz_wi_same, pz_wi_X, pz_wl_gc, pz_wl_ga, pz_wl_gn, pz_wl_gi, pz_wl_gr, pz_wl_same, pz_wl_X, pz_wr_gc, pz_wr_ga, pz_wr_gn, pz_wr_gi, pz_wr_gl, pz_wr_same, pz_wr_X]
      refine po_go ?_
      rw [show pz_swt _ _ _ _ _ (nI 11) = 134 by decide +kernel]
      refine pw_blk (mi := mz_84) (b := bz_84_134) rfl rfl ?_
      simp only [bz_84_134, pz_cut_t, pz_cut_f, pz_cut_n, pv_gt, pv_ts, pv_tn, ev_ald0, ev_eld0, ev_gf11_0, ev_iret0, pz_wi_gc, pz_wi_ga, pz_wi_gn, pz_wi_gl, pz_wi_gr, pz_wi_same, pz_wi_X, pz_wl_gc, pz_wl_ga, pz_wl_gn, pz_wl_gi, pz_wl_gr, pz_wl_same, pz_wl_X, pz_wr_gc, pz_wr_ga, pz_wr_gn, pz_wr_gi, pz_wr_gl, pz_wr_same, pz_wr_X, so_120 hS]
      first | exact po_ret (r) | exact po_gP (by decide) (po_ret (r))
  · have q' : ∀ j, j < 12 → ¬ x = nI j := fun j hj e => q ⟨j, hj, e⟩
    refine pw_blk (mi := mz_84) (b := bz_84_0) rfl rfl ?_
    simp only [bz_84_0, pz_cut_t, pz_cut_f, pz_cut_n, pv_gt, pv_ts, pv_tn, ev_ild1, ev_tsw, pz_wi_gc, pz_wi_ga, pz_wi_gn, pz_wi_gl, pz_wi_gr, pz_wi_same, pz_wi_X, pz_wl_gc, pz_wl_ga, pz_wl_gn, pz_wl_gi, pz_wl_gr, pz_wl_same, pz_wl_X, pz_wr_gc, pz_wr_ga, pz_wr_gn, pz_wr_gi, pz_wr_gl, pz_wr_same, pz_wr_X]
    refine po_go ?_
    rw [sw_no (n := 12) (by decide) (by decide) q']
    show pw d _ (139, _, _, _) Q
    refine pw_blk (mi := mz_84) (b := bz_84_139) rfl rfl ?_
    simp only [bz_84_139, pz_cut_t, pz_cut_f, pz_cut_n, pv_gt, pv_ts, pv_tn, ev_icm1, ev_iret0, pz_wi_gc, pz_wi_ga, pz_wi_gn, pz_wi_gl, pz_wi_gr, pz_wi_same, pz_wi_X, pz_wl_gc, pz_wl_ga, pz_wl_gn, pz_wl_gi, pz_wl_gr, pz_wl_same, pz_wl_X, pz_wr_gc, pz_wr_ga, pz_wr_gn, pz_wr_gi, pz_wr_gl, pz_wr_same, pz_wr_X]
    exact h0 q'
theorem op_about (hd : 1 ≤ d) (hS : SH M) (hO : okB M) (hR : ∀ j, j < 12 → abC M j = abR M j) {x : Int32} : pm d 83 [.ref 0, .int x] M (fun r1 => pm d 84 [.ref 120, .int x] r1.2 (fun r2 => r1.1 = r2.1 ∧ r2.2 = M)) := by
  refine m_about hS (fun j hj e => ?_) (fun z => ?_)
  · refine r_about hd hO hS (fun j' hj' e' => ⟨?_, rfl⟩) (fun z => absurd e (z j hj))
    have ej : j = j' := (nI_eq (by omega) (by omega)).mp (by rw [← e, ← e'])
    subst ej
    rw [hR j hj]
  · exact r_about hd hO hS (fun j hj e => absurd e (z j hj)) (fun _ => ⟨rfl, rfl⟩)
end ABOUT
