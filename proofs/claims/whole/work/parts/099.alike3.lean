/-! ===== alike on both sides ===== -/
section ALIKE3
variable {d : Nat} {M : pz_M} {Q : Option Value × pz_M → Prop}
theorem m_alike (hd : 1 ≤ d) (hS : SH M) {B : Nat} {x y : Int32} (hn : gi M 4 0 = nI B) (hB : B ≤ 24) (h1 : ∀ a b, a < B → b < B → a ≠ b → x = nI a → y = nI b → Q (some (.int (nI (alk (gl M 5) a b 9 0))), M)) (h0 : (∀ a b, a < B → b < B → a ≠ b → x = nI a → ¬ y = nI b) → Q (some (.int (-1)), M)) : pm d 17 [.ref 0, .int x, .int y] M Q := by
  refine pm_ent (L := [some (.ref 0), some (.int x), some (.int y)]) rfl (Nat.le_of_ble_eq_true rfl) ?_
  refine pw_blk (mi := mz_17) (b := bz_17_0) rfl rfl ?_
  simp only [bz_17_0, pz_cut_t, pz_cut_f, pz_cut_n, pv_gt, pv_ts, pv_tn, ev_ald0, ev_eld0, ev_gf0_2, ev_ild1, ev_cv1_8, pz_wi_gc, pz_wi_ga, pz_wi_gn, pz_wi_gl, pz_wi_gr, pz_wi_same, pz_wi_X, pz_wl_gc, pz_wl_ga, pz_wl_gn, pz_wl_gi, pz_wl_gr, pz_wl_same, pz_wl_X, pz_wr_gc, pz_wr_ga, pz_wr_gn, pz_wr_gi, pz_wr_gl, pz_wr_same, pz_wr_X, so_0 hS, sr_0_1 hS, so_4 hS, ev_cv1_8]
  refine po_gP (Nat.le_of_ble_eq_true rfl) (po_call hd (m_hasBar hS hn hB (fun a ha ea => ?_) (fun z => ?_)))
  · refine pw_blk (mi := mz_17) (b := bz_17_8) rfl rfl ?_
    simp only [bz_17_8, pz_cut_t, pz_cut_f, pz_cut_n, pv_gt, pv_ts, pv_tn, ev_ifeq, pz_wi_gc, pz_wi_ga, pz_wi_gn, pz_wi_gl, pz_wi_gr, pz_wi_same, pz_wi_X, pz_wl_gc, pz_wl_ga, pz_wl_gn, pz_wl_gi, pz_wl_gr, pz_wl_same, pz_wl_X, pz_wr_gc, pz_wr_ga, pz_wr_gn, pz_wr_gi, pz_wr_gl, pz_wr_same, pz_wr_X]
    refine po_brP (fun q => absurd q (by decide)) (fun _ => ?_)
    refine pw_blk (mi := mz_17) (b := bz_17_11) rfl rfl ?_
    simp only [bz_17_11, pz_cut_t, pz_cut_f, pz_cut_n, pv_gt, pv_ts, pv_tn, ev_ald0, ev_eld0, ev_gf0_2, ev_ild2, ev_cv1_8, pz_wi_gc, pz_wi_ga, pz_wi_gn, pz_wi_gl, pz_wi_gr, pz_wi_same, pz_wi_X, pz_wl_gc, pz_wl_ga, pz_wl_gn, pz_wl_gi, pz_wl_gr, pz_wl_same, pz_wl_X, pz_wr_gc, pz_wr_ga, pz_wr_gn, pz_wr_gi, pz_wr_gl, pz_wr_same, pz_wr_X, so_0 hS, sr_0_1 hS, so_4 hS, ev_cv1_8]
    refine po_gP (Nat.le_of_ble_eq_true rfl) (po_call hd (m_hasBar hS hn hB (fun b hb eb => ?_) (fun z => ?_)))
    · refine pw_blk (mi := mz_17) (b := bz_17_19) rfl rfl ?_
      simp only [bz_17_19, pz_cut_t, pz_cut_f, pz_cut_n, pv_gt, pv_ts, pv_tn, ev_ifeq, pz_wi_gc, pz_wi_ga, pz_wi_gn, pz_wi_gl, pz_wi_gr, pz_wi_same, pz_wi_X, pz_wl_gc, pz_wl_ga, pz_wl_gn, pz_wl_gi, pz_wl_gr, pz_wl_same, pz_wl_X, pz_wr_gc, pz_wr_ga, pz_wr_gn, pz_wr_gi, pz_wr_gl, pz_wr_same, pz_wr_X]
      refine po_brP (fun q => absurd q (by decide)) (fun _ => ?_)
      refine pw_blk (mi := mz_17) (b := bz_17_22) rfl rfl ?_
      simp only [bz_17_22, pz_cut_t, pz_cut_f, pz_cut_n, pv_gt, pv_ts, pv_tn, ev_ild1, ev_ild2, ev_ic_ne, pz_wi_gc, pz_wi_ga, pz_wi_gn, pz_wi_gl, pz_wi_gr, pz_wi_same, pz_wi_X, pz_wl_gc, pz_wl_ga, pz_wl_gn, pz_wl_gi, pz_wl_gr, pz_wl_same, pz_wl_X, pz_wr_gc, pz_wr_ga, pz_wr_gn, pz_wr_gi, pz_wr_gl, pz_wr_same, pz_wr_X]
      refine po_brP (fun q => ?_) (fun q => ?_)
      · subst ea
        subst eb
        have hab : a ≠ b := fun e => q (by rw [e])
        refine pw_blk (mi := mz_17) (b := bz_17_29) rfl rfl ?_
        simp only [bz_17_29, pz_cut_t, pz_cut_f, pz_cut_n, pv_gt, pv_ts, pv_tn, ev_ald0, ev_eld0, ev_gf0_2, ev_ild1, ev_ild2, ev_cv2_8, pz_wi_gc, pz_wi_ga, pz_wi_gn, pz_wi_gl, pz_wi_gr, pz_wi_same, pz_wi_X, pz_wl_gc, pz_wl_ga, pz_wl_gn, pz_wl_gi, pz_wl_gr, pz_wl_same, pz_wl_X, pz_wr_gc, pz_wr_ga, pz_wr_gn, pz_wr_gi, pz_wr_gl, pz_wr_same, pz_wr_X, so_0 hS, sr_0_1 hS, so_4 hS, ev_cv2_8]
        refine po_gP (Nat.le_of_ble_eq_true rfl) (po_call hd (m_countAlike hS (by omega) (by omega) ?_))
        refine pw_blk (mi := mz_17) (b := bz_17_38) rfl rfl ?_
        simp only [bz_17_38, pz_cut_t, pz_cut_f, pz_cut_n, pv_gt, pv_ts, pv_tn, ev_iret0, pz_wi_gc, pz_wi_ga, pz_wi_gn, pz_wi_gl, pz_wi_gr, pz_wi_same, pz_wi_X, pz_wl_gc, pz_wl_ga, pz_wl_gn, pz_wl_gi, pz_wl_gr, pz_wl_same, pz_wl_X, pz_wr_gc, pz_wr_ga, pz_wr_gn, pz_wr_gi, pz_wr_gl, pz_wr_same, pz_wr_X]
        first | exact po_ret (h1 a b ha hb hab rfl rfl) | exact po_gP (by decide) (po_ret (h1 a b ha hb hab rfl rfl))
      · refine pw_blk (mi := mz_17) (b := bz_17_27) rfl rfl ?_
        simp only [bz_17_27, pz_cut_t, pz_cut_f, pz_cut_n, pv_gt, pv_ts, pv_tn, ev_icm1, ev_iret0, pz_wi_gc, pz_wi_ga, pz_wi_gn, pz_wi_gl, pz_wi_gr, pz_wi_same, pz_wi_X, pz_wl_gc, pz_wl_ga, pz_wl_gn, pz_wl_gi, pz_wl_gr, pz_wl_same, pz_wl_X, pz_wr_gc, pz_wr_ga, pz_wr_gn, pz_wr_gi, pz_wr_gl, pz_wr_same, pz_wr_X]
        have q := Decidable.not_not.mp q
        first | exact po_ret (h0 (fun a' b' ha' hb' hab ex ey => hab ((nI_eq (by omega) (by omega)).mp (by rw [← ex, ← ey, q])))) | exact po_gP (by decide) (po_ret (h0 (fun a' b' ha' hb' hab ex ey => hab ((nI_eq (by omega) (by omega)).mp (by rw [← ex, ← ey, q])))))
    · refine pw_blk (mi := mz_17) (b := bz_17_19) rfl rfl ?_
      simp only [bz_17_19, pz_cut_t, pz_cut_f, pz_cut_n, pv_gt, pv_ts, pv_tn, ev_ifeq, pz_wi_gc, pz_wi_ga, pz_wi_gn, pz_wi_gl, pz_wi_gr, pz_wi_same, pz_wi_X, pz_wl_gc, pz_wl_ga, pz_wl_gn, pz_wl_gi, pz_wl_gr, pz_wl_same, pz_wl_X, pz_wr_gc, pz_wr_ga, pz_wr_gn, pz_wr_gi, pz_wr_gl, pz_wr_same, pz_wr_X]
      refine po_brP (fun _ => ?_) (fun q => absurd trivial q)
      refine pw_blk (mi := mz_17) (b := bz_17_27) rfl rfl ?_
      simp only [bz_17_27, pz_cut_t, pz_cut_f, pz_cut_n, pv_gt, pv_ts, pv_tn, ev_icm1, ev_iret0, pz_wi_gc, pz_wi_ga, pz_wi_gn, pz_wi_gl, pz_wi_gr, pz_wi_same, pz_wi_X, pz_wl_gc, pz_wl_ga, pz_wl_gn, pz_wl_gi, pz_wl_gr, pz_wl_same, pz_wl_X, pz_wr_gc, pz_wr_ga, pz_wr_gn, pz_wr_gi, pz_wr_gl, pz_wr_same, pz_wr_X]
      first | exact po_ret (h0 (fun a' b' ha' hb' hab ex ey => z b' hb' ey)) | exact po_gP (by decide) (po_ret (h0 (fun a' b' ha' hb' hab ex ey => z b' hb' ey)))
  · refine pw_blk (mi := mz_17) (b := bz_17_8) rfl rfl ?_
    simp only [bz_17_8, pz_cut_t, pz_cut_f, pz_cut_n, pv_gt, pv_ts, pv_tn, ev_ifeq, pz_wi_gc, pz_wi_ga, pz_wi_gn, pz_wi_gl, pz_wi_gr, pz_wi_same, pz_wi_X, pz_wl_gc, pz_wl_ga, pz_wl_gn, pz_wl_gi, pz_wl_gr, pz_wl_same, pz_wl_X, pz_wr_gc, pz_wr_ga, pz_wr_gn, pz_wr_gi, pz_wr_gl, pz_wr_same, pz_wr_X]
    refine po_brP (fun _ => ?_) (fun q => absurd trivial q)
    refine pw_blk (mi := mz_17) (b := bz_17_27) rfl rfl ?_
    simp only [bz_17_27, pz_cut_t, pz_cut_f, pz_cut_n, pv_gt, pv_ts, pv_tn, ev_icm1, ev_iret0, pz_wi_gc, pz_wi_ga, pz_wi_gn, pz_wi_gl, pz_wi_gr, pz_wi_same, pz_wi_X, pz_wl_gc, pz_wl_ga, pz_wl_gn, pz_wl_gi, pz_wl_gr, pz_wl_same, pz_wl_X, pz_wr_gc, pz_wr_ga, pz_wr_gn, pz_wr_gi, pz_wr_gl, pz_wr_same, pz_wr_X]
    first | exact po_ret (h0 (fun a' b' ha' hb' hab ex ey => z a' ha' ex)) | exact po_gP (by decide) (po_ret (h0 (fun a' b' ha' hb' hab ex ey => z a' ha' ex)))
theorem r_alike (hd : 2 ≤ d) (hS : SH M) (hO : okB M) {B : Nat} {x y : Int32} (hn : nb M = nI B) (hB : B ≤ 24) (h1 : ∀ a b, a < B → b < B → a ≠ b → x = nI a → y = nI b → Q (some (.int (nI (alk (rlk M) a b 9 0))), M)) (h0 : (∀ a b, a < B → b < B → a ≠ b → x = nI a → ¬ y = nI b) → Q (some (.int (-1)), M)) : pm d 18 [.ref 120, .int x, .int y] M Q := by
  refine pm_ent (L := [some (.ref 120), some (.int x), some (.int y)]) rfl (Nat.le_of_ble_eq_true rfl) ?_
  refine pw_blk (mi := mz_18) (b := bz_18_0) rfl rfl ?_
  simp only [bz_18_0, pz_cut_t, pz_cut_f, pz_cut_n, pv_gt, pv_ts, pv_tn, ev_ald0, ev_eld0, ev_ild1, ev_cv1_11, pz_wi_gc, pz_wi_ga, pz_wi_gn, pz_wi_gl, pz_wi_gr, pz_wi_same, pz_wi_X, pz_wl_gc, pz_wl_ga, pz_wl_gn, pz_wl_gi, pz_wl_gr, pz_wl_same, pz_wl_X, pz_wr_gc, pz_wr_ga, pz_wr_gn, pz_wr_gi, pz_wr_gl, pz_wr_same, pz_wr_X, so_120 hS, ev_cv1_11]
  refine po_gP (Nat.le_of_ble_eq_true rfl) (po_call (by omega) (r_isBarN (by omega) hS hO hn hB (fun a ha ea => ?_) (fun z => ?_)))
  · refine pw_blk (mi := mz_18) (b := bz_18_5) rfl rfl ?_
    simp only [bz_18_5, pz_cut_t, pz_cut_f, pz_cut_n, pv_gt, pv_ts, pv_tn, ev_ifeq, pz_wi_gc, pz_wi_ga, pz_wi_gn, pz_wi_gl, pz_wi_gr, pz_wi_same, pz_wi_X, pz_wl_gc, pz_wl_ga, pz_wl_gn, pz_wl_gi, pz_wl_gr, pz_wl_same, pz_wl_X, pz_wr_gc, pz_wr_ga, pz_wr_gn, pz_wr_gi, pz_wr_gl, pz_wr_same, pz_wr_X]
    refine po_brP (fun q => absurd q (by decide)) (fun _ => ?_)
    refine pw_blk (mi := mz_18) (b := bz_18_8) rfl rfl ?_
    simp only [bz_18_8, pz_cut_t, pz_cut_f, pz_cut_n, pv_gt, pv_ts, pv_tn, ev_ald0, ev_eld0, ev_ild2, ev_cv1_11, pz_wi_gc, pz_wi_ga, pz_wi_gn, pz_wi_gl, pz_wi_gr, pz_wi_same, pz_wi_X, pz_wl_gc, pz_wl_ga, pz_wl_gn, pz_wl_gi, pz_wl_gr, pz_wl_same, pz_wl_X, pz_wr_gc, pz_wr_ga, pz_wr_gn, pz_wr_gi, pz_wr_gl, pz_wr_same, pz_wr_X, so_120 hS, ev_cv1_11]
    refine po_gP (Nat.le_of_ble_eq_true rfl) (po_call (by omega) (r_isBarN (by omega) hS hO hn hB (fun b hb eb => ?_) (fun z => ?_)))
    · refine pw_blk (mi := mz_18) (b := bz_18_13) rfl rfl ?_
      simp only [bz_18_13, pz_cut_t, pz_cut_f, pz_cut_n, pv_gt, pv_ts, pv_tn, ev_ifeq, pz_wi_gc, pz_wi_ga, pz_wi_gn, pz_wi_gl, pz_wi_gr, pz_wi_same, pz_wi_X, pz_wl_gc, pz_wl_ga, pz_wl_gn, pz_wl_gi, pz_wl_gr, pz_wl_same, pz_wl_X, pz_wr_gc, pz_wr_ga, pz_wr_gn, pz_wr_gi, pz_wr_gl, pz_wr_same, pz_wr_X]
      refine po_brP (fun q => absurd q (by decide)) (fun _ => ?_)
      refine pw_blk (mi := mz_18) (b := bz_18_16) rfl rfl ?_
      simp only [bz_18_16, pz_cut_t, pz_cut_f, pz_cut_n, pv_gt, pv_ts, pv_tn, ev_ild1, ev_ild2, ev_ic_eq, pz_wi_gc, pz_wi_ga, pz_wi_gn, pz_wi_gl, pz_wi_gr, pz_wi_same, pz_wi_X, pz_wl_gc, pz_wl_ga, pz_wl_gn, pz_wl_gi, pz_wl_gr, pz_wl_same, pz_wl_X, pz_wr_gc, pz_wr_ga, pz_wr_gn, pz_wr_gi, pz_wr_gl, pz_wr_same, pz_wr_X]
      refine po_brP (fun q => ?_) (fun q => ?_)
      · refine pw_blk (mi := mz_18) (b := bz_18_30) rfl rfl ?_
        simp only [bz_18_30, pz_cut_t, pz_cut_f, pz_cut_n, pv_gt, pv_ts, pv_tn, ev_icm1, ev_nil, pz_wi_gc, pz_wi_ga, pz_wi_gn, pz_wi_gl, pz_wi_gr, pz_wi_same, pz_wi_X, pz_wl_gc, pz_wl_ga, pz_wl_gn, pz_wl_gi, pz_wl_gr, pz_wl_same, pz_wl_X, pz_wr_gc, pz_wr_ga, pz_wr_gn, pz_wr_gi, pz_wr_gl, pz_wr_same, pz_wr_X]
        refine po_go ?_
        refine pw_blk (mi := mz_18) (b := bz_18_31) rfl rfl ?_
        simp only [bz_18_31, pz_cut_t, pz_cut_f, pz_cut_n, pv_gt, pv_ts, pv_tn, ev_iret0, pz_wi_gc, pz_wi_ga, pz_wi_gn, pz_wi_gl, pz_wi_gr, pz_wi_same, pz_wi_X, pz_wl_gc, pz_wl_ga, pz_wl_gn, pz_wl_gi, pz_wl_gr, pz_wl_same, pz_wl_X, pz_wr_gc, pz_wr_ga, pz_wr_gn, pz_wr_gi, pz_wr_gl, pz_wr_same, pz_wr_X]
        first | exact po_ret (h0 (fun a' b' ha' hb' hab ex ey => hab ((nI_eq (by omega) (by omega)).mp (by rw [← ex, ← ey, q])))) | exact po_gP (by decide) (po_ret (h0 (fun a' b' ha' hb' hab ex ey => hab ((nI_eq (by omega) (by omega)).mp (by rw [← ex, ← ey, q])))))
      · subst ea
        subst eb
        have hab : a ≠ b := fun e => q (by rw [e])
        refine pw_blk (mi := mz_18) (b := bz_18_21) rfl rfl ?_
        simp only [bz_18_21, pz_cut_t, pz_cut_f, pz_cut_n, pv_gt, pv_ts, pv_tn, ev_ald0, ev_eld0, ev_ild1, ev_ild2, ev_cv2_11, pz_wi_gc, pz_wi_ga, pz_wi_gn, pz_wi_gl, pz_wi_gr, pz_wi_same, pz_wi_X, pz_wl_gc, pz_wl_ga, pz_wl_gn, pz_wl_gi, pz_wl_gr, pz_wl_same, pz_wl_X, pz_wr_gc, pz_wr_ga, pz_wr_gn, pz_wr_gi, pz_wr_gl, pz_wr_same, pz_wr_X, so_120 hS, ev_cv2_11]
        refine po_gP (Nat.le_of_ble_eq_true rfl) (po_call (by omega) (r_alikeOf (by omega) hS hO (by omega) (by omega) ?_))
        refine pw_blk (mi := mz_18) (b := bz_18_27) rfl rfl ?_
        simp only [bz_18_27, pz_cut_t, pz_cut_f, pz_cut_n, pv_gt, pv_ts, pv_tn, ev_goto, pz_wi_gc, pz_wi_ga, pz_wi_gn, pz_wi_gl, pz_wi_gr, pz_wi_same, pz_wi_X, pz_wl_gc, pz_wl_ga, pz_wl_gn, pz_wl_gi, pz_wl_gr, pz_wl_same, pz_wl_X, pz_wr_gc, pz_wr_ga, pz_wr_gn, pz_wr_gi, pz_wr_gl, pz_wr_same, pz_wr_X]
        refine po_go ?_
        refine pw_blk (mi := mz_18) (b := bz_18_31) rfl rfl ?_
        simp only [bz_18_31, pz_cut_t, pz_cut_f, pz_cut_n, pv_gt, pv_ts, pv_tn, ev_iret0, pz_wi_gc, pz_wi_ga, pz_wi_gn, pz_wi_gl, pz_wi_gr, pz_wi_same, pz_wi_X, pz_wl_gc, pz_wl_ga, pz_wl_gn, pz_wl_gi, pz_wl_gr, pz_wl_same, pz_wl_X, pz_wr_gc, pz_wr_ga, pz_wr_gn, pz_wr_gi, pz_wr_gl, pz_wr_same, pz_wr_X]
        first | exact po_ret (h1 a b ha hb hab rfl rfl) | exact po_gP (by decide) (po_ret (h1 a b ha hb hab rfl rfl))
    · refine pw_blk (mi := mz_18) (b := bz_18_13) rfl rfl ?_
      simp only [bz_18_13, pz_cut_t, pz_cut_f, pz_cut_n, pv_gt, pv_ts, pv_tn, ev_ifeq, pz_wi_gc, pz_wi_ga, pz_wi_gn, pz_wi_gl, pz_wi_gr, pz_wi_same, pz_wi_X, pz_wl_gc, pz_wl_ga, pz_wl_gn, pz_wl_gi, pz_wl_gr, pz_wl_same, pz_wl_X, pz_wr_gc, pz_wr_ga, pz_wr_gn, pz_wr_gi, pz_wr_gl, pz_wr_same, pz_wr_X]
      refine po_brP (fun _ => ?_) (fun q => absurd trivial q)
      refine pw_blk (mi := mz_18) (b := bz_18_30) rfl rfl ?_
      simp only [bz_18_30, pz_cut_t, pz_cut_f, pz_cut_n, pv_gt, pv_ts, pv_tn, ev_icm1, ev_nil, pz_wi_gc, pz_wi_ga, pz_wi_gn, pz_wi_gl, pz_wi_gr, pz_wi_same, pz_wi_X, pz_wl_gc, pz_wl_ga, pz_wl_gn, pz_wl_gi, pz_wl_gr, pz_wl_same, pz_wl_X, pz_wr_gc, pz_wr_ga, pz_wr_gn, pz_wr_gi, pz_wr_gl, pz_wr_same, pz_wr_X]
      refine po_go ?_
      refine pw_blk (mi := mz_18) (b := bz_18_31) rfl rfl ?_
      simp only [bz_18_31, pz_cut_t, pz_cut_f, pz_cut_n, pv_gt, pv_ts, pv_tn, ev_iret0, pz_wi_gc, pz_wi_ga, pz_wi_gn, pz_wi_gl, pz_wi_gr, pz_wi_same, pz_wi_X, pz_wl_gc, pz_wl_ga, pz_wl_gn, pz_wl_gi, pz_wl_gr, pz_wl_same, pz_wl_X, pz_wr_gc, pz_wr_ga, pz_wr_gn, pz_wr_gi, pz_wr_gl, pz_wr_same, pz_wr_X]
      first | exact po_ret (h0 (fun a' b' ha' hb' hab ex ey => z b' hb' ey)) | exact po_gP (by decide) (po_ret (h0 (fun a' b' ha' hb' hab ex ey => z b' hb' ey)))
  · refine pw_blk (mi := mz_18) (b := bz_18_5) rfl rfl ?_
    simp only [bz_18_5, pz_cut_t, pz_cut_f, pz_cut_n, pv_gt, pv_ts, pv_tn, ev_ifeq, pz_wi_gc, pz_wi_ga, pz_wi_gn, pz_wi_gl, pz_wi_gr, pz_wi_same, pz_wi_X, pz_wl_gc, pz_wl_ga, pz_wl_gn, pz_wl_gi, pz_wl_gr, pz_wl_same, pz_wl_X, pz_wr_gc, pz_wr_ga, pz_wr_gn, pz_wr_gi, pz_wr_gl, pz_wr_same, pz_wr_X]
    refine po_brP (fun _ => ?_) (fun q => absurd trivial q)
    refine pw_blk (mi := mz_18) (b := bz_18_30) rfl rfl ?_
    simp only [bz_18_30, pz_cut_t, pz_cut_f, pz_cut_n, pv_gt, pv_ts, pv_tn, ev_icm1, ev_nil, pz_wi_gc, pz_wi_ga, pz_wi_gn, pz_wi_gl, pz_wi_gr, pz_wi_same, pz_wi_X, pz_wl_gc, pz_wl_ga, pz_wl_gn, pz_wl_gi, pz_wl_gr, pz_wl_same, pz_wl_X, pz_wr_gc, pz_wr_ga, pz_wr_gn, pz_wr_gi, pz_wr_gl, pz_wr_same, pz_wr_X]
    refine po_go ?_
    refine pw_blk (mi := mz_18) (b := bz_18_31) rfl rfl ?_
    simp only [bz_18_31, pz_cut_t, pz_cut_f, pz_cut_n, pv_gt, pv_ts, pv_tn, ev_iret0, pz_wi_gc, pz_wi_ga, pz_wi_gn, pz_wi_gl, pz_wi_gr, pz_wi_same, pz_wi_X, pz_wl_gc, pz_wl_ga, pz_wl_gn, pz_wl_gi, pz_wl_gr, pz_wl_same, pz_wl_X, pz_wr_gc, pz_wr_ga, pz_wr_gn, pz_wr_gi, pz_wr_gl, pz_wr_same, pz_wr_X]
    first | exact po_ret (h0 (fun a' b' ha' hb' hab ex ey => z a' ha' ex)) | exact po_gP (by decide) (po_ret (h0 (fun a' b' ha' hb' hab ex ey => z a' ha' ex)))
/-- the pieces of both sides: as many bars, the same ones look alike -/
def Rlk (M : pz_M) : Prop := ∃ B, B ≤ 24 ∧ gi M 4 0 = nI B ∧ nb M = nI B ∧ ∀ i j, i < B → j < B → (gl M 5 i = gl M 5 j ↔ rlk M i = rlk M j)
theorem op_alike (hd : 2 ≤ d) (hS : SH M) (hO : okB M) (hR : Rlk M) {x y : Int32} : pm d 17 [.ref 0, .int x, .int y] M (fun r1 => pm d 18 [.ref 120, .int x, .int y] r1.2 (fun r2 => r1.1 = r2.1 ∧ r2.2 = M)) := by
  obtain ⟨B, hB, h1, h2, h3⟩ := hR
  refine m_alike (by omega) hS h1 hB (fun a b ha hb hab ex ey => ?_) (fun z => ?_)
  · refine r_alike hd hS hO h2 hB (fun a' b' ha' hb' hab' ex' ey' => ⟨?_, rfl⟩) (fun z => absurd ey (z a b ha hb hab ex))
    have e1 : a = a' := (nI_eq (by omega) (by omega)).mp (by rw [← ex, ← ex'])
    have e2 : b = b' := (nI_eq (by omega) (by omega)).mp (by rw [← ey, ← ey'])
    subst e1
    subst e2
    rw [alk_cong h3 ha hb]
  · exact r_alike hd hS hO h2 hB (fun a' b' ha' hb' hab' ex' ey' => absurd ey' (z a' b' ha' hb' hab' ex')) (fun _ => ⟨rfl, rfl⟩)
end ALIKE3
