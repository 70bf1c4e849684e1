/-! ===== the reference: cuts ===== -/
section RCUT
variable {d : Nat} {M : pz_M} {Q : Option Value × pz_M → Prop}
def kn (t u k : Int32) : Bool := decide (t ≤ k) && (decide (u < 0) || decide (k < u))
theorem r_isKnownAt {t u k : Int32} (h1 : kn t u k = true → Q (some (.int 1), M)) (h0 : kn t u k = false → Q (some (.int 0), M)) : pm d 228 [.int t, .int u, .int k] M Q := by
  refine pm_ent (L := [some (.int t), some (.int u), some (.int k)]) rfl (Nat.le_of_ble_eq_true rfl) ?_
  refine pw_blk (mi := mz_228) (b := bz_228_0) rfl rfl ?_
  simp only [bz_228_0, pz_cut_t, pz_cut_f, pz_cut_n, pv_gt, pv_ts, pv_tn, ev_ild0, ev_ild2, ev_ic_gt, pz_wi_gc, pz_wi_ga, pz_wi_gn, pz_wi_gl, pz_wi_gr, pz_wi_same, pz_wi_X, pz_wl_gc, pz_wl_ga, pz_wl_gn, pz_wl_gi, pz_wl_gr, pz_wl_same, pz_wl_X, pz_wr_gc, pz_wr_ga, pz_wr_gn, pz_wr_gi, pz_wr_gl, pz_wr_same, pz_wr_X]
  refine po_brP (fun q => ?_) (fun q => ?_)
  · refine pw_blk (mi := mz_228) (b := bz_228_18) rfl rfl ?_
    simp only [bz_228_18, pz_cut_t, pz_cut_f, pz_cut_n, pv_gt, pv_ts, pv_tn, ev_ic0, ev_nil, pz_wi_gc, pz_wi_ga, pz_wi_gn, pz_wi_gl, pz_wi_gr, pz_wi_same, pz_wi_X, pz_wl_gc, pz_wl_ga, pz_wl_gn, pz_wl_gi, pz_wl_gr, pz_wl_same, pz_wl_X, pz_wr_gc, pz_wr_ga, pz_wr_gn, pz_wr_gi, pz_wr_gl, pz_wr_same, pz_wr_X]
    refine pw_blk (mi := mz_228) (b := bz_228_19) rfl rfl ?_
    simp only [bz_228_19, pz_cut_t, pz_cut_f, pz_cut_n, pv_gt, pv_ts, pv_tn, ev_iret1, pz_wi_gc, pz_wi_ga, pz_wi_gn, pz_wi_gl, pz_wi_gr, pz_wi_same, pz_wi_X, pz_wl_gc, pz_wl_ga, pz_wl_gn, pz_wl_gi, pz_wl_gr, pz_wl_same, pz_wl_X, pz_wr_gc, pz_wr_ga, pz_wr_gn, pz_wr_gi, pz_wr_gl, pz_wr_same, pz_wr_X]
    first | exact po_ret (h0 (by unfold kn; rw [decide_eq_false (Int32.not_le.mpr q)]; rfl)) | exact po_gP (by decide) (po_ret (h0 (by unfold kn; rw [decide_eq_false (Int32.not_le.mpr q)]; rfl)))
  · refine pw_blk (mi := mz_228) (b := bz_228_5) rfl rfl ?_
    simp only [bz_228_5, pz_cut_t, pz_cut_f, pz_cut_n, pv_gt, pv_ts, pv_tn, ev_ild1, ev_iflt, pz_wi_gc, pz_wi_ga, pz_wi_gn, pz_wi_gl, pz_wi_gr, pz_wi_same, pz_wi_X, pz_wl_gc, pz_wl_ga, pz_wl_gn, pz_wl_gi, pz_wl_gr, pz_wl_same, pz_wl_X, pz_wr_gc, pz_wr_ga, pz_wr_gn, pz_wr_gi, pz_wr_gl, pz_wr_same, pz_wr_X]
    refine po_brP (fun q2 => ?_) (fun q2 => ?_)
    · refine pw_blk (mi := mz_228) (b := bz_228_14) rfl rfl ?_
      simp only [bz_228_14, pz_cut_t, pz_cut_f, pz_cut_n, pv_gt, pv_ts, pv_tn, ev_ic1, ev_goto, pz_wi_gc, pz_wi_ga, pz_wi_gn, pz_wi_gl, pz_wi_gr, pz_wi_same, pz_wi_X, pz_wl_gc, pz_wl_ga, pz_wl_gn, pz_wl_gi, pz_wl_gr, pz_wl_same, pz_wl_X, pz_wr_gc, pz_wr_ga, pz_wr_gn, pz_wr_gi, pz_wr_gl, pz_wr_same, pz_wr_X]
      refine pw_blk (mi := mz_228) (b := bz_228_19) rfl rfl ?_
      simp only [bz_228_19, pz_cut_t, pz_cut_f, pz_cut_n, pv_gt, pv_ts, pv_tn, ev_iret1, pz_wi_gc, pz_wi_ga, pz_wi_gn, pz_wi_gl, pz_wi_gr, pz_wi_same, pz_wi_X, pz_wl_gc, pz_wl_ga, pz_wl_gn, pz_wl_gi, pz_wl_gr, pz_wl_same, pz_wl_X, pz_wr_gc, pz_wr_ga, pz_wr_gn, pz_wr_gi, pz_wr_gl, pz_wr_same, pz_wr_X]
      first | exact po_ret (h1 (by unfold kn; rw [decide_eq_true (Int32.not_lt.mp q), decide_eq_true q2]; rfl)) | exact po_gP (by decide) (po_ret (h1 (by unfold kn; rw [decide_eq_true (Int32.not_lt.mp q), decide_eq_true q2]; rfl)))
    · refine pw_blk (mi := mz_228) (b := bz_228_9) rfl rfl ?_
      simp only [bz_228_9, pz_cut_t, pz_cut_f, pz_cut_n, pv_gt, pv_ts, pv_tn, ev_ild1, ev_ild2, ev_ic_le, pz_wi_gc, pz_wi_ga, pz_wi_gn, pz_wi_gl, pz_wi_gr, pz_wi_same, pz_wi_X, pz_wl_gc, pz_wl_ga, pz_wl_gn, pz_wl_gi, pz_wl_gr, pz_wl_same, pz_wl_X, pz_wr_gc, pz_wr_ga, pz_wr_gn, pz_wr_gi, pz_wr_gl, pz_wr_same, pz_wr_X]
      refine po_brP (fun q3 => ?_) (fun q3 => ?_)
      · refine pw_blk (mi := mz_228) (b := bz_228_18) rfl rfl ?_
        simp only [bz_228_18, pz_cut_t, pz_cut_f, pz_cut_n, pv_gt, pv_ts, pv_tn, ev_ic0, ev_nil, pz_wi_gc, pz_wi_ga, pz_wi_gn, pz_wi_gl, pz_wi_gr, pz_wi_same, pz_wi_X, pz_wl_gc, pz_wl_ga, pz_wl_gn, pz_wl_gi, pz_wl_gr, pz_wl_same, pz_wl_X, pz_wr_gc, pz_wr_ga, pz_wr_gn, pz_wr_gi, pz_wr_gl, pz_wr_same, pz_wr_X]
        refine pw_blk (mi := mz_228) (b := bz_228_19) rfl rfl ?_
        simp only [bz_228_19, pz_cut_t, pz_cut_f, pz_cut_n, pv_gt, pv_ts, pv_tn, ev_iret1, pz_wi_gc, pz_wi_ga, pz_wi_gn, pz_wi_gl, pz_wi_gr, pz_wi_same, pz_wi_X, pz_wl_gc, pz_wl_ga, pz_wl_gn, pz_wl_gi, pz_wl_gr, pz_wl_same, pz_wl_X, pz_wr_gc, pz_wr_ga, pz_wr_gn, pz_wr_gi, pz_wr_gl, pz_wr_same, pz_wr_X]
        first | exact po_ret (h0 (by unfold kn; rw [decide_eq_false q2, decide_eq_false (Int32.not_lt.mpr q3)]; simp)) | exact po_gP (by decide) (po_ret (h0 (by unfold kn; rw [decide_eq_false q2, decide_eq_false (Int32.not_lt.mpr q3)]; simp)))
      · refine pw_blk (mi := mz_228) (b := bz_228_14) rfl rfl ?_
        simp only [bz_228_14, pz_cut_t, pz_cut_f, pz_cut_n, pv_gt, pv_ts, pv_tn, ev_ic1, ev_goto, pz_wi_gc, pz_wi_ga, pz_wi_gn, pz_wi_gl, pz_wi_gr, pz_wi_same, pz_wi_X, pz_wl_gc, pz_wl_ga, pz_wl_gn, pz_wl_gi, pz_wl_gr, pz_wl_same, pz_wl_X, pz_wr_gc, pz_wr_ga, pz_wr_gn, pz_wr_gi, pz_wr_gl, pz_wr_same, pz_wr_X]
        refine pw_blk (mi := mz_228) (b := bz_228_19) rfl rfl ?_
        simp only [bz_228_19, pz_cut_t, pz_cut_f, pz_cut_n, pv_gt, pv_ts, pv_tn, ev_iret1, pz_wi_gc, pz_wi_ga, pz_wi_gn, pz_wi_gl, pz_wi_gr, pz_wi_same, pz_wi_X, pz_wl_gc, pz_wl_ga, pz_wl_gn, pz_wl_gi, pz_wl_gr, pz_wl_same, pz_wl_X, pz_wr_gc, pz_wr_ga, pz_wr_gn, pz_wr_gi, pz_wr_gl, pz_wr_same, pz_wr_X]
        first | exact po_ret (h1 (by unfold kn; rw [decide_eq_true (Int32.not_lt.mp q), decide_eq_true (Int32.not_le.mp q3)]; simp)) | exact po_gP (by decide) (po_ret (h1 (by unfold kn; rw [decide_eq_true (Int32.not_lt.mp q), decide_eq_true (Int32.not_le.mp q3)]; simp)))
/-- of the reference's diaries: it begins at b, and counts at k -/
def dcut (M : pz_M) (b k : Int32) (i : Nat) : Bool := decide (gi M 168 i = b) && kn (gi M 169 i) (gi M 170 i) k
theorem l_cutsOf (hd : 1 ≤ d) (hS : SH M) {N : Nat} {b k : Int32} (hN : N ≤ 40) (hn : gi M 120 89 = nI N) (h : Q (some (.int (nI (cnt (dcut M b k) N))), M)) : ∀ (c i : Nat), i + c = N → pw d 158 (5, [some (.ref 120), some (.int b), some (.int k), some (.int (nI (cnt (dcut M b k) i))), some (.int (nI i))], [], M) Q := by
  intro c
  induction c with
  | zero =>
    intro i hi
    have hi' : i = N := by omega
    subst hi'
    refine pw_blk (mi := mz_158) (b := bz_158_5) rfl rfl ?_
    simp only [bz_158_5, pz_cut_t, pz_cut_f, pz_cut_n, pv_gt, pv_ts, pv_tn, ev_ild4, ev_ald0, ev_eld0, ev_gf11_0, ev_ic_ge, pz_wi_gc, pz_wi_ga, pz_wi_gn, pz_wi_gl, pz_wi_gr, pz_wi_same, pz_wi_X, pz_wl_gc, pz_wl_ga, pz_wl_gn, pz_wl_gi, pz_wl_gr, pz_wl_same, pz_wl_X, pz_wr_gc, pz_wr_ga, pz_wr_gn, pz_wr_gi, pz_wr_gl, pz_wr_same, pz_wr_X, so_120 hS, hn]
    refine po_brP (fun _ => ?_) (fun q => absurd (nI_le (Nat.le_refl _) (by omega)) q)
    refine pw_blk (mi := mz_158) (b := bz_158_60) rfl rfl ?_
    simp only [bz_158_60, pz_cut_t, pz_cut_f, pz_cut_n, pv_gt, pv_ts, pv_tn, ev_ild3, ev_iret0, pz_wi_gc, pz_wi_ga, pz_wi_gn, pz_wi_gl, pz_wi_gr, pz_wi_same, pz_wi_X, pz_wl_gc, pz_wl_ga, pz_wl_gn, pz_wl_gi, pz_wl_gr, pz_wl_same, pz_wl_X, pz_wr_gc, pz_wr_ga, pz_wr_gn, pz_wr_gi, pz_wr_gl, pz_wr_same, pz_wr_X]
    exact h
  | succ c ih =>
    intro i hi
    have hbn : (nI i).toNatClampNeg = i := nI_clamp (by omega)
    have hin : pz_in (nI i) 40 = true := pz_in_nI (by omega) (by decide)
    refine pw_blk (mi := mz_158) (b := bz_158_5) rfl rfl ?_
    simp only [bz_158_5, pz_cut_t, pz_cut_f, pz_cut_n, pv_gt, pv_ts, pv_tn, ev_ild4, ev_ald0, ev_eld0, ev_gf11_0, ev_ic_ge, pz_wi_gc, pz_wi_ga, pz_wi_gn, pz_wi_gl, pz_wi_gr, pz_wi_same, pz_wi_X, pz_wl_gc, pz_wl_ga, pz_wl_gn, pz_wl_gi, pz_wl_gr, pz_wl_same, pz_wl_X, pz_wr_gc, pz_wr_ga, pz_wr_gn, pz_wr_gi, pz_wr_gl, pz_wr_same, pz_wr_X, so_120 hS, hn]
    refine po_brP (fun q => absurd q (nI_ge (by omega) (by omega))) (fun _ => ?_)
    refine pw_blk (mi := mz_158) (b := bz_158_14) rfl rfl ?_
    simp only [bz_158_14, pz_cut_t, pz_cut_f, pz_cut_n, pv_gt, pv_ts, pv_tn, ev_ild3, ev_ald0, ev_eld0, ev_gf11_2, ev_ild4, ea_iald, ev_ild1, ev_ic_ne, pz_wi_gc, pz_wi_ga, pz_wi_gn, pz_wi_gl, pz_wi_gr, pz_wi_same, pz_wi_X, pz_wl_gc, pz_wl_ga, pz_wl_gn, pz_wl_gi, pz_wl_gr, pz_wl_same, pz_wl_X, pz_wr_gc, pz_wr_ga, pz_wr_gn, pz_wr_gi, pz_wr_gl, pz_wr_same, pz_wr_X, so_120 hS, sr_120_81 hS, sa_168 hS, sn_168 hS, hin, hbn]
    have k0 : dcut M b k i = false → pw d 158 (51, [some (.ref 120), some (.int b), some (.int k), none, some (.int (nI i))], [.int (nI (cnt (dcut M b k) i))], M) Q := fun hf => by
      refine pw_blk (mi := mz_158) (b := bz_158_51) rfl rfl ?_
      simp only [bz_158_51, pz_cut_t, pz_cut_f, pz_cut_n, pv_gt, pv_ts, pv_tn, ev_ic0, ev_nil, pz_wi_gc, pz_wi_ga, pz_wi_gn, pz_wi_gl, pz_wi_gr, pz_wi_same, pz_wi_X, pz_wl_gc, pz_wl_ga, pz_wl_gn, pz_wl_gi, pz_wl_gr, pz_wl_same, pz_wl_X, pz_wr_gc, pz_wr_ga, pz_wr_gn, pz_wr_gi, pz_wr_gl, pz_wr_same, pz_wr_X]
      refine po_go ?_
      refine pw_blk (mi := mz_158) (b := bz_158_52) rfl rfl ?_
      simp only [bz_158_52, pz_cut_t, pz_cut_f, pz_cut_n, pv_gt, pv_ts, pv_tn, ev_iadd, ev_ist3n, ev_ist3i, ev_ist3r, ev_ist3e, ev_ist3l, ev_inc4n, ev_inc4i, ev_inc4r, ev_inc4e, ev_goto, pz_wi_gc, pz_wi_ga, pz_wi_gn, pz_wi_gl, pz_wi_gr, pz_wi_same, pz_wi_X, pz_wl_gc, pz_wl_ga, pz_wl_gn, pz_wl_gi, pz_wl_gr, pz_wl_same, pz_wl_X, pz_wr_gc, pz_wr_ga, pz_wr_gn, pz_wr_gi, pz_wr_gl, pz_wr_same, pz_wr_X, inc1]
      refine po_go ?_
      have := ih (i + 1) (by omega)
      rw [cnt_f hf] at this
      rw [show nI (cnt (dcut M b k) i) + 0 = nI (cnt (dcut M b k) i) from Int32.add_zero _]
      exact this
    refine po_brP (fun q => ?_) (fun q => ?_)
    · exact pw_cut (mi := mz_158) (b := bz_158_51) rfl rfl (k0 (by unfold dcut; rw [decide_eq_false q]; rfl)) rfl
    · have hq : gi M 168 i = b := Decidable.not_not.mp q
      refine pw_blk (mi := mz_158) (b := bz_158_26) rfl rfl ?_
      simp only [bz_158_26, pz_cut_t, pz_cut_f, pz_cut_n, pv_gt, pv_ts, pv_tn, ev_ald0, ev_eld0, ev_gf11_2, ev_ild4, ea_iald, ev_ild2, ev_cs3, pz_wi_gc, pz_wi_ga, pz_wi_gn, pz_wi_gl, pz_wi_gr, pz_wi_same, pz_wi_X, pz_wl_gc, pz_wl_ga, pz_wl_gn, pz_wl_gi, pz_wl_gr, pz_wl_same, pz_wl_X, pz_wr_gc, pz_wr_ga, pz_wr_gn, pz_wr_gi, pz_wr_gl, pz_wr_same, pz_wr_X, so_120 hS, sr_120_82 hS, sa_169 hS, sn_169 hS, sr_120_83 hS, sa_170 hS, sn_170 hS, hin, hbn]
      refine po_gP (Nat.le_of_ble_eq_true rfl) (po_call hd (r_isKnownAt (fun z => ?_) (fun z => ?_)))
      · refine pw_blk (mi := mz_158) (b := bz_158_44) rfl rfl ?_
        simp only [bz_158_44, pz_cut_t, pz_cut_f, pz_cut_n, pv_gt, pv_ts, pv_tn, ev_ifeq, pz_wi_gc, pz_wi_ga, pz_wi_gn, pz_wi_gl, pz_wi_gr, pz_wi_same, pz_wi_X, pz_wl_gc, pz_wl_ga, pz_wl_gn, pz_wl_gi, pz_wl_gr, pz_wl_same, pz_wl_X, pz_wr_gc, pz_wr_ga, pz_wr_gn, pz_wr_gi, pz_wr_gl, pz_wr_same, pz_wr_X]
        refine po_brP (fun q2 => absurd q2 (by decide)) (fun _ => ?_)
        refine pw_blk (mi := mz_158) (b := bz_158_47) rfl rfl ?_
        simp only [bz_158_47, pz_cut_t, pz_cut_f, pz_cut_n, pv_gt, pv_ts, pv_tn, ev_ic1, ev_goto, pz_wi_gc, pz_wi_ga, pz_wi_gn, pz_wi_gl, pz_wi_gr, pz_wi_same, pz_wi_X, pz_wl_gc, pz_wl_ga, pz_wl_gn, pz_wl_gi, pz_wl_gr, pz_wl_same, pz_wl_X, pz_wr_gc, pz_wr_ga, pz_wr_gn, pz_wr_gi, pz_wr_gl, pz_wr_same, pz_wr_X]
        refine po_go ?_
        refine pw_blk (mi := mz_158) (b := bz_158_52) rfl rfl ?_
        simp only [bz_158_52, pz_cut_t, pz_cut_f, pz_cut_n, pv_gt, pv_ts, pv_tn, ev_iadd, ev_ist3n, ev_ist3i, ev_ist3r, ev_ist3e, ev_ist3l, ev_inc4n, ev_inc4i, ev_inc4r, ev_inc4e, ev_goto, pz_wi_gc, pz_wi_ga, pz_wi_gn, pz_wi_gl, pz_wi_gr, pz_wi_same, pz_wi_X, pz_wl_gc, pz_wl_ga, pz_wl_gn, pz_wl_gi, pz_wl_gr, pz_wl_same, pz_wl_X, pz_wr_gc, pz_wr_ga, pz_wr_gn, pz_wr_gi, pz_wr_gl, pz_wr_same, pz_wr_X, inc1]
        refine po_go ?_
        have := ih (i + 1) (by omega)
        rw [cnt_t (show dcut M b k i = true by unfold dcut; rw [decide_eq_true hq, z]; rfl), ← nI_1] at this
        exact this
      · refine pw_blk (mi := mz_158) (b := bz_158_44) rfl rfl ?_
        simp only [bz_158_44, pz_cut_t, pz_cut_f, pz_cut_n, pv_gt, pv_ts, pv_tn, ev_ifeq, pz_wi_gc, pz_wi_ga, pz_wi_gn, pz_wi_gl, pz_wi_gr, pz_wi_same, pz_wi_X, pz_wl_gc, pz_wl_ga, pz_wl_gn, pz_wl_gi, pz_wl_gr, pz_wl_same, pz_wl_X, pz_wr_gc, pz_wr_ga, pz_wr_gn, pz_wr_gi, pz_wr_gl, pz_wr_same, pz_wr_X]
        refine po_brP (fun _ => ?_) (fun q2 => absurd trivial q2)
        exact pw_cut (mi := mz_158) (b := bz_158_51) rfl rfl (k0 (by unfold dcut; rw [z]; simp)) rfl
theorem r_cutsOf (hd : 1 ≤ d) (hS : SH M) {N : Nat} {b k : Int32} (hN : N ≤ 40) (hn : gi M 120 89 = nI N) (h : Q (some (.int (nI (cnt (dcut M b k) N))), M)) : pm d 158 [.ref 120, .int b, .int k] M Q := by
  refine pm_ent (L := [some (.ref 120), some (.int b), some (.int k), none, none]) rfl (Nat.le_of_ble_eq_true rfl) ?_
  refine pw_blk (mi := mz_158) (b := bz_158_0) rfl rfl ?_
  simp only [bz_158_0, pz_cut_t, pz_cut_f, pz_cut_n, pv_gt, pv_ts, pv_tn, ev_ic0, ev_ist3n, ev_ist3i, ev_ist3r, ev_ist3e, ev_ist3l, ev_ist4n, ev_ist4i, ev_ist4r, ev_ist4e, ev_ist4l, ev_nil, pz_wi_gc, pz_wi_ga, pz_wi_gn, pz_wi_gl, pz_wi_gr, pz_wi_same, pz_wi_X, pz_wl_gc, pz_wl_ga, pz_wl_gn, pz_wl_gi, pz_wl_gr, pz_wl_same, pz_wl_X, pz_wr_gc, pz_wr_ga, pz_wr_gn, pz_wr_gi, pz_wr_gl, pz_wr_same, pz_wr_X]
  refine po_go ?_
  exact l_cutsOf hd hS hN hn h N 0 (by omega)
/-- a sum of the first n -/
def sumN (f : Nat → Nat) : Nat → Nat
  | 0 => 0
  | n + 1 => sumN f n + f n
theorem l_countOf (hd : 2 ≤ d) (hS : SH M) (hB : okB M) {N B : Nat} {k : Int32} (hN : N ≤ 40) (hn : gi M 120 89 = nI N) (hb : nb M = nI B) (hB24 : B ≤ 24) (h : Q (some (.int (nI (sumN (fun b => cnt (dcut M (nI b) k) N) B))), M)) : ∀ (c i : Nat), i + c = B → pw d 161 (4, [some (.ref 120), some (.int k), some (.int (nI (sumN (fun b => cnt (dcut M (nI b) k) N) i))), some (.int (nI i))], [], M) Q := by
  intro c
  induction c with
  | zero =>
    intro i hi
    have hi' : i = B := by omega
    subst hi'
    refine pw_blk (mi := mz_161) (b := bz_161_4) rfl rfl ?_
    simp only [bz_161_4, pz_cut_t, pz_cut_f, pz_cut_n, pv_gt, pv_ts, pv_tn, ev_ild3, ev_ald0, ev_eld0, ev_cv0_11, pz_wi_gc, pz_wi_ga, pz_wi_gn, pz_wi_gl, pz_wi_gr, pz_wi_same, pz_wi_X, pz_wl_gc, pz_wl_ga, pz_wl_gn, pz_wl_gi, pz_wl_gr, pz_wl_same, pz_wl_X, pz_wr_gc, pz_wr_ga, pz_wr_gn, pz_wr_gi, pz_wr_gl, pz_wr_same, pz_wr_X, so_120 hS, ev_cv0_11]
    refine po_gP (Nat.le_of_ble_eq_true rfl) (po_call (by omega) (r_many hS hB ?_))
    refine pw_blk (mi := mz_161) (b := bz_161_9) rfl rfl ?_
    simp only [bz_161_9, pz_cut_t, pz_cut_f, pz_cut_n, pv_gt, pv_ts, pv_tn, ev_ic_ge, pz_wi_gc, pz_wi_ga, pz_wi_gn, pz_wi_gl, pz_wi_gr, pz_wi_same, pz_wi_X, pz_wl_gc, pz_wl_ga, pz_wl_gn, pz_wl_gi, pz_wl_gr, pz_wl_same, pz_wl_X, pz_wr_gc, pz_wr_ga, pz_wr_gn, pz_wr_gi, pz_wr_gl, pz_wr_same, pz_wr_X, hb]
    refine po_brP (fun _ => ?_) (fun q => absurd (nI_le (Nat.le_refl _) (by omega)) q)
    refine pw_blk (mi := mz_161) (b := bz_161_27) rfl rfl ?_
    simp only [bz_161_27, pz_cut_t, pz_cut_f, pz_cut_n, pv_gt, pv_ts, pv_tn, ev_ild2, ev_iret0, pz_wi_gc, pz_wi_ga, pz_wi_gn, pz_wi_gl, pz_wi_gr, pz_wi_same, pz_wi_X, pz_wl_gc, pz_wl_ga, pz_wl_gn, pz_wl_gi, pz_wl_gr, pz_wl_same, pz_wl_X, pz_wr_gc, pz_wr_ga, pz_wr_gn, pz_wr_gi, pz_wr_gl, pz_wr_same, pz_wr_X]
    exact h
  | succ c ih =>
    intro i hi
    refine pw_blk (mi := mz_161) (b := bz_161_4) rfl rfl ?_
    simp only [bz_161_4, pz_cut_t, pz_cut_f, pz_cut_n, pv_gt, pv_ts, pv_tn, ev_ild3, ev_ald0, ev_eld0, ev_cv0_11, pz_wi_gc, pz_wi_ga, pz_wi_gn, pz_wi_gl, pz_wi_gr, pz_wi_same, pz_wi_X, pz_wl_gc, pz_wl_ga, pz_wl_gn, pz_wl_gi, pz_wl_gr, pz_wl_same, pz_wl_X, pz_wr_gc, pz_wr_ga, pz_wr_gn, pz_wr_gi, pz_wr_gl, pz_wr_same, pz_wr_X, so_120 hS, ev_cv0_11]
    refine po_gP (Nat.le_of_ble_eq_true rfl) (po_call (by omega) (r_many hS hB ?_))
    refine pw_blk (mi := mz_161) (b := bz_161_9) rfl rfl ?_
    simp only [bz_161_9, pz_cut_t, pz_cut_f, pz_cut_n, pv_gt, pv_ts, pv_tn, ev_ic_ge, pz_wi_gc, pz_wi_ga, pz_wi_gn, pz_wi_gl, pz_wi_gr, pz_wi_same, pz_wi_X, pz_wl_gc, pz_wl_ga, pz_wl_gn, pz_wl_gi, pz_wl_gr, pz_wl_same, pz_wl_X, pz_wr_gc, pz_wr_ga, pz_wr_gn, pz_wr_gi, pz_wr_gl, pz_wr_same, pz_wr_X, hb]
    refine po_brP (fun q => absurd q (nI_ge (by omega) (by omega))) (fun _ => ?_)
    refine pw_blk (mi := mz_161) (b := bz_161_12) rfl rfl ?_
    simp only [bz_161_12, pz_cut_t, pz_cut_f, pz_cut_n, pv_gt, pv_ts, pv_tn, ev_ild2, ev_ald0, ev_eld0, ev_ild3, ev_ild1, ev_cv2_11, pz_wi_gc, pz_wi_ga, pz_wi_gn, pz_wi_gl, pz_wi_gr, pz_wi_same, pz_wi_X, pz_wl_gc, pz_wl_ga, pz_wl_gn, pz_wl_gi, pz_wl_gr, pz_wl_same, pz_wl_X, pz_wr_gc, pz_wr_ga, pz_wr_gn, pz_wr_gi, pz_wr_gl, pz_wr_same, pz_wr_X, so_120 hS, ev_cv2_11]
    refine po_gP (Nat.le_of_ble_eq_true rfl) (po_call (by omega) (r_cutsOf (by omega) hS hN hn ?_))
    refine pw_blk (mi := mz_161) (b := bz_161_19) rfl rfl ?_
    simp only [bz_161_19, pz_cut_t, pz_cut_f, pz_cut_n, pv_gt, pv_ts, pv_tn, ev_iadd, ev_ist2n, ev_ist2i, ev_ist2r, ev_ist2e, ev_ist2l, ev_inc3n, ev_inc3i, ev_inc3r, ev_inc3e, ev_goto, pz_wi_gc, pz_wi_ga, pz_wi_gn, pz_wi_gl, pz_wi_gr, pz_wi_same, pz_wi_X, pz_wl_gc, pz_wl_ga, pz_wl_gn, pz_wl_gi, pz_wl_gr, pz_wl_same, pz_wl_X, pz_wr_gc, pz_wr_ga, pz_wr_gn, pz_wr_gi, pz_wr_gl, pz_wr_same, pz_wr_X, inc1, nI_add]
    refine po_go ?_
    exact ih (i + 1) (by omega)
theorem r_countOf (hd : 2 ≤ d) (hS : SH M) (hB : okB M) {N B : Nat} {k : Int32} (hN : N ≤ 40) (hn : gi M 120 89 = nI N) (hb : nb M = nI B) (hB24 : B ≤ 24) (h : Q (some (.int (nI (sumN (fun b => cnt (dcut M (nI b) k) N) B))), M)) : pm d 161 [.ref 120, .int k] M Q := by
  refine pm_ent (L := [some (.ref 120), some (.int k), none, none]) rfl (Nat.le_of_ble_eq_true rfl) ?_
  refine pw_blk (mi := mz_161) (b := bz_161_0) rfl rfl ?_
  simp only [bz_161_0, pz_cut_t, pz_cut_f, pz_cut_n, pv_gt, pv_ts, pv_tn, ev_ic0, ev_ist2n, ev_ist2i, ev_ist2r, ev_ist2e, ev_ist2l, ev_ist3n, ev_ist3i, ev_ist3r, ev_ist3e, ev_ist3l, ev_nil, pz_wi_gc, pz_wi_ga, pz_wi_gn, pz_wi_gl, pz_wi_gr, pz_wi_same, pz_wi_X, pz_wl_gc, pz_wl_ga, pz_wl_gn, pz_wl_gi, pz_wl_gr, pz_wl_same, pz_wl_X, pz_wr_gc, pz_wr_ga, pz_wr_gn, pz_wr_gi, pz_wr_gl, pz_wr_same, pz_wr_X]
  refine po_go ?_
  exact l_countOf hd hS hB hN hn hb hB24 h B 0 (by omega)
end RCUT
