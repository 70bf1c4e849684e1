/-! ===== forks on both sides ===== -/
section FORKS
variable {d : Nat} {M : pz_M} {Q : Option Value × pz_M → Prop}
theorem r_isFork (hd : 2 ≤ d) (hS : SH M) (hO : okB M) {a b B : Nat} (hn : nb M = nI B) (hB : B ≤ 24) (hab : a < b) (hb : b < B) (h1 : isFk (rlk M) B a b = true → Q (some (.int 1), M)) (h0 : isFk (rlk M) B a b = false → Q (some (.int 0), M)) : pm d 114 [.ref 120, .int (nI a), .int (nI b)] M Q := by
  have hal := alk_le (rlk M) a b 9 0
  refine pm_ent (L := [some (.ref 120), some (.int (nI a)), some (.int (nI b)), none]) rfl (Nat.le_of_ble_eq_true rfl) ?_
  refine pw_blk (mi := mz_114) (b := bz_114_0) rfl rfl ?_
  simp only [bz_114_0, pz_cut_t, pz_cut_f, pz_cut_n, pv_gt, pv_ts, pv_tn, ev_ald0, ev_eld0, ev_ild1, ev_ild2, ev_cv2_11, pz_wi_gc, pz_wi_ga, pz_wi_gn, pz_wi_gl, pz_wi_gr, pz_wi_same, pz_wi_X, pz_wl_gc, pz_wl_ga, pz_wl_gn, pz_wl_gi, pz_wl_gr, pz_wl_same, pz_wl_X, pz_wr_gc, pz_wr_ga, pz_wr_gn, pz_wr_gi, pz_wr_gl, pz_wr_same, pz_wr_X, so_120 hS, ev_cv2_11]
  refine po_gP (Nat.le_of_ble_eq_true rfl) (po_call (by omega) (r_alikeOf (by omega) hS hO (by omega) (by omega) ?_))
  refine pw_blk (mi := mz_114) (b := bz_114_6) rfl rfl ?_
  simp only [bz_114_6, pz_cut_t, pz_cut_f, pz_cut_n, pv_gt, pv_ts, pv_tn, ev_ifne, pz_wi_gc, pz_wi_ga, pz_wi_gn, pz_wi_gl, pz_wi_gr, pz_wi_same, pz_wi_X, pz_wl_gc, pz_wl_ga, pz_wl_gn, pz_wl_gi, pz_wl_gr, pz_wl_same, pz_wl_X, pz_wr_gc, pz_wr_ga, pz_wr_gn, pz_wr_gi, pz_wr_gl, pz_wr_same, pz_wr_X]
  refine po_brP (fun q => ?_) (fun q => ?_)
  · have hq : rlk M a = rlk M b := Decidable.not_not.mp (fun z => q (by rw [alk_pos.mpr z]; rfl))
    refine pw_blk (mi := mz_114) (b := bz_114_11) rfl rfl ?_
    simp only [bz_114_11, pz_cut_t, pz_cut_f, pz_cut_n, pv_gt, pv_ts, pv_tn, ev_ild2, ev_ald0, ev_eld0, ev_cv0_11, pz_wi_gc, pz_wi_ga, pz_wi_gn, pz_wi_gl, pz_wi_gr, pz_wi_same, pz_wi_X, pz_wl_gc, pz_wl_ga, pz_wl_gn, pz_wl_gi, pz_wl_gr, pz_wl_same, pz_wl_X, pz_wr_gc, pz_wr_ga, pz_wr_gn, pz_wr_gi, pz_wr_gl, pz_wr_same, pz_wr_X, so_120 hS, ev_cv0_11]
    refine po_gP (Nat.le_of_ble_eq_true rfl) (po_call (by omega) (r_many hS hO ?_))
    have e1 : nI B - 1 = nI (B - 1) := pk_sub (a := B) (b := 1) (by omega)
    refine pw_blk (mi := mz_114) (b := bz_114_16) rfl rfl ?_
    simp only [bz_114_16, pz_cut_t, pz_cut_f, pz_cut_n, pv_gt, pv_ts, pv_tn, ev_ic1, ev_isub, ev_ic_ne, pz_wi_gc, pz_wi_ga, pz_wi_gn, pz_wi_gl, pz_wi_gr, pz_wi_same, pz_wi_X, pz_wl_gc, pz_wl_ga, pz_wl_gn, pz_wl_gi, pz_wl_gr, pz_wl_same, pz_wl_X, pz_wr_gc, pz_wr_ga, pz_wr_gn, pz_wr_gi, pz_wr_gl, pz_wr_same, pz_wr_X, hn, e1]
    refine po_brP (fun q2 => ?_) (fun q2 => ?_)
    · have hB1 : ¬ B ≤ b + 1 := fun z => q2 (by rw [show b = B - 1 by omega])
      refine pw_blk (mi := mz_114) (b := bz_114_25) rfl rfl ?_
      simp only [bz_114_25, pz_cut_t, pz_cut_f, pz_cut_n, pv_gt, pv_ts, pv_tn, ev_ic0, ev_nil, pz_wi_gc, pz_wi_ga, pz_wi_gn, pz_wi_gl, pz_wi_gr, pz_wi_same, pz_wi_X, pz_wl_gc, pz_wl_ga, pz_wl_gn, pz_wl_gi, pz_wl_gr, pz_wl_same, pz_wl_X, pz_wr_gc, pz_wr_ga, pz_wr_gn, pz_wr_gi, pz_wr_gl, pz_wr_same, pz_wr_X]
      refine po_go ?_
      refine pw_blk (mi := mz_114) (b := bz_114_26) rfl rfl ?_
      simp only [bz_114_26, pz_cut_t, pz_cut_f, pz_cut_n, pv_gt, pv_ts, pv_tn, ev_ist3n, ev_ist3i, ev_ist3r, ev_ist3e, ev_ist3l, ev_ild3, ev_ifne, pz_wi_gc, pz_wi_ga, pz_wi_gn, pz_wi_gl, pz_wi_gr, pz_wi_same, pz_wi_X, pz_wl_gc, pz_wl_ga, pz_wl_gn, pz_wl_gi, pz_wl_gr, pz_wl_same, pz_wl_X, pz_wr_gc, pz_wr_ga, pz_wr_gn, pz_wr_gi, pz_wr_gl, pz_wr_same, pz_wr_X]
      refine po_brP (fun q3 => absurd q3 (by decide)) (fun _ => ?_)
      refine pw_blk (mi := mz_114) (b := bz_114_31) rfl rfl ?_
      simp only [bz_114_31, pz_cut_t, pz_cut_f, pz_cut_n, pv_gt, pv_ts, pv_tn, ev_ald0, ev_eld0, ev_ild1, ev_ic1, ev_iadd, ev_cv1_11, pz_wi_gc, pz_wi_ga, pz_wi_gn, pz_wi_gl, pz_wi_gr, pz_wi_same, pz_wi_X, pz_wl_gc, pz_wl_ga, pz_wl_gn, pz_wl_gi, pz_wl_gr, pz_wl_same, pz_wl_X, pz_wr_gc, pz_wr_ga, pz_wr_gn, pz_wr_gi, pz_wr_gl, pz_wr_same, pz_wr_X, so_120 hS, ev_cv1_11, nI_1]
      refine po_gP (Nat.le_of_ble_eq_true rfl) (po_call (by omega) (r_lookOf hS hO (by omega) ?_))
      refine pw_blk (mi := mz_114) (b := bz_114_38) rfl rfl ?_
      simp only [bz_114_38, pz_cut_t, pz_cut_f, pz_cut_n, pv_gt, pv_ts, pv_tn, ev_ald0, ev_eld0, ev_ild2, ev_ic1, ev_iadd, ev_cv1_11, pz_wi_gc, pz_wi_ga, pz_wi_gn, pz_wi_gl, pz_wi_gr, pz_wi_same, pz_wi_X, pz_wl_gc, pz_wl_ga, pz_wl_gn, pz_wl_gi, pz_wl_gr, pz_wl_same, pz_wl_X, pz_wr_gc, pz_wr_ga, pz_wr_gn, pz_wr_gi, pz_wr_gl, pz_wr_same, pz_wr_X, so_120 hS, ev_cv1_11, nI_1]
      refine po_gP (Nat.le_of_ble_eq_true rfl) (po_call (by omega) (r_lookOf hS hO (by omega) ?_))
      refine pw_blk (mi := mz_114) (b := bz_114_45) rfl rfl ?_
      simp only [bz_114_45, pz_cut_t, pz_cut_f, pz_cut_n, pv_gt, pv_ts, pv_tn, ev_lcmp, ev_ifeq, pz_wi_gc, pz_wi_ga, pz_wi_gn, pz_wi_gl, pz_wi_gr, pz_wi_same, pz_wi_X, pz_wl_gc, pz_wl_ga, pz_wl_gn, pz_wl_gi, pz_wl_gr, pz_wl_same, pz_wl_X, pz_wr_gc, pz_wr_ga, pz_wr_gn, pz_wr_gi, pz_wr_gl, pz_wr_same, pz_wr_X]
      refine po_brP (fun q3 => ?_) (fun q3 => ?_)
      · refine pw_blk (mi := mz_114) (b := bz_114_53) rfl rfl ?_
        simp only [bz_114_53, pz_cut_t, pz_cut_f, pz_cut_n, pv_gt, pv_ts, pv_tn, ev_ic0, ev_nil, pz_wi_gc, pz_wi_ga, pz_wi_gn, pz_wi_gl, pz_wi_gr, pz_wi_same, pz_wi_X, pz_wl_gc, pz_wl_ga, pz_wl_gn, pz_wl_gi, pz_wl_gr, pz_wl_same, pz_wl_X, pz_wr_gc, pz_wr_ga, pz_wr_gn, pz_wr_gi, pz_wr_gl, pz_wr_same, pz_wr_X]
        refine po_go ?_
        refine pw_blk (mi := mz_114) (b := bz_114_54) rfl rfl ?_
        simp only [bz_114_54, pz_cut_t, pz_cut_f, pz_cut_n, pv_gt, pv_ts, pv_tn, ev_iret1, pz_wi_gc, pz_wi_ga, pz_wi_gn, pz_wi_gl, pz_wi_gr, pz_wi_same, pz_wi_X, pz_wl_gc, pz_wl_ga, pz_wl_gn, pz_wl_gi, pz_wl_gr, pz_wl_same, pz_wl_X, pz_wr_gc, pz_wr_ga, pz_wr_gn, pz_wr_gi, pz_wr_gl, pz_wr_same, pz_wr_X]
        first | exact po_ret (h0 (by simp [isFk, hB1, (lg0 _ _).mp q3])) | exact po_gP (by decide) (po_ret (h0 (by simp [isFk, hB1, (lg0 _ _).mp q3])))
      · refine pw_blk (mi := mz_114) (b := bz_114_49) rfl rfl ?_
        simp only [bz_114_49, pz_cut_t, pz_cut_f, pz_cut_n, pv_gt, pv_ts, pv_tn, ev_ic1, ev_goto, pz_wi_gc, pz_wi_ga, pz_wi_gn, pz_wi_gl, pz_wi_gr, pz_wi_same, pz_wi_X, pz_wl_gc, pz_wl_ga, pz_wl_gn, pz_wl_gi, pz_wl_gr, pz_wl_same, pz_wl_X, pz_wr_gc, pz_wr_ga, pz_wr_gn, pz_wr_gi, pz_wr_gl, pz_wr_same, pz_wr_X]
        refine po_go ?_
        refine pw_blk (mi := mz_114) (b := bz_114_54) rfl rfl ?_
        simp only [bz_114_54, pz_cut_t, pz_cut_f, pz_cut_n, pv_gt, pv_ts, pv_tn, ev_iret1, pz_wi_gc, pz_wi_ga, pz_wi_gn, pz_wi_gl, pz_wi_gr, pz_wi_same, pz_wi_X, pz_wl_gc, pz_wl_ga, pz_wl_gn, pz_wl_gi, pz_wl_gr, pz_wl_same, pz_wl_X, pz_wr_gc, pz_wr_ga, pz_wr_gn, pz_wr_gi, pz_wr_gl, pz_wr_same, pz_wr_X]
        first | exact po_ret (h1 (by simp [isFk, hq, mt (lg0 _ _).mpr q3])) | exact po_gP (by decide) (po_ret (h1 (by simp [isFk, hq, mt (lg0 _ _).mpr q3])))
    · have hB1 : B ≤ b + 1 := by
        have := (nI_eq (by omega) (by omega)).mp (Decidable.not_not.mp q2)
        omega
      refine pw_blk (mi := mz_114) (b := bz_114_21) rfl rfl ?_
      simp only [bz_114_21, pz_cut_t, pz_cut_f, pz_cut_n, pv_gt, pv_ts, pv_tn, ev_ic1, ev_goto, pz_wi_gc, pz_wi_ga, pz_wi_gn, pz_wi_gl, pz_wi_gr, pz_wi_same, pz_wi_X, pz_wl_gc, pz_wl_ga, pz_wl_gn, pz_wl_gi, pz_wl_gr, pz_wl_same, pz_wl_X, pz_wr_gc, pz_wr_ga, pz_wr_gn, pz_wr_gi, pz_wr_gl, pz_wr_same, pz_wr_X]
      refine po_go ?_
      refine pw_blk (mi := mz_114) (b := bz_114_26) rfl rfl ?_
      simp only [bz_114_26, pz_cut_t, pz_cut_f, pz_cut_n, pv_gt, pv_ts, pv_tn, ev_ist3n, ev_ist3i, ev_ist3r, ev_ist3e, ev_ist3l, ev_ild3, ev_ifne, pz_wi_gc, pz_wi_ga, pz_wi_gn, pz_wi_gl, pz_wi_gr, pz_wi_same, pz_wi_X, pz_wl_gc, pz_wl_ga, pz_wl_gn, pz_wl_gi, pz_wl_gr, pz_wl_same, pz_wl_X, pz_wr_gc, pz_wr_ga, pz_wr_gn, pz_wr_gi, pz_wr_gl, pz_wr_same, pz_wr_X]
      refine po_brP (fun _ => ?_) (fun q3 => absurd (by decide) q3)
      refine pw_blk (mi := mz_114) (b := bz_114_49) rfl rfl ?_
      simp only [bz_114_49, pz_cut_t, pz_cut_f, pz_cut_n, pv_gt, pv_ts, pv_tn, ev_ic1, ev_goto, pz_wi_gc, pz_wi_ga, pz_wi_gn, pz_wi_gl, pz_wi_gr, pz_wi_same, pz_wi_X, pz_wl_gc, pz_wl_ga, pz_wl_gn, pz_wl_gi, pz_wl_gr, pz_wl_same, pz_wl_X, pz_wr_gc, pz_wr_ga, pz_wr_gn, pz_wr_gi, pz_wr_gl, pz_wr_same, pz_wr_X]
      refine po_go ?_
      refine pw_blk (mi := mz_114) (b := bz_114_54) rfl rfl ?_
      simp only [bz_114_54, pz_cut_t, pz_cut_f, pz_cut_n, pv_gt, pv_ts, pv_tn, ev_iret1, pz_wi_gc, pz_wi_ga, pz_wi_gn, pz_wi_gl, pz_wi_gr, pz_wi_same, pz_wi_X, pz_wl_gc, pz_wl_ga, pz_wl_gn, pz_wl_gi, pz_wl_gr, pz_wl_same, pz_wl_X, pz_wr_gc, pz_wr_ga, pz_wr_gn, pz_wr_gi, pz_wr_gl, pz_wr_same, pz_wr_X]
      first | exact po_ret (h1 (by simp [isFk, hq, hB1])) | exact po_gP (by decide) (po_ret (h1 (by simp [isFk, hq, hB1])))
  · have hq : alk (rlk M) a b 9 0 = 0 := (nI_eq (by omega) (by decide)).mp (Decidable.not_not.mp q)
    refine pw_blk (mi := mz_114) (b := bz_114_9) rfl rfl ?_
    simp only [bz_114_9, pz_cut_t, pz_cut_f, pz_cut_n, pv_gt, pv_ts, pv_tn, ev_ic0, ev_iret1, pz_wi_gc, pz_wi_ga, pz_wi_gn, pz_wi_gl, pz_wi_gr, pz_wi_same, pz_wi_X, pz_wl_gc, pz_wl_ga, pz_wl_gn, pz_wl_gi, pz_wl_gr, pz_wl_same, pz_wl_X, pz_wr_gc, pz_wr_ga, pz_wr_gn, pz_wr_gi, pz_wr_gl, pz_wr_same, pz_wr_X]
    first | exact po_ret (h0 (by simp [isFk, alk_pos.mp hq])) | exact po_gP (by decide) (po_ret (h0 (by simp [isFk, alk_pos.mp hq])))
/-- how many of c from b on are so, and n -/
def fki (p : Nat → Bool) : Nat → Nat → Nat → Nat
  | 0, _, n => n
  | c + 1, b, n => fki p c (b + 1) (if p b = true then n + 1 else n)
def fko (p : Nat → Nat → Bool) (B : Nat) : Nat → Nat → Nat → Nat
  | 0, _, n => n
  | c + 1, a, n => fko p B c (a + 1) (fki (p a) (B - (a + 1)) (a + 1) n)
theorem l_forksI (hd : 1 ≤ d) (hS : SH M) {B a : Nat} (hn : gi M 4 0 = nI B) (hB : B ≤ 24) : ∀ (c b n : Nat), a < b → b + c = B → pw d 21 (51, [some (.ref 0), some (.int (nI (fki (isFk (gl M 5) B a) c b n))), some (.int (nI a)), none], [], M) Q → pw d 21 (19, [some (.ref 0), some (.int (nI n)), some (.int (nI a)), some (.int (nI b))], [], M) Q := by
  intro c
  induction c with
  | zero =>
    intro b n hab hb k
    have hb' : b = B := by omega
    subst hb'
    refine pw_blk (mi := mz_21) (b := bz_21_19) rfl rfl ?_
    simp only [bz_21_19, pz_cut_t, pz_cut_f, pz_cut_n, pv_gt, pv_ts, pv_tn, ev_ild3, ev_ald0, ev_eld0, ev_gf0_2, ev_gf8_0, ev_ic_ge, pz_wi_gc, pz_wi_ga, pz_wi_gn, pz_wi_gl, pz_wi_gr, pz_wi_same, pz_wi_X, pz_wl_gc, pz_wl_ga, pz_wl_gn, pz_wl_gi, pz_wl_gr, pz_wl_same, pz_wl_X, pz_wr_gc, pz_wr_ga, pz_wr_gn, pz_wr_gi, pz_wr_gl, pz_wr_same, pz_wr_X, so_0 hS, sr_0_1 hS, so_4 hS, hn]
    refine po_brP (fun _ => ?_) (fun q => absurd (nI_le (Nat.le_refl _) (by omega)) q)
    exact pw_cut (mi := mz_21) (b := bz_21_51) rfl rfl (k) rfl
  | succ c ih =>
    intro b n hab hb k
    refine pw_blk (mi := mz_21) (b := bz_21_19) rfl rfl ?_
    simp only [bz_21_19, pz_cut_t, pz_cut_f, pz_cut_n, pv_gt, pv_ts, pv_tn, ev_ild3, ev_ald0, ev_eld0, ev_gf0_2, ev_gf8_0, ev_ic_ge, pz_wi_gc, pz_wi_ga, pz_wi_gn, pz_wi_gl, pz_wi_gr, pz_wi_same, pz_wi_X, pz_wl_gc, pz_wl_ga, pz_wl_gn, pz_wl_gi, pz_wl_gr, pz_wl_same, pz_wl_X, pz_wr_gc, pz_wr_ga, pz_wr_gn, pz_wr_gi, pz_wr_gl, pz_wr_same, pz_wr_X, so_0 hS, sr_0_1 hS, so_4 hS, hn]
    refine po_brP (fun q => absurd q (nI_ge (by omega) (by omega))) (fun _ => ?_)
    refine pw_blk (mi := mz_21) (b := bz_21_30) rfl rfl ?_
    simp only [bz_21_30, pz_cut_t, pz_cut_f, pz_cut_n, pv_gt, pv_ts, pv_tn, ev_ald0, ev_eld0, ev_gf0_2, ev_ild2, ev_ild3, ev_cv2_8, pz_wi_gc, pz_wi_ga, pz_wi_gn, pz_wi_gl, pz_wi_gr, pz_wi_same, pz_wi_X, pz_wl_gc, pz_wl_ga, pz_wl_gn, pz_wl_gi, pz_wl_gr, pz_wl_same, pz_wl_X, pz_wr_gc, pz_wr_ga, pz_wr_gn, pz_wr_gi, pz_wr_gl, pz_wr_same, pz_wr_X, so_0 hS, sr_0_1 hS, so_4 hS, ev_cv2_8]
    refine po_gP (Nat.le_of_ble_eq_true rfl) (po_call hd (m_forksAt hS hn hB hab (by omega) (fun z => ?_) (fun z => ?_)))
    · refine pw_blk (mi := mz_21) (b := bz_21_39) rfl rfl ?_
      simp only [bz_21_39, pz_cut_t, pz_cut_f, pz_cut_n, pv_gt, pv_ts, pv_tn, ev_ifeq, pz_wi_gc, pz_wi_ga, pz_wi_gn, pz_wi_gl, pz_wi_gr, pz_wi_same, pz_wi_X, pz_wl_gc, pz_wl_ga, pz_wl_gn, pz_wl_gi, pz_wl_gr, pz_wl_same, pz_wl_X, pz_wr_gc, pz_wr_ga, pz_wr_gn, pz_wr_gi, pz_wr_gl, pz_wr_same, pz_wr_X]
      refine po_brP (fun q => absurd q (by decide)) (fun _ => ?_)
      refine pw_blk (mi := mz_21) (b := bz_21_42) rfl rfl ?_
      simp only [bz_21_42, pz_cut_t, pz_cut_f, pz_cut_n, pv_gt, pv_ts, pv_tn, ev_inc1n, ev_inc1i, ev_inc1r, ev_inc1e, ev_nil, pz_wi_gc, pz_wi_ga, pz_wi_gn, pz_wi_gl, pz_wi_gr, pz_wi_same, pz_wi_X, pz_wl_gc, pz_wl_ga, pz_wl_gn, pz_wl_gi, pz_wl_gr, pz_wl_same, pz_wl_X, pz_wr_gc, pz_wr_ga, pz_wr_gn, pz_wr_gi, pz_wr_gl, pz_wr_same, pz_wr_X, inc1]
      refine po_go ?_
      refine pw_blk (mi := mz_21) (b := bz_21_45) rfl rfl ?_
      simp only [bz_21_45, pz_cut_t, pz_cut_f, pz_cut_n, pv_gt, pv_ts, pv_tn, ev_inc3n, ev_inc3i, ev_inc3r, ev_inc3e, ev_goto, pz_wi_gc, pz_wi_ga, pz_wi_gn, pz_wi_gl, pz_wi_gr, pz_wi_same, pz_wi_X, pz_wl_gc, pz_wl_ga, pz_wl_gn, pz_wl_gi, pz_wl_gr, pz_wl_same, pz_wl_X, pz_wr_gc, pz_wr_ga, pz_wr_gn, pz_wr_gi, pz_wr_gl, pz_wr_same, pz_wr_X, inc1]
      refine po_go ?_
      refine ih (b + 1) (n + 1) (by omega) (by omega) ?_
      rw [fki, if_pos z] at k
      exact k
    · refine pw_blk (mi := mz_21) (b := bz_21_39) rfl rfl ?_
      simp only [bz_21_39, pz_cut_t, pz_cut_f, pz_cut_n, pv_gt, pv_ts, pv_tn, ev_ifeq, pz_wi_gc, pz_wi_ga, pz_wi_gn, pz_wi_gl, pz_wi_gr, pz_wi_same, pz_wi_X, pz_wl_gc, pz_wl_ga, pz_wl_gn, pz_wl_gi, pz_wl_gr, pz_wl_same, pz_wl_X, pz_wr_gc, pz_wr_ga, pz_wr_gn, pz_wr_gi, pz_wr_gl, pz_wr_same, pz_wr_X]
      refine po_brP (fun _ => ?_) (fun q => absurd trivial q)
      refine pw_blk (mi := mz_21) (b := bz_21_45) rfl rfl ?_
      simp only [bz_21_45, pz_cut_t, pz_cut_f, pz_cut_n, pv_gt, pv_ts, pv_tn, ev_inc3n, ev_inc3i, ev_inc3r, ev_inc3e, ev_goto, pz_wi_gc, pz_wi_ga, pz_wi_gn, pz_wi_gl, pz_wi_gr, pz_wi_same, pz_wi_X, pz_wl_gc, pz_wl_ga, pz_wl_gn, pz_wl_gi, pz_wl_gr, pz_wl_same, pz_wl_X, pz_wr_gc, pz_wr_ga, pz_wr_gn, pz_wr_gi, pz_wr_gl, pz_wr_same, pz_wr_X, inc1]
      refine po_go ?_
      refine ih (b + 1) n (by omega) (by omega) ?_
      rw [fki, if_neg (by rw [z]; decide)] at k
      exact k
theorem l_forksO (hd : 1 ≤ d) (hS : SH M) {B : Nat} (hn : gi M 4 0 = nI B) (hB : B ≤ 24) : ∀ (c a n : Nat), a + c = B → Q (some (.int (nI (fko (isFk (gl M 5) B) B c a n))), M) → pw d 21 (4, [some (.ref 0), some (.int (nI n)), some (.int (nI a)), none], [], M) Q := by
  intro c
  induction c with
  | zero =>
    intro a n ha h
    have ha' : a = B := by omega
    subst ha'
    refine pw_blk (mi := mz_21) (b := bz_21_4) rfl rfl ?_
    simp only [bz_21_4, pz_cut_t, pz_cut_f, pz_cut_n, pv_gt, pv_ts, pv_tn, ev_ild2, ev_ald0, ev_eld0, ev_gf0_2, ev_gf8_0, ev_ic_ge, pz_wi_gc, pz_wi_ga, pz_wi_gn, pz_wi_gl, pz_wi_gr, pz_wi_same, pz_wi_X, pz_wl_gc, pz_wl_ga, pz_wl_gn, pz_wl_gi, pz_wl_gr, pz_wl_same, pz_wl_X, pz_wr_gc, pz_wr_ga, pz_wr_gn, pz_wr_gi, pz_wr_gl, pz_wr_same, pz_wr_X, so_0 hS, sr_0_1 hS, so_4 hS, hn]
    refine po_brP (fun _ => ?_) (fun q => absurd (nI_le (Nat.le_refl _) (by omega)) q)
    refine pw_blk (mi := mz_21) (b := bz_21_57) rfl rfl ?_
    simp only [bz_21_57, pz_cut_t, pz_cut_f, pz_cut_n, pv_gt, pv_ts, pv_tn, ev_ild1, ev_iret0, pz_wi_gc, pz_wi_ga, pz_wi_gn, pz_wi_gl, pz_wi_gr, pz_wi_same, pz_wi_X, pz_wl_gc, pz_wl_ga, pz_wl_gn, pz_wl_gi, pz_wl_gr, pz_wl_same, pz_wl_X, pz_wr_gc, pz_wr_ga, pz_wr_gn, pz_wr_gi, pz_wr_gl, pz_wr_same, pz_wr_X]
    exact h
  | succ c ih =>
    intro a n ha h
    refine pw_blk (mi := mz_21) (b := bz_21_4) rfl rfl ?_
    simp only [bz_21_4, pz_cut_t, pz_cut_f, pz_cut_n, pv_gt, pv_ts, pv_tn, ev_ild2, ev_ald0, ev_eld0, ev_gf0_2, ev_gf8_0, ev_ic_ge, pz_wi_gc, pz_wi_ga, pz_wi_gn, pz_wi_gl, pz_wi_gr, pz_wi_same, pz_wi_X, pz_wl_gc, pz_wl_ga, pz_wl_gn, pz_wl_gi, pz_wl_gr, pz_wl_same, pz_wl_X, pz_wr_gc, pz_wr_ga, pz_wr_gn, pz_wr_gi, pz_wr_gl, pz_wr_same, pz_wr_X, so_0 hS, sr_0_1 hS, so_4 hS, hn]
    refine po_brP (fun q => absurd q (nI_ge (by omega) (by omega))) (fun _ => ?_)
    refine pw_blk (mi := mz_21) (b := bz_21_15) rfl rfl ?_
    simp only [bz_21_15, pz_cut_t, pz_cut_f, pz_cut_n, pv_gt, pv_ts, pv_tn, ev_ild2, ev_ic1, ev_iadd, ev_ist3n, ev_ist3i, ev_ist3r, ev_ist3e, ev_ist3l, ev_nil, pz_wi_gc, pz_wi_ga, pz_wi_gn, pz_wi_gl, pz_wi_gr, pz_wi_same, pz_wi_X, pz_wl_gc, pz_wl_ga, pz_wl_gn, pz_wl_gi, pz_wl_gr, pz_wl_same, pz_wl_X, pz_wr_gc, pz_wr_ga, pz_wr_gn, pz_wr_gi, pz_wr_gl, pz_wr_same, pz_wr_X, nI_1]
    refine po_go ?_
    refine l_forksI hd hS hn hB (B - (a + 1)) (a + 1) n (by omega) (by omega) ?_
    refine pw_blk (mi := mz_21) (b := bz_21_51) rfl rfl ?_
    simp only [bz_21_51, pz_cut_t, pz_cut_f, pz_cut_n, pv_gt, pv_ts, pv_tn, ev_inc2n, ev_inc2i, ev_inc2r, ev_inc2e, ev_goto, pz_wi_gc, pz_wi_ga, pz_wi_gn, pz_wi_gl, pz_wi_gr, pz_wi_same, pz_wi_X, pz_wl_gc, pz_wl_ga, pz_wl_gn, pz_wl_gi, pz_wl_gr, pz_wl_same, pz_wl_X, pz_wr_gc, pz_wr_ga, pz_wr_gn, pz_wr_gi, pz_wr_gl, pz_wr_same, pz_wr_X, inc1]
    refine po_go ?_
    exact ih (a + 1) _ (by omega) h
theorem m_forks (hd : 1 ≤ d) (hS : SH M) {B : Nat} (hn : gi M 4 0 = nI B) (hB : B ≤ 24) (h : Q (some (.int (nI (fko (isFk (gl M 5) B) B B 0 0))), M)) : pm d 21 [.ref 0] M Q := by
  refine pm_ent (L := [some (.ref 0), none, none, none]) rfl (Nat.le_of_ble_eq_true rfl) ?_
  refine pw_blk (mi := mz_21) (b := bz_21_0) rfl rfl ?_
  simp only [bz_21_0, pz_cut_t, pz_cut_f, pz_cut_n, pv_gt, pv_ts, pv_tn, ev_ic0, ev_ist1n, ev_ist1i, ev_ist1r, ev_ist1e, ev_ist1l, ev_ist2n, ev_ist2i, ev_ist2r, ev_ist2e, ev_ist2l, ev_nil, pz_wi_gc, pz_wi_ga, pz_wi_gn, pz_wi_gl, pz_wi_gr, pz_wi_same, pz_wi_X, pz_wl_gc, pz_wl_ga, pz_wl_gn, pz_wl_gi, pz_wl_gr, pz_wl_same, pz_wl_X, pz_wr_gc, pz_wr_ga, pz_wr_gn, pz_wr_gi, pz_wr_gl, pz_wr_same, pz_wr_X]
  refine po_go ?_
  exact l_forksO hd hS hn hB B 0 0 (by omega) h
theorem l_rforksI (hd : 3 ≤ d) (hS : SH M) (hO : okB M) {B a : Nat} (hn : nb M = nI B) (hB : B ≤ 24) : ∀ (c b n : Nat), a < b → b + c = B → pw d 22 (47, [some (.ref 120), some (.int (nI (fki (isFk (rlk M) B a) c b n))), some (.int (nI a)), none], [], M) Q → pw d 22 (16, [some (.ref 120), some (.int (nI n)), some (.int (nI a)), some (.int (nI b))], [], M) Q := by
  intro c
  induction c with
  | zero =>
    intro b n hab hb k
    have hb' : b = B := by omega
    subst hb'
    refine pw_blk (mi := mz_22) (b := bz_22_16) rfl rfl ?_
    simp only [bz_22_16, pz_cut_t, pz_cut_f, pz_cut_n, pv_gt, pv_ts, pv_tn, ev_ild3, ev_ald0, ev_eld0, ev_cv0_11, pz_wi_gc, pz_wi_ga, pz_wi_gn, pz_wi_gl, pz_wi_gr, pz_wi_same, pz_wi_X, pz_wl_gc, pz_wl_ga, pz_wl_gn, pz_wl_gi, pz_wl_gr, pz_wl_same, pz_wl_X, pz_wr_gc, pz_wr_ga, pz_wr_gn, pz_wr_gi, pz_wr_gl, pz_wr_same, pz_wr_X, so_120 hS, ev_cv0_11]
    refine po_gP (Nat.le_of_ble_eq_true rfl) (po_call (by omega) (r_many hS hO ?_))
    refine pw_blk (mi := mz_22) (b := bz_22_21) rfl rfl ?_
    simp only [bz_22_21, pz_cut_t, pz_cut_f, pz_cut_n, pv_gt, pv_ts, pv_tn, ev_ic_ge, pz_wi_gc, pz_wi_ga, pz_wi_gn, pz_wi_gl, pz_wi_gr, pz_wi_same, pz_wi_X, pz_wl_gc, pz_wl_ga, pz_wl_gn, pz_wl_gi, pz_wl_gr, pz_wl_same, pz_wl_X, pz_wr_gc, pz_wr_ga, pz_wr_gn, pz_wr_gi, pz_wr_gl, pz_wr_same, pz_wr_X, hn]
    refine po_brP (fun _ => ?_) (fun q => absurd (nI_le (Nat.le_refl _) (by omega)) q)
    exact pw_cut (mi := mz_22) (b := bz_22_47) rfl rfl (k) rfl
  | succ c ih =>
    intro b n hab hb k
    refine pw_blk (mi := mz_22) (b := bz_22_16) rfl rfl ?_
    simp only [bz_22_16, pz_cut_t, pz_cut_f, pz_cut_n, pv_gt, pv_ts, pv_tn, ev_ild3, ev_ald0, ev_eld0, ev_cv0_11, pz_wi_gc, pz_wi_ga, pz_wi_gn, pz_wi_gl, pz_wi_gr, pz_wi_same, pz_wi_X, pz_wl_gc, pz_wl_ga, pz_wl_gn, pz_wl_gi, pz_wl_gr, pz_wl_same, pz_wl_X, pz_wr_gc, pz_wr_ga, pz_wr_gn, pz_wr_gi, pz_wr_gl, pz_wr_same, pz_wr_X, so_120 hS, ev_cv0_11]
    refine po_gP (Nat.le_of_ble_eq_true rfl) (po_call (by omega) (r_many hS hO ?_))
    refine pw_blk (mi := mz_22) (b := bz_22_21) rfl rfl ?_
    simp only [bz_22_21, pz_cut_t, pz_cut_f, pz_cut_n, pv_gt, pv_ts, pv_tn, ev_ic_ge, pz_wi_gc, pz_wi_ga, pz_wi_gn, pz_wi_gl, pz_wi_gr, pz_wi_same, pz_wi_X, pz_wl_gc, pz_wl_ga, pz_wl_gn, pz_wl_gi, pz_wl_gr, pz_wl_same, pz_wl_X, pz_wr_gc, pz_wr_ga, pz_wr_gn, pz_wr_gi, pz_wr_gl, pz_wr_same, pz_wr_X, hn]
    refine po_brP (fun q => absurd q (nI_ge (by omega) (by omega))) (fun _ => ?_)
    refine pw_blk (mi := mz_22) (b := bz_22_24) rfl rfl ?_
    simp only [bz_22_24, pz_cut_t, pz_cut_f, pz_cut_n, pv_gt, pv_ts, pv_tn, ev_ild1, ev_ald0, ev_eld0, ev_ild2, ev_ild3, ev_cv2_11, pz_wi_gc, pz_wi_ga, pz_wi_gn, pz_wi_gl, pz_wi_gr, pz_wi_same, pz_wi_X, pz_wl_gc, pz_wl_ga, pz_wl_gn, pz_wl_gi, pz_wl_gr, pz_wl_same, pz_wl_X, pz_wr_gc, pz_wr_ga, pz_wr_gn, pz_wr_gi, pz_wr_gl, pz_wr_same, pz_wr_X, so_120 hS, ev_cv2_11]
    refine po_gP (Nat.le_of_ble_eq_true rfl) (po_call (by omega) (r_isFork (by omega) hS hO hn hB hab (by omega) (fun z => ?_) (fun z => ?_)))
    · refine pw_blk (mi := mz_22) (b := bz_22_31) rfl rfl ?_
      simp only [bz_22_31, pz_cut_t, pz_cut_f, pz_cut_n, pv_gt, pv_ts, pv_tn, ev_ifeq, pz_wi_gc, pz_wi_ga, pz_wi_gn, pz_wi_gl, pz_wi_gr, pz_wi_same, pz_wi_X, pz_wl_gc, pz_wl_ga, pz_wl_gn, pz_wl_gi, pz_wl_gr, pz_wl_same, pz_wl_X, pz_wr_gc, pz_wr_ga, pz_wr_gn, pz_wr_gi, pz_wr_gl, pz_wr_same, pz_wr_X]
      refine po_brP (fun q => absurd q (by decide)) (fun _ => ?_)
      refine pw_blk (mi := mz_22) (b := bz_22_34) rfl rfl ?_
      simp only [bz_22_34, pz_cut_t, pz_cut_f, pz_cut_n, pv_gt, pv_ts, pv_tn, ev_ic1, ev_goto, pz_wi_gc, pz_wi_ga, pz_wi_gn, pz_wi_gl, pz_wi_gr, pz_wi_same, pz_wi_X, pz_wl_gc, pz_wl_ga, pz_wl_gn, pz_wl_gi, pz_wl_gr, pz_wl_same, pz_wl_X, pz_wr_gc, pz_wr_ga, pz_wr_gn, pz_wr_gi, pz_wr_gl, pz_wr_same, pz_wr_X]
      refine po_go ?_
      refine pw_blk (mi := mz_22) (b := bz_22_39) rfl rfl ?_
      simp only [bz_22_39, pz_cut_t, pz_cut_f, pz_cut_n, pv_gt, pv_ts, pv_tn, ev_iadd, ev_ist1n, ev_ist1i, ev_ist1r, ev_ist1e, ev_ist1l, ev_inc3n, ev_inc3i, ev_inc3r, ev_inc3e, ev_goto, pz_wi_gc, pz_wi_ga, pz_wi_gn, pz_wi_gl, pz_wi_gr, pz_wi_same, pz_wi_X, pz_wl_gc, pz_wl_ga, pz_wl_gn, pz_wl_gi, pz_wl_gr, pz_wl_same, pz_wl_X, pz_wr_gc, pz_wr_ga, pz_wr_gn, pz_wr_gi, pz_wr_gl, pz_wr_same, pz_wr_X, inc1, nI_1]
      refine po_go ?_
      refine ih (b + 1) (n + 1) (by omega) (by omega) ?_
      rw [fki, if_pos z] at k
      exact k
    · refine pw_blk (mi := mz_22) (b := bz_22_31) rfl rfl ?_
      simp only [bz_22_31, pz_cut_t, pz_cut_f, pz_cut_n, pv_gt, pv_ts, pv_tn, ev_ifeq, pz_wi_gc, pz_wi_ga, pz_wi_gn, pz_wi_gl, pz_wi_gr, pz_wi_same, pz_wi_X, pz_wl_gc, pz_wl_ga, pz_wl_gn, pz_wl_gi, pz_wl_gr, pz_wl_same, pz_wl_X, pz_wr_gc, pz_wr_ga, pz_wr_gn, pz_wr_gi, pz_wr_gl, pz_wr_same, pz_wr_X]
      refine po_brP (fun _ => ?_) (fun q => absurd trivial q)
      refine pw_blk (mi := mz_22) (b := bz_22_38) rfl rfl ?_
      simp only [bz_22_38, pz_cut_t, pz_cut_f, pz_cut_n, pv_gt, pv_ts, pv_tn, ev_ic0, ev_nil, pz_wi_gc, pz_wi_ga, pz_wi_gn, pz_wi_gl, pz_wi_gr, pz_wi_same, pz_wi_X, pz_wl_gc, pz_wl_ga, pz_wl_gn, pz_wl_gi, pz_wl_gr, pz_wl_same, pz_wl_X, pz_wr_gc, pz_wr_ga, pz_wr_gn, pz_wr_gi, pz_wr_gl, pz_wr_same, pz_wr_X]
      refine po_go ?_
      refine pw_blk (mi := mz_22) (b := bz_22_39) rfl rfl ?_
      simp only [bz_22_39, pz_cut_t, pz_cut_f, pz_cut_n, pv_gt, pv_ts, pv_tn, ev_iadd, ev_ist1n, ev_ist1i, ev_ist1r, ev_ist1e, ev_ist1l, ev_inc3n, ev_inc3i, ev_inc3r, ev_inc3e, ev_goto, pz_wi_gc, pz_wi_ga, pz_wi_gn, pz_wi_gl, pz_wi_gr, pz_wi_same, pz_wi_X, pz_wl_gc, pz_wl_ga, pz_wl_gn, pz_wl_gi, pz_wl_gr, pz_wl_same, pz_wl_X, pz_wr_gc, pz_wr_ga, pz_wr_gn, pz_wr_gi, pz_wr_gl, pz_wr_same, pz_wr_X, inc1]
      refine po_go ?_
      rw [show nI n + 0 = nI n from Int32.add_zero _]
      refine ih (b + 1) n (by omega) (by omega) ?_
      rw [fki, if_neg (by rw [z]; decide)] at k
      exact k
theorem l_rforksO (hd : 3 ≤ d) (hS : SH M) (hO : okB M) {B : Nat} (hn : nb M = nI B) (hB : B ≤ 24) : ∀ (c a n : Nat), a + c = B → Q (some (.int (nI (fko (isFk (rlk M) B) B c a n))), M) → pw d 22 (4, [some (.ref 120), some (.int (nI n)), some (.int (nI a)), none], [], M) Q := by
  intro c
  induction c with
  | zero =>
    intro a n ha h
    have ha' : a = B := by omega
    subst ha'
    refine pw_blk (mi := mz_22) (b := bz_22_4) rfl rfl ?_
    simp only [bz_22_4, pz_cut_t, pz_cut_f, pz_cut_n, pv_gt, pv_ts, pv_tn, ev_ild2, ev_ald0, ev_eld0, ev_cv0_11, pz_wi_gc, pz_wi_ga, pz_wi_gn, pz_wi_gl, pz_wi_gr, pz_wi_same, pz_wi_X, pz_wl_gc, pz_wl_ga, pz_wl_gn, pz_wl_gi, pz_wl_gr, pz_wl_same, pz_wl_X, pz_wr_gc, pz_wr_ga, pz_wr_gn, pz_wr_gi, pz_wr_gl, pz_wr_same, pz_wr_X, so_120 hS, ev_cv0_11]
    refine po_gP (Nat.le_of_ble_eq_true rfl) (po_call (by omega) (r_many hS hO ?_))
    refine pw_blk (mi := mz_22) (b := bz_22_9) rfl rfl ?_
    simp only [bz_22_9, pz_cut_t, pz_cut_f, pz_cut_n, pv_gt, pv_ts, pv_tn, ev_ic_ge, pz_wi_gc, pz_wi_ga, pz_wi_gn, pz_wi_gl, pz_wi_gr, pz_wi_same, pz_wi_X, pz_wl_gc, pz_wl_ga, pz_wl_gn, pz_wl_gi, pz_wl_gr, pz_wl_same, pz_wl_X, pz_wr_gc, pz_wr_ga, pz_wr_gn, pz_wr_gi, pz_wr_gl, pz_wr_same, pz_wr_X, hn]
    refine po_brP (fun _ => ?_) (fun q => absurd (nI_le (Nat.le_refl _) (by omega)) q)
    refine pw_blk (mi := mz_22) (b := bz_22_53) rfl rfl ?_
    simp only [bz_22_53, pz_cut_t, pz_cut_f, pz_cut_n, pv_gt, pv_ts, pv_tn, ev_ild1, ev_iret0, pz_wi_gc, pz_wi_ga, pz_wi_gn, pz_wi_gl, pz_wi_gr, pz_wi_same, pz_wi_X, pz_wl_gc, pz_wl_ga, pz_wl_gn, pz_wl_gi, pz_wl_gr, pz_wl_same, pz_wl_X, pz_wr_gc, pz_wr_ga, pz_wr_gn, pz_wr_gi, pz_wr_gl, pz_wr_same, pz_wr_X]
    exact h
  | succ c ih =>
    intro a n ha h
    refine pw_blk (mi := mz_22) (b := bz_22_4) rfl rfl ?_
    simp only [bz_22_4, pz_cut_t, pz_cut_f, pz_cut_n, pv_gt, pv_ts, pv_tn, ev_ild2, ev_ald0, ev_eld0, ev_cv0_11, pz_wi_gc, pz_wi_ga, pz_wi_gn, pz_wi_gl, pz_wi_gr, pz_wi_same, pz_wi_X, pz_wl_gc, pz_wl_ga, pz_wl_gn, pz_wl_gi, pz_wl_gr, pz_wl_same, pz_wl_X, pz_wr_gc, pz_wr_ga, pz_wr_gn, pz_wr_gi, pz_wr_gl, pz_wr_same, pz_wr_X, so_120 hS, ev_cv0_11]
    refine po_gP (Nat.le_of_ble_eq_true rfl) (po_call (by omega) (r_many hS hO ?_))
    refine pw_blk (mi := mz_22) (b := bz_22_9) rfl rfl ?_
    simp only [bz_22_9, pz_cut_t, pz_cut_f, pz_cut_n, pv_gt, pv_ts, pv_tn, ev_ic_ge, pz_wi_gc, pz_wi_ga, pz_wi_gn, pz_wi_gl, pz_wi_gr, pz_wi_same, pz_wi_X, pz_wl_gc, pz_wl_ga, pz_wl_gn, pz_wl_gi, pz_wl_gr, pz_wl_same, pz_wl_X, pz_wr_gc, pz_wr_ga, pz_wr_gn, pz_wr_gi, pz_wr_gl, pz_wr_same, pz_wr_X, hn]
    refine po_brP (fun q => absurd q (nI_ge (by omega) (by omega))) (fun _ => ?_)
    refine pw_blk (mi := mz_22) (b := bz_22_12) rfl rfl ?_
    simp only [bz_22_12, pz_cut_t, pz_cut_f, pz_cut_n, pv_gt, pv_ts, pv_tn, ev_ild2, ev_ic1, ev_iadd, ev_ist3n, ev_ist3i, ev_ist3r, ev_ist3e, ev_ist3l, ev_nil, pz_wi_gc, pz_wi_ga, pz_wi_gn, pz_wi_gl, pz_wi_gr, pz_wi_same, pz_wi_X, pz_wl_gc, pz_wl_ga, pz_wl_gn, pz_wl_gi, pz_wl_gr, pz_wl_same, pz_wl_X, pz_wr_gc, pz_wr_ga, pz_wr_gn, pz_wr_gi, pz_wr_gl, pz_wr_same, pz_wr_X, nI_1]
    refine po_go ?_
    refine l_rforksI hd hS hO hn hB (B - (a + 1)) (a + 1) n (by omega) (by omega) ?_
    refine pw_blk (mi := mz_22) (b := bz_22_47) rfl rfl ?_
    simp only [bz_22_47, pz_cut_t, pz_cut_f, pz_cut_n, pv_gt, pv_ts, pv_tn, ev_inc2n, ev_inc2i, ev_inc2r, ev_inc2e, ev_goto, pz_wi_gc, pz_wi_ga, pz_wi_gn, pz_wi_gl, pz_wi_gr, pz_wi_same, pz_wi_X, pz_wl_gc, pz_wl_ga, pz_wl_gn, pz_wl_gi, pz_wl_gr, pz_wl_same, pz_wl_X, pz_wr_gc, pz_wr_ga, pz_wr_gn, pz_wr_gi, pz_wr_gl, pz_wr_same, pz_wr_X, inc1]
    refine po_go ?_
    exact ih (a + 1) _ (by omega) h
theorem r_forks (hd : 3 ≤ d) (hS : SH M) (hO : okB M) {B : Nat} (hn : nb M = nI B) (hB : B ≤ 24) (h : Q (some (.int (nI (fko (isFk (rlk M) B) B B 0 0))), M)) : pm d 22 [.ref 120] M Q := by
  refine pm_ent (L := [some (.ref 120), none, none, none]) rfl (Nat.le_of_ble_eq_true rfl) ?_
  refine pw_blk (mi := mz_22) (b := bz_22_0) rfl rfl ?_
  simp only [bz_22_0, pz_cut_t, pz_cut_f, pz_cut_n, pv_gt, pv_ts, pv_tn, ev_ic0, ev_ist1n, ev_ist1i, ev_ist1r, ev_ist1e, ev_ist1l, ev_ist2n, ev_ist2i, ev_ist2r, ev_ist2e, ev_ist2l, ev_nil, pz_wi_gc, pz_wi_ga, pz_wi_gn, pz_wi_gl, pz_wi_gr, pz_wi_same, pz_wi_X, pz_wl_gc, pz_wl_ga, pz_wl_gn, pz_wl_gi, pz_wl_gr, pz_wl_same, pz_wl_X, pz_wr_gc, pz_wr_ga, pz_wr_gn, pz_wr_gi, pz_wr_gl, pz_wr_same, pz_wr_X]
  refine po_go ?_
  exact l_rforksO hd hS hO hn hB B 0 0 (by omega) h
theorem isFk_cong {lk lk' : Nat → Int64} {B a b : Nat} (h : ∀ i j, i < B → j < B → (lk i = lk j ↔ lk' i = lk' j)) (hab : a < b) (hb : b < B) : isFk lk B a b = isFk lk' B a b := by
  unfold isFk
  rw [decide_eq_decide.mpr (h a b (by omega) hb)]
  by_cases hB : B ≤ b + 1
  · rw [decide_eq_true hB]
    rfl
  · rw [decide_eq_decide.mpr (not_congr (h (a + 1) (b + 1) (by omega) (by omega)))]
theorem fki_cong {p p' : Nat → Bool} : ∀ (c b n : Nat), (∀ i, b ≤ i → i < b + c → p i = p' i) → fki p c b n = fki p' c b n
  | 0, _, _, _ => rfl
  | c + 1, b, n, h => by
    rw [fki, fki, h b (Nat.le_refl _) (by omega)]
    exact fki_cong c (b + 1) _ (fun i h1 h2 => h i (by omega) (by omega))
theorem fko_cong {p p' : Nat → Nat → Bool} {B : Nat} : ∀ (c a n : Nat), a + c = B → (∀ i j, i < j → j < B → p i j = p' i j) → fko p B c a n = fko p' B c a n
  | 0, _, _, _, _ => rfl
  | c + 1, a, n, ha, h => by
    rw [fko, fko, fki_cong (B - (a + 1)) (a + 1) n (fun i h1 h2 => h a i (by omega) (by omega))]
    exact fko_cong c (a + 1) _ (by omega) h
theorem op_forks (hd : 3 ≤ d) (hS : SH M) (hO : okB M) (hR : Rlk M) : pm d 21 [.ref 0] M (fun r1 => pm d 22 [.ref 120] r1.2 (fun r2 => r1.1 = r2.1 ∧ r2.2 = M)) := by
  obtain ⟨B, hB, h1, h2, h3⟩ := hR
  refine m_forks (by omega) hS h1 hB (r_forks hd hS hO h2 hB ⟨?_, rfl⟩)
  rw [fko_cong B 0 0 (by omega) (fun i j hij hj => isFk_cong h3 hij hj)]
end FORKS
