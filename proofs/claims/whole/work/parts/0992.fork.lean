/-! ===== fork on both sides ===== -/
section FORK
variable {d : Nat} {M : pz_M} {Q : Option Value × pz_M → Prop}
theorem dec1 (n : Nat) : nI (n + 1) + Int32.ofInt (-1) = nI n := by
  rw [show Int32.ofInt (-1) = (-1 : Int32) by decide]
  exact pk_m1 n
/-- the place of the m-th of c from b on that is so, or how many are still to be passed -/
def fri (p : Nat → Bool) : Nat → Nat → Nat → Nat ⊕ Nat
  | 0, _, m => .inr m
  | c + 1, b, m => if p b = true then (if m = 0 then .inl b else fri p c (b + 1) (m - 1)) else fri p c (b + 1) m
theorem fri_f {p : Nat → Bool} {c b m : Nat} (h : p b = false) : fri p (c + 1) b m = fri p c (b + 1) m := by
  rw [fri, if_neg (by rw [h]; decide)]
theorem fri_0 {p : Nat → Bool} {c b : Nat} (h : p b = true) : fri p (c + 1) b 0 = .inl b := by
  rw [fri, if_pos h, if_pos rfl]
theorem fri_s {p : Nat → Bool} {c b m : Nat} (h : p b = true) : fri p (c + 1) b (m + 1) = fri p c (b + 1) m := by
  rw [fri, if_pos h, if_neg (Nat.succ_ne_zero m), Nat.add_sub_cancel]
def fro (p : Nat → Nat → Bool) (B : Nat) : Nat → Nat → Nat → Int32
  | 0, _, _ => -1
  | c + 1, a, m => match fri (p a) (B - (a + 1)) (a + 1) m with
    | .inl b => 100 * nI a + nI b
    | .inr m => fro p B c (a + 1) m
theorem fri_le {p : Nat → Bool} : ∀ (c b m m' : Nat), fri p c b m = .inr m' → m' ≤ m
  | 0, _, m, m', h => by
    rw [fri] at h
    cases h
    exact Nat.le_refl _
  | c + 1, b, m, m', h => by
    cases z : p b with
    | true =>
      cases m with
      | zero =>
        rw [fri_0 z] at h
        cases h
      | succ m =>
        rw [fri_s z] at h
        exact Nat.le_succ_of_le (fri_le c (b + 1) m m' h)
    | false =>
      rw [fri_f z] at h
      exact fri_le c (b + 1) m m' h
theorem l_forkI (hd : 1 ≤ d) (hS : SH M) {B a : Nat} (hn : gi M 4 0 = nI B) (hB : B ≤ 24) : ∀ (c b n m : Nat), a < b → b + c = B → n + m < 2 ^ 31 → (∀ r, fri (isFk (gl M 5) B a) c b m = .inl r → Q (some (.int (100 * nI a + nI r)), M)) → (∀ n' m', n' + m' = n + m → fri (isFk (gl M 5) B a) c b m = .inr m' → pw d 19 (73, [some (.ref 0), some (.int (nI (n + m))), some (.int (nI n')), some (.int (nI a)), none], [], M) Q) → pw d 19 (26, [some (.ref 0), some (.int (nI (n + m))), some (.int (nI n)), some (.int (nI a)), some (.int (nI b))], [], M) Q := by
  intro c
  induction c with
  | zero =>
    intro b n m hab hb hm _ k
    have hb' : b = B := by omega
    subst hb'
    refine pw_blk (mi := mz_19) (b := bz_19_26) rfl rfl ?_
    simp only [bz_19_26, pz_cut_t, pz_cut_f, pz_cut_n, pv_gt, pv_ts, pv_tn, ev_ild4, ev_ald0, ev_eld0, ev_gf0_2, ev_gf8_0, ev_ic_ge, pz_wi_gc, pz_wi_ga, pz_wi_gn, pz_wi_gl, pz_wi_gr, pz_wi_same, pz_wi_X, pz_wl_gc, pz_wl_ga, pz_wl_gn, pz_wl_gi, pz_wl_gr, pz_wl_same, pz_wl_X, pz_wr_gc, pz_wr_ga, pz_wr_gn, pz_wr_gi, pz_wr_gl, pz_wr_same, pz_wr_X, so_0 hS, sr_0_1 hS, so_4 hS, hn]
    refine po_brP (fun _ => ?_) (fun q => absurd (nI_le (Nat.le_refl _) (by omega)) q)
    have k' := k n m rfl rfl
    exact pw_cut (mi := mz_19) (b := bz_19_73) rfl rfl (k') rfl
  | succ c ih =>
    intro b n m hab hb hm kf k
    refine pw_blk (mi := mz_19) (b := bz_19_26) rfl rfl ?_
    simp only [bz_19_26, pz_cut_t, pz_cut_f, pz_cut_n, pv_gt, pv_ts, pv_tn, ev_ild4, ev_ald0, ev_eld0, ev_gf0_2, ev_gf8_0, ev_ic_ge, pz_wi_gc, pz_wi_ga, pz_wi_gn, pz_wi_gl, pz_wi_gr, pz_wi_same, pz_wi_X, pz_wl_gc, pz_wl_ga, pz_wl_gn, pz_wl_gi, pz_wl_gr, pz_wl_same, pz_wl_X, pz_wr_gc, pz_wr_ga, pz_wr_gn, pz_wr_gi, pz_wr_gl, pz_wr_same, pz_wr_X, so_0 hS, sr_0_1 hS, so_4 hS, hn]
    refine po_brP (fun q => absurd q (nI_ge (by omega) (by omega))) (fun _ => ?_)
    refine pw_blk (mi := mz_19) (b := bz_19_38) rfl rfl ?_
    simp only [bz_19_38, pz_cut_t, pz_cut_f, pz_cut_n, pv_gt, pv_ts, pv_tn, ev_ald0, ev_eld0, ev_gf0_2, ev_ild3, ev_ild4, ev_cv2_8, pz_wi_gc, pz_wi_ga, pz_wi_gn, pz_wi_gl, pz_wi_gr, pz_wi_same, pz_wi_X, pz_wl_gc, pz_wl_ga, pz_wl_gn, pz_wl_gi, pz_wl_gr, pz_wl_same, pz_wl_X, pz_wr_gc, pz_wr_ga, pz_wr_gn, pz_wr_gi, pz_wr_gl, pz_wr_same, pz_wr_X, so_0 hS, sr_0_1 hS, so_4 hS, ev_cv2_8]
    refine po_gP (Nat.le_of_ble_eq_true rfl) (po_call hd (m_forksAt hS hn hB hab (by omega) (fun z => ?_) (fun z => ?_)))
    · refine pw_blk (mi := mz_19) (b := bz_19_48) rfl rfl ?_
      simp only [bz_19_48, pz_cut_t, pz_cut_f, pz_cut_n, pv_gt, pv_ts, pv_tn, ev_ifeq, pz_wi_gc, pz_wi_ga, pz_wi_gn, pz_wi_gl, pz_wi_gr, pz_wi_same, pz_wi_X, pz_wl_gc, pz_wl_ga, pz_wl_gn, pz_wl_gi, pz_wl_gr, pz_wl_same, pz_wl_X, pz_wr_gc, pz_wr_ga, pz_wr_gn, pz_wr_gi, pz_wr_gl, pz_wr_same, pz_wr_X]
      refine po_brP (fun q => absurd q (by decide)) (fun _ => ?_)
      cases m with
      | zero =>
        refine pw_blk (mi := mz_19) (b := bz_19_51) rfl rfl ?_
        simp only [bz_19_51, pz_cut_t, pz_cut_f, pz_cut_n, pv_gt, pv_ts, pv_tn, ev_ild2, ev_ild1, ev_ic_ne, pz_wi_gc, pz_wi_ga, pz_wi_gn, pz_wi_gl, pz_wi_gr, pz_wi_same, pz_wi_X, pz_wl_gc, pz_wl_ga, pz_wl_gn, pz_wl_gi, pz_wl_gr, pz_wl_same, pz_wl_X, pz_wr_gc, pz_wr_ga, pz_wr_gn, pz_wr_gi, pz_wr_gl, pz_wr_same, pz_wr_X]
        refine po_brP (fun q => absurd rfl q) (fun _ => ?_)
        refine pw_blk (mi := mz_19) (b := bz_19_56) rfl rfl ?_
        simp only [bz_19_56, pz_cut_t, pz_cut_f, pz_cut_n, pv_gt, pv_ts, pv_tn, ev_bp100, ev_ild3, ev_imul, ev_ild4, ev_iadd, ev_iret0, pz_wi_gc, pz_wi_ga, pz_wi_gn, pz_wi_gl, pz_wi_gr, pz_wi_same, pz_wi_X, pz_wl_gc, pz_wl_ga, pz_wl_gn, pz_wl_gi, pz_wl_gr, pz_wl_same, pz_wl_X, pz_wr_gc, pz_wr_ga, pz_wr_gn, pz_wr_gi, pz_wr_gl, pz_wr_same, pz_wr_X]
        exact kf b (fri_0 z)
      | succ m =>
        simp only [fri_s z] at kf k
        refine pw_blk (mi := mz_19) (b := bz_19_51) rfl rfl ?_
        simp only [bz_19_51, pz_cut_t, pz_cut_f, pz_cut_n, pv_gt, pv_ts, pv_tn, ev_ild2, ev_ild1, ev_ic_ne, pz_wi_gc, pz_wi_ga, pz_wi_gn, pz_wi_gl, pz_wi_gr, pz_wi_same, pz_wi_X, pz_wl_gc, pz_wl_ga, pz_wl_gn, pz_wl_gi, pz_wl_gr, pz_wl_same, pz_wl_X, pz_wr_gc, pz_wr_ga, pz_wr_gn, pz_wr_gi, pz_wr_gl, pz_wr_same, pz_wr_X]
        refine po_brP (fun _ => ?_) (fun q => absurd ((nI_eq (by omega) hm).mp (Decidable.not_not.mp q)) (by omega))
        refine pw_blk (mi := mz_19) (b := bz_19_64) rfl rfl ?_
        simp only [bz_19_64, pz_cut_t, pz_cut_f, pz_cut_n, pv_gt, pv_ts, pv_tn, ev_inc2n, ev_inc2i, ev_inc2r, ev_inc2e, ev_nil, pz_wi_gc, pz_wi_ga, pz_wi_gn, pz_wi_gl, pz_wi_gr, pz_wi_same, pz_wi_X, pz_wl_gc, pz_wl_ga, pz_wl_gn, pz_wl_gi, pz_wl_gr, pz_wl_same, pz_wl_X, pz_wr_gc, pz_wr_ga, pz_wr_gn, pz_wr_gi, pz_wr_gl, pz_wr_same, pz_wr_X, inc1]
        refine po_go ?_
        refine pw_blk (mi := mz_19) (b := bz_19_67) rfl rfl ?_
        simp only [bz_19_67, pz_cut_t, pz_cut_f, pz_cut_n, pv_gt, pv_ts, pv_tn, ev_inc4n, ev_inc4i, ev_inc4r, ev_inc4e, ev_goto, pz_wi_gc, pz_wi_ga, pz_wi_gn, pz_wi_gl, pz_wi_gr, pz_wi_same, pz_wi_X, pz_wl_gc, pz_wl_ga, pz_wl_gn, pz_wl_gi, pz_wl_gr, pz_wl_same, pz_wl_X, pz_wr_gc, pz_wr_ga, pz_wr_gn, pz_wr_gi, pz_wr_gl, pz_wr_same, pz_wr_X, inc1]
        refine po_go ?_
        have e : n + (m + 1) = n + 1 + m := by omega
        rw [e]
        rw [e] at k
        exact ih (b + 1) (n + 1) m (by omega) (by omega) (by omega) kf k
    · simp only [fri_f z] at kf k
      refine pw_blk (mi := mz_19) (b := bz_19_48) rfl rfl ?_
      simp only [bz_19_48, pz_cut_t, pz_cut_f, pz_cut_n, pv_gt, pv_ts, pv_tn, ev_ifeq, pz_wi_gc, pz_wi_ga, pz_wi_gn, pz_wi_gl, pz_wi_gr, pz_wi_same, pz_wi_X, pz_wl_gc, pz_wl_ga, pz_wl_gn, pz_wl_gi, pz_wl_gr, pz_wl_same, pz_wl_X, pz_wr_gc, pz_wr_ga, pz_wr_gn, pz_wr_gi, pz_wr_gl, pz_wr_same, pz_wr_X]
      refine po_brP (fun _ => ?_) (fun q => absurd trivial q)
      refine pw_blk (mi := mz_19) (b := bz_19_67) rfl rfl ?_
      simp only [bz_19_67, pz_cut_t, pz_cut_f, pz_cut_n, pv_gt, pv_ts, pv_tn, ev_inc4n, ev_inc4i, ev_inc4r, ev_inc4e, ev_goto, pz_wi_gc, pz_wi_ga, pz_wi_gn, pz_wi_gl, pz_wi_gr, pz_wi_same, pz_wi_X, pz_wl_gc, pz_wl_ga, pz_wl_gn, pz_wl_gi, pz_wl_gr, pz_wl_same, pz_wl_X, pz_wr_gc, pz_wr_ga, pz_wr_gn, pz_wr_gi, pz_wr_gl, pz_wr_same, pz_wr_X, inc1]
      refine po_go ?_
      exact ih (b + 1) n m (by omega) (by omega) hm kf k
theorem l_forkO (hd : 1 ≤ d) (hS : SH M) {B : Nat} (hn : gi M 4 0 = nI B) (hB : B ≤ 24) : ∀ (c a n m : Nat), a + c = B → n + m < 2 ^ 31 → Q (some (.int (fro (isFk (gl M 5) B) B c a m)), M) → pw d 19 (10, [some (.ref 0), some (.int (nI (n + m))), some (.int (nI n)), some (.int (nI a)), none], [], M) Q := by
  intro c
  induction c with
  | zero =>
    intro a n m ha hm h
    have ha' : a = B := by omega
    subst ha'
    refine pw_blk (mi := mz_19) (b := bz_19_10) rfl rfl ?_
    simp only [bz_19_10, pz_cut_t, pz_cut_f, pz_cut_n, pv_gt, pv_ts, pv_tn, ev_ild3, ev_ald0, ev_eld0, ev_gf0_2, ev_gf8_0, ev_ic_ge, pz_wi_gc, pz_wi_ga, pz_wi_gn, pz_wi_gl, pz_wi_gr, pz_wi_same, pz_wi_X, pz_wl_gc, pz_wl_ga, pz_wl_gn, pz_wl_gi, pz_wl_gr, pz_wl_same, pz_wl_X, pz_wr_gc, pz_wr_ga, pz_wr_gn, pz_wr_gi, pz_wr_gl, pz_wr_same, pz_wr_X, so_0 hS, sr_0_1 hS, so_4 hS, hn]
    refine po_brP (fun _ => ?_) (fun q => absurd (nI_le (Nat.le_refl _) (by omega)) q)
    refine pw_blk (mi := mz_19) (b := bz_19_79) rfl rfl ?_
    simp only [bz_19_79, pz_cut_t, pz_cut_f, pz_cut_n, pv_gt, pv_ts, pv_tn, ev_icm1, ev_iret0, pz_wi_gc, pz_wi_ga, pz_wi_gn, pz_wi_gl, pz_wi_gr, pz_wi_same, pz_wi_X, pz_wl_gc, pz_wl_ga, pz_wl_gn, pz_wl_gi, pz_wl_gr, pz_wl_same, pz_wl_X, pz_wr_gc, pz_wr_ga, pz_wr_gn, pz_wr_gi, pz_wr_gl, pz_wr_same, pz_wr_X]
    exact h
  | succ c ih =>
    intro a n m ha hm h
    refine pw_blk (mi := mz_19) (b := bz_19_10) rfl rfl ?_
    simp only [bz_19_10, pz_cut_t, pz_cut_f, pz_cut_n, pv_gt, pv_ts, pv_tn, ev_ild3, ev_ald0, ev_eld0, ev_gf0_2, ev_gf8_0, ev_ic_ge, pz_wi_gc, pz_wi_ga, pz_wi_gn, pz_wi_gl, pz_wi_gr, pz_wi_same, pz_wi_X, pz_wl_gc, pz_wl_ga, pz_wl_gn, pz_wl_gi, pz_wl_gr, pz_wl_same, pz_wl_X, pz_wr_gc, pz_wr_ga, pz_wr_gn, pz_wr_gi, pz_wr_gl, pz_wr_same, pz_wr_X, so_0 hS, sr_0_1 hS, so_4 hS, hn]
    refine po_brP (fun q => absurd q (nI_ge (by omega) (by omega))) (fun _ => ?_)
    refine pw_blk (mi := mz_19) (b := bz_19_21) rfl rfl ?_
    simp only [bz_19_21, pz_cut_t, pz_cut_f, pz_cut_n, pv_gt, pv_ts, pv_tn, ev_ild3, ev_ic1, ev_iadd, ev_ist4n, ev_ist4i, ev_ist4r, ev_ist4e, ev_ist4l, ev_nil, pz_wi_gc, pz_wi_ga, pz_wi_gn, pz_wi_gl, pz_wi_gr, pz_wi_same, pz_wi_X, pz_wl_gc, pz_wl_ga, pz_wl_gn, pz_wl_gi, pz_wl_gr, pz_wl_same, pz_wl_X, pz_wr_gc, pz_wr_ga, pz_wr_gn, pz_wr_gi, pz_wr_gl, pz_wr_same, pz_wr_X, nI_1]
    refine po_go ?_
    refine l_forkI hd hS hn hB (B - (a + 1)) (a + 1) n m (by omega) (by omega) hm (fun r z => ?_) (fun n' m' e z => ?_)
    · rw [fro, z] at h
      exact h
    · rw [fro, z] at h
      refine pw_blk (mi := mz_19) (b := bz_19_73) rfl rfl ?_
      simp only [bz_19_73, pz_cut_t, pz_cut_f, pz_cut_n, pv_gt, pv_ts, pv_tn, ev_inc3n, ev_inc3i, ev_inc3r, ev_inc3e, ev_goto, pz_wi_gc, pz_wi_ga, pz_wi_gn, pz_wi_gl, pz_wi_gr, pz_wi_same, pz_wi_X, pz_wl_gc, pz_wl_ga, pz_wl_gn, pz_wl_gi, pz_wl_gr, pz_wl_same, pz_wl_X, pz_wr_gc, pz_wr_ga, pz_wr_gn, pz_wr_gi, pz_wr_gl, pz_wr_same, pz_wr_X, inc1]
      refine po_go ?_
      rw [← e]
      exact ih (a + 1) n' m' (by omega) (by omega) h
theorem m_fork (hd : 1 ≤ d) (hS : SH M) {B : Nat} (hn : gi M 4 0 = nI B) (hB : B ≤ 24) {x : Int32} (h0 : x < 0 → Q (some (.int (-1)), M)) (h : ∀ m, m < 2 ^ 31 → x = nI m → Q (some (.int (fro (isFk (gl M 5) B) B B 0 m)), M)) : pm d 19 [.ref 0, .int x] M Q := by
  refine pm_ent (L := [some (.ref 0), some (.int x), none, none, none]) rfl (Nat.le_of_ble_eq_true rfl) ?_
  refine pw_blk (mi := mz_19) (b := bz_19_0) rfl rfl ?_
  simp only [bz_19_0, pz_cut_t, pz_cut_f, pz_cut_n, pv_gt, pv_ts, pv_tn, ev_ild1, ev_ifge, pz_wi_gc, pz_wi_ga, pz_wi_gn, pz_wi_gl, pz_wi_gr, pz_wi_same, pz_wi_X, pz_wl_gc, pz_wl_ga, pz_wl_gn, pz_wl_gi, pz_wl_gr, pz_wl_same, pz_wl_X, pz_wr_gc, pz_wr_ga, pz_wr_gn, pz_wr_gi, pz_wr_gl, pz_wr_same, pz_wr_X]
  refine po_brP (fun q => ?_) (fun q => ?_)
  · obtain ⟨m, hm, e⟩ := nI_of (Int32.not_lt.mpr q)
    refine pw_blk (mi := mz_19) (b := bz_19_6) rfl rfl ?_
    simp only [bz_19_6, pz_cut_t, pz_cut_f, pz_cut_n, pv_gt, pv_ts, pv_tn, ev_ic0, ev_ist2n, ev_ist2i, ev_ist2r, ev_ist2e, ev_ist2l, ev_ist3n, ev_ist3i, ev_ist3r, ev_ist3e, ev_ist3l, ev_nil, pz_wi_gc, pz_wi_ga, pz_wi_gn, pz_wi_gl, pz_wi_gr, pz_wi_same, pz_wi_X, pz_wl_gc, pz_wl_ga, pz_wl_gn, pz_wl_gi, pz_wl_gr, pz_wl_same, pz_wl_X, pz_wr_gc, pz_wr_ga, pz_wr_gn, pz_wr_gi, pz_wr_gl, pz_wr_same, pz_wr_X]
    refine po_go ?_
    have r := l_forkO hd hS hn hB B 0 0 m (by omega) (by omega) (h m hm e)
    rw [Nat.zero_add, ← e] at r
    exact r
  · refine pw_blk (mi := mz_19) (b := bz_19_4) rfl rfl ?_
    simp only [bz_19_4, pz_cut_t, pz_cut_f, pz_cut_n, pv_gt, pv_ts, pv_tn, ev_icm1, ev_iret0, pz_wi_gc, pz_wi_ga, pz_wi_gn, pz_wi_gl, pz_wi_gr, pz_wi_same, pz_wi_X, pz_wl_gc, pz_wl_ga, pz_wl_gn, pz_wl_gi, pz_wl_gr, pz_wl_same, pz_wl_X, pz_wr_gc, pz_wr_ga, pz_wr_gn, pz_wr_gi, pz_wr_gl, pz_wr_same, pz_wr_X]
    exact h0 (Int32.not_le.mp q)
theorem l_rforkI (hd : 3 ≤ d) (hS : SH M) (hO : okB M) {B a : Nat} (hn : nb M = nI B) (hB : B ≤ 24) : ∀ (c b m : Nat), a < b → b + c = B → m < 2 ^ 31 → (∀ r, fri (isFk (rlk M) B a) c b m = .inl r → Q (some (.int (100 * nI a + nI r)), M)) → (∀ m', fri (isFk (rlk M) B a) c b m = .inr m' → pw d 20 (64, [some (.ref 120), none, some (.int (nI m')), some (.int (nI a)), none], [], M) Q) → pw d 20 (21, [some (.ref 120), none, some (.int (nI m)), some (.int (nI a)), some (.int (nI b))], [], M) Q := by
  intro c
  induction c with
  | zero =>
    intro b m hab hb hm _ k
    have hb' : b = B := by omega
    subst hb'
    refine pw_blk (mi := mz_20) (b := bz_20_21) rfl rfl ?_
    simp only [bz_20_21, pz_cut_t, pz_cut_f, pz_cut_n, pv_gt, pv_ts, pv_tn, ev_ild4, ev_ald0, ev_eld0, ev_cv0_11, pz_wi_gc, pz_wi_ga, pz_wi_gn, pz_wi_gl, pz_wi_gr, pz_wi_same, pz_wi_X, pz_wl_gc, pz_wl_ga, pz_wl_gn, pz_wl_gi, pz_wl_gr, pz_wl_same, pz_wl_X, pz_wr_gc, pz_wr_ga, pz_wr_gn, pz_wr_gi, pz_wr_gl, pz_wr_same, pz_wr_X, so_120 hS, ev_cv0_11]
    refine po_gP (Nat.le_of_ble_eq_true rfl) (po_call (by omega) (r_many hS hO ?_))
    refine pw_blk (mi := mz_20) (b := bz_20_27) rfl rfl ?_
    simp only [bz_20_27, pz_cut_t, pz_cut_f, pz_cut_n, pv_gt, pv_ts, pv_tn, ev_ic_ge, pz_wi_gc, pz_wi_ga, pz_wi_gn, pz_wi_gl, pz_wi_gr, pz_wi_same, pz_wi_X, pz_wl_gc, pz_wl_ga, pz_wl_gn, pz_wl_gi, pz_wl_gr, pz_wl_same, pz_wl_X, pz_wr_gc, pz_wr_ga, pz_wr_gn, pz_wr_gi, pz_wr_gl, pz_wr_same, pz_wr_X, hn]
    refine po_brP (fun _ => ?_) (fun q => absurd (nI_le (Nat.le_refl _) (by omega)) q)
    have k' := k m rfl
    exact pw_cut (mi := mz_20) (b := bz_20_64) rfl rfl (k') rfl
  | succ c ih =>
    intro b m hab hb hm kf k
    refine pw_blk (mi := mz_20) (b := bz_20_21) rfl rfl ?_
    simp only [bz_20_21, pz_cut_t, pz_cut_f, pz_cut_n, pv_gt, pv_ts, pv_tn, ev_ild4, ev_ald0, ev_eld0, ev_cv0_11, pz_wi_gc, pz_wi_ga, pz_wi_gn, pz_wi_gl, pz_wi_gr, pz_wi_same, pz_wi_X, pz_wl_gc, pz_wl_ga, pz_wl_gn, pz_wl_gi, pz_wl_gr, pz_wl_same, pz_wl_X, pz_wr_gc, pz_wr_ga, pz_wr_gn, pz_wr_gi, pz_wr_gl, pz_wr_same, pz_wr_X, so_120 hS, ev_cv0_11]
    refine po_gP (Nat.le_of_ble_eq_true rfl) (po_call (by omega) (r_many hS hO ?_))
    refine pw_blk (mi := mz_20) (b := bz_20_27) rfl rfl ?_
    simp only [bz_20_27, pz_cut_t, pz_cut_f, pz_cut_n, pv_gt, pv_ts, pv_tn, ev_ic_ge, pz_wi_gc, pz_wi_ga, pz_wi_gn, pz_wi_gl, pz_wi_gr, pz_wi_same, pz_wi_X, pz_wl_gc, pz_wl_ga, pz_wl_gn, pz_wl_gi, pz_wl_gr, pz_wl_same, pz_wl_X, pz_wr_gc, pz_wr_ga, pz_wr_gn, pz_wr_gi, pz_wr_gl, pz_wr_same, pz_wr_X, hn]
    refine po_brP (fun q => absurd q (nI_ge (by omega) (by omega))) (fun _ => ?_)
    refine pw_blk (mi := mz_20) (b := bz_20_30) rfl rfl ?_
    simp only [bz_20_30, pz_cut_t, pz_cut_f, pz_cut_n, pv_gt, pv_ts, pv_tn, ev_ald0, ev_eld0, ev_ild3, ev_ild4, ev_cv2_11, pz_wi_gc, pz_wi_ga, pz_wi_gn, pz_wi_gl, pz_wi_gr, pz_wi_same, pz_wi_X, pz_wl_gc, pz_wl_ga, pz_wl_gn, pz_wl_gi, pz_wl_gr, pz_wl_same, pz_wl_X, pz_wr_gc, pz_wr_ga, pz_wr_gn, pz_wr_gi, pz_wr_gl, pz_wr_same, pz_wr_X, so_120 hS, ev_cv2_11]
    refine po_gP (Nat.le_of_ble_eq_true rfl) (po_call (by omega) (r_isFork (by omega) hS hO hn hB hab (by omega) (fun z => ?_) (fun z => ?_)))
    · refine pw_blk (mi := mz_20) (b := bz_20_37) rfl rfl ?_
      simp only [bz_20_37, pz_cut_t, pz_cut_f, pz_cut_n, pv_gt, pv_ts, pv_tn, ev_ifne, pz_wi_gc, pz_wi_ga, pz_wi_gn, pz_wi_gl, pz_wi_gr, pz_wi_same, pz_wi_X, pz_wl_gc, pz_wl_ga, pz_wl_gn, pz_wl_gi, pz_wl_gr, pz_wl_same, pz_wl_X, pz_wr_gc, pz_wr_ga, pz_wr_gn, pz_wr_gi, pz_wr_gl, pz_wr_same, pz_wr_X]
      refine po_brP (fun _ => ?_) (fun q => absurd (by decide) q)
      cases m with
      | zero =>
        refine pw_blk (mi := mz_20) (b := bz_20_43) rfl rfl ?_
        simp only [bz_20_43, pz_cut_t, pz_cut_f, pz_cut_n, pv_gt, pv_ts, pv_tn, ev_ild2, ev_ifne, pz_wi_gc, pz_wi_ga, pz_wi_gn, pz_wi_gl, pz_wi_gr, pz_wi_same, pz_wi_X, pz_wl_gc, pz_wl_ga, pz_wl_gn, pz_wl_gi, pz_wl_gr, pz_wl_same, pz_wl_X, pz_wr_gc, pz_wr_ga, pz_wr_gn, pz_wr_gi, pz_wr_gl, pz_wr_same, pz_wr_X]
        refine po_brP (fun q => absurd nI_0 q) (fun _ => ?_)
        refine pw_blk (mi := mz_20) (b := bz_20_47) rfl rfl ?_
        simp only [bz_20_47, pz_cut_t, pz_cut_f, pz_cut_n, pv_gt, pv_ts, pv_tn, ev_bp100, ev_ild3, ev_imul, ev_ild4, ev_iadd, ev_iret0, pz_wi_gc, pz_wi_ga, pz_wi_gn, pz_wi_gl, pz_wi_gr, pz_wi_same, pz_wi_X, pz_wl_gc, pz_wl_ga, pz_wl_gn, pz_wl_gi, pz_wl_gr, pz_wl_same, pz_wl_X, pz_wr_gc, pz_wr_ga, pz_wr_gn, pz_wr_gi, pz_wr_gl, pz_wr_same, pz_wr_X]
        exact kf b (fri_0 z)
      | succ m =>
        simp only [fri_s z] at kf k
        refine pw_blk (mi := mz_20) (b := bz_20_43) rfl rfl ?_
        simp only [bz_20_43, pz_cut_t, pz_cut_f, pz_cut_n, pv_gt, pv_ts, pv_tn, ev_ild2, ev_ifne, pz_wi_gc, pz_wi_ga, pz_wi_gn, pz_wi_gl, pz_wi_gr, pz_wi_same, pz_wi_X, pz_wl_gc, pz_wl_ga, pz_wl_gn, pz_wl_gi, pz_wl_gr, pz_wl_same, pz_wl_X, pz_wr_gc, pz_wr_ga, pz_wr_gn, pz_wr_gi, pz_wr_gl, pz_wr_same, pz_wr_X]
        refine po_brP (fun _ => ?_) (fun q => absurd (Decidable.not_not.mp q) (nI_ne0 (by omega) hm))
        refine pw_blk (mi := mz_20) (b := bz_20_55) rfl rfl ?_
        simp only [bz_20_55, pz_cut_t, pz_cut_f, pz_cut_n, pv_gt, pv_ts, pv_tn, ev_inc2n, ev_inc2i, ev_inc2r, ev_inc2e, ev_nil, pz_wi_gc, pz_wi_ga, pz_wi_gn, pz_wi_gl, pz_wi_gr, pz_wi_same, pz_wi_X, pz_wl_gc, pz_wl_ga, pz_wl_gn, pz_wl_gi, pz_wl_gr, pz_wl_same, pz_wl_X, pz_wr_gc, pz_wr_ga, pz_wr_gn, pz_wr_gi, pz_wr_gl, pz_wr_same, pz_wr_X]
        refine po_go ?_
        rw [dec1 m]
        refine pw_blk (mi := mz_20) (b := bz_20_58) rfl rfl ?_
        simp only [bz_20_58, pz_cut_t, pz_cut_f, pz_cut_n, pv_gt, pv_ts, pv_tn, ev_inc4n, ev_inc4i, ev_inc4r, ev_inc4e, ev_goto, pz_wi_gc, pz_wi_ga, pz_wi_gn, pz_wi_gl, pz_wi_gr, pz_wi_same, pz_wi_X, pz_wl_gc, pz_wl_ga, pz_wl_gn, pz_wl_gi, pz_wl_gr, pz_wl_same, pz_wl_X, pz_wr_gc, pz_wr_ga, pz_wr_gn, pz_wr_gi, pz_wr_gl, pz_wr_same, pz_wr_X, inc1]
        refine po_go ?_
        exact ih (b + 1) m (by omega) (by omega) (by omega) kf k
    · simp only [fri_f z] at kf k
      refine pw_blk (mi := mz_20) (b := bz_20_37) rfl rfl ?_
      simp only [bz_20_37, pz_cut_t, pz_cut_f, pz_cut_n, pv_gt, pv_ts, pv_tn, ev_ifne, pz_wi_gc, pz_wi_ga, pz_wi_gn, pz_wi_gl, pz_wi_gr, pz_wi_same, pz_wi_X, pz_wl_gc, pz_wl_ga, pz_wl_gn, pz_wl_gi, pz_wl_gr, pz_wl_same, pz_wl_X, pz_wr_gc, pz_wr_ga, pz_wr_gn, pz_wr_gi, pz_wr_gl, pz_wr_same, pz_wr_X]
      refine po_brP (fun q => absurd q (by decide)) (fun _ => ?_)
      refine pw_blk (mi := mz_20) (b := bz_20_40) rfl rfl ?_
      simp only [bz_20_40, pz_cut_t, pz_cut_f, pz_cut_n, pv_gt, pv_ts, pv_tn, ev_goto, pz_wi_gc, pz_wi_ga, pz_wi_gn, pz_wi_gl, pz_wi_gr, pz_wi_same, pz_wi_X, pz_wl_gc, pz_wl_ga, pz_wl_gn, pz_wl_gi, pz_wl_gr, pz_wl_same, pz_wl_X, pz_wr_gc, pz_wr_ga, pz_wr_gn, pz_wr_gi, pz_wr_gl, pz_wr_same, pz_wr_X]
      refine po_go ?_
      refine pw_blk (mi := mz_20) (b := bz_20_58) rfl rfl ?_
      simp only [bz_20_58, pz_cut_t, pz_cut_f, pz_cut_n, pv_gt, pv_ts, pv_tn, ev_inc4n, ev_inc4i, ev_inc4r, ev_inc4e, ev_goto, pz_wi_gc, pz_wi_ga, pz_wi_gn, pz_wi_gl, pz_wi_gr, pz_wi_same, pz_wi_X, pz_wl_gc, pz_wl_ga, pz_wl_gn, pz_wl_gi, pz_wl_gr, pz_wl_same, pz_wl_X, pz_wr_gc, pz_wr_ga, pz_wr_gn, pz_wr_gi, pz_wr_gl, pz_wr_same, pz_wr_X, inc1]
      refine po_go ?_
      exact ih (b + 1) m (by omega) (by omega) hm kf k
theorem l_rforkO (hd : 3 ≤ d) (hS : SH M) (hO : okB M) {B : Nat} (hn : nb M = nI B) (hB : B ≤ 24) : ∀ (c a m : Nat), a + c = B → m < 2 ^ 31 → Q (some (.int (fro (isFk (rlk M) B) B c a m)), M) → pw d 20 (4, [some (.ref 120), none, some (.int (nI m)), some (.int (nI a)), none], [], M) Q := by
  intro c
  induction c with
  | zero =>
    intro a m ha hm h
    have ha' : a = B := by omega
    subst ha'
    refine pw_blk (mi := mz_20) (b := bz_20_4) rfl rfl ?_
    simp only [bz_20_4, pz_cut_t, pz_cut_f, pz_cut_n, pv_gt, pv_ts, pv_tn, ev_ild3, ev_ald0, ev_eld0, ev_cv0_11, pz_wi_gc, pz_wi_ga, pz_wi_gn, pz_wi_gl, pz_wi_gr, pz_wi_same, pz_wi_X, pz_wl_gc, pz_wl_ga, pz_wl_gn, pz_wl_gi, pz_wl_gr, pz_wl_same, pz_wl_X, pz_wr_gc, pz_wr_ga, pz_wr_gn, pz_wr_gi, pz_wr_gl, pz_wr_same, pz_wr_X, so_120 hS, ev_cv0_11]
    refine po_gP (Nat.le_of_ble_eq_true rfl) (po_call (by omega) (r_many hS hO ?_))
    refine pw_blk (mi := mz_20) (b := bz_20_9) rfl rfl ?_
    simp only [bz_20_9, pz_cut_t, pz_cut_f, pz_cut_n, pv_gt, pv_ts, pv_tn, ev_ic_ge, pz_wi_gc, pz_wi_ga, pz_wi_gn, pz_wi_gl, pz_wi_gr, pz_wi_same, pz_wi_X, pz_wl_gc, pz_wl_ga, pz_wl_gn, pz_wl_gi, pz_wl_gr, pz_wl_same, pz_wl_X, pz_wr_gc, pz_wr_ga, pz_wr_gn, pz_wr_gi, pz_wr_gl, pz_wr_same, pz_wr_X, hn]
    refine po_brP (fun _ => ?_) (fun q => absurd (nI_le (Nat.le_refl _) (by omega)) q)
    refine pw_blk (mi := mz_20) (b := bz_20_70) rfl rfl ?_
    simp only [bz_20_70, pz_cut_t, pz_cut_f, pz_cut_n, pv_gt, pv_ts, pv_tn, ev_icm1, ev_iret0, pz_wi_gc, pz_wi_ga, pz_wi_gn, pz_wi_gl, pz_wi_gr, pz_wi_same, pz_wi_X, pz_wl_gc, pz_wl_ga, pz_wl_gn, pz_wl_gi, pz_wl_gr, pz_wl_same, pz_wl_X, pz_wr_gc, pz_wr_ga, pz_wr_gn, pz_wr_gi, pz_wr_gl, pz_wr_same, pz_wr_X]
    exact h
  | succ c ih =>
    intro a m ha hm h
    refine pw_blk (mi := mz_20) (b := bz_20_4) rfl rfl ?_
    simp only [bz_20_4, pz_cut_t, pz_cut_f, pz_cut_n, pv_gt, pv_ts, pv_tn, ev_ild3, ev_ald0, ev_eld0, ev_cv0_11, pz_wi_gc, pz_wi_ga, pz_wi_gn, pz_wi_gl, pz_wi_gr, pz_wi_same, pz_wi_X, pz_wl_gc, pz_wl_ga, pz_wl_gn, pz_wl_gi, pz_wl_gr, pz_wl_same, pz_wl_X, pz_wr_gc, pz_wr_ga, pz_wr_gn, pz_wr_gi, pz_wr_gl, pz_wr_same, pz_wr_X, so_120 hS, ev_cv0_11]
    refine po_gP (Nat.le_of_ble_eq_true rfl) (po_call (by omega) (r_many hS hO ?_))
    refine pw_blk (mi := mz_20) (b := bz_20_9) rfl rfl ?_
    simp only [bz_20_9, pz_cut_t, pz_cut_f, pz_cut_n, pv_gt, pv_ts, pv_tn, ev_ic_ge, pz_wi_gc, pz_wi_ga, pz_wi_gn, pz_wi_gl, pz_wi_gr, pz_wi_same, pz_wi_X, pz_wl_gc, pz_wl_ga, pz_wl_gn, pz_wl_gi, pz_wl_gr, pz_wl_same, pz_wl_X, pz_wr_gc, pz_wr_ga, pz_wr_gn, pz_wr_gi, pz_wr_gl, pz_wr_same, pz_wr_X, hn]
    refine po_brP (fun q => absurd q (nI_ge (by omega) (by omega))) (fun _ => ?_)
    refine pw_blk (mi := mz_20) (b := bz_20_12) rfl rfl ?_
    simp only [bz_20_12, pz_cut_t, pz_cut_f, pz_cut_n, pv_gt, pv_ts, pv_tn, ev_ild2, ev_iflt, pz_wi_gc, pz_wi_ga, pz_wi_gn, pz_wi_gl, pz_wi_gr, pz_wi_same, pz_wi_X, pz_wl_gc, pz_wl_ga, pz_wl_gn, pz_wl_gi, pz_wl_gr, pz_wl_same, pz_wl_X, pz_wr_gc, pz_wr_ga, pz_wr_gn, pz_wr_gi, pz_wr_gl, pz_wr_same, pz_wr_X]
    refine po_brP (fun q => absurd q (nI_pos hm)) (fun _ => ?_)
    refine pw_blk (mi := mz_20) (b := bz_20_16) rfl rfl ?_
    simp only [bz_20_16, pz_cut_t, pz_cut_f, pz_cut_n, pv_gt, pv_ts, pv_tn, ev_ild3, ev_ic1, ev_iadd, ev_ist4n, ev_ist4i, ev_ist4r, ev_ist4e, ev_ist4l, ev_nil, pz_wi_gc, pz_wi_ga, pz_wi_gn, pz_wi_gl, pz_wi_gr, pz_wi_same, pz_wi_X, pz_wl_gc, pz_wl_ga, pz_wl_gn, pz_wl_gi, pz_wl_gr, pz_wl_same, pz_wl_X, pz_wr_gc, pz_wr_ga, pz_wr_gn, pz_wr_gi, pz_wr_gl, pz_wr_same, pz_wr_X, nI_1]
    refine po_go ?_
    refine l_rforkI hd hS hO hn hB (B - (a + 1)) (a + 1) m (by omega) (by omega) hm (fun r z => ?_) (fun m' z => ?_)
    · rw [fro, z] at h
      exact h
    · have hle := fri_le _ _ _ _ z
      rw [fro, z] at h
      refine pw_blk (mi := mz_20) (b := bz_20_64) rfl rfl ?_
      simp only [bz_20_64, pz_cut_t, pz_cut_f, pz_cut_n, pv_gt, pv_ts, pv_tn, ev_inc3n, ev_inc3i, ev_inc3r, ev_inc3e, ev_goto, pz_wi_gc, pz_wi_ga, pz_wi_gn, pz_wi_gl, pz_wi_gr, pz_wi_same, pz_wi_X, pz_wl_gc, pz_wl_ga, pz_wl_gn, pz_wl_gi, pz_wl_gr, pz_wl_same, pz_wl_X, pz_wr_gc, pz_wr_ga, pz_wr_gn, pz_wr_gi, pz_wr_gl, pz_wr_same, pz_wr_X, inc1]
      refine po_go ?_
      exact ih (a + 1) m' (by omega) (by omega) h
theorem r_fork (hd : 3 ≤ d) (hS : SH M) (hO : okB M) {B : Nat} (hn : nb M = nI B) (hB : B ≤ 24) {x : Int32} (h0 : x < 0 → Q (some (.int (-1)), M)) (h : ∀ m, m < 2 ^ 31 → x = nI m → Q (some (.int (fro (isFk (rlk M) B) B B 0 m)), M)) : pm d 20 [.ref 120, .int x] M Q := by
  refine pm_ent (L := [some (.ref 120), some (.int x), none, none, none]) rfl (Nat.le_of_ble_eq_true rfl) ?_
  refine pw_blk (mi := mz_20) (b := bz_20_0) rfl rfl ?_
  simp only [bz_20_0, pz_cut_t, pz_cut_f, pz_cut_n, pv_gt, pv_ts, pv_tn, ev_ild1, ev_ist2n, ev_ist2i, ev_ist2r, ev_ist2e, ev_ist2l, ev_ic0, ev_ist3n, ev_ist3i, ev_ist3r, ev_ist3e, ev_ist3l, ev_nil, pz_wi_gc, pz_wi_ga, pz_wi_gn, pz_wi_gl, pz_wi_gr, pz_wi_same, pz_wi_X, pz_wl_gc, pz_wl_ga, pz_wl_gn, pz_wl_gi, pz_wl_gr, pz_wl_same, pz_wl_X, pz_wr_gc, pz_wr_ga, pz_wr_gn, pz_wr_gi, pz_wr_gl, pz_wr_same, pz_wr_X]
  refine po_go ?_
  by_cases q : x < 0
  · refine pw_blk (mi := mz_20) (b := bz_20_4) rfl rfl ?_
    simp only [bz_20_4, pz_cut_t, pz_cut_f, pz_cut_n, pv_gt, pv_ts, pv_tn, ev_ild3, ev_ald0, ev_eld0, ev_cv0_11, pz_wi_gc, pz_wi_ga, pz_wi_gn, pz_wi_gl, pz_wi_gr, pz_wi_same, pz_wi_X, pz_wl_gc, pz_wl_ga, pz_wl_gn, pz_wl_gi, pz_wl_gr, pz_wl_same, pz_wl_X, pz_wr_gc, pz_wr_ga, pz_wr_gn, pz_wr_gi, pz_wr_gl, pz_wr_same, pz_wr_X, so_120 hS, ev_cv0_11]
    refine po_gP (Nat.le_of_ble_eq_true rfl) (po_call (by omega) (r_many hS hO ?_))
    refine pw_blk (mi := mz_20) (b := bz_20_9) rfl rfl ?_
    simp only [bz_20_9, pz_cut_t, pz_cut_f, pz_cut_n, pv_gt, pv_ts, pv_tn, ev_ic_ge, pz_wi_gc, pz_wi_ga, pz_wi_gn, pz_wi_gl, pz_wi_gr, pz_wi_same, pz_wi_X, pz_wl_gc, pz_wl_ga, pz_wl_gn, pz_wl_gi, pz_wl_gr, pz_wl_same, pz_wl_X, pz_wr_gc, pz_wr_ga, pz_wr_gn, pz_wr_gi, pz_wr_gl, pz_wr_same, pz_wr_X, hn]
    refine po_brP (fun _ => ?_) (fun _ => ?_)
    · refine pw_blk (mi := mz_20) (b := bz_20_70) rfl rfl ?_
      simp only [bz_20_70, pz_cut_t, pz_cut_f, pz_cut_n, pv_gt, pv_ts, pv_tn, ev_icm1, ev_iret0, pz_wi_gc, pz_wi_ga, pz_wi_gn, pz_wi_gl, pz_wi_gr, pz_wi_same, pz_wi_X, pz_wl_gc, pz_wl_ga, pz_wl_gn, pz_wl_gi, pz_wl_gr, pz_wl_same, pz_wl_X, pz_wr_gc, pz_wr_ga, pz_wr_gn, pz_wr_gi, pz_wr_gl, pz_wr_same, pz_wr_X]
      exact h0 q
    · refine pw_blk (mi := mz_20) (b := bz_20_12) rfl rfl ?_
      simp only [bz_20_12, pz_cut_t, pz_cut_f, pz_cut_n, pv_gt, pv_ts, pv_tn, ev_ild2, ev_iflt, pz_wi_gc, pz_wi_ga, pz_wi_gn, pz_wi_gl, pz_wi_gr, pz_wi_same, pz_wi_X, pz_wl_gc, pz_wl_ga, pz_wl_gn, pz_wl_gi, pz_wl_gr, pz_wl_same, pz_wl_X, pz_wr_gc, pz_wr_ga, pz_wr_gn, pz_wr_gi, pz_wr_gl, pz_wr_same, pz_wr_X]
      refine po_brP (fun _ => ?_) (fun q2 => absurd q q2)
      refine pw_blk (mi := mz_20) (b := bz_20_70) rfl rfl ?_
      simp only [bz_20_70, pz_cut_t, pz_cut_f, pz_cut_n, pv_gt, pv_ts, pv_tn, ev_icm1, ev_iret0, pz_wi_gc, pz_wi_ga, pz_wi_gn, pz_wi_gl, pz_wi_gr, pz_wi_same, pz_wi_X, pz_wl_gc, pz_wl_ga, pz_wl_gn, pz_wl_gi, pz_wl_gr, pz_wl_same, pz_wl_X, pz_wr_gc, pz_wr_ga, pz_wr_gn, pz_wr_gi, pz_wr_gl, pz_wr_same, pz_wr_X]
      exact h0 q
  · obtain ⟨m, hm, e⟩ := nI_of q
    have k' := l_rforkO hd hS hO hn hB B 0 m (by omega) hm (h m hm e)
    rw [← e] at k'
    exact pw_cut (mi := mz_20) (b := bz_20_4) rfl rfl (k') rfl
theorem fri_cong {p p' : Nat → Bool} : ∀ (c b m : Nat), (∀ i, b ≤ i → i < b + c → p i = p' i) → fri p c b m = fri p' c b m
  | 0, _, _, _ => rfl
  | c + 1, b, m, h => by
    rw [fri, fri, h b (Nat.le_refl _) (by omega), fri_cong c (b + 1) m (fun i h1 h2 => h i (by omega) (by omega)), fri_cong c (b + 1) (m - 1) (fun i h1 h2 => h i (by omega) (by omega))]
theorem fro_cong {p p' : Nat → Nat → Bool} {B : Nat} : ∀ (c a m : Nat), a + c = B → (∀ i j, i < j → j < B → p i j = p' i j) → fro p B c a m = fro p' B c a m
  | 0, _, _, _, _ => rfl
  | c + 1, a, m, ha, h => by
    rw [fro, fro, fri_cong (B - (a + 1)) (a + 1) m (fun i h1 h2 => h a i (by omega) (by omega))]
    cases fri (p' a) (B - (a + 1)) (a + 1) m with
    | inl b => rfl
    | inr m' => exact fro_cong c (a + 1) m' (by omega) h
theorem op_fork (hd : 3 ≤ d) (hS : SH M) (hO : okB M) (hR : Rlk M) {x : Int32} : pm d 19 [.ref 0, .int x] M (fun r1 => pm d 20 [.ref 120, .int x] r1.2 (fun r2 => r1.1 = r2.1 ∧ r2.2 = M)) := by
  obtain ⟨B, hB, h1, h2, h3⟩ := hR
  refine m_fork (by omega) hS h1 hB (fun z => ?_) (fun m hm e => ?_)
  · exact r_fork hd hS hO h2 hB (fun _ => ⟨rfl, rfl⟩) (fun m hm e => absurd z (by rw [e]; exact nI_pos hm))
  · refine r_fork hd hS hO h2 hB (fun z => absurd z (by rw [e]; exact nI_pos hm)) (fun m' hm' e' => ⟨?_, rfl⟩)
    have em : m = m' := (nI_eq hm hm').mp (by rw [← e, ← e'])
    subst em
    rw [fro_cong B 0 m (by omega) (fun i j hij hj => isFk_cong h3 hij hj)]
end FORK
