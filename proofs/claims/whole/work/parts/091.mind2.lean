section MIND2
variable {d : Nat} {M : pz_M} {Q : Option Value × pz_M → Prop}
def f_fade (f x : Int32) : Int32 := x - x * f / 1000
theorem l_faded {n : Nat} (hn : n < 2 ^ 31) {f : Int32} : ∀ (k i : Nat) (x : Int32), i + k = n → Q (some (.int (it (f_fade f) k x)), M) → pw d 171 (5, [none, some (.int (nI n)), some (.int f), some (.int x), some (.int (nI i)), none], [], M) Q := by
  intro k
  induction k with
  | zero =>
    intro i x hi h
    have hi' : i = n := by omega
    subst hi'
    refine pw_blk (mi := mz_171) (b := bz_171_5) rfl rfl ?_
    simp only [bz_171_5, pz_cut_t, pz_cut_f, pz_cut_n, pv_gt, pv_ts, pv_tn, ev_ild4, ev_ild1, ev_ic_ge, pz_wi_gc, pz_wi_ga, pz_wi_gn, pz_wi_gl, pz_wi_gr, pz_wi_same, pz_wi_X, pz_wl_gc, pz_wl_ga, pz_wl_gn, pz_wl_gi, pz_wl_gr, pz_wl_same, pz_wl_X, pz_wr_gc, pz_wr_ga, pz_wr_gn, pz_wr_gi, pz_wr_gl, pz_wr_same, pz_wr_X]
    refine po_brP (fun _ => ?_) (fun q => absurd (nI_le (Nat.le_refl _) hn) q)
    refine pw_blk (mi := mz_171) (b := bz_171_38) rfl rfl ?_
    simp only [bz_171_38, pz_cut_t, pz_cut_f, pz_cut_n, pv_gt, pv_ts, pv_tn, ev_ild3, ev_iret0, pz_wi_gc, pz_wi_ga, pz_wi_gn, pz_wi_gl, pz_wi_gr, pz_wi_same, pz_wi_X, pz_wl_gc, pz_wl_ga, pz_wl_gn, pz_wl_gi, pz_wl_gr, pz_wl_same, pz_wl_X, pz_wr_gc, pz_wr_ga, pz_wr_gn, pz_wr_gi, pz_wr_gl, pz_wr_same, pz_wr_X]
    exact h
  | succ k ih =>
    intro i x hi h
    refine pw_blk (mi := mz_171) (b := bz_171_5) rfl rfl ?_
    simp only [bz_171_5, pz_cut_t, pz_cut_f, pz_cut_n, pv_gt, pv_ts, pv_tn, ev_ild4, ev_ild1, ev_ic_ge, pz_wi_gc, pz_wi_ga, pz_wi_gn, pz_wi_gl, pz_wi_gr, pz_wi_same, pz_wi_X, pz_wl_gc, pz_wl_ga, pz_wl_gn, pz_wl_gi, pz_wl_gr, pz_wl_same, pz_wl_X, pz_wr_gc, pz_wr_ga, pz_wr_gn, pz_wr_gi, pz_wr_gl, pz_wr_same, pz_wr_X]
    refine po_brP (fun q => absurd q (nI_ge (by omega) hn)) (fun _ => ?_)
    refine pw_blk (mi := mz_171) (b := bz_171_11) rfl rfl ?_
    simp only [bz_171_11, pz_cut_t, pz_cut_f, pz_cut_n, pv_gt, pv_ts, pv_tn, ev_ild3, ev_ild2, ev_imul, ev_sp1000, ev_idiv, ev_ist5n, ev_ist5i, ev_ist5r, ev_ist5e, ev_ist5l, ev_ild5, ev_ifne, pz_wi_gc, pz_wi_ga, pz_wi_gn, pz_wi_gl, pz_wi_gr, pz_wi_same, pz_wi_X, pz_wl_gc, pz_wl_ga, pz_wl_gn, pz_wl_gi, pz_wl_gr, pz_wl_same, pz_wl_X, pz_wr_gc, pz_wr_ga, pz_wr_gn, pz_wr_gi, pz_wr_gl, pz_wr_same, pz_wr_X]
    refine po_gP (by decide) (po_brP (fun q => ?_) (fun q => ?_))
    · refine pw_blk (mi := mz_171) (b := bz_171_27) rfl rfl ?_
      simp only [bz_171_27, pz_cut_t, pz_cut_f, pz_cut_n, pv_gt, pv_ts, pv_tn, ev_ild3, ev_ild5, ev_isub, ev_ist3n, ev_ist3i, ev_ist3r, ev_ist3e, ev_ist3l, ev_inc4n, ev_inc4i, ev_inc4r, ev_inc4e, ev_goto, pz_wi_gc, pz_wi_ga, pz_wi_gn, pz_wi_gl, pz_wi_gr, pz_wi_same, pz_wi_X, pz_wl_gc, pz_wl_ga, pz_wl_gn, pz_wl_gi, pz_wl_gr, pz_wl_same, pz_wl_X, pz_wr_gc, pz_wr_ga, pz_wr_gn, pz_wr_gi, pz_wr_gl, pz_wr_same, pz_wr_X, inc1]
      refine po_go ?_
      exact pw_cut (mi := mz_171) (b := bz_171_5) rfl rfl (ih (i + 1) _ (by omega) h) rfl
    · refine pw_blk (mi := mz_171) (b := bz_171_25) rfl rfl ?_
      simp only [bz_171_25, pz_cut_t, pz_cut_f, pz_cut_n, pv_gt, pv_ts, pv_tn, ev_ild3, ev_iret0, pz_wi_gc, pz_wi_ga, pz_wi_gn, pz_wi_gl, pz_wi_gr, pz_wi_same, pz_wi_X, pz_wl_gc, pz_wl_ga, pz_wl_gn, pz_wl_gi, pz_wl_gr, pz_wl_same, pz_wl_X, pz_wr_gc, pz_wr_ga, pz_wr_gn, pz_wr_gi, pz_wr_gl, pz_wr_same, pz_wr_X]
      have hq : x * f / 1000 = 0 := Decidable.not_not.mp q
      have hx : f_fade f x = x := by
        unfold f_fade
        rw [hq]
        exact Int32.sub_zero x
      rw [it_fix hx] at h
      exact h
theorem m_faded {n : Nat} (hn : n < 2 ^ 31) {x f : Int32} (h : Q (some (.int (it (f_fade f) n x)), M)) : pm d 171 [.int x, .int (nI n), .int f] M Q := by
  refine pm_ent (L := [some (.int x), some (.int (nI n)), some (.int f), none, none, none]) rfl (Nat.le_of_ble_eq_true rfl) ?_
  refine pw_blk (mi := mz_171) (b := bz_171_0) rfl rfl ?_
  simp only [bz_171_0, pz_cut_t, pz_cut_f, pz_cut_n, pv_gt, pv_ts, pv_tn, ev_ild0, ev_ist3n, ev_ist3i, ev_ist3r, ev_ist3e, ev_ist3l, ev_ic0, ev_ist4n, ev_ist4i, ev_ist4r, ev_ist4e, ev_ist4l, ev_nil, pz_wi_gc, pz_wi_ga, pz_wi_gn, pz_wi_gl, pz_wi_gr, pz_wi_same, pz_wi_X, pz_wl_gc, pz_wl_ga, pz_wl_gn, pz_wl_gi, pz_wl_gr, pz_wl_same, pz_wl_X, pz_wr_gc, pz_wr_ga, pz_wr_gn, pz_wr_gi, pz_wr_gl, pz_wr_same, pz_wr_X]
  refine po_go ?_
  exact pw_cut (mi := mz_171) (b := bz_171_5) rfl rfl (l_faded hn n 0 x (by omega) h) rfl
theorem isMind.sm {K : List Nat} {M' : pz_M} {o : Nat} (h : isMind M o) (s : sm K M M') : isMind M' o := by
  unfold isMind
  rw [s.c, s.r, s.a, s.a, s.a, s.a, s.n, s.n, s.n, s.n]
  exact h
end MIND2
