/-! ===== ByHeart$Mind ===== -/
def f_grown (x y : Int32) : Int32 := x + (1000 - x) * y / 1000
/-- o is a Mind of the memory -/
def isMind (M : pz_M) (o : Nat) : Prop := gc M o = some 3 ∧ (gr M o 0 = .ref (o + 1) ∧ gr M o 1 = .ref (o + 2) ∧ gr M o 2 = .ref (o + 3) ∧ gr M o 3 = .ref (o + 4)) ∧ (ga M (o + 1) = some 0 ∧ ga M (o + 2) = some 0 ∧ ga M (o + 3) = some 0 ∧ ga M (o + 4) = some 0) ∧ (gn M (o + 1) = 24 ∧ gn M (o + 2) = 24 ∧ gn M (o + 3) = 24 ∧ gn M (o + 4) = 24)
section MIND
variable {d : Nat} {M : pz_M} {Q : Option Value × pz_M → Prop}
theorem m_grown {x y : Int32} (h : Q (some (.int (f_grown x y)), M)) : pm d 205 [.int x, .int y] M Q := by
  refine pm_ent (L := [some (.int x), some (.int y)]) rfl (Nat.le_of_ble_eq_true rfl) ?_
  refine pw_blk (mi := mz_205) (b := bz_205_0) rfl rfl ?_
  simp only [bz_205_0, pz_cut_t, pz_cut_f, pz_cut_n, pv_gt, pv_ts, pv_tn, ev_ild0, ev_sp1000, ev_isub, ev_ild1, ev_imul, ev_idiv, ev_iadd, ev_iret0, pz_wi_gc, pz_wi_ga, pz_wi_gn, pz_wi_gl, pz_wi_gr, pz_wi_same, pz_wi_X, pz_wl_gc, pz_wl_ga, pz_wl_gn, pz_wl_gi, pz_wl_gr, pz_wl_same, pz_wl_X, pz_wr_gc, pz_wr_ga, pz_wr_gn, pz_wr_gi, pz_wr_gl, pz_wr_same, pz_wr_X]
  refine po_gP (by decide) ?_
  exact h
/-- growHold: the bar's hold grows; learnt if it was not -/
def f_growHold (M : pz_M) (o b : Nat) (g : Int32) : pz_M :=
  if 0 < f_grown (gi M (o + 1) b) g ∧ gi M (o + 4) b = -1 then pz_wi (pz_wi M (o + 1) (va_up (gi M (o + 1)) b (f_grown (gi M (o + 1) b) g))) (o + 4) (va_up (gi M (o + 4)) b (gi M o 6)) else pz_wi M (o + 1) (va_up (gi M (o + 1)) b (f_grown (gi M (o + 1) b) g))
theorem m_growHold (hd : 1 ≤ d) {o b : Nat} {g : Int32} (hM : isMind M o) (hb : b < 24) (h : Q (none, f_growHold M o b g)) : pm d 206 [.ref o, .int (nI b), .int g] M Q := by
  obtain ⟨c1, ⟨r0, r1, r2, r3⟩, ⟨a1, a2, a3, a4⟩, ⟨n1, n2, n3, n4⟩⟩ := hM
  have hbn : (nI b).toNatClampNeg = b := nI_clamp (by omega)
  have hin : pz_in (nI b) 24 = true := pz_in_nI hb (by decide)
  have e14 : gi (pz_wi M (o + 1) (va_up (gi M (o + 1)) b (f_grown (gi M (o + 1) b) g))) (o + 4) = gi M (o + 4) := pz_wi_else (by omega)
  have e10 : gi (pz_wi M (o + 1) (va_up (gi M (o + 1)) b (f_grown (gi M (o + 1) b) g))) o = gi M o := pz_wi_else (by omega)
  refine pm_ent (L := [some (.ref o), some (.int (nI b)), some (.int g)]) rfl (Nat.le_of_ble_eq_true rfl) ?_
  refine pw_blk (mi := mz_206) (b := bz_206_0) rfl rfl ?_
  simp only [bz_206_0, pz_cut_t, pz_cut_f, pz_cut_n, pv_gt, pv_ts, pv_tn, ev_ald0, ev_eld0, ev_gf3_2, ev_ild1, ea_iald, ev_ild2, ev_cs2, pz_wi_gc, pz_wi_ga, pz_wi_gn, pz_wi_gl, pz_wi_gr, pz_wi_same, pz_wi_X, pz_wl_gc, pz_wl_ga, pz_wl_gn, pz_wl_gi, pz_wl_gr, pz_wl_same, pz_wl_X, pz_wr_gc, pz_wr_ga, pz_wr_gn, pz_wr_gi, pz_wr_gl, pz_wr_same, pz_wr_X, c1, r0, a1, n1, hin, hbn]
  refine po_gP (Nat.le_of_ble_eq_true rfl) ?_
  refine po_call hd (m_grown ?_)
  refine pw_blk (mi := mz_206) (b := bz_206_15) rfl rfl ?_
  simp only [bz_206_15, pz_cut_t, pz_cut_f, pz_cut_n, pv_gt, pv_ts, pv_tn, ea_iast, ev_ald0, ev_eld0, ev_gf3_2, ev_ild1, ea_iald, ev_ifle, pz_wi_gc, pz_wi_ga, pz_wi_gn, pz_wi_gl, pz_wi_gr, pz_wi_same, pz_wi_X, pz_wl_gc, pz_wl_ga, pz_wl_gn, pz_wl_gi, pz_wl_gr, pz_wl_same, pz_wl_X, pz_wr_gc, pz_wr_ga, pz_wr_gn, pz_wr_gi, pz_wr_gl, pz_wr_same, pz_wr_X, c1, r0, a1, n1, hin, hbn, pz_up_eq]
  refine po_brP (fun q => ?_) (fun q => ?_)
  · refine pw_blk (mi := mz_206) (b := bz_206_45) rfl rfl ?_
    simp only [bz_206_45, pz_cut_t, pz_cut_f, pz_cut_n, pv_gt, pv_ts, pv_tn, ev_ret, pz_wi_gc, pz_wi_ga, pz_wi_gn, pz_wi_gl, pz_wi_gr, pz_wi_same, pz_wi_X, pz_wl_gc, pz_wl_ga, pz_wl_gn, pz_wl_gi, pz_wl_gr, pz_wl_same, pz_wl_X, pz_wr_gc, pz_wr_ga, pz_wr_gn, pz_wr_gi, pz_wr_gl, pz_wr_same, pz_wr_X]
    refine po_ret ?_
    rw [f_growHold, if_neg (fun z => Int32.not_lt.mpr q z.1)] at h
    exact h
  · refine pw_blk (mi := mz_206) (b := bz_206_25) rfl rfl ?_
    simp only [bz_206_25, pz_cut_t, pz_cut_f, pz_cut_n, pv_gt, pv_ts, pv_tn, ev_ald0, ev_eld0, ev_gf3_2, ev_ild1, ea_iald, ev_icm1, ev_ic_ne, pz_wi_gc, pz_wi_ga, pz_wi_gn, pz_wi_gl, pz_wi_gr, pz_wi_same, pz_wi_X, pz_wl_gc, pz_wl_ga, pz_wl_gn, pz_wl_gi, pz_wl_gr, pz_wl_same, pz_wl_X, pz_wr_gc, pz_wr_ga, pz_wr_gn, pz_wr_gi, pz_wr_gl, pz_wr_same, pz_wr_X, c1, r3, a4, n4, hin, hbn, e14]
    refine po_brP (fun q2 => ?_) (fun q2 => ?_)
    · refine pw_blk (mi := mz_206) (b := bz_206_45) rfl rfl ?_
      simp only [bz_206_45, pz_cut_t, pz_cut_f, pz_cut_n, pv_gt, pv_ts, pv_tn, ev_ret, pz_wi_gc, pz_wi_ga, pz_wi_gn, pz_wi_gl, pz_wi_gr, pz_wi_same, pz_wi_X, pz_wl_gc, pz_wl_ga, pz_wl_gn, pz_wl_gi, pz_wl_gr, pz_wl_same, pz_wl_X, pz_wr_gc, pz_wr_ga, pz_wr_gn, pz_wr_gi, pz_wr_gl, pz_wr_same, pz_wr_X]
      refine po_ret ?_
      rw [f_growHold, if_neg (fun z => q2 z.2)] at h
      exact h
    · refine pw_blk (mi := mz_206) (b := bz_206_35) rfl rfl ?_
      simp only [bz_206_35, pz_cut_t, pz_cut_f, pz_cut_n, pv_gt, pv_ts, pv_tn, ev_ald0, ev_eld0, ev_gf3_2, ev_ild1, ev_gf3_0, ea_iast, ev_nil, pz_wi_gc, pz_wi_ga, pz_wi_gn, pz_wi_gl, pz_wi_gr, pz_wi_same, pz_wi_X, pz_wl_gc, pz_wl_ga, pz_wl_gn, pz_wl_gi, pz_wl_gr, pz_wl_same, pz_wl_X, pz_wr_gc, pz_wr_ga, pz_wr_gn, pz_wr_gi, pz_wr_gl, pz_wr_same, pz_wr_X, c1, r3, a4, n4, hin, hbn, e14, e10]
      refine pw_blk (mi := mz_206) (b := bz_206_45) rfl rfl ?_
      simp only [bz_206_45, pz_cut_t, pz_cut_f, pz_cut_n, pv_gt, pv_ts, pv_tn, ev_ret, pz_wi_gc, pz_wi_ga, pz_wi_gn, pz_wi_gl, pz_wi_gr, pz_wi_same, pz_wi_X, pz_wl_gc, pz_wl_ga, pz_wl_gn, pz_wl_gi, pz_wl_gr, pz_wl_same, pz_wl_X, pz_wr_gc, pz_wr_ga, pz_wr_gn, pz_wr_gi, pz_wr_gl, pz_wr_same, pz_wr_X]
      refine po_ret ?_
      rw [f_growHold, if_pos ⟨Int32.not_le.mp q, Decidable.not_not.mp q2⟩] at h
      exact h
end MIND
