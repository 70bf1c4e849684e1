/-! ===== tell ===== -/
section TELL
variable {d : Nat} {M M' : pz_M} {Q : Option Value × pz_M → Prop}
theorem m_tellD (hS : SH M) {N : Nat} {b k t : Int32} (hN : N ≤ 40) (hn : gi M 81 5 = nI N) (h1 : N < 40 → ∀ M', sm [81, 82, 83, 84, 85, 86] M M' → gi M' 81 = va_up (gi M 81) 5 (nI (N + 1)) → gi M' 82 = va_up (gi M 82) N b → gi M' 83 = va_up (gi M 83) N k → gi M' 84 = va_up (gi M 84) N 1 → gi M' 85 = va_up (gi M 85) N t → gi M' 86 = va_up (gi M 86) N (-1) → Q (some (.int (nI N)), M')) (h0 : N = 40 → Q (some (.int (-1)), M)) : pm d 155 [.ref 81, .int b, .int k, .int 1, .int t] M Q := by
  refine pm_ent (L := [some (.ref 81), some (.int b), some (.int k), some (.int 1), some (.int t)]) rfl (Nat.le_of_ble_eq_true rfl) ?_
  refine pw_blk (mi := mz_155) (b := bz_155_0) rfl rfl ?_
  simp only [bz_155_0, pz_cut_t, pz_cut_f, pz_cut_n, pv_gt, pv_ts, pv_tn, ev_ald0, ev_eld0, ev_gf2_0, ev_bp40, ev_ic_lt, pz_wi_gc, pz_wi_ga, pz_wi_gn, pz_wi_gl, pz_wi_gr, pz_wi_same, pz_wi_X, pz_wl_gc, pz_wl_ga, pz_wl_gn, pz_wl_gi, pz_wl_gr, pz_wl_same, pz_wl_X, pz_wr_gc, pz_wr_ga, pz_wr_gn, pz_wr_gi, pz_wr_gl, pz_wr_same, pz_wr_X, so_81 hS, hn]
  refine po_brP (fun q => ?_) (fun q => ?_)
  · have hl : N < 40 := (nI_ltI (b := 40) (by omega) (by decide)).mp q
    have hbn : (nI N).toNatClampNeg = N := nI_clamp (by omega)
    have x2 : ∀ (M : pz_M) r, gi (pz_wi M 82 r) 81 = gi M 81 := fun _ _ => pz_wi_else (by decide)
    have x3 : ∀ (M : pz_M) r, gi (pz_wi M 83 r) 81 = gi M 81 := fun _ _ => pz_wi_else (by decide)
    have x4 : ∀ (M : pz_M) r, gi (pz_wi M 84 r) 81 = gi M 81 := fun _ _ => pz_wi_else (by decide)
    have x5 : ∀ (M : pz_M) r, gi (pz_wi M 85 r) 81 = gi M 81 := fun _ _ => pz_wi_else (by decide)
    have x6 : ∀ (M : pz_M) r, gi (pz_wi M 86 r) 81 = gi M 81 := fun _ _ => pz_wi_else (by decide)
    refine pw_blk (mi := mz_155) (b := bz_155_11) rfl rfl ?_
    simp only [bz_155_11, pz_cut_t, pz_cut_f, pz_cut_n, pv_gt, pv_ts, pv_tn, ev_ald0, ev_eld0, ev_gf2_2, ev_gf2_0, ev_ild1, ea_iast, ev_ild2, ev_ild3, ea_bast, ea_zast, ev_ild4, ev_icm1, ev_dupi, ev_dupr, ev_dupe, ev_ic1, ev_iadd, ev_pf2_0, ev_isub, ev_iret0, pz_wi_gc, pz_wi_ga, pz_wi_gn, pz_wi_gl, pz_wi_gr, pz_wi_same, pz_wi_X, pz_wl_gc, pz_wl_ga, pz_wl_gn, pz_wl_gi, pz_wl_gr, pz_wl_same, pz_wl_X, pz_wr_gc, pz_wr_ga, pz_wr_gn, pz_wr_gi, pz_wr_gl, pz_wr_same, pz_wr_X, so_81 hS, sr_81_0 hS, sa_82 hS, sn_82 hS, sr_81_1 hS, sa_83 hS, sn_83 hS, sr_81_2 hS, sa_84 hS, sn_84 hS, sr_81_3 hS, sa_85 hS, sn_85 hS, sr_81_4 hS, sa_86 hS, sn_86 hS, hn, hbn, x2, x3, x4, x5, x6]
    trace_state
    sorry
  · refine pw_blk (mi := mz_155) (b := bz_155_9) rfl rfl ?_
    simp only [bz_155_9, pz_cut_t, pz_cut_f, pz_cut_n, pv_gt, pv_ts, pv_tn, ev_icm1, ev_iret0, pz_wi_gc, pz_wi_ga, pz_wi_gn, pz_wi_gl, pz_wi_gr, pz_wi_same, pz_wi_X, pz_wl_gc, pz_wl_ga, pz_wl_gn, pz_wl_gi, pz_wl_gr, pz_wl_same, pz_wl_X, pz_wr_gc, pz_wr_ga, pz_wr_gn, pz_wr_gi, pz_wr_gl, pz_wr_same, pz_wr_X]
    exact h0 (by
      have := mt (nI_ltI (a := N) (b := 40) (by omega) (by decide)).mpr q
      omega)
end TELL
