/-! ===== the law's loop ===== -/
section LOP
variable {X : pz_X}
def TGL : List Nat := [212, 275, 298, 311, 334, 367, 400, 459, 492, 515, 528, 561, 584, 617, 650, 673, 696, 749, 812, 845, 868, 881, 904, 927, 940, 963, 1006, 1065, 1114, 1137, 1170, 1203, 1237, 1270, 1303, 1326, 1359, 1392, 1415, 1438, 1461, 1484]
theorem and63 (x : Int32) : ∃ k, k < 64 ∧ x &&& 63 = nI k := by
  refine ⟨(x.toBitVec &&& 63#32).toNat, ?_, ?_⟩
  · rw [BitVec.toNat_and]
    exact Nat.lt_succ_of_le Nat.and_le_right
  · apply Int32.toBitVec_inj.mp
    show x.toBitVec &&& 63#32 = BitVec.ofNat 32 _
    rw [BitVec.ofNat_toNat, BitVec.setWidth_eq]
theorem dsp0 : ∀ k, k < 64 → pz_swt 33 1451 0 40 #[179, 242, 265, 278, 301, 334, 367, 426, 459, 482, 495, 528, 551, 584, 617, 640, 663, 716, 779, 812, 835, 848, 871, 894, 907, 930, 973, 1032, 1081, 1104, 1137, 1170, 1204, 1237, 1270, 1293, 1326, 1359, 1382, 1405, 1428] (nI k) ∈ TGL := by decide +kernel
theorem dsp_all {P : Nat → Prop} (x : Int32) (h : ∀ t ∈ TGL, P t) : P (pz_swt 33 1451 0 40 #[179, 242, 265, 278, 301, 334, 367, 426, 459, 482, 495, 528, 551, 584, 617, 640, 663, 716, 779, 812, 835, 848, 871, 894, 907, 930, 973, 1032, 1081, 1104, 1137, 1170, 1204, 1237, 1270, 1293, 1326, 1359, 1382, 1405, 1428] (x &&& 63)) := by
  obtain ⟨k, hk, e⟩ := and63 x
  rw [e]
  exact h _ (dsp0 k hk)
theorem lp_c {i n : Nat} (hi : i ≤ n) (hn : n ≤ 3072) : (nI n - nI 6 < nI i) ↔ n < i + 6 := by
  rw [Int32.lt_iff_toInt_lt, pk_sub_toInt (by omega) (by omega), nI_toInt (by omega)]
  omega
def LQ (r : Option Value × pz_M) : Prop := r.1 = some (.int 1) ∧ r.2.2.1 = LAY
theorem lw_lp (hX7 : X.1 ≤ 3072) : ∀ (k i : Nat) (M : pz_M), X.1 ≤ i + k → i ≤ X.1 → INV X M → pw 1000 0 (18, [some (.retAddr 0), some (.ref 0), some (.ref 120), some (.int (nI i))], [], M) LQ := by
  intro k
  induction k using Nat.strongRecOn with
  | _ k ih =>
    intro i M hk hi h
    have he : pz_ex M.1 0 = some (0, X.1, X.2) := by rw [h.1]; rfl
    refine pw_blk (mi := mz_0) (b := bz_0_18) rfl rfl ?_
    simp only [bz_0_18, pz_cut_t, pz_cut_f, pz_cut_n, pv_gt, pv_ts, pv_tn, ev_ild3, ev_ald0, ev_eld0, ea_alen0, ea_alen1, ea_alen2, ea_alen3, ev_bp6, ev_isub, ev_ic_gt, pz_wi_gc, pz_wi_ga, pz_wi_gn, pz_wi_gl, pz_wi_gr, pz_wi_same, pz_wi_X, pz_wl_gc, pz_wl_ga, pz_wl_gn, pz_wl_gi, pz_wl_gr, pz_wl_same, pz_wl_X, pz_wr_gc, pz_wr_ga, pz_wr_gn, pz_wr_gi, pz_wr_gl, pz_wr_same, pz_wr_X, ea_alene he]
    refine po_brP (fun q => ?_) (fun q => ?_)
    · refine pw_blk (mi := mz_0) (b := bz_0_1490) rfl rfl ?_
      simp only [bz_0_1490, pz_cut_t, pz_cut_f, pz_cut_n, pv_gt, pv_ts, pv_tn, ev_ic1, ev_iret1, pz_wi_gc, pz_wi_ga, pz_wi_gn, pz_wi_gl, pz_wi_gr, pz_wi_same, pz_wi_X, pz_wl_gc, pz_wl_ga, pz_wl_gn, pz_wl_gi, pz_wl_gr, pz_wl_same, pz_wl_X, pz_wr_gc, pz_wr_ga, pz_wr_gn, pz_wr_gi, pz_wr_gl, pz_wr_same, pz_wr_X]
      have hq : LQ (some (.int 1), M) := ⟨rfl, h.2.1.S.1⟩
      first | exact po_ret hq | exact po_gP (by decide) (po_ret hq)
    · have h6 : i + 6 ≤ X.1 := by
        have q' := mt (lp_c hi hX7).mpr q
        omega
      have nx : ∀ M', INV X M' → pw 1000 0 (1484, [some (.retAddr 0), some (.ref 0), some (.ref 120), some (.int (nI i))], [], M') LQ := by
        intro M' h'
        refine pw_blk (mi := mz_0) (b := bz_0_1484) rfl rfl ?_
        simp only [bz_0_1484, pz_cut_t, pz_cut_f, pz_cut_n, pv_gt, pv_ts, pv_tn, ev_inc3n, ev_inc3i, ev_inc3r, ev_inc3e, ev_goto, pz_wi_gc, pz_wi_ga, pz_wi_gn, pz_wi_gl, pz_wi_gr, pz_wi_same, pz_wi_X, pz_wl_gc, pz_wl_ga, pz_wl_gn, pz_wl_gi, pz_wl_gr, pz_wl_same, pz_wl_X, pz_wr_gc, pz_wr_ga, pz_wr_gn, pz_wr_gi, pz_wr_gl, pz_wr_same, pz_wr_X]
        refine po_go ?_
        rw [nI_inc]
        exact ih (k - 6) (by omega) (i + 6) M' (by omega) h6 h'
      refine pw_blk (mi := mz_0) (b := bz_0_27) rfl rfl ?_
      simp only [bz_0_27, pz_cut_t, pz_cut_f, pz_cut_n, pv_gt, pv_ts, pv_tn, ev_ald0, ev_eld0, ev_ild3, ea_iald, ev_bp63, ev_iand, ev_tsw, pz_wi_gc, pz_wi_ga, pz_wi_gn, pz_wi_gl, pz_wi_gr, pz_wi_same, pz_wi_X, pz_wl_gc, pz_wl_ga, pz_wl_gn, pz_wl_gi, pz_wl_gr, pz_wl_same, pz_wl_X, pz_wr_gc, pz_wr_ga, pz_wr_gn, pz_wr_gi, pz_wr_gl, pz_wr_same, pz_wr_X, ea_ialde he]
      rw [nI_clamp (by omega)]
      refine po_gI (pz_in_nI (by omega) (by omega)) (po_go ?_)
      refine dsp_all (P := fun t => pw 1000 0 (t, [some (.retAddr 0), some (.ref 0), some (.ref 120), some (.int (nI i))], [], M) LQ) (X.2 i) (fun t ht => ?_)
      simp only [TGL, List.mem_cons, List.not_mem_nil, or_false] at ht
      rcases ht with rfl | rfl | rfl | rfl | rfl | rfl | rfl | rfl | rfl | rfl | rfl | rfl | rfl | rfl | rfl | rfl | rfl | rfl | rfl | rfl | rfl | rfl | rfl | rfl | rfl | rfl | rfl | rfl | rfl | rfl | rfl | rfl | rfl | rfl | rfl | rfl | rfl | rfl | rfl | rfl | rfl | rfl
      · exact cs_0 h6 hX7 h nx
      · exact cs_1 h6 hX7 h nx
      · exact cs_2 h6 hX7 h nx
      · exact cs_3 h6 hX7 h nx
      · exact cs_4 h6 hX7 h nx
      · exact cs_5 h6 hX7 h nx
      · exact cs_6 h6 hX7 h nx
      · exact cs_7 h6 hX7 h nx
      · exact cs_8 h6 hX7 h nx
      · exact cs_9 h6 hX7 h nx
      · exact cs_10 h6 hX7 h nx
      · exact cs_11 h6 hX7 h nx
      · exact cs_12 h6 hX7 h nx
      · exact cs_13 h6 hX7 h nx
      · exact cs_14 h6 hX7 h nx
      · exact cs_15 h6 hX7 h nx
      · exact cs_16 h6 hX7 h nx
      · exact cs_17 h6 hX7 h nx
      · exact cs_18 h6 hX7 h nx
      · exact cs_19 h6 hX7 h nx
      · exact cs_20 h6 hX7 h nx
      · exact cs_21 h6 hX7 h nx
      · exact cs_22 h6 hX7 h nx
      · exact cs_23 h6 hX7 h nx
      · exact cs_24 h6 hX7 h nx
      · exact cs_25 h6 hX7 h nx
      · exact cs_26 h6 hX7 h nx
      · exact cs_27 h6 hX7 h nx
      · exact cs_28 h6 hX7 h nx
      · exact cs_29 h6 hX7 h nx
      · exact cs_30 h6 hX7 h nx
      · exact cs_31 h6 hX7 h nx
      · exact cs_32 h6 hX7 h nx
      · exact cs_33 h6 hX7 h nx
      · exact cs_34 h6 hX7 h nx
      · exact cs_35 h6 hX7 h nx
      · exact cs_36 h6 hX7 h nx
      · exact cs_37 h6 hX7 h nx
      · exact cs_38 h6 hX7 h nx
      · exact cs_39 h6 hX7 h nx
      · exact cs_40 h6 hX7 h nx
      · exact nx M h
theorem ev_new {n f pc a b z : Nat} {es : List pz_E} {M : pz_M} {st : List Value} {L : pz_L} : pz_evB f ((pc, .new n, a, b, z) :: es) L st M = pz_evB f es L (.ref M.2.1.length :: st) (pz_nu M (.inl a)) := rfl
theorem lw_all (X : pz_X) (hX7 : X.1 ≤ 3072) : pw 1000 0 (0, [some (.retAddr 0), none, none, none], [], pz_M0 X) LQ := by
  obtain ⟨M1, M2, p1, l1, x1, p2, hL, x2, hz⟩ := ini_run X
  have g0 : gc (pz_nu (pz_M0 X) (.inl 0)) 0 = some 0 := rfl
  have n0 : (pz_M0 X).2.1.length = 0 := rfl
  refine pw_blk (mi := mz_0) (b := bz_0_0) rfl rfl ?_
  simp only [bz_0_0, pz_cut_t, pz_cut_f, pz_cut_n, pv_gt, pv_ts, pv_tn, ev_dupi, ev_dupr, ev_dupe, ev_cp0_0, pz_wi_gc, pz_wi_ga, pz_wi_gn, pz_wi_gl, pz_wi_gr, pz_wi_same, pz_wi_X, pz_wl_gc, pz_wl_ga, pz_wl_gn, pz_wl_gi, pz_wl_gr, pz_wl_same, pz_wl_X, pz_wr_gc, pz_wr_ga, pz_wr_gn, pz_wr_gi, pz_wr_gl, pz_wr_same, pz_wr_X, ev_new, n0, ev_cp0_0 g0]
  refine po_gP (Nat.le_of_ble_eq_true rfl) (po_call (by decide) (pm_mono p1 (fun r hr => ?_)))
  subst hr
  have n1 : M1.2.1.length = 120 := by rw [l1]; rfl
  have g1 : gc (pz_nu M1 (.inl 11)) 120 = some 11 := by
    have e : (pz_nu M1 (.inl 11)).2.1[120]? = some (.inl 11) := by
      show (M1.2.1 ++ [(.inl 11 : pz_D)])[120]? = some (.inl 11)
      rw [l1]
      rfl
    unfold gc
    rw [e]
  refine pw_blk (mi := mz_0) (b := bz_0_7) rfl rfl ?_
  simp only [bz_0_7, pz_cut_t, pz_cut_f, pz_cut_n, pv_gt, pv_ts, pv_tn, ev_ast1n, ev_ast1i, ev_ast1r, ev_ast1e, ev_ast1l, ev_est1n, ev_est1i, ev_est1r, ev_est1e, ev_est1l, ev_dupi, ev_dupr, ev_dupe, ev_cp0_11, pz_wi_gc, pz_wi_ga, pz_wi_gn, pz_wi_gl, pz_wi_gr, pz_wi_same, pz_wi_X, pz_wl_gc, pz_wl_ga, pz_wl_gn, pz_wl_gi, pz_wl_gr, pz_wl_same, pz_wl_X, pz_wr_gc, pz_wr_ga, pz_wr_gn, pz_wr_gi, pz_wr_gl, pz_wr_same, pz_wr_X, ev_new, n1, ev_cp0_11 g1]
  refine po_gP (Nat.le_of_ble_eq_true rfl) (po_call (by decide) (pm_mono p2 (fun r hr => ?_)))
  subst hr
  refine pw_blk (mi := mz_0) (b := bz_0_15) rfl rfl ?_
  simp only [bz_0_15, pz_cut_t, pz_cut_f, pz_cut_n, pv_gt, pv_ts, pv_tn, ev_ast2n, ev_ast2i, ev_ast2r, ev_ast2e, ev_ast2l, ev_est2n, ev_est2i, ev_est2r, ev_est2e, ev_est2l, ev_ic0, ev_ist3n, ev_ist3i, ev_ist3r, ev_ist3e, ev_ist3l, ev_nil, pz_wi_gc, pz_wi_ga, pz_wi_gn, pz_wi_gl, pz_wi_gr, pz_wi_same, pz_wi_X, pz_wl_gc, pz_wl_ga, pz_wl_gn, pz_wl_gi, pz_wl_gr, pz_wl_same, pz_wl_X, pz_wr_gc, pz_wr_ga, pz_wr_gn, pz_wr_gi, pz_wr_gl, pz_wr_same, pz_wr_X]
  refine po_go ?_
  exact lw_lp hX7 X.1 0 M2 (by omega) (by omega) ⟨x2, hL, hz⟩
theorem law_ok : pz_law := by
  intro X hX
  obtain ⟨n, r, h1, h2, h3⟩ := lw_all X hX
  obtain ⟨v, M⟩ := r
  simp only at h2 h3
  subst h2
  refine ⟨n, M, h1, ?_, ?_⟩
  · rw [h3]
    decide +kernel
  · rw [h3]
    decide +kernel
end LOP
