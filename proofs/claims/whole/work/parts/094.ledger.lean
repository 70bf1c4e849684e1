/-! ===== Arrays.fill, ByHeart$Ledger ===== -/
section LEDG
variable {d : Nat} {M : pz_M} {Q : Option Value × pz_M → Prop}
/-- the first n of a row are x -/
def rowC (x : Int32) (n : Nat) (r : Nat → Int32) : Nat → Int32 := fun i => if i < n then x else r i
theorem rowC_s {x : Int32} {n : Nat} {r : Nat → Int32} : va_up (rowC x n r) n x = rowC x (n + 1) r := by
  funext i
  unfold va_up rowC
  by_cases h : i = n
  · rw [if_pos h, if_pos (by omega)]
  · rw [if_neg h]
    by_cases h2 : i < n
    · rw [if_pos h2, if_pos (by omega)]
    · rw [if_neg h2, if_neg (by omega)]
theorem rowC_0 {x : Int32} {r : Nat → Int32} : rowC x 0 r = r := by
  funext i
  unfold rowC
  rw [if_neg (by omega)]
theorem l_fill {k N : Nat} {x : Int32} (hN : N < 2 ^ 31) (hk : ∀ M2, sm [k] M M2 → gi M2 k = rowC x N (gi M k) → Q (none, M2)) : ∀ (c i : Nat) (M' : pz_M), i + c = N → ga M' k = some 0 → gn M' k = N → sm [k] M M' → gi M' k = rowC x i (gi M k) → pw d 185 (5, [some (.ref k), some (.int x), some (.int (nI i)), some (.int (nI N))], [], M') Q := by
  intro c
  induction c with
  | zero =>
    intro i M' hi ha hn hs hr
    have hi' : i = N := by omega
    subst hi'
    refine pw_blk (mi := mz_185) (b := bz_185_5) rfl rfl ?_
    simp only [bz_185_5, pz_cut_t, pz_cut_f, pz_cut_n, pv_gt, pv_ts, pv_tn, ev_ild2, ev_ild3, ev_ic_ge, pz_wi_gc, pz_wi_ga, pz_wi_gn, pz_wi_gl, pz_wi_gr, pz_wi_same, pz_wi_X, pz_wl_gc, pz_wl_ga, pz_wl_gn, pz_wl_gi, pz_wl_gr, pz_wl_same, pz_wl_X, pz_wr_gc, pz_wr_ga, pz_wr_gn, pz_wr_gi, pz_wr_gl, pz_wr_same, pz_wr_X]
    refine po_brP (fun _ => ?_) (fun q => absurd (nI_le (Nat.le_refl _) hN) q)
    refine pw_blk (mi := mz_185) (b := bz_185_20) rfl rfl ?_
    simp only [bz_185_20, pz_cut_t, pz_cut_f, pz_cut_n, pv_gt, pv_ts, pv_tn, ev_ret, pz_wi_gc, pz_wi_ga, pz_wi_gn, pz_wi_gl, pz_wi_gr, pz_wi_same, pz_wi_X, pz_wl_gc, pz_wl_ga, pz_wl_gn, pz_wl_gi, pz_wl_gr, pz_wl_same, pz_wl_X, pz_wr_gc, pz_wr_ga, pz_wr_gn, pz_wr_gi, pz_wr_gl, pz_wr_same, pz_wr_X]
    exact hk M' hs hr
  | succ c ih =>
    intro i M' hi ha hn hs hr
    have hbn : (nI i).toNatClampNeg = i := nI_clamp (by omega)
    have hin : pz_in (nI i) N = true := pz_in_nI (by omega) hN
    refine pw_blk (mi := mz_185) (b := bz_185_5) rfl rfl ?_
    simp only [bz_185_5, pz_cut_t, pz_cut_f, pz_cut_n, pv_gt, pv_ts, pv_tn, ev_ild2, ev_ild3, ev_ic_ge, pz_wi_gc, pz_wi_ga, pz_wi_gn, pz_wi_gl, pz_wi_gr, pz_wi_same, pz_wi_X, pz_wl_gc, pz_wl_ga, pz_wl_gn, pz_wl_gi, pz_wl_gr, pz_wl_same, pz_wl_X, pz_wr_gc, pz_wr_ga, pz_wr_gn, pz_wr_gi, pz_wr_gl, pz_wr_same, pz_wr_X]
    refine po_brP (fun q => absurd q (nI_ge (by omega) hN)) (fun _ => ?_)
    refine pw_blk (mi := mz_185) (b := bz_185_10) rfl rfl ?_
    simp only [bz_185_10, pz_cut_t, pz_cut_f, pz_cut_n, pv_gt, pv_ts, pv_tn, ev_ald0, ev_eld0, ev_ild2, ev_ild1, ea_iast, ev_inc2n, ev_inc2i, ev_inc2r, ev_inc2e, ev_goto, pz_wi_gc, pz_wi_ga, pz_wi_gn, pz_wi_gl, pz_wi_gr, pz_wi_same, pz_wi_X, pz_wl_gc, pz_wl_ga, pz_wl_gn, pz_wl_gi, pz_wl_gr, pz_wl_same, pz_wl_X, pz_wr_gc, pz_wr_ga, pz_wr_gn, pz_wr_gi, pz_wr_gl, pz_wr_same, pz_wr_X, ha, hn, hin, hbn, inc1]
    refine po_go ?_
    exact ih (i + 1) _ (by omega) ha hn (hs.wi (by simp)) (by rw [pz_wi_same, hr, rowC_s])
theorem m_fill {k N : Nat} {x : Int32} (ha : ga M k = some 0) (hn : gn M k = N) (hN : N < 2 ^ 31) (h : ∀ M', sm [k] M M' → gi M' k = rowC x N (gi M k) → Q (none, M')) : pm d 185 [.ref k, .int x] M Q := by
  refine pm_ent (L := [some (.ref k), some (.int x), none, none]) rfl (Nat.le_of_ble_eq_true rfl) ?_
  refine pw_blk (mi := mz_185) (b := bz_185_0) rfl rfl ?_
  simp only [bz_185_0, pz_cut_t, pz_cut_f, pz_cut_n, pv_gt, pv_ts, pv_tn, ev_ic0, ev_ist2n, ev_ist2i, ev_ist2r, ev_ist2e, ev_ist2l, ev_ald0, ev_eld0, ea_alen0, ea_alen1, ea_alen2, ea_alen3, ev_ist3n, ev_ist3i, ev_ist3r, ev_ist3e, ev_ist3l, ev_nil, pz_wi_gc, pz_wi_ga, pz_wi_gn, pz_wi_gl, pz_wi_gr, pz_wi_same, pz_wi_X, pz_wl_gc, pz_wl_ga, pz_wl_gn, pz_wl_gi, pz_wl_gr, pz_wl_same, pz_wl_X, pz_wr_gc, pz_wr_ga, pz_wr_gn, pz_wr_gi, pz_wr_gl, pz_wr_same, pz_wr_X, ha, hn]
  refine po_go ?_
  exact l_fill hN h N 0 M (by omega) ha hn sm.rf rowC_0.symm
/-- o is a Ledger of the memory -/
def isLedger (M : pz_M) (o : Nat) : Prop := gc M o = some 2 ∧ (gr M o 0 = .ref (o + 1) ∧ gr M o 1 = .ref (o + 2) ∧ gr M o 2 = .ref (o + 3) ∧ gr M o 3 = .ref (o + 4) ∧ gr M o 4 = .ref (o + 5)) ∧ (ga M (o + 1) = some 0 ∧ ga M (o + 2) = some 0 ∧ ga M (o + 3) = some 3 ∧ ga M (o + 4) = some 0 ∧ ga M (o + 5) = some 0) ∧ (gn M (o + 1) = 40 ∧ gn M (o + 2) = 40 ∧ gn M (o + 3) = 40 ∧ gn M (o + 4) = 40 ∧ gn M (o + 5) = 40)
/-- it counts at the time k -/
def ldK (M : pz_M) (o : Nat) (k : Int32) (i : Nat) : Bool := decide (gi M (o + 4) i ≤ k) && (decide (gi M (o + 5) i = -1) || decide (k < gi M (o + 5) i))
theorem m_counts {o i : Nat} {k : Int32} (hM : isLedger M o) (hi : i < 40) (h1 : ldK M o k i = true → Q (some (.int 1), M)) (h0 : ldK M o k i = false → Q (some (.int 0), M)) : pm d 227 [.ref o, .int (nI i), .int k] M Q := by
  obtain ⟨c1, ⟨r0, r1, r2, r3, r4⟩, ⟨a1, a2, a3, a4, a5⟩, ⟨n1, n2, n3, n4, n5⟩⟩ := hM
  have hbn : (nI i).toNatClampNeg = i := nI_clamp (by omega)
  have hin : pz_in (nI i) 40 = true := pz_in_nI hi (by decide)
  refine pm_ent (L := [some (.ref o), some (.int (nI i)), some (.int k)]) rfl (Nat.le_of_ble_eq_true rfl) ?_
  refine pw_blk (mi := mz_227) (b := bz_227_0) rfl rfl ?_
  simp only [bz_227_0, pz_cut_t, pz_cut_f, pz_cut_n, pv_gt, pv_ts, pv_tn, ev_ald0, ev_eld0, ev_gf2_2, ev_ild1, ea_iald, ev_ild2, ev_ic_gt, pz_wi_gc, pz_wi_ga, pz_wi_gn, pz_wi_gl, pz_wi_gr, pz_wi_same, pz_wi_X, pz_wl_gc, pz_wl_ga, pz_wl_gn, pz_wl_gi, pz_wl_gr, pz_wl_same, pz_wl_X, pz_wr_gc, pz_wr_ga, pz_wr_gn, pz_wr_gi, pz_wr_gl, pz_wr_same, pz_wr_X, c1, r3, a4, n4, hin, hbn]
  refine po_brP (fun q => ?_) (fun q => ?_)
  · refine pw_blk (mi := mz_227) (b := bz_227_34) rfl rfl ?_
    simp only [bz_227_34, pz_cut_t, pz_cut_f, pz_cut_n, pv_gt, pv_ts, pv_tn, ev_ic0, ev_nil, pz_wi_gc, pz_wi_ga, pz_wi_gn, pz_wi_gl, pz_wi_gr, pz_wi_same, pz_wi_X, pz_wl_gc, pz_wl_ga, pz_wl_gn, pz_wl_gi, pz_wl_gr, pz_wl_same, pz_wl_X, pz_wr_gc, pz_wr_ga, pz_wr_gn, pz_wr_gi, pz_wr_gl, pz_wr_same, pz_wr_X]
    refine pw_blk (mi := mz_227) (b := bz_227_35) rfl rfl ?_
    simp only [bz_227_35, pz_cut_t, pz_cut_f, pz_cut_n, pv_gt, pv_ts, pv_tn, ev_iret1, pz_wi_gc, pz_wi_ga, pz_wi_gn, pz_wi_gl, pz_wi_gr, pz_wi_same, pz_wi_X, pz_wl_gc, pz_wl_ga, pz_wl_gn, pz_wl_gi, pz_wl_gr, pz_wl_same, pz_wl_X, pz_wr_gc, pz_wr_ga, pz_wr_gn, pz_wr_gi, pz_wr_gl, pz_wr_same, pz_wr_X]
    first | exact po_ret (h0 (by unfold ldK; rw [decide_eq_false (Int32.not_le.mpr q)]; rfl)) | exact po_gP (by decide) (po_ret (h0 (by unfold ldK; rw [decide_eq_false (Int32.not_le.mpr q)]; rfl)))
  · refine pw_blk (mi := mz_227) (b := bz_227_10) rfl rfl ?_
    simp only [bz_227_10, pz_cut_t, pz_cut_f, pz_cut_n, pv_gt, pv_ts, pv_tn, ev_ald0, ev_eld0, ev_gf2_2, ev_ild1, ea_iald, ev_icm1, ev_ic_eq, pz_wi_gc, pz_wi_ga, pz_wi_gn, pz_wi_gl, pz_wi_gr, pz_wi_same, pz_wi_X, pz_wl_gc, pz_wl_ga, pz_wl_gn, pz_wl_gi, pz_wl_gr, pz_wl_same, pz_wl_X, pz_wr_gc, pz_wr_ga, pz_wr_gn, pz_wr_gi, pz_wr_gl, pz_wr_same, pz_wr_X, c1, r4, a5, n5, hin, hbn]
    refine po_brP (fun q2 => ?_) (fun q2 => ?_)
    · refine pw_blk (mi := mz_227) (b := bz_227_30) rfl rfl ?_
      simp only [bz_227_30, pz_cut_t, pz_cut_f, pz_cut_n, pv_gt, pv_ts, pv_tn, ev_ic1, ev_goto, pz_wi_gc, pz_wi_ga, pz_wi_gn, pz_wi_gl, pz_wi_gr, pz_wi_same, pz_wi_X, pz_wl_gc, pz_wl_ga, pz_wl_gn, pz_wl_gi, pz_wl_gr, pz_wl_same, pz_wl_X, pz_wr_gc, pz_wr_ga, pz_wr_gn, pz_wr_gi, pz_wr_gl, pz_wr_same, pz_wr_X]
      refine pw_blk (mi := mz_227) (b := bz_227_35) rfl rfl ?_
      simp only [bz_227_35, pz_cut_t, pz_cut_f, pz_cut_n, pv_gt, pv_ts, pv_tn, ev_iret1, pz_wi_gc, pz_wi_ga, pz_wi_gn, pz_wi_gl, pz_wi_gr, pz_wi_same, pz_wi_X, pz_wl_gc, pz_wl_ga, pz_wl_gn, pz_wl_gi, pz_wl_gr, pz_wl_same, pz_wl_X, pz_wr_gc, pz_wr_ga, pz_wr_gn, pz_wr_gi, pz_wr_gl, pz_wr_same, pz_wr_X]
      first | exact po_ret (h1 (by unfold ldK; rw [decide_eq_true (Int32.not_lt.mp q), decide_eq_true q2]; rfl)) | exact po_gP (by decide) (po_ret (h1 (by unfold ldK; rw [decide_eq_true (Int32.not_lt.mp q), decide_eq_true q2]; rfl)))
    · refine pw_blk (mi := mz_227) (b := bz_227_20) rfl rfl ?_
      simp only [bz_227_20, pz_cut_t, pz_cut_f, pz_cut_n, pv_gt, pv_ts, pv_tn, ev_ald0, ev_eld0, ev_gf2_2, ev_ild1, ea_iald, ev_ild2, ev_ic_le, pz_wi_gc, pz_wi_ga, pz_wi_gn, pz_wi_gl, pz_wi_gr, pz_wi_same, pz_wi_X, pz_wl_gc, pz_wl_ga, pz_wl_gn, pz_wl_gi, pz_wl_gr, pz_wl_same, pz_wl_X, pz_wr_gc, pz_wr_ga, pz_wr_gn, pz_wr_gi, pz_wr_gl, pz_wr_same, pz_wr_X, c1, r4, a5, n5, hin, hbn]
      refine po_brP (fun q3 => ?_) (fun q3 => ?_)
      · refine pw_blk (mi := mz_227) (b := bz_227_34) rfl rfl ?_
        simp only [bz_227_34, pz_cut_t, pz_cut_f, pz_cut_n, pv_gt, pv_ts, pv_tn, ev_ic0, ev_nil, pz_wi_gc, pz_wi_ga, pz_wi_gn, pz_wi_gl, pz_wi_gr, pz_wi_same, pz_wi_X, pz_wl_gc, pz_wl_ga, pz_wl_gn, pz_wl_gi, pz_wl_gr, pz_wl_same, pz_wl_X, pz_wr_gc, pz_wr_ga, pz_wr_gn, pz_wr_gi, pz_wr_gl, pz_wr_same, pz_wr_X]
        refine pw_blk (mi := mz_227) (b := bz_227_35) rfl rfl ?_
        simp only [bz_227_35, pz_cut_t, pz_cut_f, pz_cut_n, pv_gt, pv_ts, pv_tn, ev_iret1, pz_wi_gc, pz_wi_ga, pz_wi_gn, pz_wi_gl, pz_wi_gr, pz_wi_same, pz_wi_X, pz_wl_gc, pz_wl_ga, pz_wl_gn, pz_wl_gi, pz_wl_gr, pz_wl_same, pz_wl_X, pz_wr_gc, pz_wr_ga, pz_wr_gn, pz_wr_gi, pz_wr_gl, pz_wr_same, pz_wr_X]
        first | exact po_ret (h0 (by unfold ldK; rw [decide_eq_false q2, decide_eq_false (Int32.not_lt.mpr q3)]; simp)) | exact po_gP (by decide) (po_ret (h0 (by unfold ldK; rw [decide_eq_false q2, decide_eq_false (Int32.not_lt.mpr q3)]; simp)))
      · refine pw_blk (mi := mz_227) (b := bz_227_30) rfl rfl ?_
        simp only [bz_227_30, pz_cut_t, pz_cut_f, pz_cut_n, pv_gt, pv_ts, pv_tn, ev_ic1, ev_goto, pz_wi_gc, pz_wi_ga, pz_wi_gn, pz_wi_gl, pz_wi_gr, pz_wi_same, pz_wi_X, pz_wl_gc, pz_wl_ga, pz_wl_gn, pz_wl_gi, pz_wl_gr, pz_wl_same, pz_wl_X, pz_wr_gc, pz_wr_ga, pz_wr_gn, pz_wr_gi, pz_wr_gl, pz_wr_same, pz_wr_X]
        refine pw_blk (mi := mz_227) (b := bz_227_35) rfl rfl ?_
        simp only [bz_227_35, pz_cut_t, pz_cut_f, pz_cut_n, pv_gt, pv_ts, pv_tn, ev_iret1, pz_wi_gc, pz_wi_ga, pz_wi_gn, pz_wi_gl, pz_wi_gr, pz_wi_same, pz_wi_X, pz_wl_gc, pz_wl_ga, pz_wl_gn, pz_wl_gi, pz_wl_gr, pz_wl_same, pz_wl_X, pz_wr_gc, pz_wr_ga, pz_wr_gn, pz_wr_gi, pz_wr_gl, pz_wr_same, pz_wr_X]
        first | exact po_ret (h1 (by unfold ldK; rw [decide_eq_true (Int32.not_lt.mp q), decide_eq_true (Int32.not_le.mp q3)]; simp)) | exact po_gP (by decide) (po_ret (h1 (by unfold ldK; rw [decide_eq_true (Int32.not_lt.mp q), decide_eq_true (Int32.not_le.mp q3)]; simp)))
/-- how many of the first n are so -/
def cnt (p : Nat → Bool) : Nat → Nat
  | 0 => 0
  | n + 1 => cnt p n + (if p n = true then 1 else 0)
theorem cnt_le (p : Nat → Bool) : ∀ n, cnt p n ≤ n
  | 0 => Nat.le_refl 0
  | n + 1 => by
    have := cnt_le p n
    unfold cnt
    split <;> omega
theorem cnt_t {p : Nat → Bool} {n : Nat} (h : p n = true) : cnt p (n + 1) = cnt p n + 1 := by rw [cnt, if_pos h]
theorem cnt_f {p : Nat → Bool} {n : Nat} (h : p n = false) : cnt p (n + 1) = cnt p n := by rw [cnt, if_neg (by rw [h]; decide)]; rfl
theorem l_countAt (hd : 1 ≤ d) {o N : Nat} {b k : Int32} (hM : isLedger M o) (hN : N ≤ 40) (hn : gi M o 5 = nI N) (h : Q (some (.int (nI (cnt (fun i => decide (gi M (o + 1) i = b) && ldK M o k i) N))), M)) : ∀ (c i : Nat), i + c = N → pw d 157 (5, [some (.ref o), some (.int b), some (.int k), some (.int (nI (cnt (fun i => decide (gi M (o + 1) i = b) && ldK M o k i) i))), some (.int (nI i))], [], M) Q := by
  intro c
  have hM' := hM
  obtain ⟨c1, ⟨r0, r1, r2, r3, r4⟩, ⟨a1, a2, a3, a4, a5⟩, ⟨n1, n2, n3, n4, n5⟩⟩ := hM'
  induction c with
  | zero =>
    intro i hi
    have hi' : i = N := by omega
    subst hi'
    refine pw_blk (mi := mz_157) (b := bz_157_5) rfl rfl ?_
    simp only [bz_157_5, pz_cut_t, pz_cut_f, pz_cut_n, pv_gt, pv_ts, pv_tn, ev_ild4, ev_ald0, ev_eld0, ev_gf2_0, ev_ic_ge, pz_wi_gc, pz_wi_ga, pz_wi_gn, pz_wi_gl, pz_wi_gr, pz_wi_same, pz_wi_X, pz_wl_gc, pz_wl_ga, pz_wl_gn, pz_wl_gi, pz_wl_gr, pz_wl_same, pz_wl_X, pz_wr_gc, pz_wr_ga, pz_wr_gn, pz_wr_gi, pz_wr_gl, pz_wr_same, pz_wr_X, c1, hn]
    refine po_brP (fun _ => ?_) (fun q => absurd (nI_le (Nat.le_refl _) (by omega)) q)
    refine pw_blk (mi := mz_157) (b := bz_157_44) rfl rfl ?_
    simp only [bz_157_44, pz_cut_t, pz_cut_f, pz_cut_n, pv_gt, pv_ts, pv_tn, ev_ild3, ev_iret0, pz_wi_gc, pz_wi_ga, pz_wi_gn, pz_wi_gl, pz_wi_gr, pz_wi_same, pz_wi_X, pz_wl_gc, pz_wl_ga, pz_wl_gn, pz_wl_gi, pz_wl_gr, pz_wl_same, pz_wl_X, pz_wr_gc, pz_wr_ga, pz_wr_gn, pz_wr_gi, pz_wr_gl, pz_wr_same, pz_wr_X]
    exact h
  | succ c ih =>
    intro i hi
    have hbn : (nI i).toNatClampNeg = i := nI_clamp (by omega)
    have hin : pz_in (nI i) 40 = true := pz_in_nI (by omega) (by decide)
    refine pw_blk (mi := mz_157) (b := bz_157_5) rfl rfl ?_
    simp only [bz_157_5, pz_cut_t, pz_cut_f, pz_cut_n, pv_gt, pv_ts, pv_tn, ev_ild4, ev_ald0, ev_eld0, ev_gf2_0, ev_ic_ge, pz_wi_gc, pz_wi_ga, pz_wi_gn, pz_wi_gl, pz_wi_gr, pz_wi_same, pz_wi_X, pz_wl_gc, pz_wl_ga, pz_wl_gn, pz_wl_gi, pz_wl_gr, pz_wl_same, pz_wl_X, pz_wr_gc, pz_wr_ga, pz_wr_gn, pz_wr_gi, pz_wr_gl, pz_wr_same, pz_wr_X, c1, hn]
    refine po_brP (fun q => absurd q (nI_ge (by omega) (by omega))) (fun _ => ?_)
    refine pw_blk (mi := mz_157) (b := bz_157_14) rfl rfl ?_
    simp only [bz_157_14, pz_cut_t, pz_cut_f, pz_cut_n, pv_gt, pv_ts, pv_tn, ev_ald0, ev_eld0, ev_gf2_2, ev_ild4, ea_iald, ev_ild1, ev_ic_ne, pz_wi_gc, pz_wi_ga, pz_wi_gn, pz_wi_gl, pz_wi_gr, pz_wi_same, pz_wi_X, pz_wl_gc, pz_wl_ga, pz_wl_gn, pz_wl_gi, pz_wl_gr, pz_wl_same, pz_wl_X, pz_wr_gc, pz_wr_ga, pz_wr_gn, pz_wr_gi, pz_wr_gl, pz_wr_same, pz_wr_X, c1, r0, a1, n1, hin, hbn]
    refine po_brP (fun q => ?_) (fun q => ?_)
    · refine pw_blk (mi := mz_157) (b := bz_157_38) rfl rfl ?_
      simp only [bz_157_38, pz_cut_t, pz_cut_f, pz_cut_n, pv_gt, pv_ts, pv_tn, ev_inc4n, ev_inc4i, ev_inc4r, ev_inc4e, ev_goto, pz_wi_gc, pz_wi_ga, pz_wi_gn, pz_wi_gl, pz_wi_gr, pz_wi_same, pz_wi_X, pz_wl_gc, pz_wl_ga, pz_wl_gn, pz_wl_gi, pz_wl_gr, pz_wl_same, pz_wl_X, pz_wr_gc, pz_wr_ga, pz_wr_gn, pz_wr_gi, pz_wr_gl, pz_wr_same, pz_wr_X, inc1]
      refine po_go ?_
      have hf : (fun i => decide (gi M (o + 1) i = b) && ldK M o k i) i = false := by simp only; rw [decide_eq_false q]; rfl
      have := ih (i + 1) (by omega)
      rw [cnt_f hf] at this
      exact this
    · have hq : gi M (o + 1) i = b := Decidable.not_not.mp q
      refine pw_blk (mi := mz_157) (b := bz_157_25) rfl rfl ?_
      simp only [bz_157_25, pz_cut_t, pz_cut_f, pz_cut_n, pv_gt, pv_ts, pv_tn, ev_ald0, ev_eld0, ev_ild4, ev_ild2, ev_cv2_2, pz_wi_gc, pz_wi_ga, pz_wi_gn, pz_wi_gl, pz_wi_gr, pz_wi_same, pz_wi_X, pz_wl_gc, pz_wl_ga, pz_wl_gn, pz_wl_gi, pz_wl_gr, pz_wl_same, pz_wl_X, pz_wr_gc, pz_wr_ga, pz_wr_gn, pz_wr_gi, pz_wr_gl, pz_wr_same, pz_wr_X, c1, ev_cv2_2]
      refine po_gP (Nat.le_of_ble_eq_true rfl) (po_call hd (m_counts hM (by omega) (fun z => ?_) (fun z => ?_)))
      · refine pw_blk (mi := mz_157) (b := bz_157_32) rfl rfl ?_
        simp only [bz_157_32, pz_cut_t, pz_cut_f, pz_cut_n, pv_gt, pv_ts, pv_tn, ev_ifeq, pz_wi_gc, pz_wi_ga, pz_wi_gn, pz_wi_gl, pz_wi_gr, pz_wi_same, pz_wi_X, pz_wl_gc, pz_wl_ga, pz_wl_gn, pz_wl_gi, pz_wl_gr, pz_wl_same, pz_wl_X, pz_wr_gc, pz_wr_ga, pz_wr_gn, pz_wr_gi, pz_wr_gl, pz_wr_same, pz_wr_X]
        refine po_brP (fun q2 => absurd q2 (by decide)) (fun _ => ?_)
        refine pw_blk (mi := mz_157) (b := bz_157_35) rfl rfl ?_
        simp only [bz_157_35, pz_cut_t, pz_cut_f, pz_cut_n, pv_gt, pv_ts, pv_tn, ev_inc3n, ev_inc3i, ev_inc3r, ev_inc3e, ev_nil, pz_wi_gc, pz_wi_ga, pz_wi_gn, pz_wi_gl, pz_wi_gr, pz_wi_same, pz_wi_X, pz_wl_gc, pz_wl_ga, pz_wl_gn, pz_wl_gi, pz_wl_gr, pz_wl_same, pz_wl_X, pz_wr_gc, pz_wr_ga, pz_wr_gn, pz_wr_gi, pz_wr_gl, pz_wr_same, pz_wr_X, inc1]
        refine po_go ?_
        refine pw_blk (mi := mz_157) (b := bz_157_38) rfl rfl ?_
        simp only [bz_157_38, pz_cut_t, pz_cut_f, pz_cut_n, pv_gt, pv_ts, pv_tn, ev_inc4n, ev_inc4i, ev_inc4r, ev_inc4e, ev_goto, pz_wi_gc, pz_wi_ga, pz_wi_gn, pz_wi_gl, pz_wi_gr, pz_wi_same, pz_wi_X, pz_wl_gc, pz_wl_ga, pz_wl_gn, pz_wl_gi, pz_wl_gr, pz_wl_same, pz_wl_X, pz_wr_gc, pz_wr_ga, pz_wr_gn, pz_wr_gi, pz_wr_gl, pz_wr_same, pz_wr_X, inc1]
        refine po_go ?_
        have hf : (fun i => decide (gi M (o + 1) i = b) && ldK M o k i) i = true := by simp only; rw [decide_eq_true hq, z]; rfl
        have := ih (i + 1) (by omega)
        rw [cnt_t hf] at this
        exact this
      · refine pw_blk (mi := mz_157) (b := bz_157_32) rfl rfl ?_
        simp only [bz_157_32, pz_cut_t, pz_cut_f, pz_cut_n, pv_gt, pv_ts, pv_tn, ev_ifeq, pz_wi_gc, pz_wi_ga, pz_wi_gn, pz_wi_gl, pz_wi_gr, pz_wi_same, pz_wi_X, pz_wl_gc, pz_wl_ga, pz_wl_gn, pz_wl_gi, pz_wl_gr, pz_wl_same, pz_wl_X, pz_wr_gc, pz_wr_ga, pz_wr_gn, pz_wr_gi, pz_wr_gl, pz_wr_same, pz_wr_X]
        refine po_brP (fun _ => ?_) (fun q2 => absurd trivial q2)
        refine pw_blk (mi := mz_157) (b := bz_157_38) rfl rfl ?_
        simp only [bz_157_38, pz_cut_t, pz_cut_f, pz_cut_n, pv_gt, pv_ts, pv_tn, ev_inc4n, ev_inc4i, ev_inc4r, ev_inc4e, ev_goto, pz_wi_gc, pz_wi_ga, pz_wi_gn, pz_wi_gl, pz_wi_gr, pz_wi_same, pz_wi_X, pz_wl_gc, pz_wl_ga, pz_wl_gn, pz_wl_gi, pz_wl_gr, pz_wl_same, pz_wl_X, pz_wr_gc, pz_wr_ga, pz_wr_gn, pz_wr_gi, pz_wr_gl, pz_wr_same, pz_wr_X, inc1]
        refine po_go ?_
        have hf : (fun i => decide (gi M (o + 1) i = b) && ldK M o k i) i = false := by simp only; rw [z]; simp
        have := ih (i + 1) (by omega)
        rw [cnt_f hf] at this
        exact this
theorem m_countAt (hd : 1 ≤ d) {o N : Nat} {b k : Int32} (hM : isLedger M o) (hN : N ≤ 40) (hn : gi M o 5 = nI N) (h : Q (some (.int (nI (cnt (fun i => decide (gi M (o + 1) i = b) && ldK M o k i) N))), M)) : pm d 157 [.ref o, .int b, .int k] M Q := by
  refine pm_ent (L := [some (.ref o), some (.int b), some (.int k), none, none]) rfl (Nat.le_of_ble_eq_true rfl) ?_
  refine pw_blk (mi := mz_157) (b := bz_157_0) rfl rfl ?_
  simp only [bz_157_0, pz_cut_t, pz_cut_f, pz_cut_n, pv_gt, pv_ts, pv_tn, ev_ic0, ev_ist3n, ev_ist3i, ev_ist3r, ev_ist3e, ev_ist3l, ev_ist4n, ev_ist4i, ev_ist4r, ev_ist4e, ev_ist4l, ev_nil, pz_wi_gc, pz_wi_ga, pz_wi_gn, pz_wi_gl, pz_wi_gr, pz_wi_same, pz_wi_X, pz_wl_gc, pz_wl_ga, pz_wl_gn, pz_wl_gi, pz_wl_gr, pz_wl_same, pz_wl_X, pz_wr_gc, pz_wr_ga, pz_wr_gn, pz_wr_gi, pz_wr_gl, pz_wr_same, pz_wr_X]
  refine po_go ?_
  exact l_countAt hd hM hN hn h N 0 (by omega)
end LEDG
