/-! ===== cuts on both sides ===== -/
section OPCUTS
variable {d : Nat} {M M' : pz_M} {Q : Option Value × pz_M → Prop}
theorem cnt_cong {p p' : Nat → Bool} : ∀ n, (∀ i, i < n → p i = p' i) → cnt p n = cnt p' n
  | 0, _ => rfl
  | n + 1, h => by
    rw [cnt, cnt, h n (Nat.lt_succ_self n), cnt_cong n (fun i hi => h i (Nat.lt_succ_of_lt hi))]
/-- a word that was not taken back, or the time when it was -/
def isUn (u : Int32) : Prop := u = -1 ∨ 0 ≤ u
theorem kn_un {t u k : Int32} (h : isUn u) : (decide (t ≤ k) && (decide (u = -1) || decide (k < u))) = kn t u k := by
  unfold kn
  rcases h with h | h
  · rw [h]
    rfl
  · have a : ¬ u = -1 := fun q => absurd h (by rw [q]; decide)
    rw [decide_eq_false a, decide_eq_false (Int32.not_lt.mpr h)]
/-- the diaries told, on both sides -/
def RD (M : pz_M) : Prop := ∃ N, N ≤ 40 ∧ gi M 81 5 = nI N ∧ gi M 120 89 = nI N ∧ ∀ i, i < N → gi M 82 i = gi M 168 i ∧ gi M 83 i = gi M 167 i ∧ gi M 85 i = gi M 169 i ∧ gi M 86 i = gi M 170 i ∧ isUn (gi M 86 i)
/-- the papers told, on both sides -/
def RP (M : pz_M) : Prop := ∃ N, N ≤ 40 ∧ gi M 87 5 = nI N ∧ gi M 120 90 = nI N ∧ ∀ i, i < N → gi M 88 i = gi M 172 i ∧ gi M 89 i = gi M 171 i ∧ gi M 90 i = gi M 175 i ∧ gi M 91 i = gi M 173 i ∧ gi M 92 i = gi M 174 i ∧ isUn (gi M 92 i)
theorem m_cuts (hd : 2 ≤ d) (hS : SH M) {B N : Nat} {x k : Int32} (hb : gi M 4 0 = nI B) (hB : B ≤ 24) (hN : N ≤ 40) (hn : gi M 81 5 = nI N) (h1 : ∀ b, b < B → x = nI b → Q (some (.int (nI (cnt (fun i => decide (gi M 82 i = x) && ldK M 81 k i) N))), M)) (h0 : (∀ b, b < B → ¬ x = nI b) → Q (some (.int (-1)), M)) : pm d 61 [.ref 0, .int x, .int k] M Q := by
  refine pm_ent (L := [some (.ref 0), some (.int x), some (.int k)]) rfl (Nat.le_of_ble_eq_true rfl) ?_
  refine pw_blk (mi := mz_61) (b := bz_61_0) rfl rfl ?_
  simp only [bz_61_0, pz_cut_t, pz_cut_f, pz_cut_n, pv_gt, pv_ts, pv_tn, ev_ald0, ev_eld0, ev_gf0_2, ev_ild1, ev_cv1_8, pz_wi_gc, pz_wi_ga, pz_wi_gn, pz_wi_gl, pz_wi_gr, pz_wi_same, pz_wi_X, pz_wl_gc, pz_wl_ga, pz_wl_gn, pz_wl_gi, pz_wl_gr, pz_wl_same, pz_wl_X, pz_wr_gc, pz_wr_ga, pz_wr_gn, pz_wr_gi, pz_wr_gl, pz_wr_same, pz_wr_X, so_0 hS, sr_0_1 hS, so_4 hS, ev_cv1_8]
  refine po_gP (Nat.le_of_ble_eq_true rfl) (po_call (by omega) (m_hasBar hS hb hB (fun b l e => ?_) (fun z => ?_)))
  · refine pw_blk (mi := mz_61) (b := bz_61_8) rfl rfl ?_
    simp only [bz_61_8, pz_cut_t, pz_cut_f, pz_cut_n, pv_gt, pv_ts, pv_tn, ev_ifeq, pz_wi_gc, pz_wi_ga, pz_wi_gn, pz_wi_gl, pz_wi_gr, pz_wi_same, pz_wi_X, pz_wl_gc, pz_wl_ga, pz_wl_gn, pz_wl_gi, pz_wl_gr, pz_wl_same, pz_wl_X, pz_wr_gc, pz_wr_ga, pz_wr_gn, pz_wr_gi, pz_wr_gl, pz_wr_same, pz_wr_X]
    refine po_brP (fun q => absurd q (by decide)) (fun _ => ?_)
    refine pw_blk (mi := mz_61) (b := bz_61_11) rfl rfl ?_
    simp only [bz_61_11, pz_cut_t, pz_cut_f, pz_cut_n, pv_gt, pv_ts, pv_tn, ev_ald0, ev_eld0, ev_gf0_2, ev_ild1, ev_ild2, ev_cv2_2, pz_wi_gc, pz_wi_ga, pz_wi_gn, pz_wi_gl, pz_wi_gr, pz_wi_same, pz_wi_X, pz_wl_gc, pz_wl_ga, pz_wl_gn, pz_wl_gi, pz_wl_gr, pz_wl_same, pz_wl_X, pz_wr_gc, pz_wr_ga, pz_wr_gn, pz_wr_gi, pz_wr_gl, pz_wr_same, pz_wr_X, so_0 hS, sr_0_8 hS, so_81 hS, ev_cv2_2]
    refine po_gP (Nat.le_of_ble_eq_true rfl) (po_call (by omega) (m_countAt (by omega) hS.ledgD hN hn ?_))
    refine pw_blk (mi := mz_61) (b := bz_61_20) rfl rfl ?_
    simp only [bz_61_20, pz_cut_t, pz_cut_f, pz_cut_n, pv_gt, pv_ts, pv_tn, ev_goto, pz_wi_gc, pz_wi_ga, pz_wi_gn, pz_wi_gl, pz_wi_gr, pz_wi_same, pz_wi_X, pz_wl_gc, pz_wl_ga, pz_wl_gn, pz_wl_gi, pz_wl_gr, pz_wl_same, pz_wl_X, pz_wr_gc, pz_wr_ga, pz_wr_gn, pz_wr_gi, pz_wr_gl, pz_wr_same, pz_wr_X]
    refine po_go ?_
    refine pw_blk (mi := mz_61) (b := bz_61_24) rfl rfl ?_
    simp only [bz_61_24, pz_cut_t, pz_cut_f, pz_cut_n, pv_gt, pv_ts, pv_tn, ev_iret0, pz_wi_gc, pz_wi_ga, pz_wi_gn, pz_wi_gl, pz_wi_gr, pz_wi_same, pz_wi_X, pz_wl_gc, pz_wl_ga, pz_wl_gn, pz_wl_gi, pz_wl_gr, pz_wl_same, pz_wl_X, pz_wr_gc, pz_wr_ga, pz_wr_gn, pz_wr_gi, pz_wr_gl, pz_wr_same, pz_wr_X]
    exact h1 b l e
  · refine pw_blk (mi := mz_61) (b := bz_61_8) rfl rfl ?_
    simp only [bz_61_8, pz_cut_t, pz_cut_f, pz_cut_n, pv_gt, pv_ts, pv_tn, ev_ifeq, pz_wi_gc, pz_wi_ga, pz_wi_gn, pz_wi_gl, pz_wi_gr, pz_wi_same, pz_wi_X, pz_wl_gc, pz_wl_ga, pz_wl_gn, pz_wl_gi, pz_wl_gr, pz_wl_same, pz_wl_X, pz_wr_gc, pz_wr_ga, pz_wr_gn, pz_wr_gi, pz_wr_gl, pz_wr_same, pz_wr_X]
    refine po_brP (fun _ => ?_) (fun q => absurd trivial q)
    refine pw_blk (mi := mz_61) (b := bz_61_23) rfl rfl ?_
    simp only [bz_61_23, pz_cut_t, pz_cut_f, pz_cut_n, pv_gt, pv_ts, pv_tn, ev_icm1, ev_nil, pz_wi_gc, pz_wi_ga, pz_wi_gn, pz_wi_gl, pz_wi_gr, pz_wi_same, pz_wi_X, pz_wl_gc, pz_wl_ga, pz_wl_gn, pz_wl_gi, pz_wl_gr, pz_wl_same, pz_wl_X, pz_wr_gc, pz_wr_ga, pz_wr_gn, pz_wr_gi, pz_wr_gl, pz_wr_same, pz_wr_X]
    refine po_go ?_
    refine pw_blk (mi := mz_61) (b := bz_61_24) rfl rfl ?_
    simp only [bz_61_24, pz_cut_t, pz_cut_f, pz_cut_n, pv_gt, pv_ts, pv_tn, ev_iret0, pz_wi_gc, pz_wi_ga, pz_wi_gn, pz_wi_gl, pz_wi_gr, pz_wi_same, pz_wi_X, pz_wl_gc, pz_wl_ga, pz_wl_gn, pz_wl_gi, pz_wl_gr, pz_wl_same, pz_wl_X, pz_wr_gc, pz_wr_ga, pz_wr_gn, pz_wr_gi, pz_wr_gl, pz_wr_same, pz_wr_X]
    exact h0 z
theorem r_cuts (hd : 2 ≤ d) (hS : SH M) (hO : okB M) {B N : Nat} {x k : Int32} (hb : nb M = nI B) (hB : B ≤ 24) (hN : N ≤ 40) (hn : gi M 120 89 = nI N) (h1 : ∀ b, b < B → x = nI b → Q (some (.int (nI (cnt (dcut M x k) N))), M)) (h0 : (∀ b, b < B → ¬ x = nI b) → Q (some (.int (-1)), M)) : pm d 62 [.ref 120, .int x, .int k] M Q := by
  refine pm_ent (L := [some (.ref 120), some (.int x), some (.int k)]) rfl (Nat.le_of_ble_eq_true rfl) ?_
  refine pw_blk (mi := mz_62) (b := bz_62_0) rfl rfl ?_
  simp only [bz_62_0, pz_cut_t, pz_cut_f, pz_cut_n, pv_gt, pv_ts, pv_tn, ev_ald0, ev_eld0, ev_ild1, ev_cv1_11, pz_wi_gc, pz_wi_ga, pz_wi_gn, pz_wi_gl, pz_wi_gr, pz_wi_same, pz_wi_X, pz_wl_gc, pz_wl_ga, pz_wl_gn, pz_wl_gi, pz_wl_gr, pz_wl_same, pz_wl_X, pz_wr_gc, pz_wr_ga, pz_wr_gn, pz_wr_gi, pz_wr_gl, pz_wr_same, pz_wr_X, so_120 hS, ev_cv1_11]
  refine po_gP (Nat.le_of_ble_eq_true rfl) (po_call (by omega) (r_isBarN (by omega) hS hO hb hB (fun b l e => ?_) (fun z => ?_)))
  · refine pw_blk (mi := mz_62) (b := bz_62_5) rfl rfl ?_
    simp only [bz_62_5, pz_cut_t, pz_cut_f, pz_cut_n, pv_gt, pv_ts, pv_tn, ev_ifeq, pz_wi_gc, pz_wi_ga, pz_wi_gn, pz_wi_gl, pz_wi_gr, pz_wi_same, pz_wi_X, pz_wl_gc, pz_wl_ga, pz_wl_gn, pz_wl_gi, pz_wl_gr, pz_wl_same, pz_wl_X, pz_wr_gc, pz_wr_ga, pz_wr_gn, pz_wr_gi, pz_wr_gl, pz_wr_same, pz_wr_X]
    refine po_brP (fun q => absurd q (by decide)) (fun _ => ?_)
    refine pw_blk (mi := mz_62) (b := bz_62_8) rfl rfl ?_
    simp only [bz_62_8, pz_cut_t, pz_cut_f, pz_cut_n, pv_gt, pv_ts, pv_tn, ev_ald0, ev_eld0, ev_ild1, ev_ild2, ev_cv2_11, pz_wi_gc, pz_wi_ga, pz_wi_gn, pz_wi_gl, pz_wi_gr, pz_wi_same, pz_wi_X, pz_wl_gc, pz_wl_ga, pz_wl_gn, pz_wl_gi, pz_wl_gr, pz_wl_same, pz_wl_X, pz_wr_gc, pz_wr_ga, pz_wr_gn, pz_wr_gi, pz_wr_gl, pz_wr_same, pz_wr_X, so_120 hS, ev_cv2_11]
    refine po_gP (Nat.le_of_ble_eq_true rfl) (po_call (by omega) (r_cutsOf (by omega) hS hN hn ?_))
    refine pw_blk (mi := mz_62) (b := bz_62_14) rfl rfl ?_
    simp only [bz_62_14, pz_cut_t, pz_cut_f, pz_cut_n, pv_gt, pv_ts, pv_tn, ev_goto, pz_wi_gc, pz_wi_ga, pz_wi_gn, pz_wi_gl, pz_wi_gr, pz_wi_same, pz_wi_X, pz_wl_gc, pz_wl_ga, pz_wl_gn, pz_wl_gi, pz_wl_gr, pz_wl_same, pz_wl_X, pz_wr_gc, pz_wr_ga, pz_wr_gn, pz_wr_gi, pz_wr_gl, pz_wr_same, pz_wr_X]
    refine po_go ?_
    refine pw_blk (mi := mz_62) (b := bz_62_18) rfl rfl ?_
    simp only [bz_62_18, pz_cut_t, pz_cut_f, pz_cut_n, pv_gt, pv_ts, pv_tn, ev_iret0, pz_wi_gc, pz_wi_ga, pz_wi_gn, pz_wi_gl, pz_wi_gr, pz_wi_same, pz_wi_X, pz_wl_gc, pz_wl_ga, pz_wl_gn, pz_wl_gi, pz_wl_gr, pz_wl_same, pz_wl_X, pz_wr_gc, pz_wr_ga, pz_wr_gn, pz_wr_gi, pz_wr_gl, pz_wr_same, pz_wr_X]
    exact h1 b l e
  · refine pw_blk (mi := mz_62) (b := bz_62_5) rfl rfl ?_
    simp only [bz_62_5, pz_cut_t, pz_cut_f, pz_cut_n, pv_gt, pv_ts, pv_tn, ev_ifeq, pz_wi_gc, pz_wi_ga, pz_wi_gn, pz_wi_gl, pz_wi_gr, pz_wi_same, pz_wi_X, pz_wl_gc, pz_wl_ga, pz_wl_gn, pz_wl_gi, pz_wl_gr, pz_wl_same, pz_wl_X, pz_wr_gc, pz_wr_ga, pz_wr_gn, pz_wr_gi, pz_wr_gl, pz_wr_same, pz_wr_X]
    refine po_brP (fun _ => ?_) (fun q => absurd trivial q)
    refine pw_blk (mi := mz_62) (b := bz_62_17) rfl rfl ?_
    simp only [bz_62_17, pz_cut_t, pz_cut_f, pz_cut_n, pv_gt, pv_ts, pv_tn, ev_icm1, ev_nil, pz_wi_gc, pz_wi_ga, pz_wi_gn, pz_wi_gl, pz_wi_gr, pz_wi_same, pz_wi_X, pz_wl_gc, pz_wl_ga, pz_wl_gn, pz_wl_gi, pz_wl_gr, pz_wl_same, pz_wl_X, pz_wr_gc, pz_wr_ga, pz_wr_gn, pz_wr_gi, pz_wr_gl, pz_wr_same, pz_wr_X]
    refine po_go ?_
    refine pw_blk (mi := mz_62) (b := bz_62_18) rfl rfl ?_
    simp only [bz_62_18, pz_cut_t, pz_cut_f, pz_cut_n, pv_gt, pv_ts, pv_tn, ev_iret0, pz_wi_gc, pz_wi_ga, pz_wi_gn, pz_wi_gl, pz_wi_gr, pz_wi_same, pz_wi_X, pz_wl_gc, pz_wl_ga, pz_wl_gn, pz_wl_gi, pz_wl_gr, pz_wl_same, pz_wl_X, pz_wr_gc, pz_wr_ga, pz_wr_gn, pz_wr_gi, pz_wr_gl, pz_wr_same, pz_wr_X]
    exact h0 z
theorem op_cuts (hd : 2 ≤ d) (hS : SH M) (hO : okB M) (hR : Rlk M) (hD : RD M) {x k : Int32} : pm d 61 [.ref 0, .int x, .int k] M (fun r1 => pm d 62 [.ref 120, .int x, .int k] r1.2 (fun r2 => r1.1 = r2.1 ∧ r2.2 = M)) := by
  obtain ⟨B, hB, h1, h2, _⟩ := hR
  obtain ⟨N, hN, n1, n2, hr⟩ := hD
  refine m_cuts hd hS h1 hB hN n1 (fun b l e => ?_) (fun z => ?_)
  · refine r_cuts hd hS hO h2 hB hN n2 (fun b' l' e' => ⟨?_, rfl⟩) (fun z => absurd e (z b l))
    rw [cnt_cong N (p' := dcut M x k) (fun i hi => ?_)]
    obtain ⟨a1, _, a3, a4, a5⟩ := hr i hi
    unfold dcut ldK
    rw [kn_un a5, a1, a3, a4]
  · exact r_cuts hd hS hO h2 hB hN n2 (fun b l e => absurd e (z b l)) (fun _ => ⟨rfl, rfl⟩)
end OPCUTS
