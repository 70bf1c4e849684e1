/-! ===== days without a key: Mind.rest, the reference's passDay and days ===== -/
section REST
variable {d : Nat} {M : pz_M} {Q : Option Value × pz_M → Prop}
/-- the first n of a row are f of what they were -/
def rowF (f : Int32 → Int32) (n : Nat) (r : Nat → Int32) : Nat → Int32 := fun i => if i < n then f (r i) else r i
theorem rowF_0 {f : Int32 → Int32} {r : Nat → Int32} : rowF f 0 r = r := by
  funext i
  unfold rowF
  rw [if_neg (by omega)]
theorem rowF_s {f : Int32 → Int32} {n : Nat} {r : Nat → Int32} : va_up (rowF f n r) n (f (rowF f n r n)) = rowF f (n + 1) r := by
  funext i
  unfold va_up rowF
  rw [if_neg (by omega : ¬ n < n)]
  by_cases h : i = n
  · subst h
    rw [if_pos rfl, if_pos (by omega)]
  · rw [if_neg h]
    by_cases h2 : i < n
    · rw [if_pos h2, if_pos (by omega)]
    · rw [if_neg h2, if_neg (by omega)]
theorem rowF_lt {f : Int32 → Int32} {n i : Nat} {r : Nat → Int32} (h : i < n) : rowF f n r i = f (r i) := by
  unfold rowF
  rw [if_pos h]
theorem l_rest (hd : 1 ≤ d) {o k fd : Int32} {m N D : Nat} (hN : N ≤ 24) (hD : D < 2 ^ 31) {f : Int32} : ∀ (c i : Nat) (M' : pz_M), i + c = N → SH M' → isMind M' m → (∀ j, j ∈ [m + 1, m + 2, m + 3] → j ≠ 4 ∧ j ≠ m) → gi M' 4 0 = nI N → sm [m + 1, m + 2, m + 3] M M' → gi M' (m + 1) = rowF (it (f_fade f) D) i (gi M (m + 1)) → gi M' (m + 2) = rowF (it (f_fade f) D) i (gi M (m + 2)) → gi M' (m + 3) = rowF (it (f_fade f) D) i (gi M (m + 3)) →
    (∀ M2, sm [m + 1, m + 2, m + 3] M M2 → SH M2 → isMind M2 m → gi M2 (m + 1) = rowF (it (f_fade f) D) N (gi M (m + 1)) → gi M2 (m + 2) = rowF (it (f_fade f) D) N (gi M (m + 2)) → gi M2 (m + 3) = rowF (it (f_fade f) D) N (gi M (m + 3)) → pw d 126 (82, [some (.ref m), some (.int (nI D)), some (.ref 4), some (.int f), some (.int (nI N))], [], M2) Q) →
    pw d 126 (10, [some (.ref m), some (.int (nI D)), some (.ref 4), some (.int f), some (.int (nI i))], [], M') Q := by
  intro c
  induction c with
  | zero =>
    intro i M' hi hS hM hne hn hsm h1 h2 h3 k
    have hi' : i = N := by omega
    subst hi'
    refine pw_blk (mi := mz_126) (b := bz_126_10) rfl rfl ?_
    simp only [bz_126_10, pz_cut_t, pz_cut_f, pz_cut_n, pv_gt, pv_ts, pv_tn, ev_ild4, ev_ald2, ev_eld2, ev_gf8_0, ev_ic_ge, pz_wi_gc, pz_wi_ga, pz_wi_gn, pz_wi_gl, pz_wi_gr, pz_wi_same, pz_wi_X, pz_wl_gc, pz_wl_ga, pz_wl_gn, pz_wl_gi, pz_wl_gr, pz_wl_same, pz_wl_X, pz_wr_gc, pz_wr_ga, pz_wr_gn, pz_wr_gi, pz_wr_gl, pz_wr_same, pz_wr_X, so_4 hS, hn]
    refine po_brP (fun _ => ?_) (fun q => absurd (nI_le (Nat.le_refl _) (by omega)) q)
    exact k M' hsm hS hM h1 h2 h3
  | succ c ih =>
    intro i M' hi hS hM hne hn hsm h1 h2 h3 k
    have hM' := hM
    obtain ⟨c1, ⟨r0, r1, r2, r3⟩, ⟨a1, a2, a3, a4⟩, ⟨n1, n2, n3, n4⟩⟩ := hM'
    have hbn : (nI i).toNatClampNeg = i := nI_clamp (by omega)
    have hin : pz_in (nI i) 24 = true := pz_in_nI (by omega) (by decide)
    refine pw_blk (mi := mz_126) (b := bz_126_10) rfl rfl ?_
    simp only [bz_126_10, pz_cut_t, pz_cut_f, pz_cut_n, pv_gt, pv_ts, pv_tn, ev_ild4, ev_ald2, ev_eld2, ev_gf8_0, ev_ic_ge, pz_wi_gc, pz_wi_ga, pz_wi_gn, pz_wi_gl, pz_wi_gr, pz_wi_same, pz_wi_X, pz_wl_gc, pz_wl_ga, pz_wl_gn, pz_wl_gi, pz_wl_gr, pz_wl_same, pz_wl_X, pz_wr_gc, pz_wr_ga, pz_wr_gn, pz_wr_gi, pz_wr_gl, pz_wr_same, pz_wr_X, so_4 hS, hn]
    refine po_brP (fun q => absurd q (nI_ge (by omega) (by omega))) (fun _ => ?_)
    refine pw_blk (mi := mz_126) (b := bz_126_19) rfl rfl ?_
    simp only [bz_126_19, pz_cut_t, pz_cut_f, pz_cut_n, pv_gt, pv_ts, pv_tn, ev_ald0, ev_eld0, ev_gf3_2, ev_ild4, ea_iald, ev_ild1, ev_ild3, ev_cs3, pz_wi_gc, pz_wi_ga, pz_wi_gn, pz_wi_gl, pz_wi_gr, pz_wi_same, pz_wi_X, pz_wl_gc, pz_wl_ga, pz_wl_gn, pz_wl_gi, pz_wl_gr, pz_wl_same, pz_wl_X, pz_wr_gc, pz_wr_ga, pz_wr_gn, pz_wr_gi, pz_wr_gl, pz_wr_same, pz_wr_X, c1, r0, a1, n1, hin, hbn]
    refine po_gP (Nat.le_of_ble_eq_true rfl) (po_call hd (m_faded hD ?_))
    refine pw_blk (mi := mz_126) (b := bz_126_37) rfl rfl ?_
    simp only [bz_126_37, pz_cut_t, pz_cut_f, pz_cut_n, pv_gt, pv_ts, pv_tn, ea_iast, ev_ald0, ev_eld0, ev_gf3_2, ev_ild4, ea_iald, ev_ild1, ev_ild3, ev_cs3, pz_wi_gc, pz_wi_ga, pz_wi_gn, pz_wi_gl, pz_wi_gr, pz_wi_same, pz_wi_X, pz_wl_gc, pz_wl_ga, pz_wl_gn, pz_wl_gi, pz_wl_gr, pz_wl_same, pz_wl_X, pz_wr_gc, pz_wr_ga, pz_wr_gn, pz_wr_gi, pz_wr_gl, pz_wr_same, pz_wr_X, c1, r0, r1, a1, n1, a2, n2, hin, hbn, pz_wi_else (show m + 2 ≠ m + 1 by omega)]
    refine po_gP (Nat.le_of_ble_eq_true rfl) (po_call hd (m_faded hD ?_))
    refine pw_blk (mi := mz_126) (b := bz_126_56) rfl rfl ?_
    simp only [bz_126_56, pz_cut_t, pz_cut_f, pz_cut_n, pv_gt, pv_ts, pv_tn, ea_iast, ev_ald0, ev_eld0, ev_gf3_2, ev_ild4, ea_iald, ev_ild1, ev_ild3, ev_cs3, pz_wi_gc, pz_wi_ga, pz_wi_gn, pz_wi_gl, pz_wi_gr, pz_wi_same, pz_wi_X, pz_wl_gc, pz_wl_ga, pz_wl_gn, pz_wl_gi, pz_wl_gr, pz_wl_same, pz_wl_X, pz_wr_gc, pz_wr_ga, pz_wr_gn, pz_wr_gi, pz_wr_gl, pz_wr_same, pz_wr_X, c1, r0, r1, r2, a1, n1, a2, n2, a3, n3, hin, hbn, pz_wi_else (show m + 2 ≠ m + 1 by omega), pz_wi_else (show m + 3 ≠ m + 1 by omega), pz_wi_else (show m + 3 ≠ m + 2 by omega)]
    refine po_gP (Nat.le_of_ble_eq_true rfl) (po_call hd (m_faded hD ?_))
    refine pw_blk (mi := mz_126) (b := bz_126_75) rfl rfl ?_
    simp only [bz_126_75, pz_cut_t, pz_cut_f, pz_cut_n, pv_gt, pv_ts, pv_tn, ea_iast, ev_inc4n, ev_inc4i, ev_inc4r, ev_inc4e, ev_goto, pz_wi_gc, pz_wi_ga, pz_wi_gn, pz_wi_gl, pz_wi_gr, pz_wi_same, pz_wi_X, pz_wl_gc, pz_wl_ga, pz_wl_gn, pz_wl_gi, pz_wl_gr, pz_wl_same, pz_wl_X, pz_wr_gc, pz_wr_ga, pz_wr_gn, pz_wr_gi, pz_wr_gl, pz_wr_same, pz_wr_X, c1, a1, n1, a2, n2, a3, n3, hin, hbn, inc1, pz_wi_else (show m + 2 ≠ m + 1 by omega), pz_wi_else (show m + 3 ≠ m + 1 by omega), pz_wi_else (show m + 3 ≠ m + 2 by omega)]
    refine po_go ?_
    have hs2 := ((hsm.wi (k := m + 1) (r := va_up (gi M' (m + 1)) i (it (f_fade f) D (gi M' (m + 1) i))) (by simp)).wi (k := m + 2) (r := va_up (gi M' (m + 2)) i (it (f_fade f) D (gi M' (m + 2) i))) (by simp)).wi (k := m + 3) (r := va_up (gi M' (m + 3)) i (it (f_fade f) D (gi M' (m + 3) i))) (by simp)
    have hs3 : sm [m + 1, m + 2, m + 3] M' _ := ((sm.rf (M := M')).wi (k := m + 1) (r := va_up (gi M' (m + 1)) i (it (f_fade f) D (gi M' (m + 1) i))) (by simp)).wi (k := m + 2) (r := va_up (gi M' (m + 2)) i (it (f_fade f) D (gi M' (m + 2) i))) (by simp) |>.wi (k := m + 3) (r := va_up (gi M' (m + 3)) i (it (f_fade f) D (gi M' (m + 3) i))) (by simp)
    refine ih (i + 1) _ (by omega) (hS.sm hs3) (hM.sm hs3) hne ?_ hs2 ?_ ?_ ?_ k
    · rw [hs3.i (fun z => (hne 4 z).1 rfl)]
      exact hn
    · rw [pz_wi_else (show m + 1 ≠ m + 3 by omega), pz_wi_else (show m + 1 ≠ m + 2 by omega), pz_wi_same, h1, rowF_s]
    · rw [pz_wi_else (show m + 2 ≠ m + 3 by omega), pz_wi_same, h2, rowF_s]
    · rw [pz_wi_same, h3, rowF_s]
end REST
