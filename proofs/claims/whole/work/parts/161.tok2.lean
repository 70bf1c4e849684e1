/-! ===== tokens, the class's tape ===== -/
section TOK2
variable {d : Nat} {M M' : pz_M} {Q : Option Value × pz_M → Prop} {ru : Bool} {T : Nat → Nat} {L s : Nat}
def ckd : Nat → Nat
  | 0 => 0
  | 2 => 1
  | 3 => 1
  | 4 => 2
  | 5 => 3
  | _ => 4
/-- the token that the class looks at -/
def cTk (M : pz_M) (t : Tk) : Prop := (gi M 1 4 = nI t.2.2.2.2 ∧ gi M 1 5 = nI t.2.2.2.1 ∧ gi M 1 11 = 0 ∧ gi M 1 12 = -1) ∧ t.1 ≠ 1 ∧ gi M 1 6 = nI (ckd t.1) ∧ gi M 1 7 = (if t.1 = 3 then nI t.2.1 else -1) ∧ (t.1 = 2 ∨ t.1 = 3 → gl M 1 8 = p5 t.2.2.1) ∧ (t.1 = 4 → gi M 1 9 = nI t.2.1) ∧ (t.1 = 5 → gi M 1 10 = nI t.2.1)
/-- ahead of a token at s -/
def cAt (M : pz_M) (s : Nat) : Prop := gi M 1 4 = nI s ∧ gi M 1 5 = nI s ∧ gi M 1 7 = -1 ∧ gi M 1 11 = 0 ∧ gi M 1 12 = -1
def sg9 : Nat → Int32 := fun k => ([59, 40, 41, 60, 62, 61, 43, 45, 42] : List Int32).getD k 0
theorem sg9_1 : ∀ c, c < 256 → ∀ i, i < 9 → sg9 i = sb_b c → isSg true c = true := by decide +kernel
theorem sg9_0 : ∀ c, c < 256 → isSg true c = true → ∃ i, i < 9 ∧ sg9 i = sb_b c := by decide +kernel
theorem sg1_1 : ∀ c, c < 256 → (59 : Int32) = sb_b c → isSg false c = true := by decide +kernel
theorem sg1_0 : ∀ c, c < 256 → isSg false c = true → (59 : Int32) = sb_b c := by decide +kernel
theorem m_signAt (hd : 6 ≤ d) {c : Nat} (hc : c < 256) (k1 : isSg ru c = true → ∀ i, i < 100 → Q (some (.int (nI i)), M)) (k0 : isSg ru c = false → Q (some (.int (-1)), M)) : pm d 279 [.retAddr (if ru = true then 7 else 6), .int (nI c)] M Q := by
  cases ru with
  | true =>
    refine m_indexOf (q := 7) (n := 9) (g := sg9) (by omega) (by decide) (by decide) rfl (by decide) (by decide) hc (fun i hi e => k1 (sg9_1 c hc i hi e) i (by omega)) (fun h => k0 ?_)
    cases z : isSg true c with
    | false => rfl
    | true =>
      obtain ⟨i, hi, e⟩ := sg9_0 c hc z
      exact absurd e (h i hi)
  | false =>
    refine m_indexOf (q := 6) (n := 1) (g := fun _ => 59) (by omega) (by decide) (by decide) rfl (by decide) (by decide) hc (fun i hi e => k1 (sg1_1 c hc e) i (by omega)) (fun h => k0 ?_)
    cases z : isSg false c with
    | false => rfl
    | true => exact absurd (sg1_0 c hc z) (h 0 (by decide))
theorem m_readSign (hd : 8 ≤ d) (x : txC M ru T L) (hs : s < L) (c : cAt M s) (k1 : isSg ru (T s) = true → ∀ M', sm [1] M M' → gi M' 1 2 = gi M 1 2 → cTk M' (5, T s, [], s, s + 1) → Q (none, M')) (k0 : isSg ru (T s) = false → ∀ M', sm [1] M M' → gi M' 1 2 = gi M 1 2 → cF M' 1 s → Q (none, M')) : pm d 267 [.ref 1] M Q := by
  obtain ⟨hS, eL, hL, hb, hw, hg⟩ := id x
  obtain ⟨c4, c5, c7, c11, c12⟩ := id c
  obtain ⟨e2, hT⟩ := hb s hs
  obtain ⟨b1, b2, -⟩ := sb_byte (T s) hT
  have sm0 : ∀ M1, M1 = pz_wi (pz_wi (pz_wi M 1 (va_up (gi M 1) 6 3)) 1 (va_up (va_up (gi M 1) 6 3) 10 (nI (T s)))) 1 (va_up (va_up (va_up (gi M 1) 6 3) 10 (nI (T s))) 4 (nI (s + 1))) → sm [1] M M1 ∧ gi M1 1 = va_up (va_up (va_up (gi M 1) 6 3) 10 (nI (T s))) 4 (nI (s + 1)) := fun M1 h => by
    rw [h]
    exact ⟨sm.wi (sm.wi (sm.wi sm.rf (by decide)) (by decide)) (by decide), pz_wi_same⟩
  have hq8 : 4 ≤ (if ru = true then 7 else 6) ∧ (if ru = true then 7 else 6) < 8 := by cases ru <;> decide
  generalize sb_b (T s) = w at e2 b1
  cases zz : isSg ru (T s) with
  | true =>
    have k := k1 zz
    refine pm_ent (L := [some (.ref 1)]) rfl (Nat.le_of_ble_eq_true rfl) ?_
    refine pw_blk (mi := mz_267) (b := bz_267_0) rfl rfl ?_
    simp only [bz_267_0, pz_cut_t, pz_cut_f, pz_cut_n, pv_gt, pv_ts, pv_tn, ev_ald0, ev_eld0, ev_ic3, ev_pf10_0, ev_gf10_2, ev_gf10_0, ea_bald, ea_zald, ev_sp255, ev_iand, ev_dupi, ev_dupr, ev_dupe, ev_ic1, ev_iadd, ev_i2c, ev_ce1, pz_wi_gc, pz_wi_ga, pz_wi_gn, pz_wi_gl, pz_wi_gr, pz_wi_same, pz_wi_X, pz_wl_gc, pz_wl_ga, pz_wl_gn, pz_wl_gi, pz_wl_gr, pz_wl_same, pz_wl_X, pz_wr_gc, pz_wr_ga, pz_wr_gn, pz_wr_gi, pz_wr_gl, pz_wr_same, pz_wr_X, so_1 hS, sr_1_0 hS, sa_2 hS, sn_2 hS, c4, e2, b1, b2, hg, ev_ce1 hq8]
    (try simp (disch := omega) only [nI_clamp, pz_in_nI2, pz_in_nI2L, pv_gt, nI_add, nI_addL, nI_Ladd, pk_mul, nI_mulL, nI_Lmul, pk_sub, nI_subL, nI_Lsub, nI_inc, nI_clampL, Nat.add_sub_cancel, pz_wi_else, pz_wl_else, vu_eq, vu_ne, pz_wi_gc, pz_wi_ga, pz_wi_gn, pz_wi_gl, pz_wi_gr, pz_wi_same, pz_wi_X, pz_wl_gc, pz_wl_ga, pz_wl_gn, pz_wl_gi, pz_wl_gr, pz_wl_same, pz_wl_X, pz_wr_gc, pz_wr_ga, pz_wr_gn, pz_wr_gi, pz_wr_gl, pz_wr_same, pz_wr_X, c4, e2, b1, b2, hg, ev_ce1 hq8])
    (try refine po_gI (by first | exact pz_in_nI (by omega) (by decide) | decide | assumption) ?_)
    (try refine po_gP (Nat.le_of_ble_eq_true rfl) ?_)
    refine po_call (by omega) (m_signAt (ru := ru) (by omega) hT (fun _ i hi => ?_) (fun z => by rw [zz] at z; cases z))
    refine pw_blk (mi := mz_267) (b := bz_267_44) rfl rfl ?_
    simp only [bz_267_44, pz_cut_t, pz_cut_f, pz_cut_n, pv_gt, pv_ts, pv_tn, ev_ifge, pz_wi_gc, pz_wi_ga, pz_wi_gn, pz_wi_gl, pz_wi_gr, pz_wi_same, pz_wi_X, pz_wl_gc, pz_wl_ga, pz_wl_gn, pz_wl_gi, pz_wl_gr, pz_wl_same, pz_wl_X, pz_wr_gc, pz_wr_ga, pz_wr_gn, pz_wr_gi, pz_wr_gl, pz_wr_same, pz_wr_X, c4, e2, b1, b2, hg, ev_ce1 hq8]
    (try simp (disch := omega) only [nI_clamp, pz_in_nI2, pz_in_nI2L, pv_gt, nI_add, nI_addL, nI_Ladd, pk_mul, nI_mulL, nI_Lmul, pk_sub, nI_subL, nI_Lsub, nI_inc, nI_clampL, Nat.add_sub_cancel, pz_wi_else, pz_wl_else, vu_eq, vu_ne, pz_wi_gc, pz_wi_ga, pz_wi_gn, pz_wi_gl, pz_wi_gr, pz_wi_same, pz_wi_X, pz_wl_gc, pz_wl_ga, pz_wl_gn, pz_wl_gi, pz_wl_gr, pz_wl_same, pz_wl_X, pz_wr_gc, pz_wr_ga, pz_wr_gn, pz_wr_gi, pz_wr_gl, pz_wr_same, pz_wr_X, c4, e2, b1, b2, hg, ev_ce1 hq8])
    refine po_brP (fun q44 => ?_) (fun q44 => ?_)
    · skip
      (try simp (disch := omega) only [nI_ltI, nI_leI, nI_eq, nI_ltL, nI_leL, nI_eqL, nI_Llt, nI_Lle, nI_Leq, nI_eqm, nI_meq, nI_ltm, nI_lem, nI_mlt, nI_mle, lg0, lgl, lgg, lgle, lgge, Int32.not_lt, Int32.not_le, Int64.not_lt, Int64.not_le, not_false_eq_true, not_true_eq_false, Decidable.not_not, ge_iff_le, gt_iff_lt] at q44)
      refine pw_blk (mi := mz_267) (b := bz_267_52) rfl rfl ?_
      simp only [bz_267_52, pz_cut_t, pz_cut_f, pz_cut_n, pv_gt, pv_ts, pv_tn, ev_ret, pz_wi_gc, pz_wi_ga, pz_wi_gn, pz_wi_gl, pz_wi_gr, pz_wi_same, pz_wi_X, pz_wl_gc, pz_wl_ga, pz_wl_gn, pz_wl_gi, pz_wl_gr, pz_wl_same, pz_wl_X, pz_wr_gc, pz_wr_ga, pz_wr_gn, pz_wr_gi, pz_wr_gl, pz_wr_same, pz_wr_X, c4, e2, b1, b2, hg, ev_ce1 hq8]
      (try simp (disch := omega) only [nI_clamp, pz_in_nI2, pz_in_nI2L, pv_gt, nI_add, nI_addL, nI_Ladd, pk_mul, nI_mulL, nI_Lmul, pk_sub, nI_subL, nI_Lsub, nI_inc, nI_clampL, Nat.add_sub_cancel, pz_wi_else, pz_wl_else, vu_eq, vu_ne, pz_wi_gc, pz_wi_ga, pz_wi_gn, pz_wi_gl, pz_wi_gr, pz_wi_same, pz_wi_X, pz_wl_gc, pz_wl_ga, pz_wl_gn, pz_wl_gi, pz_wl_gr, pz_wl_same, pz_wl_X, pz_wr_gc, pz_wr_ga, pz_wr_gn, pz_wr_gi, pz_wr_gl, pz_wr_same, pz_wr_X, c4, e2, b1, b2, hg, ev_ce1 hq8])
      refine po_then (fun M1 hM1 => ?_)
      obtain ⟨s1, e1⟩ := sm0 M1 hM1
      refine k M1 s1 (by rw [e1, vu_ne (by decide), vu_ne (by decide), vu_ne (by decide)]) ⟨⟨?_, ?_, ?_, ?_⟩, (show (5 : Nat) ≠ 1 by decide), ?_, ?_, fun z => ?_, fun z => ?_, fun _ => ?_⟩
      · rw [e1, vu_eq]
      · rw [e1, vu_ne (by decide), vu_ne (by decide), vu_ne (by decide)]; exact c5
      · rw [e1, vu_ne (by decide), vu_ne (by decide), vu_ne (by decide)]; exact c11
      · rw [e1, vu_ne (by decide), vu_ne (by decide), vu_ne (by decide)]; exact c12
      · rw [e1, vu_ne (by decide), vu_ne (by decide), vu_eq]; rfl
      · rw [e1, vu_ne (by decide), vu_ne (by decide), vu_ne (by decide)]; exact c7
      · exact absurd (show (5 : Nat) = 2 ∨ (5 : Nat) = 3 from z) (by decide)
      · exact absurd (show (5 : Nat) = 4 from z) (by decide)
      · rw [e1, vu_ne (by decide), vu_eq]
    · first
      | exact absurd q44 (by decide)
      | exact absurd trivial q44
      | exact q44.elim
      | (exfalso; (try simp (disch := omega) only [nI_ltI, nI_leI, nI_eq, nI_ltL, nI_leL, nI_eqL, nI_Llt, nI_Lle, nI_Leq, nI_eqm, nI_meq, nI_ltm, nI_lem, nI_mlt, nI_mle, lg0, lgl, lgg, lgle, lgge, Int32.not_lt, Int32.not_le, Int64.not_lt, Int64.not_le, not_false_eq_true, not_true_eq_false, Decidable.not_not, ge_iff_le, gt_iff_lt] at q44) <;> omega)
      | exact absurd q44 (by with_reducible assumption)
      | exact absurd (by with_reducible assumption) q44
      | exact absurd (Decidable.not_not.mp q44) (by with_reducible assumption)
      | exact absurd (by with_reducible assumption) (Int32.not_le.mpr q44)
      | exact absurd (by with_reducible assumption) (Int32.not_lt.mpr q44)
  | false =>
    have k := k0 zz
    refine pm_ent (L := [some (.ref 1)]) rfl (Nat.le_of_ble_eq_true rfl) ?_
    refine pw_blk (mi := mz_267) (b := bz_267_0) rfl rfl ?_
    simp only [bz_267_0, pz_cut_t, pz_cut_f, pz_cut_n, pv_gt, pv_ts, pv_tn, ev_ald0, ev_eld0, ev_ic3, ev_pf10_0, ev_gf10_2, ev_gf10_0, ea_bald, ea_zald, ev_sp255, ev_iand, ev_dupi, ev_dupr, ev_dupe, ev_ic1, ev_iadd, ev_i2c, ev_ce1, pz_wi_gc, pz_wi_ga, pz_wi_gn, pz_wi_gl, pz_wi_gr, pz_wi_same, pz_wi_X, pz_wl_gc, pz_wl_ga, pz_wl_gn, pz_wl_gi, pz_wl_gr, pz_wl_same, pz_wl_X, pz_wr_gc, pz_wr_ga, pz_wr_gn, pz_wr_gi, pz_wr_gl, pz_wr_same, pz_wr_X, so_1 hS, sr_1_0 hS, sa_2 hS, sn_2 hS, c4, e2, b1, b2, hg, ev_ce1 hq8]
    (try simp (disch := omega) only [nI_clamp, pz_in_nI2, pz_in_nI2L, pv_gt, nI_add, nI_addL, nI_Ladd, pk_mul, nI_mulL, nI_Lmul, pk_sub, nI_subL, nI_Lsub, nI_inc, nI_clampL, Nat.add_sub_cancel, pz_wi_else, pz_wl_else, vu_eq, vu_ne, pz_wi_gc, pz_wi_ga, pz_wi_gn, pz_wi_gl, pz_wi_gr, pz_wi_same, pz_wi_X, pz_wl_gc, pz_wl_ga, pz_wl_gn, pz_wl_gi, pz_wl_gr, pz_wl_same, pz_wl_X, pz_wr_gc, pz_wr_ga, pz_wr_gn, pz_wr_gi, pz_wr_gl, pz_wr_same, pz_wr_X, c4, e2, b1, b2, hg, ev_ce1 hq8])
    (try refine po_gI (by first | exact pz_in_nI (by omega) (by decide) | decide | assumption) ?_)
    (try refine po_gP (Nat.le_of_ble_eq_true rfl) ?_)
    refine po_call (by omega) (m_signAt (ru := ru) (by omega) hT (fun z => by rw [zz] at z; cases z) (fun _ => ?_))
    refine pw_blk (mi := mz_267) (b := bz_267_44) rfl rfl ?_
    simp only [bz_267_44, pz_cut_t, pz_cut_f, pz_cut_n, pv_gt, pv_ts, pv_tn, ev_ifge, pz_wi_gc, pz_wi_ga, pz_wi_gn, pz_wi_gl, pz_wi_gr, pz_wi_same, pz_wi_X, pz_wl_gc, pz_wl_ga, pz_wl_gn, pz_wl_gi, pz_wl_gr, pz_wl_same, pz_wl_X, pz_wr_gc, pz_wr_ga, pz_wr_gn, pz_wr_gi, pz_wr_gl, pz_wr_same, pz_wr_X, c4, e2, b1, b2, hg, ev_ce1 hq8]
    (try simp (disch := omega) only [nI_clamp, pz_in_nI2, pz_in_nI2L, pv_gt, nI_add, nI_addL, nI_Ladd, pk_mul, nI_mulL, nI_Lmul, pk_sub, nI_subL, nI_Lsub, nI_inc, nI_clampL, Nat.add_sub_cancel, pz_wi_else, pz_wl_else, vu_eq, vu_ne, pz_wi_gc, pz_wi_ga, pz_wi_gn, pz_wi_gl, pz_wi_gr, pz_wi_same, pz_wi_X, pz_wl_gc, pz_wl_ga, pz_wl_gn, pz_wl_gi, pz_wl_gr, pz_wl_same, pz_wl_X, pz_wr_gc, pz_wr_ga, pz_wr_gn, pz_wr_gi, pz_wr_gl, pz_wr_same, pz_wr_X, c4, e2, b1, b2, hg, ev_ce1 hq8])
    refine po_brP (fun q44 => ?_) (fun q44 => ?_)
    · first
      | exact absurd q44 (by decide)
      | exact absurd trivial q44
      | exact q44.elim
      | (exfalso; (try simp (disch := omega) only [nI_ltI, nI_leI, nI_eq, nI_ltL, nI_leL, nI_eqL, nI_Llt, nI_Lle, nI_Leq, nI_eqm, nI_meq, nI_ltm, nI_lem, nI_mlt, nI_mle, lg0, lgl, lgg, lgle, lgge, Int32.not_lt, Int32.not_le, Int64.not_lt, Int64.not_le, not_false_eq_true, not_true_eq_false, Decidable.not_not, ge_iff_le, gt_iff_lt] at q44) <;> omega)
      | exact absurd q44 (by with_reducible assumption)
      | exact absurd (by with_reducible assumption) q44
      | exact absurd (Decidable.not_not.mp q44) (by with_reducible assumption)
      | exact absurd (by with_reducible assumption) (Int32.not_le.mpr q44)
      | exact absurd (by with_reducible assumption) (Int32.not_lt.mpr q44)
    · skip
      (try simp (disch := omega) only [nI_ltI, nI_leI, nI_eq, nI_ltL, nI_leL, nI_eqL, nI_Llt, nI_Lle, nI_Leq, nI_eqm, nI_meq, nI_ltm, nI_lem, nI_mlt, nI_mle, lg0, lgl, lgg, lgle, lgge, Int32.not_lt, Int32.not_le, Int64.not_lt, Int64.not_le, not_false_eq_true, not_true_eq_false, Decidable.not_not, ge_iff_le, gt_iff_lt] at q44)
      refine pw_blk (mi := mz_267) (b := bz_267_47) rfl rfl ?_
      simp only [bz_267_47, pz_cut_t, pz_cut_f, pz_cut_n, pv_gt, pv_ts, pv_tn, ev_ald0, ev_eld0, ev_ic1, ev_cv1_10, pz_wi_gc, pz_wi_ga, pz_wi_gn, pz_wi_gl, pz_wi_gr, pz_wi_same, pz_wi_X, pz_wl_gc, pz_wl_ga, pz_wl_gn, pz_wl_gi, pz_wl_gr, pz_wl_same, pz_wl_X, pz_wr_gc, pz_wr_ga, pz_wr_gn, pz_wr_gi, pz_wr_gl, pz_wr_same, pz_wr_X, so_1 hS, c4, e2, b1, b2, hg, ev_ce1 hq8]
      (try simp (disch := omega) only [nI_clamp, pz_in_nI2, pz_in_nI2L, pv_gt, nI_add, nI_addL, nI_Ladd, pk_mul, nI_mulL, nI_Lmul, pk_sub, nI_subL, nI_Lsub, nI_inc, nI_clampL, Nat.add_sub_cancel, pz_wi_else, pz_wl_else, vu_eq, vu_ne, pz_wi_gc, pz_wi_ga, pz_wi_gn, pz_wi_gl, pz_wi_gr, pz_wi_same, pz_wi_X, pz_wl_gc, pz_wl_ga, pz_wl_gn, pz_wl_gi, pz_wl_gr, pz_wl_same, pz_wl_X, pz_wr_gc, pz_wr_ga, pz_wr_gn, pz_wr_gi, pz_wr_gl, pz_wr_same, pz_wr_X, c4, e2, b1, b2, hg, ev_ce1 hq8])
      (try refine po_gP (Nat.le_of_ble_eq_true rfl) ?_)
      refine po_call (by omega) (m_fail1 (s := s) (k := 1) (hS.sm (sm0 _ rfl).1) (by decide) (by decide) (by rw [(sm0 _ rfl).2, vu_ne (by decide), vu_ne (by decide), vu_ne (by decide)]; exact c11) (by rw [(sm0 _ rfl).2, vu_ne (by decide), vu_ne (by decide), vu_ne (by decide)]; exact c5) (fun M2 s2 f1 f2 f3 f4 f5 => ?_))
      refine pw_blk (mi := mz_267) (b := bz_267_52) rfl rfl ?_
      simp only [bz_267_52, pz_cut_t, pz_cut_f, pz_cut_n, pv_gt, pv_ts, pv_tn, ev_ret, pz_wi_gc, pz_wi_ga, pz_wi_gn, pz_wi_gl, pz_wi_gr, pz_wi_same, pz_wi_X, pz_wl_gc, pz_wl_ga, pz_wl_gn, pz_wl_gi, pz_wl_gr, pz_wl_same, pz_wl_X, pz_wr_gc, pz_wr_ga, pz_wr_gn, pz_wr_gi, pz_wr_gl, pz_wr_same, pz_wr_X, c4, e2, b1, b2, hg, ev_ce1 hq8]
      (try simp (disch := omega) only [nI_clamp, pz_in_nI2, pz_in_nI2L, pv_gt, nI_add, nI_addL, nI_Ladd, pk_mul, nI_mulL, nI_Lmul, pk_sub, nI_subL, nI_Lsub, nI_inc, nI_clampL, Nat.add_sub_cancel, pz_wi_else, pz_wl_else, vu_eq, vu_ne, pz_wi_gc, pz_wi_ga, pz_wi_gn, pz_wi_gl, pz_wi_gr, pz_wi_same, pz_wi_X, pz_wl_gc, pz_wl_ga, pz_wl_gn, pz_wl_gi, pz_wl_gr, pz_wl_same, pz_wl_X, pz_wr_gc, pz_wr_ga, pz_wr_gn, pz_wr_gi, pz_wr_gl, pz_wr_same, pz_wr_X, c4, e2, b1, b2, hg, ev_ce1 hq8])
      refine po_ret (k M2 ((sm0 _ rfl).1.tr s2 (fun _ z => z)) ?_ ⟨by decide, f2, f3, f4, f5⟩)
      rw [f1, (sm0 _ rfl).2, vu_ne (by decide), vu_ne (by decide), vu_ne (by decide)]
theorem nuO_d {k : Nat} (hd : ∀ i, i < k → isDg (T (s + i)) = true) : nuO T s k < 10 ^ k := by
  induction k with
  | zero => exact Nat.zero_lt_one
  | succ k ih =>
    have h1 := ih (fun i hi => hd i (by omega))
    have h2 := hd k (by omega)
    unfold isDg at h2
    simp at h2
    rw [nuO, Nat.pow_succ]
    omega
theorem sb_dgn : ∀ c, c < 256 → isDg c = true → sb_b c = nI c := by decide +kernel
theorem sb_ltn : ∀ c, c < 256 → isLt c = true → sb_b c = nI c := by decide +kernel
theorem dg_ge {c : Nat} (h : isDg c = true) : 48 ≤ c ∧ c ≤ 57 := by
  unfold isDg at h
  simpa using h
theorem lt_ge {c : Nat} (h : isLt c = true) : 97 ≤ c ∧ c ≤ 122 := by
  unfold isLt at h
  simpa using h
theorem m_readNumber (hd : 4 ≤ d) (x : txC M ru T L) (hs : s < L) (c : cAt M s) (k1 : ¬ (4 < rn isDg T L s - s ∨ (rn isDg T L s < L ∧ isLt (T (rn isDg T L s)) = true)) → ∀ M', sm [1] M M' → gi M' 1 2 = gi M 1 2 → cTk M' (4, nuO T s (rn isDg T L s - s), [], s, rn isDg T L s) → Q (none, M')) (k0 : (4 < rn isDg T L s - s ∨ (rn isDg T L s < L ∧ isLt (T (rn isDg T L s)) = true)) → ∀ M', sm [1] M M' → gi M' 1 2 = gi M 1 2 → cF M' 1 s → Q (none, M')) : pm d 266 [.ref 1] M Q := by
  obtain ⟨hS, eL, hL, hb, hw, hg⟩ := id x
  obtain ⟨c4, c5, c7, c11, c12⟩ := id c
  obtain ⟨r1, r2, r3, r4⟩ := rn_b (p := isDg) (T := T) (L := L) _ s rfl
  have r2' := r2 (by omega)
  have key : ∀ q, q ≤ rn isDg T L s → s ≤ q → ∀ M', sm [1] M M' → gi M' 1 = va_up (va_up (va_up (gi M 1) 6 2) 9 (nI (nuO T s (q - s)))) 4 (nI q) → pw d 266 (10, [some (.ref 1)], [], M') Q := by
    refine upto (fun q hq ih => ?_)
    intro hsq M' s' e1
    have e12 : gi M' 1 2 = gi M 1 2 := by rw [e1, vu_ne (by decide), vu_ne (by decide), vu_ne (by decide)]
    have x' := x.fr s' e12
    obtain ⟨hS', eL', -, hb', -, -⟩ := id x'
    have e4 : gi M' 1 4 = nI q := by rw [e1, vu_eq]
    have e9 : gi M' 1 9 = nI (nuO T s (q - s)) := by rw [e1, vu_ne (by decide), vu_eq]
    have e5 : gi M' 1 5 = nI s := by rw [e1, vu_ne (by decide), vu_ne (by decide), vu_ne (by decide)]; exact c5
    have e11 : gi M' 1 11 = 0 := by rw [e1, vu_ne (by decide), vu_ne (by decide), vu_ne (by decide)]; exact c11
    have e12' : gi M' 1 12 = -1 := by rw [e1, vu_ne (by decide), vu_ne (by decide), vu_ne (by decide)]; exact c12
    have e7 : gi M' 1 7 = -1 := by rw [e1, vu_ne (by decide), vu_ne (by decide), vu_ne (by decide)]; exact c7
    have e6 : gi M' 1 6 = 2 := by rw [e1, vu_ne (by decide), vu_ne (by decide), vu_eq]
    by_cases hqe : q = rn isDg T L s
    · have fin1 : ¬ (4 < q - s ∨ (q < L ∧ isLt (T q) = true)) → Q (none, M') := fun z => by
        rw [hqe] at z
        refine k1 z M' s' e12 ⟨⟨?_, e5, e11, e12'⟩, (show (4 : Nat) ≠ 1 by decide), e6, e7, fun z => absurd (show (4 : Nat) = 2 ∨ (4 : Nat) = 3 from z) (by decide), fun _ => ?_, fun z => absurd (show (4 : Nat) = 5 from z) (by decide)⟩
        · rw [← hqe]; exact e4
        · rw [← hqe]; exact e9
      have fin0 : (4 < q - s ∨ (q < L ∧ isLt (T q) = true)) → ∀ M2, sm [1] M' M2 → gi M2 1 2 = gi M' 1 2 → gi M2 1 11 = nI 1 → gi M2 1 12 = nI s → gi M2 1 6 = 4 → gi M2 1 7 = -1 → Q (none, M2) := fun z M2 s2 f1 f2 f3 f4 f5 => by
        rw [hqe] at z
        exact k0 z M2 (s'.tr s2 (fun _ z => z)) (f1.trans e12) ⟨by decide, f2, f3, f4, f5⟩
      have stay : pw d 266 (69, [some (.ref 1)], [], M') Q := by
        by_cases z4 : 4 < q - s
        · skip
          refine pw_blk (mi := mz_266) (b := bz_266_69) rfl rfl ?_
          simp only [bz_266_69, pz_cut_t, pz_cut_f, pz_cut_n, pv_gt, pv_ts, pv_tn, ev_ald0, ev_eld0, ev_gf10_0, ev_isub, ev_ic4, ev_ic_gt, pz_wi_gc, pz_wi_ga, pz_wi_gn, pz_wi_gl, pz_wi_gr, pz_wi_same, pz_wi_X, pz_wl_gc, pz_wl_ga, pz_wl_gn, pz_wl_gi, pz_wl_gr, pz_wl_same, pz_wl_X, pz_wr_gc, pz_wr_ga, pz_wr_gn, pz_wr_gi, pz_wr_gl, pz_wr_same, pz_wr_X, so_1 hS', e4, e5]
          (try simp (disch := omega) only [nI_clamp, pz_in_nI2, pz_in_nI2L, pv_gt, nI_add, nI_addL, nI_Ladd, pk_mul, nI_mulL, nI_Lmul, pk_sub, nI_subL, nI_Lsub, nI_inc, nI_clampL, Nat.add_sub_cancel, pz_wi_else, pz_wl_else, vu_eq, vu_ne, pz_wi_gc, pz_wi_ga, pz_wi_gn, pz_wi_gl, pz_wi_gr, pz_wi_same, pz_wi_X, pz_wl_gc, pz_wl_ga, pz_wl_gn, pz_wl_gi, pz_wl_gr, pz_wl_same, pz_wl_X, pz_wr_gc, pz_wr_ga, pz_wr_gn, pz_wr_gi, pz_wr_gl, pz_wr_same, pz_wr_X, e4, e5])
          refine po_brP (fun q69 => ?_) (fun q69 => ?_)
          · skip
            (try simp (disch := omega) only [nI_ltI, nI_leI, nI_eq, nI_ltL, nI_leL, nI_eqL, nI_Llt, nI_Lle, nI_Leq, nI_eqm, nI_meq, nI_ltm, nI_lem, nI_mlt, nI_mle, lg0, lgl, lgg, lgle, lgge, Int32.not_lt, Int32.not_le, Int64.not_lt, Int64.not_le, not_false_eq_true, not_true_eq_false, Decidable.not_not, ge_iff_le, gt_iff_lt] at q69)
            refine pw_blk (mi := mz_266) (b := bz_266_93) rfl rfl ?_
            simp only [bz_266_93, pz_cut_t, pz_cut_f, pz_cut_n, pv_gt, pv_ts, pv_tn, ev_ald0, ev_eld0, ev_ic1, ev_cv1_10, pz_wi_gc, pz_wi_ga, pz_wi_gn, pz_wi_gl, pz_wi_gr, pz_wi_same, pz_wi_X, pz_wl_gc, pz_wl_ga, pz_wl_gn, pz_wl_gi, pz_wl_gr, pz_wl_same, pz_wl_X, pz_wr_gc, pz_wr_ga, pz_wr_gn, pz_wr_gi, pz_wr_gl, pz_wr_same, pz_wr_X, so_1 hS', e4, e5]
            (try simp (disch := omega) only [nI_clamp, pz_in_nI2, pz_in_nI2L, pv_gt, nI_add, nI_addL, nI_Ladd, pk_mul, nI_mulL, nI_Lmul, pk_sub, nI_subL, nI_Lsub, nI_inc, nI_clampL, Nat.add_sub_cancel, pz_wi_else, pz_wl_else, vu_eq, vu_ne, pz_wi_gc, pz_wi_ga, pz_wi_gn, pz_wi_gl, pz_wi_gr, pz_wi_same, pz_wi_X, pz_wl_gc, pz_wl_ga, pz_wl_gn, pz_wl_gi, pz_wl_gr, pz_wl_same, pz_wl_X, pz_wr_gc, pz_wr_ga, pz_wr_gn, pz_wr_gi, pz_wr_gl, pz_wr_same, pz_wr_X, e4, e5])
            (try refine po_gP (Nat.le_of_ble_eq_true rfl) ?_)
            refine po_call (by omega) (m_fail1 (s := s) (k := 1) hS' (by decide) (by decide) e11 e5 (fun M2 s2 f1 f2 f3 f4 f5 => ?_))
            refine pw_blk (mi := mz_266) (b := bz_266_98) rfl rfl ?_
            simp only [bz_266_98, pz_cut_t, pz_cut_f, pz_cut_n, pv_gt, pv_ts, pv_tn, ev_ret, pz_wi_gc, pz_wi_ga, pz_wi_gn, pz_wi_gl, pz_wi_gr, pz_wi_same, pz_wi_X, pz_wl_gc, pz_wl_ga, pz_wl_gn, pz_wl_gi, pz_wl_gr, pz_wl_same, pz_wl_X, pz_wr_gc, pz_wr_ga, pz_wr_gn, pz_wr_gi, pz_wr_gl, pz_wr_same, pz_wr_X, e4, e5]
            (try simp (disch := omega) only [nI_clamp, pz_in_nI2, pz_in_nI2L, pv_gt, nI_add, nI_addL, nI_Ladd, pk_mul, nI_mulL, nI_Lmul, pk_sub, nI_subL, nI_Lsub, nI_inc, nI_clampL, Nat.add_sub_cancel, pz_wi_else, pz_wl_else, vu_eq, vu_ne, pz_wi_gc, pz_wi_ga, pz_wi_gn, pz_wi_gl, pz_wi_gr, pz_wi_same, pz_wi_X, pz_wl_gc, pz_wl_ga, pz_wl_gn, pz_wl_gi, pz_wl_gr, pz_wl_same, pz_wl_X, pz_wr_gc, pz_wr_ga, pz_wr_gn, pz_wr_gi, pz_wr_gl, pz_wr_same, pz_wr_X, e4, e5])
            exact po_ret (fin0 (Or.inl z4) M2 s2 f1 f2 f3 f4 f5)
          · first
            | exact absurd q69 (by decide)
            | exact absurd trivial q69
            | exact q69.elim
            | (exfalso; (try simp (disch := omega) only [nI_ltI, nI_leI, nI_eq, nI_ltL, nI_leL, nI_eqL, nI_Llt, nI_Lle, nI_Leq, nI_eqm, nI_meq, nI_ltm, nI_lem, nI_mlt, nI_mle, lg0, lgl, lgg, lgle, lgge, Int32.not_lt, Int32.not_le, Int64.not_lt, Int64.not_le, not_false_eq_true, not_true_eq_false, Decidable.not_not, ge_iff_le, gt_iff_lt] at q69) <;> omega)
            | exact absurd q69 (by with_reducible assumption)
            | exact absurd (by with_reducible assumption) q69
            | exact absurd (Decidable.not_not.mp q69) (by with_reducible assumption)
            | exact absurd (by with_reducible assumption) (Int32.not_le.mpr q69)
            | exact absurd (by with_reducible assumption) (Int32.not_lt.mpr q69)
        · by_cases zl : q < L ∧ isLt (T q) = true
          · skip
            refine pw_blk (mi := mz_266) (b := bz_266_69) rfl rfl ?_
            simp only [bz_266_69, pz_cut_t, pz_cut_f, pz_cut_n, pv_gt, pv_ts, pv_tn, ev_ald0, ev_eld0, ev_gf10_0, ev_isub, ev_ic4, ev_ic_gt, pz_wi_gc, pz_wi_ga, pz_wi_gn, pz_wi_gl, pz_wi_gr, pz_wi_same, pz_wi_X, pz_wl_gc, pz_wl_ga, pz_wl_gn, pz_wl_gi, pz_wl_gr, pz_wl_same, pz_wl_X, pz_wr_gc, pz_wr_ga, pz_wr_gn, pz_wr_gi, pz_wr_gl, pz_wr_same, pz_wr_X, so_1 hS', e4, e5]
            (try simp (disch := omega) only [nI_clamp, pz_in_nI2, pz_in_nI2L, pv_gt, nI_add, nI_addL, nI_Ladd, pk_mul, nI_mulL, nI_Lmul, pk_sub, nI_subL, nI_Lsub, nI_inc, nI_clampL, Nat.add_sub_cancel, pz_wi_else, pz_wl_else, vu_eq, vu_ne, pz_wi_gc, pz_wi_ga, pz_wi_gn, pz_wi_gl, pz_wi_gr, pz_wi_same, pz_wi_X, pz_wl_gc, pz_wl_ga, pz_wl_gn, pz_wl_gi, pz_wl_gr, pz_wl_same, pz_wl_X, pz_wr_gc, pz_wr_ga, pz_wr_gn, pz_wr_gi, pz_wr_gl, pz_wr_same, pz_wr_X, e4, e5])
            refine po_brP (fun q69 => ?_) (fun q69 => ?_)
            · first
              | exact absurd q69 (by decide)
              | exact absurd trivial q69
              | exact q69.elim
              | (exfalso; (try simp (disch := omega) only [nI_ltI, nI_leI, nI_eq, nI_ltL, nI_leL, nI_eqL, nI_Llt, nI_Lle, nI_Leq, nI_eqm, nI_meq, nI_ltm, nI_lem, nI_mlt, nI_mle, lg0, lgl, lgg, lgle, lgge, Int32.not_lt, Int32.not_le, Int64.not_lt, Int64.not_le, not_false_eq_true, not_true_eq_false, Decidable.not_not, ge_iff_le, gt_iff_lt] at q69) <;> omega)
              | exact absurd q69 (by with_reducible assumption)
              | exact absurd (by with_reducible assumption) q69
              | exact absurd (Decidable.not_not.mp q69) (by with_reducible assumption)
              | exact absurd (by with_reducible assumption) (Int32.not_le.mpr q69)
              | exact absurd (by with_reducible assumption) (Int32.not_lt.mpr q69)
            · skip
              (try simp (disch := omega) only [nI_ltI, nI_leI, nI_eq, nI_ltL, nI_leL, nI_eqL, nI_Llt, nI_Lle, nI_Leq, nI_eqm, nI_meq, nI_ltm, nI_lem, nI_mlt, nI_mle, lg0, lgl, lgg, lgle, lgge, Int32.not_lt, Int32.not_le, Int64.not_lt, Int64.not_le, not_false_eq_true, not_true_eq_false, Decidable.not_not, ge_iff_le, gt_iff_lt] at q69)
              refine pw_blk (mi := mz_266) (b := bz_266_82) rfl rfl ?_
              simp only [bz_266_82, pz_cut_t, pz_cut_f, pz_cut_n, pv_gt, pv_ts, pv_tn, ev_ald0, ev_eld0, ev_gf10_0, ev_cv1_10, pz_wi_gc, pz_wi_ga, pz_wi_gn, pz_wi_gl, pz_wi_gr, pz_wi_same, pz_wi_X, pz_wl_gc, pz_wl_ga, pz_wl_gn, pz_wl_gi, pz_wl_gr, pz_wl_same, pz_wl_X, pz_wr_gc, pz_wr_ga, pz_wr_gn, pz_wr_gi, pz_wr_gl, pz_wr_same, pz_wr_X, so_1 hS', e4, e5]
              (try simp (disch := omega) only [nI_clamp, pz_in_nI2, pz_in_nI2L, pv_gt, nI_add, nI_addL, nI_Ladd, pk_mul, nI_mulL, nI_Lmul, pk_sub, nI_subL, nI_Lsub, nI_inc, nI_clampL, Nat.add_sub_cancel, pz_wi_else, pz_wl_else, vu_eq, vu_ne, pz_wi_gc, pz_wi_ga, pz_wi_gn, pz_wi_gl, pz_wi_gr, pz_wi_same, pz_wi_X, pz_wl_gc, pz_wl_ga, pz_wl_gn, pz_wl_gi, pz_wl_gr, pz_wl_same, pz_wl_X, pz_wr_gc, pz_wr_ga, pz_wr_gn, pz_wr_gi, pz_wr_gl, pz_wr_same, pz_wr_X, e4, e5])
              (try refine po_gP (Nat.le_of_ble_eq_true rfl) ?_)
              refine po_call (by omega) (m_isLetter x' (by omega) (fun _ _ => ?_) (fun z => absurd zl z))
              refine pw_blk (mi := mz_266) (b := bz_266_90) rfl rfl ?_
              simp only [bz_266_90, pz_cut_t, pz_cut_f, pz_cut_n, pv_gt, pv_ts, pv_tn, ev_ifeq, pz_wi_gc, pz_wi_ga, pz_wi_gn, pz_wi_gl, pz_wi_gr, pz_wi_same, pz_wi_X, pz_wl_gc, pz_wl_ga, pz_wl_gn, pz_wl_gi, pz_wl_gr, pz_wl_same, pz_wl_X, pz_wr_gc, pz_wr_ga, pz_wr_gn, pz_wr_gi, pz_wr_gl, pz_wr_same, pz_wr_X, e4, e5]
              (try simp (disch := omega) only [nI_clamp, pz_in_nI2, pz_in_nI2L, pv_gt, nI_add, nI_addL, nI_Ladd, pk_mul, nI_mulL, nI_Lmul, pk_sub, nI_subL, nI_Lsub, nI_inc, nI_clampL, Nat.add_sub_cancel, pz_wi_else, pz_wl_else, vu_eq, vu_ne, pz_wi_gc, pz_wi_ga, pz_wi_gn, pz_wi_gl, pz_wi_gr, pz_wi_same, pz_wi_X, pz_wl_gc, pz_wl_ga, pz_wl_gn, pz_wl_gi, pz_wl_gr, pz_wl_same, pz_wl_X, pz_wr_gc, pz_wr_ga, pz_wr_gn, pz_wr_gi, pz_wr_gl, pz_wr_same, pz_wr_X, e4, e5])
              refine po_brP (fun q90 => ?_) (fun q90 => ?_)
              · first
                | exact absurd q90 (by decide)
                | exact absurd trivial q90
                | exact q90.elim
                | (exfalso; (try simp (disch := omega) only [nI_ltI, nI_leI, nI_eq, nI_ltL, nI_leL, nI_eqL, nI_Llt, nI_Lle, nI_Leq, nI_eqm, nI_meq, nI_ltm, nI_lem, nI_mlt, nI_mle, lg0, lgl, lgg, lgle, lgge, Int32.not_lt, Int32.not_le, Int64.not_lt, Int64.not_le, not_false_eq_true, not_true_eq_false, Decidable.not_not, ge_iff_le, gt_iff_lt] at q90) <;> omega)
                | exact absurd q90 (by with_reducible assumption)
                | exact absurd (by with_reducible assumption) q90
                | exact absurd (Decidable.not_not.mp q90) (by with_reducible assumption)
                | exact absurd (by with_reducible assumption) (Int32.not_le.mpr q90)
                | exact absurd (by with_reducible assumption) (Int32.not_lt.mpr q90)
              · skip
                (try simp (disch := omega) only [nI_ltI, nI_leI, nI_eq, nI_ltL, nI_leL, nI_eqL, nI_Llt, nI_Lle, nI_Leq, nI_eqm, nI_meq, nI_ltm, nI_lem, nI_mlt, nI_mle, lg0, lgl, lgg, lgle, lgge, Int32.not_lt, Int32.not_le, Int64.not_lt, Int64.not_le, not_false_eq_true, not_true_eq_false, Decidable.not_not, ge_iff_le, gt_iff_lt] at q90)
                refine pw_blk (mi := mz_266) (b := bz_266_93) rfl rfl ?_
                simp only [bz_266_93, pz_cut_t, pz_cut_f, pz_cut_n, pv_gt, pv_ts, pv_tn, ev_ald0, ev_eld0, ev_ic1, ev_cv1_10, pz_wi_gc, pz_wi_ga, pz_wi_gn, pz_wi_gl, pz_wi_gr, pz_wi_same, pz_wi_X, pz_wl_gc, pz_wl_ga, pz_wl_gn, pz_wl_gi, pz_wl_gr, pz_wl_same, pz_wl_X, pz_wr_gc, pz_wr_ga, pz_wr_gn, pz_wr_gi, pz_wr_gl, pz_wr_same, pz_wr_X, so_1 hS', e4, e5]
                (try simp (disch := omega) only [nI_clamp, pz_in_nI2, pz_in_nI2L, pv_gt, nI_add, nI_addL, nI_Ladd, pk_mul, nI_mulL, nI_Lmul, pk_sub, nI_subL, nI_Lsub, nI_inc, nI_clampL, Nat.add_sub_cancel, pz_wi_else, pz_wl_else, vu_eq, vu_ne, pz_wi_gc, pz_wi_ga, pz_wi_gn, pz_wi_gl, pz_wi_gr, pz_wi_same, pz_wi_X, pz_wl_gc, pz_wl_ga, pz_wl_gn, pz_wl_gi, pz_wl_gr, pz_wl_same, pz_wl_X, pz_wr_gc, pz_wr_ga, pz_wr_gn, pz_wr_gi, pz_wr_gl, pz_wr_same, pz_wr_X, e4, e5])
                (try refine po_gP (Nat.le_of_ble_eq_true rfl) ?_)
                refine po_call (by omega) (m_fail1 (s := s) (k := 1) hS' (by decide) (by decide) e11 e5 (fun M2 s2 f1 f2 f3 f4 f5 => ?_))
                refine pw_blk (mi := mz_266) (b := bz_266_98) rfl rfl ?_
                simp only [bz_266_98, pz_cut_t, pz_cut_f, pz_cut_n, pv_gt, pv_ts, pv_tn, ev_ret, pz_wi_gc, pz_wi_ga, pz_wi_gn, pz_wi_gl, pz_wi_gr, pz_wi_same, pz_wi_X, pz_wl_gc, pz_wl_ga, pz_wl_gn, pz_wl_gi, pz_wl_gr, pz_wl_same, pz_wl_X, pz_wr_gc, pz_wr_ga, pz_wr_gn, pz_wr_gi, pz_wr_gl, pz_wr_same, pz_wr_X, e4, e5]
                (try simp (disch := omega) only [nI_clamp, pz_in_nI2, pz_in_nI2L, pv_gt, nI_add, nI_addL, nI_Ladd, pk_mul, nI_mulL, nI_Lmul, pk_sub, nI_subL, nI_Lsub, nI_inc, nI_clampL, Nat.add_sub_cancel, pz_wi_else, pz_wl_else, vu_eq, vu_ne, pz_wi_gc, pz_wi_ga, pz_wi_gn, pz_wi_gl, pz_wi_gr, pz_wi_same, pz_wi_X, pz_wl_gc, pz_wl_ga, pz_wl_gn, pz_wl_gi, pz_wl_gr, pz_wl_same, pz_wl_X, pz_wr_gc, pz_wr_ga, pz_wr_gn, pz_wr_gi, pz_wr_gl, pz_wr_same, pz_wr_X, e4, e5])
                exact po_ret (fin0 (Or.inr zl) M2 s2 f1 f2 f3 f4 f5)
          · skip
            refine pw_blk (mi := mz_266) (b := bz_266_69) rfl rfl ?_
            simp only [bz_266_69, pz_cut_t, pz_cut_f, pz_cut_n, pv_gt, pv_ts, pv_tn, ev_ald0, ev_eld0, ev_gf10_0, ev_isub, ev_ic4, ev_ic_gt, pz_wi_gc, pz_wi_ga, pz_wi_gn, pz_wi_gl, pz_wi_gr, pz_wi_same, pz_wi_X, pz_wl_gc, pz_wl_ga, pz_wl_gn, pz_wl_gi, pz_wl_gr, pz_wl_same, pz_wl_X, pz_wr_gc, pz_wr_ga, pz_wr_gn, pz_wr_gi, pz_wr_gl, pz_wr_same, pz_wr_X, so_1 hS', e4, e5]
            (try simp (disch := omega) only [nI_clamp, pz_in_nI2, pz_in_nI2L, pv_gt, nI_add, nI_addL, nI_Ladd, pk_mul, nI_mulL, nI_Lmul, pk_sub, nI_subL, nI_Lsub, nI_inc, nI_clampL, Nat.add_sub_cancel, pz_wi_else, pz_wl_else, vu_eq, vu_ne, pz_wi_gc, pz_wi_ga, pz_wi_gn, pz_wi_gl, pz_wi_gr, pz_wi_same, pz_wi_X, pz_wl_gc, pz_wl_ga, pz_wl_gn, pz_wl_gi, pz_wl_gr, pz_wl_same, pz_wl_X, pz_wr_gc, pz_wr_ga, pz_wr_gn, pz_wr_gi, pz_wr_gl, pz_wr_same, pz_wr_X, e4, e5])
            refine po_brP (fun q69 => ?_) (fun q69 => ?_)
            · first
              | exact absurd q69 (by decide)
              | exact absurd trivial q69
              | exact q69.elim
              | (exfalso; (try simp (disch := omega) only [nI_ltI, nI_leI, nI_eq, nI_ltL, nI_leL, nI_eqL, nI_Llt, nI_Lle, nI_Leq, nI_eqm, nI_meq, nI_ltm, nI_lem, nI_mlt, nI_mle, lg0, lgl, lgg, lgle, lgge, Int32.not_lt, Int32.not_le, Int64.not_lt, Int64.not_le, not_false_eq_true, not_true_eq_false, Decidable.not_not, ge_iff_le, gt_iff_lt] at q69) <;> omega)
              | exact absurd q69 (by with_reducible assumption)
              | exact absurd (by with_reducible assumption) q69
              | exact absurd (Decidable.not_not.mp q69) (by with_reducible assumption)
              | exact absurd (by with_reducible assumption) (Int32.not_le.mpr q69)
              | exact absurd (by with_reducible assumption) (Int32.not_lt.mpr q69)
            · skip
              (try simp (disch := omega) only [nI_ltI, nI_leI, nI_eq, nI_ltL, nI_leL, nI_eqL, nI_Llt, nI_Lle, nI_Leq, nI_eqm, nI_meq, nI_ltm, nI_lem, nI_mlt, nI_mle, lg0, lgl, lgg, lgle, lgge, Int32.not_lt, Int32.not_le, Int64.not_lt, Int64.not_le, not_false_eq_true, not_true_eq_false, Decidable.not_not, ge_iff_le, gt_iff_lt] at q69)
              refine pw_blk (mi := mz_266) (b := bz_266_82) rfl rfl ?_
              simp only [bz_266_82, pz_cut_t, pz_cut_f, pz_cut_n, pv_gt, pv_ts, pv_tn, ev_ald0, ev_eld0, ev_gf10_0, ev_cv1_10, pz_wi_gc, pz_wi_ga, pz_wi_gn, pz_wi_gl, pz_wi_gr, pz_wi_same, pz_wi_X, pz_wl_gc, pz_wl_ga, pz_wl_gn, pz_wl_gi, pz_wl_gr, pz_wl_same, pz_wl_X, pz_wr_gc, pz_wr_ga, pz_wr_gn, pz_wr_gi, pz_wr_gl, pz_wr_same, pz_wr_X, so_1 hS', e4, e5]
              (try simp (disch := omega) only [nI_clamp, pz_in_nI2, pz_in_nI2L, pv_gt, nI_add, nI_addL, nI_Ladd, pk_mul, nI_mulL, nI_Lmul, pk_sub, nI_subL, nI_Lsub, nI_inc, nI_clampL, Nat.add_sub_cancel, pz_wi_else, pz_wl_else, vu_eq, vu_ne, pz_wi_gc, pz_wi_ga, pz_wi_gn, pz_wi_gl, pz_wi_gr, pz_wi_same, pz_wi_X, pz_wl_gc, pz_wl_ga, pz_wl_gn, pz_wl_gi, pz_wl_gr, pz_wl_same, pz_wl_X, pz_wr_gc, pz_wr_ga, pz_wr_gn, pz_wr_gi, pz_wr_gl, pz_wr_same, pz_wr_X, e4, e5])
              (try refine po_gP (Nat.le_of_ble_eq_true rfl) ?_)
              refine po_call (by omega) (m_isLetter x' (by omega) (fun a b => absurd ⟨a, b⟩ zl) (fun _ => ?_))
              refine pw_blk (mi := mz_266) (b := bz_266_90) rfl rfl ?_
              simp only [bz_266_90, pz_cut_t, pz_cut_f, pz_cut_n, pv_gt, pv_ts, pv_tn, ev_ifeq, pz_wi_gc, pz_wi_ga, pz_wi_gn, pz_wi_gl, pz_wi_gr, pz_wi_same, pz_wi_X, pz_wl_gc, pz_wl_ga, pz_wl_gn, pz_wl_gi, pz_wl_gr, pz_wl_same, pz_wl_X, pz_wr_gc, pz_wr_ga, pz_wr_gn, pz_wr_gi, pz_wr_gl, pz_wr_same, pz_wr_X, e4, e5]
              (try simp (disch := omega) only [nI_clamp, pz_in_nI2, pz_in_nI2L, pv_gt, nI_add, nI_addL, nI_Ladd, pk_mul, nI_mulL, nI_Lmul, pk_sub, nI_subL, nI_Lsub, nI_inc, nI_clampL, Nat.add_sub_cancel, pz_wi_else, pz_wl_else, vu_eq, vu_ne, pz_wi_gc, pz_wi_ga, pz_wi_gn, pz_wi_gl, pz_wi_gr, pz_wi_same, pz_wi_X, pz_wl_gc, pz_wl_ga, pz_wl_gn, pz_wl_gi, pz_wl_gr, pz_wl_same, pz_wl_X, pz_wr_gc, pz_wr_ga, pz_wr_gn, pz_wr_gi, pz_wr_gl, pz_wr_same, pz_wr_X, e4, e5])
              refine po_brP (fun q90 => ?_) (fun q90 => ?_)
              · skip
                (try simp (disch := omega) only [nI_ltI, nI_leI, nI_eq, nI_ltL, nI_leL, nI_eqL, nI_Llt, nI_Lle, nI_Leq, nI_eqm, nI_meq, nI_ltm, nI_lem, nI_mlt, nI_mle, lg0, lgl, lgg, lgle, lgge, Int32.not_lt, Int32.not_le, Int64.not_lt, Int64.not_le, not_false_eq_true, not_true_eq_false, Decidable.not_not, ge_iff_le, gt_iff_lt] at q90)
                refine pw_blk (mi := mz_266) (b := bz_266_98) rfl rfl ?_
                simp only [bz_266_98, pz_cut_t, pz_cut_f, pz_cut_n, pv_gt, pv_ts, pv_tn, ev_ret, pz_wi_gc, pz_wi_ga, pz_wi_gn, pz_wi_gl, pz_wi_gr, pz_wi_same, pz_wi_X, pz_wl_gc, pz_wl_ga, pz_wl_gn, pz_wl_gi, pz_wl_gr, pz_wl_same, pz_wl_X, pz_wr_gc, pz_wr_ga, pz_wr_gn, pz_wr_gi, pz_wr_gl, pz_wr_same, pz_wr_X, e4, e5]
                (try simp (disch := omega) only [nI_clamp, pz_in_nI2, pz_in_nI2L, pv_gt, nI_add, nI_addL, nI_Ladd, pk_mul, nI_mulL, nI_Lmul, pk_sub, nI_subL, nI_Lsub, nI_inc, nI_clampL, Nat.add_sub_cancel, pz_wi_else, pz_wl_else, vu_eq, vu_ne, pz_wi_gc, pz_wi_ga, pz_wi_gn, pz_wi_gl, pz_wi_gr, pz_wi_same, pz_wi_X, pz_wl_gc, pz_wl_ga, pz_wl_gn, pz_wl_gi, pz_wl_gr, pz_wl_same, pz_wl_X, pz_wr_gc, pz_wr_ga, pz_wr_gn, pz_wr_gi, pz_wr_gl, pz_wr_same, pz_wr_X, e4, e5])
                exact po_ret (fin1 (fun z => by rcases z with z | z; exact z4 z; exact zl z))
              · first
                | exact absurd q90 (by decide)
                | exact absurd trivial q90
                | exact q90.elim
                | (exfalso; (try simp (disch := omega) only [nI_ltI, nI_leI, nI_eq, nI_ltL, nI_leL, nI_eqL, nI_Llt, nI_Lle, nI_Leq, nI_eqm, nI_meq, nI_ltm, nI_lem, nI_mlt, nI_mle, lg0, lgl, lgg, lgle, lgge, Int32.not_lt, Int32.not_le, Int64.not_lt, Int64.not_le, not_false_eq_true, not_true_eq_false, Decidable.not_not, ge_iff_le, gt_iff_lt] at q90) <;> omega)
                | exact absurd q90 (by with_reducible assumption)
                | exact absurd (by with_reducible assumption) q90
                | exact absurd (Decidable.not_not.mp q90) (by with_reducible assumption)
                | exact absurd (by with_reducible assumption) (Int32.not_le.mpr q90)
                | exact absurd (by with_reducible assumption) (Int32.not_lt.mpr q90)
      by_cases hqL : q < L
      · skip
        refine pw_blk (mi := mz_266) (b := bz_266_10) rfl rfl ?_
        simp only [bz_266_10, pz_cut_t, pz_cut_f, pz_cut_n, pv_gt, pv_ts, pv_tn, ev_ald0, ev_eld0, ev_gf10_0, ev_ic_ge, pz_wi_gc, pz_wi_ga, pz_wi_gn, pz_wi_gl, pz_wi_gr, pz_wi_same, pz_wi_X, pz_wl_gc, pz_wl_ga, pz_wl_gn, pz_wl_gi, pz_wl_gr, pz_wl_same, pz_wl_X, pz_wr_gc, pz_wr_ga, pz_wr_gn, pz_wr_gi, pz_wr_gl, pz_wr_same, pz_wr_X, so_1 hS', e4, eL']
        (try simp (disch := omega) only [nI_clamp, pz_in_nI2, pz_in_nI2L, pv_gt, nI_add, nI_addL, nI_Ladd, pk_mul, nI_mulL, nI_Lmul, pk_sub, nI_subL, nI_Lsub, nI_inc, nI_clampL, Nat.add_sub_cancel, pz_wi_else, pz_wl_else, vu_eq, vu_ne, pz_wi_gc, pz_wi_ga, pz_wi_gn, pz_wi_gl, pz_wi_gr, pz_wi_same, pz_wi_X, pz_wl_gc, pz_wl_ga, pz_wl_gn, pz_wl_gi, pz_wl_gr, pz_wl_same, pz_wl_X, pz_wr_gc, pz_wr_ga, pz_wr_gn, pz_wr_gi, pz_wr_gl, pz_wr_same, pz_wr_X, e4, eL'])
        refine po_brP (fun q10 => ?_) (fun q10 => ?_)
        · first
          | exact absurd q10 (by decide)
          | exact absurd trivial q10
          | exact q10.elim
          | (exfalso; (try simp (disch := omega) only [nI_ltI, nI_leI, nI_eq, nI_ltL, nI_leL, nI_eqL, nI_Llt, nI_Lle, nI_Leq, nI_eqm, nI_meq, nI_ltm, nI_lem, nI_mlt, nI_mle, lg0, lgl, lgg, lgle, lgge, Int32.not_lt, Int32.not_le, Int64.not_lt, Int64.not_le, not_false_eq_true, not_true_eq_false, Decidable.not_not, ge_iff_le, gt_iff_lt] at q10) <;> omega)
          | exact absurd q10 (by with_reducible assumption)
          | exact absurd (by with_reducible assumption) q10
          | exact absurd (Decidable.not_not.mp q10) (by with_reducible assumption)
          | exact absurd (by with_reducible assumption) (Int32.not_le.mpr q10)
          | exact absurd (by with_reducible assumption) (Int32.not_lt.mpr q10)
        · skip
          (try simp (disch := omega) only [nI_ltI, nI_leI, nI_eq, nI_ltL, nI_leL, nI_eqL, nI_Llt, nI_Lle, nI_Leq, nI_eqm, nI_meq, nI_ltm, nI_lem, nI_mlt, nI_mle, lg0, lgl, lgg, lgle, lgge, Int32.not_lt, Int32.not_le, Int64.not_lt, Int64.not_le, not_false_eq_true, not_true_eq_false, Decidable.not_not, ge_iff_le, gt_iff_lt] at q10)
          refine pw_blk (mi := mz_266) (b := bz_266_21) rfl rfl ?_
          simp only [bz_266_21, pz_cut_t, pz_cut_f, pz_cut_n, pv_gt, pv_ts, pv_tn, ev_ald0, ev_eld0, ev_gf10_0, ev_cv1_10, pz_wi_gc, pz_wi_ga, pz_wi_gn, pz_wi_gl, pz_wi_gr, pz_wi_same, pz_wi_X, pz_wl_gc, pz_wl_ga, pz_wl_gn, pz_wl_gi, pz_wl_gr, pz_wl_same, pz_wl_X, pz_wr_gc, pz_wr_ga, pz_wr_gn, pz_wr_gi, pz_wr_gl, pz_wr_same, pz_wr_X, so_1 hS', e4, eL']
          (try simp (disch := omega) only [nI_clamp, pz_in_nI2, pz_in_nI2L, pv_gt, nI_add, nI_addL, nI_Ladd, pk_mul, nI_mulL, nI_Lmul, pk_sub, nI_subL, nI_Lsub, nI_inc, nI_clampL, Nat.add_sub_cancel, pz_wi_else, pz_wl_else, vu_eq, vu_ne, pz_wi_gc, pz_wi_ga, pz_wi_gn, pz_wi_gl, pz_wi_gr, pz_wi_same, pz_wi_X, pz_wl_gc, pz_wl_ga, pz_wl_gn, pz_wl_gi, pz_wl_gr, pz_wl_same, pz_wl_X, pz_wr_gc, pz_wr_ga, pz_wr_gn, pz_wr_gi, pz_wr_gl, pz_wr_same, pz_wr_X, e4, eL'])
          (try refine po_gP (Nat.le_of_ble_eq_true rfl) ?_)
          refine po_call (by omega) (m_isDigit x' (by omega) (fun a b => absurd ⟨by rw [← hqe]; exact a, by rw [← hqe]; exact b⟩ r4) (fun _ => ?_))
          refine pw_blk (mi := mz_266) (b := bz_266_29) rfl rfl ?_
          simp only [bz_266_29, pz_cut_t, pz_cut_f, pz_cut_n, pv_gt, pv_ts, pv_tn, ev_ifeq, pz_wi_gc, pz_wi_ga, pz_wi_gn, pz_wi_gl, pz_wi_gr, pz_wi_same, pz_wi_X, pz_wl_gc, pz_wl_ga, pz_wl_gn, pz_wl_gi, pz_wl_gr, pz_wl_same, pz_wl_X, pz_wr_gc, pz_wr_ga, pz_wr_gn, pz_wr_gi, pz_wr_gl, pz_wr_same, pz_wr_X, e4, eL']
          (try simp (disch := omega) only [nI_clamp, pz_in_nI2, pz_in_nI2L, pv_gt, nI_add, nI_addL, nI_Ladd, pk_mul, nI_mulL, nI_Lmul, pk_sub, nI_subL, nI_Lsub, nI_inc, nI_clampL, Nat.add_sub_cancel, pz_wi_else, pz_wl_else, vu_eq, vu_ne, pz_wi_gc, pz_wi_ga, pz_wi_gn, pz_wi_gl, pz_wi_gr, pz_wi_same, pz_wi_X, pz_wl_gc, pz_wl_ga, pz_wl_gn, pz_wl_gi, pz_wl_gr, pz_wl_same, pz_wl_X, pz_wr_gc, pz_wr_ga, pz_wr_gn, pz_wr_gi, pz_wr_gl, pz_wr_same, pz_wr_X, e4, eL'])
          refine po_brP (fun q29 => ?_) (fun q29 => ?_)
          · skip
            (try simp (disch := omega) only [nI_ltI, nI_leI, nI_eq, nI_ltL, nI_leL, nI_eqL, nI_Llt, nI_Lle, nI_Leq, nI_eqm, nI_meq, nI_ltm, nI_lem, nI_mlt, nI_mle, lg0, lgl, lgg, lgle, lgge, Int32.not_lt, Int32.not_le, Int64.not_lt, Int64.not_le, not_false_eq_true, not_true_eq_false, Decidable.not_not, ge_iff_le, gt_iff_lt] at q29)
            exact stay
          · first
            | exact absurd q29 (by decide)
            | exact absurd trivial q29
            | exact q29.elim
            | (exfalso; (try simp (disch := omega) only [nI_ltI, nI_leI, nI_eq, nI_ltL, nI_leL, nI_eqL, nI_Llt, nI_Lle, nI_Leq, nI_eqm, nI_meq, nI_ltm, nI_lem, nI_mlt, nI_mle, lg0, lgl, lgg, lgle, lgge, Int32.not_lt, Int32.not_le, Int64.not_lt, Int64.not_le, not_false_eq_true, not_true_eq_false, Decidable.not_not, ge_iff_le, gt_iff_lt] at q29) <;> omega)
            | exact absurd q29 (by with_reducible assumption)
            | exact absurd (by with_reducible assumption) q29
            | exact absurd (Decidable.not_not.mp q29) (by with_reducible assumption)
            | exact absurd (by with_reducible assumption) (Int32.not_le.mpr q29)
            | exact absurd (by with_reducible assumption) (Int32.not_lt.mpr q29)
      · skip
        refine pw_blk (mi := mz_266) (b := bz_266_10) rfl rfl ?_
        simp only [bz_266_10, pz_cut_t, pz_cut_f, pz_cut_n, pv_gt, pv_ts, pv_tn, ev_ald0, ev_eld0, ev_gf10_0, ev_ic_ge, pz_wi_gc, pz_wi_ga, pz_wi_gn, pz_wi_gl, pz_wi_gr, pz_wi_same, pz_wi_X, pz_wl_gc, pz_wl_ga, pz_wl_gn, pz_wl_gi, pz_wl_gr, pz_wl_same, pz_wl_X, pz_wr_gc, pz_wr_ga, pz_wr_gn, pz_wr_gi, pz_wr_gl, pz_wr_same, pz_wr_X, so_1 hS', e4, eL']
        (try simp (disch := omega) only [nI_clamp, pz_in_nI2, pz_in_nI2L, pv_gt, nI_add, nI_addL, nI_Ladd, pk_mul, nI_mulL, nI_Lmul, pk_sub, nI_subL, nI_Lsub, nI_inc, nI_clampL, Nat.add_sub_cancel, pz_wi_else, pz_wl_else, vu_eq, vu_ne, pz_wi_gc, pz_wi_ga, pz_wi_gn, pz_wi_gl, pz_wi_gr, pz_wi_same, pz_wi_X, pz_wl_gc, pz_wl_ga, pz_wl_gn, pz_wl_gi, pz_wl_gr, pz_wl_same, pz_wl_X, pz_wr_gc, pz_wr_ga, pz_wr_gn, pz_wr_gi, pz_wr_gl, pz_wr_same, pz_wr_X, e4, eL'])
        refine po_brP (fun q10 => ?_) (fun q10 => ?_)
        · skip
          (try simp (disch := omega) only [nI_ltI, nI_leI, nI_eq, nI_ltL, nI_leL, nI_eqL, nI_Llt, nI_Lle, nI_Leq, nI_eqm, nI_meq, nI_ltm, nI_lem, nI_mlt, nI_mle, lg0, lgl, lgg, lgle, lgge, Int32.not_lt, Int32.not_le, Int64.not_lt, Int64.not_le, not_false_eq_true, not_true_eq_false, Decidable.not_not, ge_iff_le, gt_iff_lt] at q10)
          exact stay
        · first
          | exact absurd q10 (by decide)
          | exact absurd trivial q10
          | exact q10.elim
          | (exfalso; (try simp (disch := omega) only [nI_ltI, nI_leI, nI_eq, nI_ltL, nI_leL, nI_eqL, nI_Llt, nI_Lle, nI_Leq, nI_eqm, nI_meq, nI_ltm, nI_lem, nI_mlt, nI_mle, lg0, lgl, lgg, lgle, lgge, Int32.not_lt, Int32.not_le, Int64.not_lt, Int64.not_le, not_false_eq_true, not_true_eq_false, Decidable.not_not, ge_iff_le, gt_iff_lt] at q10) <;> omega)
          | exact absurd q10 (by with_reducible assumption)
          | exact absurd (by with_reducible assumption) q10
          | exact absurd (Decidable.not_not.mp q10) (by with_reducible assumption)
          | exact absurd (by with_reducible assumption) (Int32.not_le.mpr q10)
          | exact absurd (by with_reducible assumption) (Int32.not_lt.mpr q10)
    · have hqL : q < L := by omega
      have hdq := r3 q hsq (by omega)
      obtain ⟨e2, hT⟩ := hb' q hqL
      rw [sb_dgn _ hT hdq] at e2
      have hge := dg_ge hdq
      have en : nuO T s (q + 1 - s) = nuO T s (q - s) * 10 + T q - 48 := by
        rw [show q + 1 - s = (q - s) + 1 by omega, nuO, show s + (q - s) = q by omega]
        omega
      refine pw_blk (mi := mz_266) (b := bz_266_10) rfl rfl ?_
      simp only [bz_266_10, pz_cut_t, pz_cut_f, pz_cut_n, pv_gt, pv_ts, pv_tn, ev_ald0, ev_eld0, ev_gf10_0, ev_ic_ge, pz_wi_gc, pz_wi_ga, pz_wi_gn, pz_wi_gl, pz_wi_gr, pz_wi_same, pz_wi_X, pz_wl_gc, pz_wl_ga, pz_wl_gn, pz_wl_gi, pz_wl_gr, pz_wl_same, pz_wl_X, pz_wr_gc, pz_wr_ga, pz_wr_gn, pz_wr_gi, pz_wr_gl, pz_wr_same, pz_wr_X, so_1 hS', e4, eL', e9, e2]
      (try simp (disch := omega) only [nI_clamp, pz_in_nI2, pz_in_nI2L, pv_gt, nI_add, nI_addL, nI_Ladd, pk_mul, nI_mulL, nI_Lmul, pk_sub, nI_subL, nI_Lsub, nI_inc, nI_clampL, Nat.add_sub_cancel, pz_wi_else, pz_wl_else, vu_eq, vu_ne, pz_wi_gc, pz_wi_ga, pz_wi_gn, pz_wi_gl, pz_wi_gr, pz_wi_same, pz_wi_X, pz_wl_gc, pz_wl_ga, pz_wl_gn, pz_wl_gi, pz_wl_gr, pz_wl_same, pz_wl_X, pz_wr_gc, pz_wr_ga, pz_wr_gn, pz_wr_gi, pz_wr_gl, pz_wr_same, pz_wr_X, e4, eL', e9, e2])
      refine po_brP (fun q10 => ?_) (fun q10 => ?_)
      · first
        | exact absurd q10 (by decide)
        | exact absurd trivial q10
        | exact q10.elim
        | (exfalso; (try simp (disch := omega) only [nI_ltI, nI_leI, nI_eq, nI_ltL, nI_leL, nI_eqL, nI_Llt, nI_Lle, nI_Leq, nI_eqm, nI_meq, nI_ltm, nI_lem, nI_mlt, nI_mle, lg0, lgl, lgg, lgle, lgge, Int32.not_lt, Int32.not_le, Int64.not_lt, Int64.not_le, not_false_eq_true, not_true_eq_false, Decidable.not_not, ge_iff_le, gt_iff_lt] at q10) <;> omega)
        | exact absurd q10 (by with_reducible assumption)
        | exact absurd (by with_reducible assumption) q10
        | exact absurd (Decidable.not_not.mp q10) (by with_reducible assumption)
        | exact absurd (by with_reducible assumption) (Int32.not_le.mpr q10)
        | exact absurd (by with_reducible assumption) (Int32.not_lt.mpr q10)
      · skip
        (try simp (disch := omega) only [nI_ltI, nI_leI, nI_eq, nI_ltL, nI_leL, nI_eqL, nI_Llt, nI_Lle, nI_Leq, nI_eqm, nI_meq, nI_ltm, nI_lem, nI_mlt, nI_mle, lg0, lgl, lgg, lgle, lgge, Int32.not_lt, Int32.not_le, Int64.not_lt, Int64.not_le, not_false_eq_true, not_true_eq_false, Decidable.not_not, ge_iff_le, gt_iff_lt] at q10)
        refine pw_blk (mi := mz_266) (b := bz_266_21) rfl rfl ?_
        simp only [bz_266_21, pz_cut_t, pz_cut_f, pz_cut_n, pv_gt, pv_ts, pv_tn, ev_ald0, ev_eld0, ev_gf10_0, ev_cv1_10, pz_wi_gc, pz_wi_ga, pz_wi_gn, pz_wi_gl, pz_wi_gr, pz_wi_same, pz_wi_X, pz_wl_gc, pz_wl_ga, pz_wl_gn, pz_wl_gi, pz_wl_gr, pz_wl_same, pz_wl_X, pz_wr_gc, pz_wr_ga, pz_wr_gn, pz_wr_gi, pz_wr_gl, pz_wr_same, pz_wr_X, so_1 hS', e4, eL', e9, e2]
        (try simp (disch := omega) only [nI_clamp, pz_in_nI2, pz_in_nI2L, pv_gt, nI_add, nI_addL, nI_Ladd, pk_mul, nI_mulL, nI_Lmul, pk_sub, nI_subL, nI_Lsub, nI_inc, nI_clampL, Nat.add_sub_cancel, pz_wi_else, pz_wl_else, vu_eq, vu_ne, pz_wi_gc, pz_wi_ga, pz_wi_gn, pz_wi_gl, pz_wi_gr, pz_wi_same, pz_wi_X, pz_wl_gc, pz_wl_ga, pz_wl_gn, pz_wl_gi, pz_wl_gr, pz_wl_same, pz_wl_X, pz_wr_gc, pz_wr_ga, pz_wr_gn, pz_wr_gi, pz_wr_gl, pz_wr_same, pz_wr_X, e4, eL', e9, e2])
        (try refine po_gP (Nat.le_of_ble_eq_true rfl) ?_)
        refine po_call (by omega) (m_isDigit x' (by omega) (fun _ _ => ?_) (fun z => absurd ⟨hqL, hdq⟩ z))
        refine pw_blk (mi := mz_266) (b := bz_266_29) rfl rfl ?_
        simp only [bz_266_29, pz_cut_t, pz_cut_f, pz_cut_n, pv_gt, pv_ts, pv_tn, ev_ifeq, pz_wi_gc, pz_wi_ga, pz_wi_gn, pz_wi_gl, pz_wi_gr, pz_wi_same, pz_wi_X, pz_wl_gc, pz_wl_ga, pz_wl_gn, pz_wl_gi, pz_wl_gr, pz_wl_same, pz_wl_X, pz_wr_gc, pz_wr_ga, pz_wr_gn, pz_wr_gi, pz_wr_gl, pz_wr_same, pz_wr_X, e4, eL', e9, e2]
        (try simp (disch := omega) only [nI_clamp, pz_in_nI2, pz_in_nI2L, pv_gt, nI_add, nI_addL, nI_Ladd, pk_mul, nI_mulL, nI_Lmul, pk_sub, nI_subL, nI_Lsub, nI_inc, nI_clampL, Nat.add_sub_cancel, pz_wi_else, pz_wl_else, vu_eq, vu_ne, pz_wi_gc, pz_wi_ga, pz_wi_gn, pz_wi_gl, pz_wi_gr, pz_wi_same, pz_wi_X, pz_wl_gc, pz_wl_ga, pz_wl_gn, pz_wl_gi, pz_wl_gr, pz_wl_same, pz_wl_X, pz_wr_gc, pz_wr_ga, pz_wr_gn, pz_wr_gi, pz_wr_gl, pz_wr_same, pz_wr_X, e4, eL', e9, e2])
        refine po_brP (fun q29 => ?_) (fun q29 => ?_)
        · first
          | exact absurd q29 (by decide)
          | exact absurd trivial q29
          | exact q29.elim
          | (exfalso; (try simp (disch := omega) only [nI_ltI, nI_leI, nI_eq, nI_ltL, nI_leL, nI_eqL, nI_Llt, nI_Lle, nI_Leq, nI_eqm, nI_meq, nI_ltm, nI_lem, nI_mlt, nI_mle, lg0, lgl, lgg, lgle, lgge, Int32.not_lt, Int32.not_le, Int64.not_lt, Int64.not_le, not_false_eq_true, not_true_eq_false, Decidable.not_not, ge_iff_le, gt_iff_lt] at q29) <;> omega)
          | exact absurd q29 (by with_reducible assumption)
          | exact absurd (by with_reducible assumption) q29
          | exact absurd (Decidable.not_not.mp q29) (by with_reducible assumption)
          | exact absurd (by with_reducible assumption) (Int32.not_le.mpr q29)
          | exact absurd (by with_reducible assumption) (Int32.not_lt.mpr q29)
        · skip
          (try simp (disch := omega) only [nI_ltI, nI_leI, nI_eq, nI_ltL, nI_leL, nI_eqL, nI_Llt, nI_Lle, nI_Leq, nI_eqm, nI_meq, nI_ltm, nI_lem, nI_mlt, nI_mle, lg0, lgl, lgg, lgle, lgge, Int32.not_lt, Int32.not_le, Int64.not_lt, Int64.not_le, not_false_eq_true, not_true_eq_false, Decidable.not_not, ge_iff_le, gt_iff_lt] at q29)
          refine pw_blk (mi := mz_266) (b := bz_266_32) rfl rfl ?_
          simp only [bz_266_32, pz_cut_t, pz_cut_f, pz_cut_n, pv_gt, pv_ts, pv_tn, ev_ald0, ev_eld0, ev_gf10_0, ev_bp10, ev_imul, ev_gf10_2, ea_bald, ea_zald, ev_iadd, ev_bp48, ev_isub, ev_pf10_0, ev_dupi, ev_dupr, ev_dupe, ev_ic1, ev_goto, pz_wi_gc, pz_wi_ga, pz_wi_gn, pz_wi_gl, pz_wi_gr, pz_wi_same, pz_wi_X, pz_wl_gc, pz_wl_ga, pz_wl_gn, pz_wl_gi, pz_wl_gr, pz_wl_same, pz_wl_X, pz_wr_gc, pz_wr_ga, pz_wr_gn, pz_wr_gi, pz_wr_gl, pz_wr_same, pz_wr_X, so_1 hS', sr_1_0 hS', sa_2 hS', sn_2 hS', e4, eL', e9, e2]
          (try simp (disch := omega) only [nI_clamp, pz_in_nI2, pz_in_nI2L, pv_gt, nI_add, nI_addL, nI_Ladd, pk_mul, nI_mulL, nI_Lmul, pk_sub, nI_subL, nI_Lsub, nI_inc, nI_clampL, Nat.add_sub_cancel, pz_wi_else, pz_wl_else, vu_eq, vu_ne, pz_wi_gc, pz_wi_ga, pz_wi_gn, pz_wi_gl, pz_wi_gr, pz_wi_same, pz_wi_X, pz_wl_gc, pz_wl_ga, pz_wl_gn, pz_wl_gi, pz_wl_gr, pz_wl_same, pz_wl_X, pz_wr_gc, pz_wr_ga, pz_wr_gn, pz_wr_gi, pz_wr_gl, pz_wr_same, pz_wr_X, e4, eL', e9, e2])
          (try refine po_gI (by first | exact pz_in_nI (by omega) (by decide) | decide | assumption) ?_)
          refine po_go ?_
          refine ih (q + 1) (by omega) (by omega) (by omega) _ ?_ ?_
          · exact sm.wi (sm.wi s' (by decide)) (by decide)
          · rw [pz_wi_same, e1, en]
            funext j
            unfold va_up
            by_cases q1 : j = 4
            · simp [q1]
            · by_cases q2 : j = 9
              · simp [q2]
              · simp [q1, q2]
  refine pm_ent (L := [some (.ref 1)]) rfl (Nat.le_of_ble_eq_true rfl) ?_
  refine pw_blk (mi := mz_266) (b := bz_266_0) rfl rfl ?_
  simp only [bz_266_0, pz_cut_t, pz_cut_f, pz_cut_n, pv_gt, pv_ts, pv_tn, ev_ald0, ev_eld0, ev_ic2, ev_pf10_0, ev_ic0, ev_nil, pz_wi_gc, pz_wi_ga, pz_wi_gn, pz_wi_gl, pz_wi_gr, pz_wi_same, pz_wi_X, pz_wl_gc, pz_wl_ga, pz_wl_gn, pz_wl_gi, pz_wl_gr, pz_wl_same, pz_wl_X, pz_wr_gc, pz_wr_ga, pz_wr_gn, pz_wr_gi, pz_wr_gl, pz_wr_same, pz_wr_X, so_1 hS]
  (try simp (disch := omega) only [nI_clamp, pz_in_nI2, pz_in_nI2L, pv_gt, nI_add, nI_addL, nI_Ladd, pk_mul, nI_mulL, nI_Lmul, pk_sub, nI_subL, nI_Lsub, nI_inc, nI_clampL, Nat.add_sub_cancel, pz_wi_else, pz_wl_else, vu_eq, vu_ne, pz_wi_gc, pz_wi_ga, pz_wi_gn, pz_wi_gl, pz_wi_gr, pz_wi_same, pz_wi_X, pz_wl_gc, pz_wl_ga, pz_wl_gn, pz_wl_gi, pz_wl_gr, pz_wl_same, pz_wl_X, pz_wr_gc, pz_wr_ga, pz_wr_gn, pz_wr_gi, pz_wr_gl, pz_wr_same, pz_wr_X])
  refine po_go ?_
  refine key s r1 (Nat.le_refl _) _ (sm.wi (sm.wi sm.rf (by decide)) (by decide)) ?_
  rw [pz_wi_same, Nat.sub_self]
  funext j
  unfold va_up
  by_cases q1 : j = 4
  · subst q1
    simp
    exact c4
  · simp [q1]
    rfl
end TOK2
