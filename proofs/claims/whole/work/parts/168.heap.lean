/-! ===== a heap, the class's reader ===== -/
section HP
variable {d : Nat} {M M' : pz_M} {Q : Option Value × pz_M → Prop} {ru : Bool} {T : Nat → Nat} {L : Nat}
/-- c is c0 and some looks -/
def lkR (c0 c : Sc) : Prop := (c.H = c0.H ∧ c.P = c0.P ∧ c.N = c0.N ∧ c.hw = c0.hw ∧ c.hf = c0.hf ∧ c.he = c0.he ∧ c.pw = c0.pw ∧ c.pf = c0.pf ∧ c.pt = c0.pt ∧ c.nw = c0.nw ∧ c.na = c0.na ∧ c.nb = c0.nb ∧ c.nt = c0.nt ∧ c.ns = c0.ns ∧ c.D = c0.D ∧ c.E = c0.E ∧ c.lt = c0.lt ∧ c.lw = c0.lw) ∧ c0.B ≤ c.B ∧ c.B ≤ 24 ∧ (∀ i, i < c0.B → c.lk i = c0.lk i ∧ c.ho i = c0.ho i) ∧ ∀ i, c0.B ≤ i → i < c.B → isWd (c.lk i) ∧ c.ho i = c0.H
theorem lkR.rf {c : Sc} (h : c.B ≤ 24) : lkR c c := ⟨⟨rfl, rfl, rfl, rfl, rfl, rfl, rfl, rfl, rfl, rfl, rfl, rfl, rfl, rfl, rfl, rfl, rfl, rfl⟩, Nat.le_refl _, h, fun _ _ => ⟨rfl, rfl⟩, fun i h1 h2 => absurd h1 (by omega)⟩
theorem lkR.lk {c0 c : Sc} {w : List Nat} (h : lkR c0 c) (hB : c.B < 24) (hw : isWd w) : lkR c0 (c.look w) := by
  obtain ⟨⟨a1, a2, a3, a4, a5, a6, a7, a8, a9, a10, a11, a12, a13, a14, a15, a16, a17, a18⟩, b1, b2, b3, b4⟩ := h
  refine ⟨⟨a1, a2, a3, a4, a5, a6, a7, a8, a9, a10, a11, a12, a13, a14, a15, a16, a17, a18⟩, ?_, ?_, fun i hi => ?_, fun i h1 h2 => ?_⟩
  · show c0.B ≤ c.B + 1
    omega
  · show c.B + 1 ≤ 24
    omega
  · show va_up c.lk c.B w i = _ ∧ va_up c.ho c.B c.H i = _
    rw [vu_ne (by omega), vu_ne (by omega)]
    exact b3 i hi
  · show isWd (va_up c.lk c.B w i) ∧ va_up c.ho c.B c.H i = _
    have h2' : i < c.B + 1 := h2
    by_cases q : i = c.B
    · subst q
      rw [vu_eq, vu_eq]
      exact ⟨hw, a1⟩
    · rw [vu_ne q, vu_ne q]
      exact b4 i h1 (by omega)
theorem okS.heap {c0 c : Sc} {w : List Nat} (o : okS c0) (h : lkR c0 c) (hB : c0.B < c.B) (hH : c0.H < 8) (hw : isWd w) : okS (c.heap w c0.B) := by
  obtain ⟨⟨o1, o2, o3, o4, o5, o6, o7, o8⟩, oB, oH, oP, oN, oL⟩ := o
  obtain ⟨⟨a1, a2, a3, a4, a5, a6, a7, a8, a9, a10, a11, a12, a13, a14, a15, a16, a17, a18⟩, b1, b2, b3, b4⟩ := h
  have p2 : 2 ^ c0.B ≤ 2 ^ c.B := Nat.pow_le_pow_right (by decide) b1
  refine ⟨⟨b2, ?_, ?_, ?_, ?_, ?_, ?_, ?_⟩, fun i hi => ?_, fun i hi => ?_, fun i hi => ?_, fun i hi => ?_, ?_⟩
  · show c.H + 1 ≤ 8
    omega
  · show c.P ≤ 4
    omega
  · show c.N ≤ 6
    omega
  · show c.H + 1 ≤ c.B
    omega
  · show c.H + 1 = 0 → _
    intro z
    omega
  · show c.D < 2 ^ c.B
    rw [a15]
    omega
  · show c.E < 2 ^ c.B
    rw [a16]
    omega
  · show isWd (c.lk i) ∧ c.ho i < 8
    have hi' : i < c.B := hi
    by_cases q : i < c0.B
    · rw [(b3 i q).1, (b3 i q).2]
      exact oB i q
    · obtain ⟨z1, z2⟩ := b4 i (by omega) hi'
      exact ⟨z1, by omega⟩
  · show isWd (va_up c.hw c.H w i) ∧ va_up c.hf c.H c0.B i < va_up c.he c.H c.B i ∧ va_up c.he c.H c.B i ≤ c.B ∧ (i + 1 < c.H + 1 → va_up c.hf c.H c0.B (i + 1) = va_up c.he c.H c.B i) ∧ (i + 1 = c.H + 1 → va_up c.he c.H c.B i = c.B)
    have hi' : i < c.H + 1 := hi
    by_cases q : i = c.H
    · subst q
      rw [vu_eq, vu_eq, vu_eq]
      exact ⟨hw, hB, Nat.le_refl _, fun z => absurd z (by omega), fun _ => rfl⟩
    · rw [vu_ne q, vu_ne q, vu_ne q, a4, a5, a6]
      obtain ⟨z1, z2, z3, z4, z5⟩ := oH i (by omega)
      refine ⟨z1, z2, by omega, fun _ => ?_, fun z => absurd z (by omega)⟩
      by_cases q2 : i + 1 = c.H
      · rw [q2, vu_eq, z5 (by omega)]
      · rw [vu_ne q2]
        exact z4 (by omega)
  · show isWd (c.pw i) ∧ c.pf i < c.H + 1 ∧ c.pt i < c.H + 1
    have hi' : i < c.P := hi
    rw [a7, a8, a9]
    obtain ⟨z1, z2, z3⟩ := oP i (by omega)
    exact ⟨z1, by omega, by omega⟩
  · show isWd (c.nw i) ∧ c.na i ≤ c.nb i ∧ c.nb i < c.B ∧ c.nt i ≤ 20 ∧ c.ns i ≤ 20
    have hi' : i < c.N := hi
    rw [a10, a11, a12, a13, a14]
    obtain ⟨z1, z2, z3, z4, z5⟩ := oN i (by omega)
    exact ⟨z1, z2, by omega, z4, z5⟩
  · have e : (c.heap w c0.B).lw = c0.lw := a18
    rw [e]
    exact oL
def heapS (ru : Bool) (T : Nat → Nat) (L : Nat) (σ : Sg) (c : Sc) : Sg × Sc := if c.H < 8 ∧ isG (anF (nxF ru T L σ)) = true ∧ ¬ fnd c.hw (nmV (nxF ru T L σ)) c.H < c.H then (tsF ru T L 59 (lkS ru T L 25 (nxF ru T L (nxF ru T L σ)) c).1, (lkS ru T L 25 (nxF ru T L (nxF ru T L σ)) c).2.heap (nmV (nxF ru T L σ)) c.B) else (bgF ru T L c.H 8 c.hw σ, c)
theorem tsF_G {c : Nat} {σ : Sg} (h : isG (tsF ru T L c σ) = true) : isC c σ = true := by
  unfold tsF at h
  by_cases z : isC c σ = true
  · exact z
  · rw [if_neg z, flF_G] at h
    cases h
theorem l_rh0 {i : Nat} (hi : i < 100) (hS : SH M) (h : pw d 179 (91, [some (.ref 18), none, none], [], M) Q) : pw d 179 (50, [some (.ref 18), some (.int 0), some (.int (nI i))], [], M) Q := by
  by_cases q : 24 < i
  · skip
    refine pw_blk (mi := mz_179) (b := bz_179_50) rfl rfl ?_
    simp only [bz_179_50, pz_cut_t, pz_cut_f, pz_cut_n, pv_gt, pv_ts, pv_tn, ev_ild2, ev_bp24, ev_ic_gt, pz_wi_gc, pz_wi_ga, pz_wi_gn, pz_wi_gl, pz_wi_gr, pz_wi_same, pz_wi_X, pz_wl_gc, pz_wl_ga, pz_wl_gn, pz_wl_gi, pz_wl_gr, pz_wl_same, pz_wl_X, pz_wr_gc, pz_wr_ga, pz_wr_gn, pz_wr_gi, pz_wr_gl, pz_wr_same, pz_wr_X]
    (try simp (disch := omega) only [nI_clamp, pz_in_nI2, pz_in_nI2L, pv_gt, nI_add, nI_addL, nI_Ladd, pk_mul, nI_mulL, nI_Lmul, pk_sub, nI_subL, nI_Lsub, nI_inc, nI_clampL, Nat.add_sub_cancel, pz_wi_else, pz_wl_else, vu_eq, vu_ne, pz_wi_gc, pz_wi_ga, pz_wi_gn, pz_wi_gl, pz_wi_gr, pz_wi_same, pz_wi_X, pz_wl_gc, pz_wl_ga, pz_wl_gn, pz_wl_gi, pz_wl_gr, pz_wl_same, pz_wl_X, pz_wr_gc, pz_wr_ga, pz_wr_gn, pz_wr_gi, pz_wr_gl, pz_wr_same, pz_wr_X])
    refine po_brP (fun q50 => ?_) (fun q50 => ?_)
    · skip
      (try simp (disch := omega) only [nI_ltI, nI_leI, nI_eq, nI_ltL, nI_leL, nI_eqL, nI_Llt, nI_Lle, nI_Leq, nI_eqm, nI_meq, nI_ltm, nI_lem, nI_mlt, nI_mle, lg0, lgl, lgg, lgle, lgge, Int32.not_lt, Int32.not_le, Int64.not_lt, Int64.not_le, not_false_eq_true, not_true_eq_false, Decidable.not_not, ge_iff_le, gt_iff_lt] at q50)
      exact pw_cut (mi := mz_179) (b := bz_179_91) rfl rfl h rfl
    · first
      | exact absurd q50 (by decide)
      | exact absurd trivial q50
      | exact q50.elim
      | (exfalso; (try simp (disch := omega) only [nI_ltI, nI_leI, nI_eq, nI_ltL, nI_leL, nI_eqL, nI_Llt, nI_Lle, nI_Leq, nI_eqm, nI_meq, nI_ltm, nI_lem, nI_mlt, nI_mle, lg0, lgl, lgg, lgle, lgge, Int32.not_lt, Int32.not_le, Int64.not_lt, Int64.not_le, not_false_eq_true, not_true_eq_false, Decidable.not_not, ge_iff_le, gt_iff_lt] at q50) <;> omega)
      | exact absurd q50 (by with_reducible assumption)
      | exact absurd (by with_reducible assumption) q50
      | exact absurd (Decidable.not_not.mp q50) (by with_reducible assumption)
      | exact absurd (by with_reducible assumption) (Int32.not_le.mpr q50)
      | exact absurd (by with_reducible assumption) (Int32.not_lt.mpr q50)
  · skip
    refine pw_blk (mi := mz_179) (b := bz_179_50) rfl rfl ?_
    simp only [bz_179_50, pz_cut_t, pz_cut_f, pz_cut_n, pv_gt, pv_ts, pv_tn, ev_ild2, ev_bp24, ev_ic_gt, pz_wi_gc, pz_wi_ga, pz_wi_gn, pz_wi_gl, pz_wi_gr, pz_wi_same, pz_wi_X, pz_wl_gc, pz_wl_ga, pz_wl_gn, pz_wl_gi, pz_wl_gr, pz_wl_same, pz_wl_X, pz_wr_gc, pz_wr_ga, pz_wr_gn, pz_wr_gi, pz_wr_gl, pz_wr_same, pz_wr_X]
    (try simp (disch := omega) only [nI_clamp, pz_in_nI2, pz_in_nI2L, pv_gt, nI_add, nI_addL, nI_Ladd, pk_mul, nI_mulL, nI_Lmul, pk_sub, nI_subL, nI_Lsub, nI_inc, nI_clampL, Nat.add_sub_cancel, pz_wi_else, pz_wl_else, vu_eq, vu_ne, pz_wi_gc, pz_wi_ga, pz_wi_gn, pz_wi_gl, pz_wi_gr, pz_wi_same, pz_wi_X, pz_wl_gc, pz_wl_ga, pz_wl_gn, pz_wl_gi, pz_wl_gr, pz_wl_same, pz_wl_X, pz_wr_gc, pz_wr_ga, pz_wr_gn, pz_wr_gi, pz_wr_gl, pz_wr_same, pz_wr_X])
    refine po_brP (fun q50 => ?_) (fun q50 => ?_)
    · first
      | exact absurd q50 (by decide)
      | exact absurd trivial q50
      | exact q50.elim
      | (exfalso; (try simp (disch := omega) only [nI_ltI, nI_leI, nI_eq, nI_ltL, nI_leL, nI_eqL, nI_Llt, nI_Lle, nI_Leq, nI_eqm, nI_meq, nI_ltm, nI_lem, nI_mlt, nI_mle, lg0, lgl, lgg, lgle, lgge, Int32.not_lt, Int32.not_le, Int64.not_lt, Int64.not_le, not_false_eq_true, not_true_eq_false, Decidable.not_not, ge_iff_le, gt_iff_lt] at q50) <;> omega)
      | exact absurd q50 (by with_reducible assumption)
      | exact absurd (by with_reducible assumption) q50
      | exact absurd (Decidable.not_not.mp q50) (by with_reducible assumption)
      | exact absurd (by with_reducible assumption) (Int32.not_le.mpr q50)
      | exact absurd (by with_reducible assumption) (Int32.not_lt.mpr q50)
    · skip
      (try simp (disch := omega) only [nI_ltI, nI_leI, nI_eq, nI_ltL, nI_leL, nI_eqL, nI_Llt, nI_Lle, nI_Leq, nI_eqm, nI_meq, nI_ltm, nI_lem, nI_mlt, nI_mle, lg0, lgl, lgg, lgle, lgge, Int32.not_lt, Int32.not_le, Int64.not_lt, Int64.not_le, not_false_eq_true, not_true_eq_false, Decidable.not_not, ge_iff_le, gt_iff_lt] at q50)
      refine pw_blk (mi := mz_179) (b := bz_179_56) rfl rfl ?_
      simp only [bz_179_56, pz_cut_t, pz_cut_f, pz_cut_n, pv_gt, pv_ts, pv_tn, ev_ild1, ev_ifeq, pz_wi_gc, pz_wi_ga, pz_wi_gn, pz_wi_gl, pz_wi_gr, pz_wi_same, pz_wi_X, pz_wl_gc, pz_wl_ga, pz_wl_gn, pz_wl_gi, pz_wl_gr, pz_wl_same, pz_wl_X, pz_wr_gc, pz_wr_ga, pz_wr_gn, pz_wr_gi, pz_wr_gl, pz_wr_same, pz_wr_X]
      (try simp (disch := omega) only [nI_clamp, pz_in_nI2, pz_in_nI2L, pv_gt, nI_add, nI_addL, nI_Ladd, pk_mul, nI_mulL, nI_Lmul, pk_sub, nI_subL, nI_Lsub, nI_inc, nI_clampL, Nat.add_sub_cancel, pz_wi_else, pz_wl_else, vu_eq, vu_ne, pz_wi_gc, pz_wi_ga, pz_wi_gn, pz_wi_gl, pz_wi_gr, pz_wi_same, pz_wi_X, pz_wl_gc, pz_wl_ga, pz_wl_gn, pz_wl_gi, pz_wl_gr, pz_wl_same, pz_wl_X, pz_wr_gc, pz_wr_ga, pz_wr_gn, pz_wr_gi, pz_wr_gl, pz_wr_same, pz_wr_X])
      refine po_brP (fun q56 => ?_) (fun q56 => ?_)
      · skip
        (try simp (disch := omega) only [nI_ltI, nI_leI, nI_eq, nI_ltL, nI_leL, nI_eqL, nI_Llt, nI_Lle, nI_Leq, nI_eqm, nI_meq, nI_ltm, nI_lem, nI_mlt, nI_mle, lg0, lgl, lgg, lgle, lgge, Int32.not_lt, Int32.not_le, Int64.not_lt, Int64.not_le, not_false_eq_true, not_true_eq_false, Decidable.not_not, ge_iff_le, gt_iff_lt] at q56)
        exact pw_cut (mi := mz_179) (b := bz_179_91) rfl rfl h rfl
      · first
        | exact absurd q56 (by decide)
        | exact absurd trivial q56
        | exact q56.elim
        | (exfalso; (try simp (disch := omega) only [nI_ltI, nI_leI, nI_eq, nI_ltL, nI_leL, nI_eqL, nI_Llt, nI_Lle, nI_Leq, nI_eqm, nI_meq, nI_ltm, nI_lem, nI_mlt, nI_mle, lg0, lgl, lgg, lgle, lgge, Int32.not_lt, Int32.not_le, Int64.not_lt, Int64.not_le, not_false_eq_true, not_true_eq_false, Decidable.not_not, ge_iff_le, gt_iff_lt] at q56) <;> omega)
        | exact absurd q56 (by with_reducible assumption)
        | exact absurd (by with_reducible assumption) q56
        | exact absurd (Decidable.not_not.mp q56) (by with_reducible assumption)
        | exact absurd (by with_reducible assumption) (Int32.not_le.mpr q56)
        | exact absurd (by with_reducible assumption) (Int32.not_lt.mpr q56)
theorem m_readHeap (hd : 18 ≤ d) {σ : Sg} {c0 : Sc} (s : cSt M ru T L σ) (o : okS c0) (x : csc M c0) (k : ∀ M', sm [1, 19, 20, 21, 22, 23] M M' → gi M' 1 2 = gi M 1 2 → cSt M' ru T L (heapS ru T L σ c0).1 → (isG (heapS ru T L σ c0).1 = true → csc M' (heapS ru T L σ c0).2 ∧ okS (heapS ru T L σ c0).2) → Q (none, M')) : pm d 179 [.ref 18] M Q := by
  have hS := s.1.1
  obtain ⟨⟨x0, x3, x6, x10, x16, x17, x18⟩, xB, xH, xP, xN, xL⟩ := id x
  have oH8 := o.1.2.1
  have oB := o.1.1
  by_cases hg : c0.H < 8 ∧ isG (anF (nxF ru T L σ)) = true ∧ ¬ fnd c0.hw (nmV (nxF ru T L σ)) c0.H < c0.H
  · unfold heapS at k
    rw [if_pos hg] at k
    have loop : ∀ f i M' σ' c, i + f = 25 → sm [1, 19, 20, 21, 22, 23] M M' → gi M' 1 2 = gi M 1 2 → cSt M' ru T L σ' → lkR c0 c → isWd (nmV (nxF ru T L σ)) → csc M' c → gl M' 22 c0.H = p5 (nmV (nxF ru T L σ)) → gi M' 23 c0.H = nI c0.B → lkS ru T L f σ' c = lkS ru T L 25 (nxF ru T L (nxF ru T L σ)) c0 → (f = 25 ∨ isC 59 σ' = false) → pw d 179 (50, [some (.ref 18), some (.int 1), some (.int (nI i))], [], M') Q := by
      have done : ∀ M' σ' c, sm [1, 19, 20, 21, 22, 23] M M' → gi M' 1 2 = gi M 1 2 → cSt M' ru T L σ' → lkR c0 c → (isC 59 σ' = true → c0.B < c.B) → isWd (nmV (nxF ru T L σ)) → csc M' c → gl M' 22 c0.H = p5 (nmV (nxF ru T L σ)) → gi M' 23 c0.H = nI c0.B → (σ', c) = lkS ru T L 25 (nxF ru T L (nxF ru T L σ)) c0 → pw d 179 (91, [some (.ref 18), none, none], [], M') Q := by
        intro M' σ' c s' e' st' lr hlt hwd xc g22 g23 el
        rw [← el] at k
        have hS' := st'.1.1
        obtain ⟨⟨y0, y3, y6, y10, y16, y17, y18⟩, yB, yH, yP, yN, yL⟩ := id xc
        have eH := lr.1.1
        refine pw_blk (mi := mz_179) (b := bz_179_91) rfl rfl ?_
        simp only [bz_179_91, pz_cut_t, pz_cut_f, pz_cut_n, pv_gt, pv_ts, pv_tn, ev_ald0, ev_eld0, ev_gf4_2, ev_bp59, ev_cv1_10, pz_wi_gc, pz_wi_ga, pz_wi_gn, pz_wi_gl, pz_wi_gr, pz_wi_same, pz_wi_X, pz_wl_gc, pz_wl_ga, pz_wl_gn, pz_wl_gi, pz_wl_gr, pz_wl_same, pz_wl_X, pz_wr_gc, pz_wr_ga, pz_wr_gn, pz_wr_gi, pz_wr_gl, pz_wr_same, pz_wr_X, so_18 hS', sr_18_0 hS', so_1 hS']
        (try simp (disch := omega) only [nI_clamp, pz_in_nI2, pz_in_nI2L, pv_gt, nI_add, nI_addL, nI_Ladd, pk_mul, nI_mulL, nI_Lmul, pk_sub, nI_subL, nI_Lsub, nI_inc, nI_clampL, Nat.add_sub_cancel, pz_wi_else, pz_wl_else, vu_eq, vu_ne, pz_wi_gc, pz_wi_ga, pz_wi_gn, pz_wi_gl, pz_wi_gr, pz_wi_same, pz_wi_X, pz_wl_gc, pz_wl_ga, pz_wl_gn, pz_wl_gi, pz_wl_gr, pz_wl_same, pz_wl_X, pz_wr_gc, pz_wr_ga, pz_wr_gn, pz_wr_gi, pz_wr_gl, pz_wr_same, pz_wr_X])
        (try refine po_gP (Nat.le_of_ble_eq_true rfl) ?_)
        refine po_call (by omega) (m_takeSign (c := 59) (by omega) (by decide) st' (fun M2 c2 s2 => ?_))
        have hS2 := s2.1.1
        have z3 : gi M2 19 3 = nI c.H := by rw [c2.1.i (by decide)]; exact y3
        refine pw_blk (mi := mz_179) (b := bz_179_100) rfl rfl ?_
        simp only [bz_179_100, pz_cut_t, pz_cut_f, pz_cut_n, pv_gt, pv_ts, pv_tn, ev_ald0, ev_eld0, ev_gf4_2, ev_dupi, ev_dupr, ev_dupe, ev_gf8_0, ev_ic1, ev_iadd, ev_pf8_0, ev_ret, pz_wi_gc, pz_wi_ga, pz_wi_gn, pz_wi_gl, pz_wi_gr, pz_wi_same, pz_wi_X, pz_wl_gc, pz_wl_ga, pz_wl_gn, pz_wl_gi, pz_wl_gr, pz_wl_same, pz_wl_X, pz_wr_gc, pz_wr_ga, pz_wr_gn, pz_wr_gi, pz_wr_gl, pz_wr_same, pz_wr_X, so_18 hS', sr_18_1 hS', so_19 hS', so_18 hS2, sr_18_1 hS2, so_19 hS2, z3]
        (try simp (disch := omega) only [nI_clamp, pz_in_nI2, pz_in_nI2L, pv_gt, nI_add, nI_addL, nI_Ladd, pk_mul, nI_mulL, nI_Lmul, pk_sub, nI_subL, nI_Lsub, nI_inc, nI_clampL, Nat.add_sub_cancel, pz_wi_else, pz_wl_else, vu_eq, vu_ne, pz_wi_gc, pz_wi_ga, pz_wi_gn, pz_wi_gl, pz_wi_gr, pz_wi_same, pz_wi_X, pz_wl_gc, pz_wl_ga, pz_wl_gn, pz_wl_gi, pz_wl_gr, pz_wl_same, pz_wl_X, pz_wr_gc, pz_wr_ga, pz_wr_gn, pz_wr_gi, pz_wr_gl, pz_wr_same, pz_wr_X, so_18 hS2, sr_18_1 hS2, so_19 hS2, z3])
        refine po_then (fun M3 hM3 => ?_)
        have s3 : sm [19] M2 M3 := by
          rw [hM3]
          exact sm.wi sm.rf (by decide)
        have e19 : gi M3 19 = va_up (gi M2 19) 3 (nI (c.H + 1)) := by rw [hM3, pz_wi_same]
        refine k M3 ((s'.tr c2.1 (by decide)).tr s3 (by decide)) ?_ (s2.sm s3 (by decide) (by decide) (by decide)) (fun hG => ⟨?_, o.heap lr (hlt (tsF_G hG)) hg.1 hwd⟩)
        · rw [s3.i (by decide), c2.2]; exact e'
        · have xc2 := xc.c1 c2
          obtain ⟨⟨z0, z3, z6, z10, z16, z17, z18⟩, zB, zH, zP, zN, zL⟩ := xc2
          have h22 : gl M2 22 c0.H = p5 (nmV (nxF ru T L σ)) := by rw [c2.1.l (by decide)]; exact g22
          have h23 : gi M2 23 c0.H = nI c0.B := by rw [c2.1.i (by decide)]; exact g23
          refine ⟨⟨?_, ?_, ?_, ?_, ?_, ?_, ?_⟩, ?_, ?_, ?_, ?_, ?_⟩
          · rw [e19, vu_ne (by decide)]; exact z0
          · rw [e19, vu_eq]; rfl
          · rw [e19, vu_ne (by decide)]; exact z6
          · rw [e19, vu_ne (by decide)]; exact z10
          · rw [e19, vu_ne (by decide)]; exact z16
          · rw [e19, vu_ne (by decide)]; exact z17
          · rw [e19, vu_ne (by decide)]; exact z18
          · rw [s3.l (by decide), s3.i (by decide)]; exact zB
          · intro i hi
            rw [s3.l (by decide), s3.i (by decide)]
            show gl M2 22 i = p5 (va_up c.hw c.H (nmV (nxF ru T L σ)) i) ∧ gi M2 23 i = nI (va_up c.hf c.H c0.B i)
            have hi' : i < c.H + 1 := hi
            by_cases q : i = c.H
            · subst q
              rw [vu_eq, vu_eq, eH]
              exact ⟨h22, h23⟩
            · rw [vu_ne q, vu_ne q]
              exact zH i (by omega)
          · intro i hi
            rw [s3.l (by decide), s3.i (k := 25) (by decide), s3.i (k := 26) (by decide)]
            have hi' : i < c.P := hi
            have op := o.2.2.2.1 i (by have := lr.1.2.1; omega)
            have ef : c.pf i = c0.pf i := by rw [lr.1.2.2.2.2.2.2.2.1]
            have et : c.pt i = c0.pt i := by rw [lr.1.2.2.2.2.2.2.2.2.1]
            show gl M2 24 i = p5 (c.pw i) ∧ gi M2 25 i = nI (va_up c.hf c.H c0.B (c.pf i)) ∧ gi M2 26 i = nI (va_up c.he c.H c.B (c.pt i)) - 1
            rw [vu_ne (by rw [ef]; omega), vu_ne (by rw [et]; omega)]
            exact zP i hi'
          · rw [s3.l (by decide), s3.i (k := 28) (by decide), s3.i (k := 29) (by decide), s3.i (k := 30) (by decide), s3.i (k := 31) (by decide)]; exact zN
          · rw [s3.i (by decide)]; exact zL
      intro f
      induction f with
      | zero =>
        intro i M' σ' c hi s' e' st' lr hwd xc g22 g23 el hne
        have hS' := st'.1.1
        refine pw_blk (mi := mz_179) (b := bz_179_50) rfl rfl ?_
        simp only [bz_179_50, pz_cut_t, pz_cut_f, pz_cut_n, pv_gt, pv_ts, pv_tn, ev_ild2, ev_bp24, ev_ic_gt, pz_wi_gc, pz_wi_ga, pz_wi_gn, pz_wi_gl, pz_wi_gr, pz_wi_same, pz_wi_X, pz_wl_gc, pz_wl_ga, pz_wl_gn, pz_wl_gi, pz_wl_gr, pz_wl_same, pz_wl_X, pz_wr_gc, pz_wr_ga, pz_wr_gn, pz_wr_gi, pz_wr_gl, pz_wr_same, pz_wr_X]
        (try simp (disch := omega) only [nI_clamp, pz_in_nI2, pz_in_nI2L, pv_gt, nI_add, nI_addL, nI_Ladd, pk_mul, nI_mulL, nI_Lmul, pk_sub, nI_subL, nI_Lsub, nI_inc, nI_clampL, Nat.add_sub_cancel, pz_wi_else, pz_wl_else, vu_eq, vu_ne, pz_wi_gc, pz_wi_ga, pz_wi_gn, pz_wi_gl, pz_wi_gr, pz_wi_same, pz_wi_X, pz_wl_gc, pz_wl_ga, pz_wl_gn, pz_wl_gi, pz_wl_gr, pz_wl_same, pz_wl_X, pz_wr_gc, pz_wr_ga, pz_wr_gn, pz_wr_gi, pz_wr_gl, pz_wr_same, pz_wr_X])
        refine po_brP (fun q50 => ?_) (fun q50 => ?_)
        · skip
          (try simp (disch := omega) only [nI_ltI, nI_leI, nI_eq, nI_ltL, nI_leL, nI_eqL, nI_Llt, nI_Lle, nI_Leq, nI_eqm, nI_meq, nI_ltm, nI_lem, nI_mlt, nI_mle, lg0, lgl, lgg, lgle, lgge, Int32.not_lt, Int32.not_le, Int64.not_lt, Int64.not_le, not_false_eq_true, not_true_eq_false, Decidable.not_not, ge_iff_le, gt_iff_lt] at q50)
          exact pw_cut (mi := mz_179) (b := bz_179_91) rfl rfl (done M' σ' c s' e' st' lr (fun z => by rcases hne with hne | hne; omega; rw [hne] at z; cases z) hwd xc g22 g23 el) rfl
        · first
          | exact absurd q50 (by decide)
          | exact absurd trivial q50
          | exact q50.elim
          | (exfalso; (try simp (disch := omega) only [nI_ltI, nI_leI, nI_eq, nI_ltL, nI_leL, nI_eqL, nI_Llt, nI_Lle, nI_Leq, nI_eqm, nI_meq, nI_ltm, nI_lem, nI_mlt, nI_mle, lg0, lgl, lgg, lgle, lgge, Int32.not_lt, Int32.not_le, Int64.not_lt, Int64.not_le, not_false_eq_true, not_true_eq_false, Decidable.not_not, ge_iff_le, gt_iff_lt] at q50) <;> omega)
          | exact absurd q50 (by with_reducible assumption)
          | exact absurd (by with_reducible assumption) q50
          | exact absurd (Decidable.not_not.mp q50) (by with_reducible assumption)
          | exact absurd (by with_reducible assumption) (Int32.not_le.mpr q50)
          | exact absurd (by with_reducible assumption) (Int32.not_lt.mpr q50)
      | succ f ih =>
        intro i M' σ' c hi s' e' st' lr hwd xc g22 g23 el hne
        have hS' := st'.1.1
        obtain ⟨⟨y0, y3, y6, y10, y16, y17, y18⟩, yB, yH, yP, yN, yL⟩ := id xc
        cases zg : isG (anF σ') with
        | false =>
          have el2 : (anF σ', c) = lkS ru T L 25 (nxF ru T L (nxF ru T L σ)) c0 := by rw [← el, lkS, if_neg (by rw [zg]; decide)]
          have nc : isC 59 (anF σ') = false := by cases q : anF σ' with
            | inl _ => rfl
            | inr t => rw [q] at zg; cases zg
          refine pw_blk (mi := mz_179) (b := bz_179_50) rfl rfl ?_
          simp only [bz_179_50, pz_cut_t, pz_cut_f, pz_cut_n, pv_gt, pv_ts, pv_tn, ev_ild2, ev_bp24, ev_ic_gt, pz_wi_gc, pz_wi_ga, pz_wi_gn, pz_wi_gl, pz_wi_gr, pz_wi_same, pz_wi_X, pz_wl_gc, pz_wl_ga, pz_wl_gn, pz_wl_gi, pz_wl_gr, pz_wl_same, pz_wl_X, pz_wr_gc, pz_wr_ga, pz_wr_gn, pz_wr_gi, pz_wr_gl, pz_wr_same, pz_wr_X]
          (try simp (disch := omega) only [nI_clamp, pz_in_nI2, pz_in_nI2L, pv_gt, nI_add, nI_addL, nI_Ladd, pk_mul, nI_mulL, nI_Lmul, pk_sub, nI_subL, nI_Lsub, nI_inc, nI_clampL, Nat.add_sub_cancel, pz_wi_else, pz_wl_else, vu_eq, vu_ne, pz_wi_gc, pz_wi_ga, pz_wi_gn, pz_wi_gl, pz_wi_gr, pz_wi_same, pz_wi_X, pz_wl_gc, pz_wl_ga, pz_wl_gn, pz_wl_gi, pz_wl_gr, pz_wl_same, pz_wl_X, pz_wr_gc, pz_wr_ga, pz_wr_gn, pz_wr_gi, pz_wr_gl, pz_wr_same, pz_wr_X])
          refine po_brP (fun q50 => ?_) (fun q50 => ?_)
          · first
            | exact absurd q50 (by decide)
            | exact absurd trivial q50
            | exact q50.elim
            | (exfalso; (try simp (disch := omega) only [nI_ltI, nI_leI, nI_eq, nI_ltL, nI_leL, nI_eqL, nI_Llt, nI_Lle, nI_Leq, nI_eqm, nI_meq, nI_ltm, nI_lem, nI_mlt, nI_mle, lg0, lgl, lgg, lgle, lgge, Int32.not_lt, Int32.not_le, Int64.not_lt, Int64.not_le, not_false_eq_true, not_true_eq_false, Decidable.not_not, ge_iff_le, gt_iff_lt] at q50) <;> omega)
            | exact absurd q50 (by with_reducible assumption)
            | exact absurd (by with_reducible assumption) q50
            | exact absurd (Decidable.not_not.mp q50) (by with_reducible assumption)
            | exact absurd (by with_reducible assumption) (Int32.not_le.mpr q50)
            | exact absurd (by with_reducible assumption) (Int32.not_lt.mpr q50)
          · skip
            (try simp (disch := omega) only [nI_ltI, nI_leI, nI_eq, nI_ltL, nI_leL, nI_eqL, nI_Llt, nI_Lle, nI_Leq, nI_eqm, nI_meq, nI_ltm, nI_lem, nI_mlt, nI_mle, lg0, lgl, lgg, lgle, lgge, Int32.not_lt, Int32.not_le, Int64.not_lt, Int64.not_le, not_false_eq_true, not_true_eq_false, Decidable.not_not, ge_iff_le, gt_iff_lt] at q50)
            refine pw_blk (mi := mz_179) (b := bz_179_56) rfl rfl ?_
            simp only [bz_179_56, pz_cut_t, pz_cut_f, pz_cut_n, pv_gt, pv_ts, pv_tn, ev_ild1, ev_ifeq, pz_wi_gc, pz_wi_ga, pz_wi_gn, pz_wi_gl, pz_wi_gr, pz_wi_same, pz_wi_X, pz_wl_gc, pz_wl_ga, pz_wl_gn, pz_wl_gi, pz_wl_gr, pz_wl_same, pz_wl_X, pz_wr_gc, pz_wr_ga, pz_wr_gn, pz_wr_gi, pz_wr_gl, pz_wr_same, pz_wr_X]
            (try simp (disch := omega) only [nI_clamp, pz_in_nI2, pz_in_nI2L, pv_gt, nI_add, nI_addL, nI_Ladd, pk_mul, nI_mulL, nI_Lmul, pk_sub, nI_subL, nI_Lsub, nI_inc, nI_clampL, Nat.add_sub_cancel, pz_wi_else, pz_wl_else, vu_eq, vu_ne, pz_wi_gc, pz_wi_ga, pz_wi_gn, pz_wi_gl, pz_wi_gr, pz_wi_same, pz_wi_X, pz_wl_gc, pz_wl_ga, pz_wl_gn, pz_wl_gi, pz_wl_gr, pz_wl_same, pz_wl_X, pz_wr_gc, pz_wr_ga, pz_wr_gn, pz_wr_gi, pz_wr_gl, pz_wr_same, pz_wr_X])
            refine po_brP (fun q56 => ?_) (fun q56 => ?_)
            · first
              | exact absurd q56 (by decide)
              | exact absurd trivial q56
              | exact q56.elim
              | (exfalso; (try simp (disch := omega) only [nI_ltI, nI_leI, nI_eq, nI_ltL, nI_leL, nI_eqL, nI_Llt, nI_Lle, nI_Leq, nI_eqm, nI_meq, nI_ltm, nI_lem, nI_mlt, nI_mle, lg0, lgl, lgg, lgle, lgge, Int32.not_lt, Int32.not_le, Int64.not_lt, Int64.not_le, not_false_eq_true, not_true_eq_false, Decidable.not_not, ge_iff_le, gt_iff_lt] at q56) <;> omega)
              | exact absurd q56 (by with_reducible assumption)
              | exact absurd (by with_reducible assumption) q56
              | exact absurd (Decidable.not_not.mp q56) (by with_reducible assumption)
              | exact absurd (by with_reducible assumption) (Int32.not_le.mpr q56)
              | exact absurd (by with_reducible assumption) (Int32.not_lt.mpr q56)
            · skip
              (try simp (disch := omega) only [nI_ltI, nI_leI, nI_eq, nI_ltL, nI_leL, nI_eqL, nI_Llt, nI_Lle, nI_Leq, nI_eqm, nI_meq, nI_ltm, nI_lem, nI_mlt, nI_mle, lg0, lgl, lgg, lgle, lgge, Int32.not_lt, Int32.not_le, Int64.not_lt, Int64.not_le, not_false_eq_true, not_true_eq_false, Decidable.not_not, ge_iff_le, gt_iff_lt] at q56)
              refine pw_blk (mi := mz_179) (b := bz_179_60) rfl rfl ?_
              simp only [bz_179_60, pz_cut_t, pz_cut_f, pz_cut_n, pv_gt, pv_ts, pv_tn, ev_ald0, ev_eld0, ev_cv0_4, pz_wi_gc, pz_wi_ga, pz_wi_gn, pz_wi_gl, pz_wi_gr, pz_wi_same, pz_wi_X, pz_wl_gc, pz_wl_ga, pz_wl_gn, pz_wl_gi, pz_wl_gr, pz_wl_same, pz_wl_X, pz_wr_gc, pz_wr_ga, pz_wr_gn, pz_wr_gi, pz_wr_gl, pz_wr_same, pz_wr_X, so_18 hS']
              (try simp (disch := omega) only [nI_clamp, pz_in_nI2, pz_in_nI2L, pv_gt, nI_add, nI_addL, nI_Ladd, pk_mul, nI_mulL, nI_Lmul, pk_sub, nI_subL, nI_Lsub, nI_inc, nI_clampL, Nat.add_sub_cancel, pz_wi_else, pz_wl_else, vu_eq, vu_ne, pz_wi_gc, pz_wi_ga, pz_wi_gn, pz_wi_gl, pz_wi_gr, pz_wi_same, pz_wi_X, pz_wl_gc, pz_wl_ga, pz_wl_gn, pz_wl_gi, pz_wl_gr, pz_wl_same, pz_wl_X, pz_wr_gc, pz_wr_ga, pz_wr_gn, pz_wr_gi, pz_wr_gl, pz_wr_same, pz_wr_X])
              (try refine po_gP (Nat.le_of_ble_eq_true rfl) ?_)
              refine po_call (by omega) (m_readLook (c := c) (by omega) st' lr.2.2.1 y0 y3 (fun z => by rw [zg] at z; cases z) (fun z => by rw [zg] at z; cases z) (fun _ M2 c2 s2 => ?_))
              refine pw_blk (mi := mz_179) (b := bz_179_64) rfl rfl ?_
              simp only [bz_179_64, pz_cut_t, pz_cut_f, pz_cut_n, pv_gt, pv_ts, pv_tn, ev_ifeq, pz_wi_gc, pz_wi_ga, pz_wi_gn, pz_wi_gl, pz_wi_gr, pz_wi_same, pz_wi_X, pz_wl_gc, pz_wl_ga, pz_wl_gn, pz_wl_gi, pz_wl_gr, pz_wl_same, pz_wl_X, pz_wr_gc, pz_wr_ga, pz_wr_gn, pz_wr_gi, pz_wr_gl, pz_wr_same, pz_wr_X]
              (try simp (disch := omega) only [nI_clamp, pz_in_nI2, pz_in_nI2L, pv_gt, nI_add, nI_addL, nI_Ladd, pk_mul, nI_mulL, nI_Lmul, pk_sub, nI_subL, nI_Lsub, nI_inc, nI_clampL, Nat.add_sub_cancel, pz_wi_else, pz_wl_else, vu_eq, vu_ne, pz_wi_gc, pz_wi_ga, pz_wi_gn, pz_wi_gl, pz_wi_gr, pz_wi_same, pz_wi_X, pz_wl_gc, pz_wl_ga, pz_wl_gn, pz_wl_gi, pz_wl_gr, pz_wl_same, pz_wl_X, pz_wr_gc, pz_wr_ga, pz_wr_gn, pz_wr_gi, pz_wr_gl, pz_wr_same, pz_wr_X])
              refine po_brP (fun q64 => ?_) (fun q64 => ?_)
              · skip
                (try simp (disch := omega) only [nI_ltI, nI_leI, nI_eq, nI_ltL, nI_leL, nI_eqL, nI_Llt, nI_Lle, nI_Leq, nI_eqm, nI_meq, nI_ltm, nI_lem, nI_mlt, nI_mle, lg0, lgl, lgg, lgle, lgge, Int32.not_lt, Int32.not_le, Int64.not_lt, Int64.not_le, not_false_eq_true, not_true_eq_false, Decidable.not_not, ge_iff_le, gt_iff_lt] at q64)
                refine pw_blk (mi := mz_179) (b := bz_179_83) rfl rfl ?_
                simp only [bz_179_83, pz_cut_t, pz_cut_f, pz_cut_n, pv_gt, pv_ts, pv_tn, ev_ic0, ev_nil, pz_wi_gc, pz_wi_ga, pz_wi_gn, pz_wi_gl, pz_wi_gr, pz_wi_same, pz_wi_X, pz_wl_gc, pz_wl_ga, pz_wl_gn, pz_wl_gi, pz_wl_gr, pz_wl_same, pz_wl_X, pz_wr_gc, pz_wr_ga, pz_wr_gn, pz_wr_gi, pz_wr_gl, pz_wr_same, pz_wr_X]
                (try simp (disch := omega) only [nI_clamp, pz_in_nI2, pz_in_nI2L, pv_gt, nI_add, nI_addL, nI_Ladd, pk_mul, nI_mulL, nI_Lmul, pk_sub, nI_subL, nI_Lsub, nI_inc, nI_clampL, Nat.add_sub_cancel, pz_wi_else, pz_wl_else, vu_eq, vu_ne, pz_wi_gc, pz_wi_ga, pz_wi_gn, pz_wi_gl, pz_wi_gr, pz_wi_same, pz_wi_X, pz_wl_gc, pz_wl_ga, pz_wl_gn, pz_wl_gi, pz_wl_gr, pz_wl_same, pz_wl_X, pz_wr_gc, pz_wr_ga, pz_wr_gn, pz_wr_gi, pz_wr_gl, pz_wr_same, pz_wr_X])
                refine po_go ?_
                refine pw_blk (mi := mz_179) (b := bz_179_84) rfl rfl ?_
                simp only [bz_179_84, pz_cut_t, pz_cut_f, pz_cut_n, pv_gt, pv_ts, pv_tn, ev_ist1n, ev_ist1i, ev_ist1r, ev_ist1e, ev_ist1l, ev_inc2n, ev_inc2i, ev_inc2r, ev_inc2e, ev_goto, pz_wi_gc, pz_wi_ga, pz_wi_gn, pz_wi_gl, pz_wi_gr, pz_wi_same, pz_wi_X, pz_wl_gc, pz_wl_ga, pz_wl_gn, pz_wl_gi, pz_wl_gr, pz_wl_same, pz_wl_X, pz_wr_gc, pz_wr_ga, pz_wr_gn, pz_wr_gi, pz_wr_gl, pz_wr_same, pz_wr_X]
                (try simp (disch := omega) only [nI_clamp, pz_in_nI2, pz_in_nI2L, pv_gt, nI_add, nI_addL, nI_Ladd, pk_mul, nI_mulL, nI_Lmul, pk_sub, nI_subL, nI_Lsub, nI_inc, nI_clampL, Nat.add_sub_cancel, pz_wi_else, pz_wl_else, vu_eq, vu_ne, pz_wi_gc, pz_wi_ga, pz_wi_gn, pz_wi_gl, pz_wi_gr, pz_wi_same, pz_wi_X, pz_wl_gc, pz_wl_ga, pz_wl_gn, pz_wl_gi, pz_wl_gr, pz_wl_same, pz_wl_X, pz_wr_gc, pz_wr_ga, pz_wr_gn, pz_wr_gi, pz_wr_gl, pz_wr_same, pz_wr_X])
                refine po_go ?_
                refine l_rh0 (by omega) s2.1.1 ?_
                exact done M2 (anF σ') c (s'.tr c2.1 (by decide)) (c2.2.trans e') s2 lr (fun z => by rw [nc] at z; cases z) hwd (xc.c1 c2) (by rw [c2.1.l (by decide)]; exact g22) (by rw [c2.1.i (by decide)]; exact g23) el2
              · first
                | exact absurd q64 (by decide)
                | exact absurd trivial q64
                | exact q64.elim
                | (exfalso; (try simp (disch := omega) only [nI_ltI, nI_leI, nI_eq, nI_ltL, nI_leL, nI_eqL, nI_Llt, nI_Lle, nI_Leq, nI_eqm, nI_meq, nI_ltm, nI_lem, nI_mlt, nI_mle, lg0, lgl, lgg, lgle, lgge, Int32.not_lt, Int32.not_le, Int64.not_lt, Int64.not_le, not_false_eq_true, not_true_eq_false, Decidable.not_not, ge_iff_le, gt_iff_lt] at q64) <;> omega)
                | exact absurd q64 (by with_reducible assumption)
                | exact absurd (by with_reducible assumption) q64
                | exact absurd (Decidable.not_not.mp q64) (by with_reducible assumption)
                | exact absurd (by with_reducible assumption) (Int32.not_le.mpr q64)
                | exact absurd (by with_reducible assumption) (Int32.not_lt.mpr q64)
        | true =>
          by_cases hB2 : c.B < 24
          · have el3 : (if isC 59 (nxF ru T L σ') = true then (nxF ru T L σ', c.look (nmV σ')) else lkS ru T L f (nxF ru T L σ') (c.look (nmV σ'))) = lkS ru T L 25 (nxF ru T L (nxF ru T L σ)) c0 := by rw [← el, lkS, if_pos zg, if_pos hB2]
            have after : ∀ M2, sm [1, 19, 20, 21] M' M2 → gi M2 1 2 = gi M' 1 2 → cSt M2 ru T L (nxF ru T L σ') → gi M2 19 = va_up (gi M' 19) 0 (nI (c.B + 1)) → gl M2 20 = va_up (gl M' 20) c.B (p5 (nmV σ')) → gi M2 21 = va_up (gi M' 21) c.B (nI c.H) → csc M2 (c.look (nmV σ')) := by
              intro M2 s2 f1 t2 f2 f3 f4
              refine ⟨⟨?_, ?_, ?_, ?_, ?_, ?_, ?_⟩, ?_, ?_, ?_, ?_, ?_⟩
              · rw [f2, vu_eq]; rfl
              · rw [f2, vu_ne (by decide)]; exact y3
              · rw [f2, vu_ne (by decide)]; exact y6
              · rw [f2, vu_ne (by decide)]; exact y10
              · rw [f2, vu_ne (by decide)]; exact y16
              · rw [f2, vu_ne (by decide)]; exact y17
              · rw [f2, vu_ne (by decide)]; exact y18
              · intro j hj
                show gl M2 20 j = p5 (va_up c.lk c.B (nmV σ') j) ∧ gi M2 21 j = nI (va_up c.ho c.B c.H j)
                have hj' : j < c.B + 1 := hj
                rw [f3, f4]
                by_cases q : j = c.B
                · subst q
                  rw [vu_eq, vu_eq, vu_eq, vu_eq]
                  exact ⟨rfl, rfl⟩
                · rw [vu_ne q, vu_ne q, vu_ne q, vu_ne q]
                  exact yB j (by omega)
              · rw [s2.l (by decide), s2.i (by decide)]; exact yH
              · rw [s2.l (by decide), s2.i (k := 25) (by decide), s2.i (k := 26) (by decide)]; exact yP
              · rw [s2.l (by decide), s2.i (k := 28) (by decide), s2.i (k := 29) (by decide), s2.i (k := 30) (by decide), s2.i (k := 31) (by decide)]; exact yN
              · rw [s2.i (by decide)]; exact yL
            cases zc : isC 59 (nxF ru T L σ') with
            | true =>
              rw [if_pos zc] at el3
              refine pw_blk (mi := mz_179) (b := bz_179_50) rfl rfl ?_
              simp only [bz_179_50, pz_cut_t, pz_cut_f, pz_cut_n, pv_gt, pv_ts, pv_tn, ev_ild2, ev_bp24, ev_ic_gt, pz_wi_gc, pz_wi_ga, pz_wi_gn, pz_wi_gl, pz_wi_gr, pz_wi_same, pz_wi_X, pz_wl_gc, pz_wl_ga, pz_wl_gn, pz_wl_gi, pz_wl_gr, pz_wl_same, pz_wl_X, pz_wr_gc, pz_wr_ga, pz_wr_gn, pz_wr_gi, pz_wr_gl, pz_wr_same, pz_wr_X]
              (try simp (disch := omega) only [nI_clamp, pz_in_nI2, pz_in_nI2L, pv_gt, nI_add, nI_addL, nI_Ladd, pk_mul, nI_mulL, nI_Lmul, pk_sub, nI_subL, nI_Lsub, nI_inc, nI_clampL, Nat.add_sub_cancel, pz_wi_else, pz_wl_else, vu_eq, vu_ne, pz_wi_gc, pz_wi_ga, pz_wi_gn, pz_wi_gl, pz_wi_gr, pz_wi_same, pz_wi_X, pz_wl_gc, pz_wl_ga, pz_wl_gn, pz_wl_gi, pz_wl_gr, pz_wl_same, pz_wl_X, pz_wr_gc, pz_wr_ga, pz_wr_gn, pz_wr_gi, pz_wr_gl, pz_wr_same, pz_wr_X])
              refine po_brP (fun q50 => ?_) (fun q50 => ?_)
              · first
                | exact absurd q50 (by decide)
                | exact absurd trivial q50
                | exact q50.elim
                | (exfalso; (try simp (disch := omega) only [nI_ltI, nI_leI, nI_eq, nI_ltL, nI_leL, nI_eqL, nI_Llt, nI_Lle, nI_Leq, nI_eqm, nI_meq, nI_ltm, nI_lem, nI_mlt, nI_mle, lg0, lgl, lgg, lgle, lgge, Int32.not_lt, Int32.not_le, Int64.not_lt, Int64.not_le, not_false_eq_true, not_true_eq_false, Decidable.not_not, ge_iff_le, gt_iff_lt] at q50) <;> omega)
                | exact absurd q50 (by with_reducible assumption)
                | exact absurd (by with_reducible assumption) q50
                | exact absurd (Decidable.not_not.mp q50) (by with_reducible assumption)
                | exact absurd (by with_reducible assumption) (Int32.not_le.mpr q50)
                | exact absurd (by with_reducible assumption) (Int32.not_lt.mpr q50)
              · skip
                (try simp (disch := omega) only [nI_ltI, nI_leI, nI_eq, nI_ltL, nI_leL, nI_eqL, nI_Llt, nI_Lle, nI_Leq, nI_eqm, nI_meq, nI_ltm, nI_lem, nI_mlt, nI_mle, lg0, lgl, lgg, lgle, lgge, Int32.not_lt, Int32.not_le, Int64.not_lt, Int64.not_le, not_false_eq_true, not_true_eq_false, Decidable.not_not, ge_iff_le, gt_iff_lt] at q50)
                refine pw_blk (mi := mz_179) (b := bz_179_56) rfl rfl ?_
                simp only [bz_179_56, pz_cut_t, pz_cut_f, pz_cut_n, pv_gt, pv_ts, pv_tn, ev_ild1, ev_ifeq, pz_wi_gc, pz_wi_ga, pz_wi_gn, pz_wi_gl, pz_wi_gr, pz_wi_same, pz_wi_X, pz_wl_gc, pz_wl_ga, pz_wl_gn, pz_wl_gi, pz_wl_gr, pz_wl_same, pz_wl_X, pz_wr_gc, pz_wr_ga, pz_wr_gn, pz_wr_gi, pz_wr_gl, pz_wr_same, pz_wr_X]
                (try simp (disch := omega) only [nI_clamp, pz_in_nI2, pz_in_nI2L, pv_gt, nI_add, nI_addL, nI_Ladd, pk_mul, nI_mulL, nI_Lmul, pk_sub, nI_subL, nI_Lsub, nI_inc, nI_clampL, Nat.add_sub_cancel, pz_wi_else, pz_wl_else, vu_eq, vu_ne, pz_wi_gc, pz_wi_ga, pz_wi_gn, pz_wi_gl, pz_wi_gr, pz_wi_same, pz_wi_X, pz_wl_gc, pz_wl_ga, pz_wl_gn, pz_wl_gi, pz_wl_gr, pz_wl_same, pz_wl_X, pz_wr_gc, pz_wr_ga, pz_wr_gn, pz_wr_gi, pz_wr_gl, pz_wr_same, pz_wr_X])
                refine po_brP (fun q56 => ?_) (fun q56 => ?_)
                · first
                  | exact absurd q56 (by decide)
                  | exact absurd trivial q56
                  | exact q56.elim
                  | (exfalso; (try simp (disch := omega) only [nI_ltI, nI_leI, nI_eq, nI_ltL, nI_leL, nI_eqL, nI_Llt, nI_Lle, nI_Leq, nI_eqm, nI_meq, nI_ltm, nI_lem, nI_mlt, nI_mle, lg0, lgl, lgg, lgle, lgge, Int32.not_lt, Int32.not_le, Int64.not_lt, Int64.not_le, not_false_eq_true, not_true_eq_false, Decidable.not_not, ge_iff_le, gt_iff_lt] at q56) <;> omega)
                  | exact absurd q56 (by with_reducible assumption)
                  | exact absurd (by with_reducible assumption) q56
                  | exact absurd (Decidable.not_not.mp q56) (by with_reducible assumption)
                  | exact absurd (by with_reducible assumption) (Int32.not_le.mpr q56)
                  | exact absurd (by with_reducible assumption) (Int32.not_lt.mpr q56)
                · skip
                  (try simp (disch := omega) only [nI_ltI, nI_leI, nI_eq, nI_ltL, nI_leL, nI_eqL, nI_Llt, nI_Lle, nI_Leq, nI_eqm, nI_meq, nI_ltm, nI_lem, nI_mlt, nI_mle, lg0, lgl, lgg, lgle, lgge, Int32.not_lt, Int32.not_le, Int64.not_lt, Int64.not_le, not_false_eq_true, not_true_eq_false, Decidable.not_not, ge_iff_le, gt_iff_lt] at q56)
                  refine pw_blk (mi := mz_179) (b := bz_179_60) rfl rfl ?_
                  simp only [bz_179_60, pz_cut_t, pz_cut_f, pz_cut_n, pv_gt, pv_ts, pv_tn, ev_ald0, ev_eld0, ev_cv0_4, pz_wi_gc, pz_wi_ga, pz_wi_gn, pz_wi_gl, pz_wi_gr, pz_wi_same, pz_wi_X, pz_wl_gc, pz_wl_ga, pz_wl_gn, pz_wl_gi, pz_wl_gr, pz_wl_same, pz_wl_X, pz_wr_gc, pz_wr_ga, pz_wr_gn, pz_wr_gi, pz_wr_gl, pz_wr_same, pz_wr_X, so_18 hS']
                  (try simp (disch := omega) only [nI_clamp, pz_in_nI2, pz_in_nI2L, pv_gt, nI_add, nI_addL, nI_Ladd, pk_mul, nI_mulL, nI_Lmul, pk_sub, nI_subL, nI_Lsub, nI_inc, nI_clampL, Nat.add_sub_cancel, pz_wi_else, pz_wl_else, vu_eq, vu_ne, pz_wi_gc, pz_wi_ga, pz_wi_gn, pz_wi_gl, pz_wi_gr, pz_wi_same, pz_wi_X, pz_wl_gc, pz_wl_ga, pz_wl_gn, pz_wl_gi, pz_wl_gr, pz_wl_same, pz_wl_X, pz_wr_gc, pz_wr_ga, pz_wr_gn, pz_wr_gi, pz_wr_gl, pz_wr_same, pz_wr_X])
                  (try refine po_gP (Nat.le_of_ble_eq_true rfl) ?_)
                  refine po_call (by omega) (m_readLook (c := c) (by omega) st' lr.2.2.1 y0 y3 (fun _ _ M2 s2 f1 t2 hw2 f2 f3 f4 => ?_) (fun _ z => absurd hB2 z) (fun z => by rw [zg] at z; cases z))
                  refine pw_blk (mi := mz_179) (b := bz_179_64) rfl rfl ?_
                  simp only [bz_179_64, pz_cut_t, pz_cut_f, pz_cut_n, pv_gt, pv_ts, pv_tn, ev_ifeq, pz_wi_gc, pz_wi_ga, pz_wi_gn, pz_wi_gl, pz_wi_gr, pz_wi_same, pz_wi_X, pz_wl_gc, pz_wl_ga, pz_wl_gn, pz_wl_gi, pz_wl_gr, pz_wl_same, pz_wl_X, pz_wr_gc, pz_wr_ga, pz_wr_gn, pz_wr_gi, pz_wr_gl, pz_wr_same, pz_wr_X]
                  (try simp (disch := omega) only [nI_clamp, pz_in_nI2, pz_in_nI2L, pv_gt, nI_add, nI_addL, nI_Ladd, pk_mul, nI_mulL, nI_Lmul, pk_sub, nI_subL, nI_Lsub, nI_inc, nI_clampL, Nat.add_sub_cancel, pz_wi_else, pz_wl_else, vu_eq, vu_ne, pz_wi_gc, pz_wi_ga, pz_wi_gn, pz_wi_gl, pz_wi_gr, pz_wi_same, pz_wi_X, pz_wl_gc, pz_wl_ga, pz_wl_gn, pz_wl_gi, pz_wl_gr, pz_wl_same, pz_wl_X, pz_wr_gc, pz_wr_ga, pz_wr_gn, pz_wr_gi, pz_wr_gl, pz_wr_same, pz_wr_X])
                  refine po_brP (fun q64 => ?_) (fun q64 => ?_)
                  · first
                    | exact absurd q64 (by decide)
                    | exact absurd trivial q64
                    | exact q64.elim
                    | (exfalso; (try simp (disch := omega) only [nI_ltI, nI_leI, nI_eq, nI_ltL, nI_leL, nI_eqL, nI_Llt, nI_Lle, nI_Leq, nI_eqm, nI_meq, nI_ltm, nI_lem, nI_mlt, nI_mle, lg0, lgl, lgg, lgle, lgge, Int32.not_lt, Int32.not_le, Int64.not_lt, Int64.not_le, not_false_eq_true, not_true_eq_false, Decidable.not_not, ge_iff_le, gt_iff_lt] at q64) <;> omega)
                    | exact absurd q64 (by with_reducible assumption)
                    | exact absurd (by with_reducible assumption) q64
                    | exact absurd (Decidable.not_not.mp q64) (by with_reducible assumption)
                    | exact absurd (by with_reducible assumption) (Int32.not_le.mpr q64)
                    | exact absurd (by with_reducible assumption) (Int32.not_lt.mpr q64)
                  · skip
                    (try simp (disch := omega) only [nI_ltI, nI_leI, nI_eq, nI_ltL, nI_leL, nI_eqL, nI_Llt, nI_Lle, nI_Leq, nI_eqm, nI_meq, nI_ltm, nI_lem, nI_mlt, nI_mle, lg0, lgl, lgg, lgle, lgge, Int32.not_lt, Int32.not_le, Int64.not_lt, Int64.not_le, not_false_eq_true, not_true_eq_false, Decidable.not_not, ge_iff_le, gt_iff_lt] at q64)
                    have hS2 := t2.1.1
                    refine pw_blk (mi := mz_179) (b := bz_179_67) rfl rfl ?_
                    simp only [bz_179_67, pz_cut_t, pz_cut_f, pz_cut_n, pv_gt, pv_ts, pv_tn, ev_ald0, ev_eld0, ev_gf4_2, ev_bp59, ev_cv1_10, pz_wi_gc, pz_wi_ga, pz_wi_gn, pz_wi_gl, pz_wi_gr, pz_wi_same, pz_wi_X, pz_wl_gc, pz_wl_ga, pz_wl_gn, pz_wl_gi, pz_wl_gr, pz_wl_same, pz_wl_X, pz_wr_gc, pz_wr_ga, pz_wr_gn, pz_wr_gi, pz_wr_gl, pz_wr_same, pz_wr_X, so_18 hS', sr_18_0 hS', so_1 hS', so_18 hS2, sr_18_0 hS2, so_1 hS2]
                    (try simp (disch := omega) only [nI_clamp, pz_in_nI2, pz_in_nI2L, pv_gt, nI_add, nI_addL, nI_Ladd, pk_mul, nI_mulL, nI_Lmul, pk_sub, nI_subL, nI_Lsub, nI_inc, nI_clampL, Nat.add_sub_cancel, pz_wi_else, pz_wl_else, vu_eq, vu_ne, pz_wi_gc, pz_wi_ga, pz_wi_gn, pz_wi_gl, pz_wi_gr, pz_wi_same, pz_wi_X, pz_wl_gc, pz_wl_ga, pz_wl_gn, pz_wl_gi, pz_wl_gr, pz_wl_same, pz_wl_X, pz_wr_gc, pz_wr_ga, pz_wr_gn, pz_wr_gi, pz_wr_gl, pz_wr_same, pz_wr_X, so_18 hS2, sr_18_0 hS2, so_1 hS2])
                    (try refine po_gP (Nat.le_of_ble_eq_true rfl) ?_)
                    refine po_call (by omega) (m_isSign (c := 59) (by decide) t2 ?_)
                    rw [zc]
                    refine pw_blk (mi := mz_179) (b := bz_179_76) rfl rfl ?_
                    simp only [bz_179_76, pz_cut_t, pz_cut_f, pz_cut_n, pv_gt, pv_ts, pv_tn, ev_ifne, pz_wi_gc, pz_wi_ga, pz_wi_gn, pz_wi_gl, pz_wi_gr, pz_wi_same, pz_wi_X, pz_wl_gc, pz_wl_ga, pz_wl_gn, pz_wl_gi, pz_wl_gr, pz_wl_same, pz_wl_X, pz_wr_gc, pz_wr_ga, pz_wr_gn, pz_wr_gi, pz_wr_gl, pz_wr_same, pz_wr_X, bI_t]
                    (try simp (disch := omega) only [nI_clamp, pz_in_nI2, pz_in_nI2L, pv_gt, nI_add, nI_addL, nI_Ladd, pk_mul, nI_mulL, nI_Lmul, pk_sub, nI_subL, nI_Lsub, nI_inc, nI_clampL, Nat.add_sub_cancel, pz_wi_else, pz_wl_else, vu_eq, vu_ne, pz_wi_gc, pz_wi_ga, pz_wi_gn, pz_wi_gl, pz_wi_gr, pz_wi_same, pz_wi_X, pz_wl_gc, pz_wl_ga, pz_wl_gn, pz_wl_gi, pz_wl_gr, pz_wl_same, pz_wl_X, pz_wr_gc, pz_wr_ga, pz_wr_gn, pz_wr_gi, pz_wr_gl, pz_wr_same, pz_wr_X, bI_t])
                    refine po_brP (fun q76 => ?_) (fun q76 => ?_)
                    · skip
                      (try simp (disch := omega) only [nI_ltI, nI_leI, nI_eq, nI_ltL, nI_leL, nI_eqL, nI_Llt, nI_Lle, nI_Leq, nI_eqm, nI_meq, nI_ltm, nI_lem, nI_mlt, nI_mle, lg0, lgl, lgg, lgle, lgge, Int32.not_lt, Int32.not_le, Int64.not_lt, Int64.not_le, not_false_eq_true, not_true_eq_false, Decidable.not_not, ge_iff_le, gt_iff_lt] at q76)
                      refine pw_blk (mi := mz_179) (b := bz_179_83) rfl rfl ?_
                      simp only [bz_179_83, pz_cut_t, pz_cut_f, pz_cut_n, pv_gt, pv_ts, pv_tn, ev_ic0, ev_nil, pz_wi_gc, pz_wi_ga, pz_wi_gn, pz_wi_gl, pz_wi_gr, pz_wi_same, pz_wi_X, pz_wl_gc, pz_wl_ga, pz_wl_gn, pz_wl_gi, pz_wl_gr, pz_wl_same, pz_wl_X, pz_wr_gc, pz_wr_ga, pz_wr_gn, pz_wr_gi, pz_wr_gl, pz_wr_same, pz_wr_X]
                      (try simp (disch := omega) only [nI_clamp, pz_in_nI2, pz_in_nI2L, pv_gt, nI_add, nI_addL, nI_Ladd, pk_mul, nI_mulL, nI_Lmul, pk_sub, nI_subL, nI_Lsub, nI_inc, nI_clampL, Nat.add_sub_cancel, pz_wi_else, pz_wl_else, vu_eq, vu_ne, pz_wi_gc, pz_wi_ga, pz_wi_gn, pz_wi_gl, pz_wi_gr, pz_wi_same, pz_wi_X, pz_wl_gc, pz_wl_ga, pz_wl_gn, pz_wl_gi, pz_wl_gr, pz_wl_same, pz_wl_X, pz_wr_gc, pz_wr_ga, pz_wr_gn, pz_wr_gi, pz_wr_gl, pz_wr_same, pz_wr_X])
                      refine po_go ?_
                      refine pw_blk (mi := mz_179) (b := bz_179_84) rfl rfl ?_
                      simp only [bz_179_84, pz_cut_t, pz_cut_f, pz_cut_n, pv_gt, pv_ts, pv_tn, ev_ist1n, ev_ist1i, ev_ist1r, ev_ist1e, ev_ist1l, ev_inc2n, ev_inc2i, ev_inc2r, ev_inc2e, ev_goto, pz_wi_gc, pz_wi_ga, pz_wi_gn, pz_wi_gl, pz_wi_gr, pz_wi_same, pz_wi_X, pz_wl_gc, pz_wl_ga, pz_wl_gn, pz_wl_gi, pz_wl_gr, pz_wl_same, pz_wl_X, pz_wr_gc, pz_wr_ga, pz_wr_gn, pz_wr_gi, pz_wr_gl, pz_wr_same, pz_wr_X]
                      (try simp (disch := omega) only [nI_clamp, pz_in_nI2, pz_in_nI2L, pv_gt, nI_add, nI_addL, nI_Ladd, pk_mul, nI_mulL, nI_Lmul, pk_sub, nI_subL, nI_Lsub, nI_inc, nI_clampL, Nat.add_sub_cancel, pz_wi_else, pz_wl_else, vu_eq, vu_ne, pz_wi_gc, pz_wi_ga, pz_wi_gn, pz_wi_gl, pz_wi_gr, pz_wi_same, pz_wi_X, pz_wl_gc, pz_wl_ga, pz_wl_gn, pz_wl_gi, pz_wl_gr, pz_wl_same, pz_wl_X, pz_wr_gc, pz_wr_ga, pz_wr_gn, pz_wr_gi, pz_wr_gl, pz_wr_same, pz_wr_X])
                      refine po_go ?_
                      refine l_rh0 (by omega) hS2 ?_
                      exact done M2 (nxF ru T L σ') (c.look (nmV σ')) (s'.tr s2 (by decide)) (f1.trans e') t2 (lr.lk hB2 hw2) (fun _ => by have := lr.2.1; show c0.B < c.B + 1; omega) hwd (after M2 s2 f1 t2 f2 f3 f4) (by rw [s2.l (by decide)]; exact g22) (by rw [s2.i (by decide)]; exact g23) el3
                    · first
                      | exact absurd q76 (by decide)
                      | exact absurd trivial q76
                      | exact q76.elim
                      | (exfalso; (try simp (disch := omega) only [nI_ltI, nI_leI, nI_eq, nI_ltL, nI_leL, nI_eqL, nI_Llt, nI_Lle, nI_Leq, nI_eqm, nI_meq, nI_ltm, nI_lem, nI_mlt, nI_mle, lg0, lgl, lgg, lgle, lgge, Int32.not_lt, Int32.not_le, Int64.not_lt, Int64.not_le, not_false_eq_true, not_true_eq_false, Decidable.not_not, ge_iff_le, gt_iff_lt] at q76) <;> omega)
                      | exact absurd q76 (by with_reducible assumption)
                      | exact absurd (by with_reducible assumption) q76
                      | exact absurd (Decidable.not_not.mp q76) (by with_reducible assumption)
                      | exact absurd (by with_reducible assumption) (Int32.not_le.mpr q76)
                      | exact absurd (by with_reducible assumption) (Int32.not_lt.mpr q76)
            | false =>
              rw [if_neg (by rw [zc]; decide)] at el3
              refine pw_blk (mi := mz_179) (b := bz_179_50) rfl rfl ?_
              simp only [bz_179_50, pz_cut_t, pz_cut_f, pz_cut_n, pv_gt, pv_ts, pv_tn, ev_ild2, ev_bp24, ev_ic_gt, pz_wi_gc, pz_wi_ga, pz_wi_gn, pz_wi_gl, pz_wi_gr, pz_wi_same, pz_wi_X, pz_wl_gc, pz_wl_ga, pz_wl_gn, pz_wl_gi, pz_wl_gr, pz_wl_same, pz_wl_X, pz_wr_gc, pz_wr_ga, pz_wr_gn, pz_wr_gi, pz_wr_gl, pz_wr_same, pz_wr_X]
              (try simp (disch := omega) only [nI_clamp, pz_in_nI2, pz_in_nI2L, pv_gt, nI_add, nI_addL, nI_Ladd, pk_mul, nI_mulL, nI_Lmul, pk_sub, nI_subL, nI_Lsub, nI_inc, nI_clampL, Nat.add_sub_cancel, pz_wi_else, pz_wl_else, vu_eq, vu_ne, pz_wi_gc, pz_wi_ga, pz_wi_gn, pz_wi_gl, pz_wi_gr, pz_wi_same, pz_wi_X, pz_wl_gc, pz_wl_ga, pz_wl_gn, pz_wl_gi, pz_wl_gr, pz_wl_same, pz_wl_X, pz_wr_gc, pz_wr_ga, pz_wr_gn, pz_wr_gi, pz_wr_gl, pz_wr_same, pz_wr_X])
              refine po_brP (fun q50 => ?_) (fun q50 => ?_)
              · first
                | exact absurd q50 (by decide)
                | exact absurd trivial q50
                | exact q50.elim
                | (exfalso; (try simp (disch := omega) only [nI_ltI, nI_leI, nI_eq, nI_ltL, nI_leL, nI_eqL, nI_Llt, nI_Lle, nI_Leq, nI_eqm, nI_meq, nI_ltm, nI_lem, nI_mlt, nI_mle, lg0, lgl, lgg, lgle, lgge, Int32.not_lt, Int32.not_le, Int64.not_lt, Int64.not_le, not_false_eq_true, not_true_eq_false, Decidable.not_not, ge_iff_le, gt_iff_lt] at q50) <;> omega)
                | exact absurd q50 (by with_reducible assumption)
                | exact absurd (by with_reducible assumption) q50
                | exact absurd (Decidable.not_not.mp q50) (by with_reducible assumption)
                | exact absurd (by with_reducible assumption) (Int32.not_le.mpr q50)
                | exact absurd (by with_reducible assumption) (Int32.not_lt.mpr q50)
              · skip
                (try simp (disch := omega) only [nI_ltI, nI_leI, nI_eq, nI_ltL, nI_leL, nI_eqL, nI_Llt, nI_Lle, nI_Leq, nI_eqm, nI_meq, nI_ltm, nI_lem, nI_mlt, nI_mle, lg0, lgl, lgg, lgle, lgge, Int32.not_lt, Int32.not_le, Int64.not_lt, Int64.not_le, not_false_eq_true, not_true_eq_false, Decidable.not_not, ge_iff_le, gt_iff_lt] at q50)
                refine pw_blk (mi := mz_179) (b := bz_179_56) rfl rfl ?_
                simp only [bz_179_56, pz_cut_t, pz_cut_f, pz_cut_n, pv_gt, pv_ts, pv_tn, ev_ild1, ev_ifeq, pz_wi_gc, pz_wi_ga, pz_wi_gn, pz_wi_gl, pz_wi_gr, pz_wi_same, pz_wi_X, pz_wl_gc, pz_wl_ga, pz_wl_gn, pz_wl_gi, pz_wl_gr, pz_wl_same, pz_wl_X, pz_wr_gc, pz_wr_ga, pz_wr_gn, pz_wr_gi, pz_wr_gl, pz_wr_same, pz_wr_X]
                (try simp (disch := omega) only [nI_clamp, pz_in_nI2, pz_in_nI2L, pv_gt, nI_add, nI_addL, nI_Ladd, pk_mul, nI_mulL, nI_Lmul, pk_sub, nI_subL, nI_Lsub, nI_inc, nI_clampL, Nat.add_sub_cancel, pz_wi_else, pz_wl_else, vu_eq, vu_ne, pz_wi_gc, pz_wi_ga, pz_wi_gn, pz_wi_gl, pz_wi_gr, pz_wi_same, pz_wi_X, pz_wl_gc, pz_wl_ga, pz_wl_gn, pz_wl_gi, pz_wl_gr, pz_wl_same, pz_wl_X, pz_wr_gc, pz_wr_ga, pz_wr_gn, pz_wr_gi, pz_wr_gl, pz_wr_same, pz_wr_X])
                refine po_brP (fun q56 => ?_) (fun q56 => ?_)
                · first
                  | exact absurd q56 (by decide)
                  | exact absurd trivial q56
                  | exact q56.elim
                  | (exfalso; (try simp (disch := omega) only [nI_ltI, nI_leI, nI_eq, nI_ltL, nI_leL, nI_eqL, nI_Llt, nI_Lle, nI_Leq, nI_eqm, nI_meq, nI_ltm, nI_lem, nI_mlt, nI_mle, lg0, lgl, lgg, lgle, lgge, Int32.not_lt, Int32.not_le, Int64.not_lt, Int64.not_le, not_false_eq_true, not_true_eq_false, Decidable.not_not, ge_iff_le, gt_iff_lt] at q56) <;> omega)
                  | exact absurd q56 (by with_reducible assumption)
                  | exact absurd (by with_reducible assumption) q56
                  | exact absurd (Decidable.not_not.mp q56) (by with_reducible assumption)
                  | exact absurd (by with_reducible assumption) (Int32.not_le.mpr q56)
                  | exact absurd (by with_reducible assumption) (Int32.not_lt.mpr q56)
                · skip
                  (try simp (disch := omega) only [nI_ltI, nI_leI, nI_eq, nI_ltL, nI_leL, nI_eqL, nI_Llt, nI_Lle, nI_Leq, nI_eqm, nI_meq, nI_ltm, nI_lem, nI_mlt, nI_mle, lg0, lgl, lgg, lgle, lgge, Int32.not_lt, Int32.not_le, Int64.not_lt, Int64.not_le, not_false_eq_true, not_true_eq_false, Decidable.not_not, ge_iff_le, gt_iff_lt] at q56)
                  refine pw_blk (mi := mz_179) (b := bz_179_60) rfl rfl ?_
                  simp only [bz_179_60, pz_cut_t, pz_cut_f, pz_cut_n, pv_gt, pv_ts, pv_tn, ev_ald0, ev_eld0, ev_cv0_4, pz_wi_gc, pz_wi_ga, pz_wi_gn, pz_wi_gl, pz_wi_gr, pz_wi_same, pz_wi_X, pz_wl_gc, pz_wl_ga, pz_wl_gn, pz_wl_gi, pz_wl_gr, pz_wl_same, pz_wl_X, pz_wr_gc, pz_wr_ga, pz_wr_gn, pz_wr_gi, pz_wr_gl, pz_wr_same, pz_wr_X, so_18 hS']
                  (try simp (disch := omega) only [nI_clamp, pz_in_nI2, pz_in_nI2L, pv_gt, nI_add, nI_addL, nI_Ladd, pk_mul, nI_mulL, nI_Lmul, pk_sub, nI_subL, nI_Lsub, nI_inc, nI_clampL, Nat.add_sub_cancel, pz_wi_else, pz_wl_else, vu_eq, vu_ne, pz_wi_gc, pz_wi_ga, pz_wi_gn, pz_wi_gl, pz_wi_gr, pz_wi_same, pz_wi_X, pz_wl_gc, pz_wl_ga, pz_wl_gn, pz_wl_gi, pz_wl_gr, pz_wl_same, pz_wl_X, pz_wr_gc, pz_wr_ga, pz_wr_gn, pz_wr_gi, pz_wr_gl, pz_wr_same, pz_wr_X])
                  (try refine po_gP (Nat.le_of_ble_eq_true rfl) ?_)
                  refine po_call (by omega) (m_readLook (c := c) (by omega) st' lr.2.2.1 y0 y3 (fun _ _ M2 s2 f1 t2 hw2 f2 f3 f4 => ?_) (fun _ z => absurd hB2 z) (fun z => by rw [zg] at z; cases z))
                  refine pw_blk (mi := mz_179) (b := bz_179_64) rfl rfl ?_
                  simp only [bz_179_64, pz_cut_t, pz_cut_f, pz_cut_n, pv_gt, pv_ts, pv_tn, ev_ifeq, pz_wi_gc, pz_wi_ga, pz_wi_gn, pz_wi_gl, pz_wi_gr, pz_wi_same, pz_wi_X, pz_wl_gc, pz_wl_ga, pz_wl_gn, pz_wl_gi, pz_wl_gr, pz_wl_same, pz_wl_X, pz_wr_gc, pz_wr_ga, pz_wr_gn, pz_wr_gi, pz_wr_gl, pz_wr_same, pz_wr_X]
                  (try simp (disch := omega) only [nI_clamp, pz_in_nI2, pz_in_nI2L, pv_gt, nI_add, nI_addL, nI_Ladd, pk_mul, nI_mulL, nI_Lmul, pk_sub, nI_subL, nI_Lsub, nI_inc, nI_clampL, Nat.add_sub_cancel, pz_wi_else, pz_wl_else, vu_eq, vu_ne, pz_wi_gc, pz_wi_ga, pz_wi_gn, pz_wi_gl, pz_wi_gr, pz_wi_same, pz_wi_X, pz_wl_gc, pz_wl_ga, pz_wl_gn, pz_wl_gi, pz_wl_gr, pz_wl_same, pz_wl_X, pz_wr_gc, pz_wr_ga, pz_wr_gn, pz_wr_gi, pz_wr_gl, pz_wr_same, pz_wr_X])
                  refine po_brP (fun q64 => ?_) (fun q64 => ?_)
                  · first
                    | exact absurd q64 (by decide)
                    | exact absurd trivial q64
                    | exact q64.elim
                    | (exfalso; (try simp (disch := omega) only [nI_ltI, nI_leI, nI_eq, nI_ltL, nI_leL, nI_eqL, nI_Llt, nI_Lle, nI_Leq, nI_eqm, nI_meq, nI_ltm, nI_lem, nI_mlt, nI_mle, lg0, lgl, lgg, lgle, lgge, Int32.not_lt, Int32.not_le, Int64.not_lt, Int64.not_le, not_false_eq_true, not_true_eq_false, Decidable.not_not, ge_iff_le, gt_iff_lt] at q64) <;> omega)
                    | exact absurd q64 (by with_reducible assumption)
                    | exact absurd (by with_reducible assumption) q64
                    | exact absurd (Decidable.not_not.mp q64) (by with_reducible assumption)
                    | exact absurd (by with_reducible assumption) (Int32.not_le.mpr q64)
                    | exact absurd (by with_reducible assumption) (Int32.not_lt.mpr q64)
                  · skip
                    (try simp (disch := omega) only [nI_ltI, nI_leI, nI_eq, nI_ltL, nI_leL, nI_eqL, nI_Llt, nI_Lle, nI_Leq, nI_eqm, nI_meq, nI_ltm, nI_lem, nI_mlt, nI_mle, lg0, lgl, lgg, lgle, lgge, Int32.not_lt, Int32.not_le, Int64.not_lt, Int64.not_le, not_false_eq_true, not_true_eq_false, Decidable.not_not, ge_iff_le, gt_iff_lt] at q64)
                    have hS2 := t2.1.1
                    refine pw_blk (mi := mz_179) (b := bz_179_67) rfl rfl ?_
                    simp only [bz_179_67, pz_cut_t, pz_cut_f, pz_cut_n, pv_gt, pv_ts, pv_tn, ev_ald0, ev_eld0, ev_gf4_2, ev_bp59, ev_cv1_10, pz_wi_gc, pz_wi_ga, pz_wi_gn, pz_wi_gl, pz_wi_gr, pz_wi_same, pz_wi_X, pz_wl_gc, pz_wl_ga, pz_wl_gn, pz_wl_gi, pz_wl_gr, pz_wl_same, pz_wl_X, pz_wr_gc, pz_wr_ga, pz_wr_gn, pz_wr_gi, pz_wr_gl, pz_wr_same, pz_wr_X, so_18 hS', sr_18_0 hS', so_1 hS', so_18 hS2, sr_18_0 hS2, so_1 hS2]
                    (try simp (disch := omega) only [nI_clamp, pz_in_nI2, pz_in_nI2L, pv_gt, nI_add, nI_addL, nI_Ladd, pk_mul, nI_mulL, nI_Lmul, pk_sub, nI_subL, nI_Lsub, nI_inc, nI_clampL, Nat.add_sub_cancel, pz_wi_else, pz_wl_else, vu_eq, vu_ne, pz_wi_gc, pz_wi_ga, pz_wi_gn, pz_wi_gl, pz_wi_gr, pz_wi_same, pz_wi_X, pz_wl_gc, pz_wl_ga, pz_wl_gn, pz_wl_gi, pz_wl_gr, pz_wl_same, pz_wl_X, pz_wr_gc, pz_wr_ga, pz_wr_gn, pz_wr_gi, pz_wr_gl, pz_wr_same, pz_wr_X, so_18 hS2, sr_18_0 hS2, so_1 hS2])
                    (try refine po_gP (Nat.le_of_ble_eq_true rfl) ?_)
                    refine po_call (by omega) (m_isSign (c := 59) (by decide) t2 ?_)
                    rw [zc]
                    refine pw_blk (mi := mz_179) (b := bz_179_76) rfl rfl ?_
                    simp only [bz_179_76, pz_cut_t, pz_cut_f, pz_cut_n, pv_gt, pv_ts, pv_tn, ev_ifne, pz_wi_gc, pz_wi_ga, pz_wi_gn, pz_wi_gl, pz_wi_gr, pz_wi_same, pz_wi_X, pz_wl_gc, pz_wl_ga, pz_wl_gn, pz_wl_gi, pz_wl_gr, pz_wl_same, pz_wl_X, pz_wr_gc, pz_wr_ga, pz_wr_gn, pz_wr_gi, pz_wr_gl, pz_wr_same, pz_wr_X, bI_f]
                    (try simp (disch := omega) only [nI_clamp, pz_in_nI2, pz_in_nI2L, pv_gt, nI_add, nI_addL, nI_Ladd, pk_mul, nI_mulL, nI_Lmul, pk_sub, nI_subL, nI_Lsub, nI_inc, nI_clampL, Nat.add_sub_cancel, pz_wi_else, pz_wl_else, vu_eq, vu_ne, pz_wi_gc, pz_wi_ga, pz_wi_gn, pz_wi_gl, pz_wi_gr, pz_wi_same, pz_wi_X, pz_wl_gc, pz_wl_ga, pz_wl_gn, pz_wl_gi, pz_wl_gr, pz_wl_same, pz_wl_X, pz_wr_gc, pz_wr_ga, pz_wr_gn, pz_wr_gi, pz_wr_gl, pz_wr_same, pz_wr_X, bI_f])
                    refine po_brP (fun q76 => ?_) (fun q76 => ?_)
                    · first
                      | exact absurd q76 (by decide)
                      | exact absurd trivial q76
                      | exact q76.elim
                      | (exfalso; (try simp (disch := omega) only [nI_ltI, nI_leI, nI_eq, nI_ltL, nI_leL, nI_eqL, nI_Llt, nI_Lle, nI_Leq, nI_eqm, nI_meq, nI_ltm, nI_lem, nI_mlt, nI_mle, lg0, lgl, lgg, lgle, lgge, Int32.not_lt, Int32.not_le, Int64.not_lt, Int64.not_le, not_false_eq_true, not_true_eq_false, Decidable.not_not, ge_iff_le, gt_iff_lt] at q76) <;> omega)
                      | exact absurd q76 (by with_reducible assumption)
                      | exact absurd (by with_reducible assumption) q76
                      | exact absurd (Decidable.not_not.mp q76) (by with_reducible assumption)
                      | exact absurd (by with_reducible assumption) (Int32.not_le.mpr q76)
                      | exact absurd (by with_reducible assumption) (Int32.not_lt.mpr q76)
                    · skip
                      (try simp (disch := omega) only [nI_ltI, nI_leI, nI_eq, nI_ltL, nI_leL, nI_eqL, nI_Llt, nI_Lle, nI_Leq, nI_eqm, nI_meq, nI_ltm, nI_lem, nI_mlt, nI_mle, lg0, lgl, lgg, lgle, lgge, Int32.not_lt, Int32.not_le, Int64.not_lt, Int64.not_le, not_false_eq_true, not_true_eq_false, Decidable.not_not, ge_iff_le, gt_iff_lt] at q76)
                      refine pw_blk (mi := mz_179) (b := bz_179_79) rfl rfl ?_
                      simp only [bz_179_79, pz_cut_t, pz_cut_f, pz_cut_n, pv_gt, pv_ts, pv_tn, ev_ic1, ev_goto, pz_wi_gc, pz_wi_ga, pz_wi_gn, pz_wi_gl, pz_wi_gr, pz_wi_same, pz_wi_X, pz_wl_gc, pz_wl_ga, pz_wl_gn, pz_wl_gi, pz_wl_gr, pz_wl_same, pz_wl_X, pz_wr_gc, pz_wr_ga, pz_wr_gn, pz_wr_gi, pz_wr_gl, pz_wr_same, pz_wr_X]
                      (try simp (disch := omega) only [nI_clamp, pz_in_nI2, pz_in_nI2L, pv_gt, nI_add, nI_addL, nI_Ladd, pk_mul, nI_mulL, nI_Lmul, pk_sub, nI_subL, nI_Lsub, nI_inc, nI_clampL, Nat.add_sub_cancel, pz_wi_else, pz_wl_else, vu_eq, vu_ne, pz_wi_gc, pz_wi_ga, pz_wi_gn, pz_wi_gl, pz_wi_gr, pz_wi_same, pz_wi_X, pz_wl_gc, pz_wl_ga, pz_wl_gn, pz_wl_gi, pz_wl_gr, pz_wl_same, pz_wl_X, pz_wr_gc, pz_wr_ga, pz_wr_gn, pz_wr_gi, pz_wr_gl, pz_wr_same, pz_wr_X])
                      refine po_go ?_
                      refine pw_blk (mi := mz_179) (b := bz_179_84) rfl rfl ?_
                      simp only [bz_179_84, pz_cut_t, pz_cut_f, pz_cut_n, pv_gt, pv_ts, pv_tn, ev_ist1n, ev_ist1i, ev_ist1r, ev_ist1e, ev_ist1l, ev_inc2n, ev_inc2i, ev_inc2r, ev_inc2e, ev_goto, pz_wi_gc, pz_wi_ga, pz_wi_gn, pz_wi_gl, pz_wi_gr, pz_wi_same, pz_wi_X, pz_wl_gc, pz_wl_ga, pz_wl_gn, pz_wl_gi, pz_wl_gr, pz_wl_same, pz_wl_X, pz_wr_gc, pz_wr_ga, pz_wr_gn, pz_wr_gi, pz_wr_gl, pz_wr_same, pz_wr_X]
                      (try simp (disch := omega) only [nI_clamp, pz_in_nI2, pz_in_nI2L, pv_gt, nI_add, nI_addL, nI_Ladd, pk_mul, nI_mulL, nI_Lmul, pk_sub, nI_subL, nI_Lsub, nI_inc, nI_clampL, Nat.add_sub_cancel, pz_wi_else, pz_wl_else, vu_eq, vu_ne, pz_wi_gc, pz_wi_ga, pz_wi_gn, pz_wi_gl, pz_wi_gr, pz_wi_same, pz_wi_X, pz_wl_gc, pz_wl_ga, pz_wl_gn, pz_wl_gi, pz_wl_gr, pz_wl_same, pz_wl_X, pz_wr_gc, pz_wr_ga, pz_wr_gn, pz_wr_gi, pz_wr_gl, pz_wr_same, pz_wr_X])
                      refine po_go ?_
                      exact ih (i + 1) M2 (nxF ru T L σ') (c.look (nmV σ')) (by omega) (s'.tr s2 (by decide)) (f1.trans e') t2 (lr.lk hB2 hw2) hwd (after M2 s2 f1 t2 f2 f3 f4) (by rw [s2.l (by decide)]; exact g22) (by rw [s2.i (by decide)]; exact g23) el3 (Or.inr zc)
          · have el2 : (flF 2 σ', c) = lkS ru T L 25 (nxF ru T L (nxF ru T L σ)) c0 := by rw [← el, lkS, if_pos zg, if_neg hB2]
            have nc : isC 59 (flF 2 σ') = false := by cases σ' <;> rfl
            refine pw_blk (mi := mz_179) (b := bz_179_50) rfl rfl ?_
            simp only [bz_179_50, pz_cut_t, pz_cut_f, pz_cut_n, pv_gt, pv_ts, pv_tn, ev_ild2, ev_bp24, ev_ic_gt, pz_wi_gc, pz_wi_ga, pz_wi_gn, pz_wi_gl, pz_wi_gr, pz_wi_same, pz_wi_X, pz_wl_gc, pz_wl_ga, pz_wl_gn, pz_wl_gi, pz_wl_gr, pz_wl_same, pz_wl_X, pz_wr_gc, pz_wr_ga, pz_wr_gn, pz_wr_gi, pz_wr_gl, pz_wr_same, pz_wr_X]
            (try simp (disch := omega) only [nI_clamp, pz_in_nI2, pz_in_nI2L, pv_gt, nI_add, nI_addL, nI_Ladd, pk_mul, nI_mulL, nI_Lmul, pk_sub, nI_subL, nI_Lsub, nI_inc, nI_clampL, Nat.add_sub_cancel, pz_wi_else, pz_wl_else, vu_eq, vu_ne, pz_wi_gc, pz_wi_ga, pz_wi_gn, pz_wi_gl, pz_wi_gr, pz_wi_same, pz_wi_X, pz_wl_gc, pz_wl_ga, pz_wl_gn, pz_wl_gi, pz_wl_gr, pz_wl_same, pz_wl_X, pz_wr_gc, pz_wr_ga, pz_wr_gn, pz_wr_gi, pz_wr_gl, pz_wr_same, pz_wr_X])
            refine po_brP (fun q50 => ?_) (fun q50 => ?_)
            · first
              | exact absurd q50 (by decide)
              | exact absurd trivial q50
              | exact q50.elim
              | (exfalso; (try simp (disch := omega) only [nI_ltI, nI_leI, nI_eq, nI_ltL, nI_leL, nI_eqL, nI_Llt, nI_Lle, nI_Leq, nI_eqm, nI_meq, nI_ltm, nI_lem, nI_mlt, nI_mle, lg0, lgl, lgg, lgle, lgge, Int32.not_lt, Int32.not_le, Int64.not_lt, Int64.not_le, not_false_eq_true, not_true_eq_false, Decidable.not_not, ge_iff_le, gt_iff_lt] at q50) <;> omega)
              | exact absurd q50 (by with_reducible assumption)
              | exact absurd (by with_reducible assumption) q50
              | exact absurd (Decidable.not_not.mp q50) (by with_reducible assumption)
              | exact absurd (by with_reducible assumption) (Int32.not_le.mpr q50)
              | exact absurd (by with_reducible assumption) (Int32.not_lt.mpr q50)
            · skip
              (try simp (disch := omega) only [nI_ltI, nI_leI, nI_eq, nI_ltL, nI_leL, nI_eqL, nI_Llt, nI_Lle, nI_Leq, nI_eqm, nI_meq, nI_ltm, nI_lem, nI_mlt, nI_mle, lg0, lgl, lgg, lgle, lgge, Int32.not_lt, Int32.not_le, Int64.not_lt, Int64.not_le, not_false_eq_true, not_true_eq_false, Decidable.not_not, ge_iff_le, gt_iff_lt] at q50)
              refine pw_blk (mi := mz_179) (b := bz_179_56) rfl rfl ?_
              simp only [bz_179_56, pz_cut_t, pz_cut_f, pz_cut_n, pv_gt, pv_ts, pv_tn, ev_ild1, ev_ifeq, pz_wi_gc, pz_wi_ga, pz_wi_gn, pz_wi_gl, pz_wi_gr, pz_wi_same, pz_wi_X, pz_wl_gc, pz_wl_ga, pz_wl_gn, pz_wl_gi, pz_wl_gr, pz_wl_same, pz_wl_X, pz_wr_gc, pz_wr_ga, pz_wr_gn, pz_wr_gi, pz_wr_gl, pz_wr_same, pz_wr_X]
              (try simp (disch := omega) only [nI_clamp, pz_in_nI2, pz_in_nI2L, pv_gt, nI_add, nI_addL, nI_Ladd, pk_mul, nI_mulL, nI_Lmul, pk_sub, nI_subL, nI_Lsub, nI_inc, nI_clampL, Nat.add_sub_cancel, pz_wi_else, pz_wl_else, vu_eq, vu_ne, pz_wi_gc, pz_wi_ga, pz_wi_gn, pz_wi_gl, pz_wi_gr, pz_wi_same, pz_wi_X, pz_wl_gc, pz_wl_ga, pz_wl_gn, pz_wl_gi, pz_wl_gr, pz_wl_same, pz_wl_X, pz_wr_gc, pz_wr_ga, pz_wr_gn, pz_wr_gi, pz_wr_gl, pz_wr_same, pz_wr_X])
              refine po_brP (fun q56 => ?_) (fun q56 => ?_)
              · first
                | exact absurd q56 (by decide)
                | exact absurd trivial q56
                | exact q56.elim
                | (exfalso; (try simp (disch := omega) only [nI_ltI, nI_leI, nI_eq, nI_ltL, nI_leL, nI_eqL, nI_Llt, nI_Lle, nI_Leq, nI_eqm, nI_meq, nI_ltm, nI_lem, nI_mlt, nI_mle, lg0, lgl, lgg, lgle, lgge, Int32.not_lt, Int32.not_le, Int64.not_lt, Int64.not_le, not_false_eq_true, not_true_eq_false, Decidable.not_not, ge_iff_le, gt_iff_lt] at q56) <;> omega)
                | exact absurd q56 (by with_reducible assumption)
                | exact absurd (by with_reducible assumption) q56
                | exact absurd (Decidable.not_not.mp q56) (by with_reducible assumption)
                | exact absurd (by with_reducible assumption) (Int32.not_le.mpr q56)
                | exact absurd (by with_reducible assumption) (Int32.not_lt.mpr q56)
              · skip
                (try simp (disch := omega) only [nI_ltI, nI_leI, nI_eq, nI_ltL, nI_leL, nI_eqL, nI_Llt, nI_Lle, nI_Leq, nI_eqm, nI_meq, nI_ltm, nI_lem, nI_mlt, nI_mle, lg0, lgl, lgg, lgle, lgge, Int32.not_lt, Int32.not_le, Int64.not_lt, Int64.not_le, not_false_eq_true, not_true_eq_false, Decidable.not_not, ge_iff_le, gt_iff_lt] at q56)
                refine pw_blk (mi := mz_179) (b := bz_179_60) rfl rfl ?_
                simp only [bz_179_60, pz_cut_t, pz_cut_f, pz_cut_n, pv_gt, pv_ts, pv_tn, ev_ald0, ev_eld0, ev_cv0_4, pz_wi_gc, pz_wi_ga, pz_wi_gn, pz_wi_gl, pz_wi_gr, pz_wi_same, pz_wi_X, pz_wl_gc, pz_wl_ga, pz_wl_gn, pz_wl_gi, pz_wl_gr, pz_wl_same, pz_wl_X, pz_wr_gc, pz_wr_ga, pz_wr_gn, pz_wr_gi, pz_wr_gl, pz_wr_same, pz_wr_X, so_18 hS']
                (try simp (disch := omega) only [nI_clamp, pz_in_nI2, pz_in_nI2L, pv_gt, nI_add, nI_addL, nI_Ladd, pk_mul, nI_mulL, nI_Lmul, pk_sub, nI_subL, nI_Lsub, nI_inc, nI_clampL, Nat.add_sub_cancel, pz_wi_else, pz_wl_else, vu_eq, vu_ne, pz_wi_gc, pz_wi_ga, pz_wi_gn, pz_wi_gl, pz_wi_gr, pz_wi_same, pz_wi_X, pz_wl_gc, pz_wl_ga, pz_wl_gn, pz_wl_gi, pz_wl_gr, pz_wl_same, pz_wl_X, pz_wr_gc, pz_wr_ga, pz_wr_gn, pz_wr_gi, pz_wr_gl, pz_wr_same, pz_wr_X])
                (try refine po_gP (Nat.le_of_ble_eq_true rfl) ?_)
                refine po_call (by omega) (m_readLook (c := c) (by omega) st' lr.2.2.1 y0 y3 (fun _ z => absurd z hB2) (fun _ _ M2 c2 s2 => ?_) (fun z => by rw [zg] at z; cases z))
                refine pw_blk (mi := mz_179) (b := bz_179_64) rfl rfl ?_
                simp only [bz_179_64, pz_cut_t, pz_cut_f, pz_cut_n, pv_gt, pv_ts, pv_tn, ev_ifeq, pz_wi_gc, pz_wi_ga, pz_wi_gn, pz_wi_gl, pz_wi_gr, pz_wi_same, pz_wi_X, pz_wl_gc, pz_wl_ga, pz_wl_gn, pz_wl_gi, pz_wl_gr, pz_wl_same, pz_wl_X, pz_wr_gc, pz_wr_ga, pz_wr_gn, pz_wr_gi, pz_wr_gl, pz_wr_same, pz_wr_X]
                (try simp (disch := omega) only [nI_clamp, pz_in_nI2, pz_in_nI2L, pv_gt, nI_add, nI_addL, nI_Ladd, pk_mul, nI_mulL, nI_Lmul, pk_sub, nI_subL, nI_Lsub, nI_inc, nI_clampL, Nat.add_sub_cancel, pz_wi_else, pz_wl_else, vu_eq, vu_ne, pz_wi_gc, pz_wi_ga, pz_wi_gn, pz_wi_gl, pz_wi_gr, pz_wi_same, pz_wi_X, pz_wl_gc, pz_wl_ga, pz_wl_gn, pz_wl_gi, pz_wl_gr, pz_wl_same, pz_wl_X, pz_wr_gc, pz_wr_ga, pz_wr_gn, pz_wr_gi, pz_wr_gl, pz_wr_same, pz_wr_X])
                refine po_brP (fun q64 => ?_) (fun q64 => ?_)
                · skip
                  (try simp (disch := omega) only [nI_ltI, nI_leI, nI_eq, nI_ltL, nI_leL, nI_eqL, nI_Llt, nI_Lle, nI_Leq, nI_eqm, nI_meq, nI_ltm, nI_lem, nI_mlt, nI_mle, lg0, lgl, lgg, lgle, lgge, Int32.not_lt, Int32.not_le, Int64.not_lt, Int64.not_le, not_false_eq_true, not_true_eq_false, Decidable.not_not, ge_iff_le, gt_iff_lt] at q64)
                  refine pw_blk (mi := mz_179) (b := bz_179_83) rfl rfl ?_
                  simp only [bz_179_83, pz_cut_t, pz_cut_f, pz_cut_n, pv_gt, pv_ts, pv_tn, ev_ic0, ev_nil, pz_wi_gc, pz_wi_ga, pz_wi_gn, pz_wi_gl, pz_wi_gr, pz_wi_same, pz_wi_X, pz_wl_gc, pz_wl_ga, pz_wl_gn, pz_wl_gi, pz_wl_gr, pz_wl_same, pz_wl_X, pz_wr_gc, pz_wr_ga, pz_wr_gn, pz_wr_gi, pz_wr_gl, pz_wr_same, pz_wr_X]
                  (try simp (disch := omega) only [nI_clamp, pz_in_nI2, pz_in_nI2L, pv_gt, nI_add, nI_addL, nI_Ladd, pk_mul, nI_mulL, nI_Lmul, pk_sub, nI_subL, nI_Lsub, nI_inc, nI_clampL, Nat.add_sub_cancel, pz_wi_else, pz_wl_else, vu_eq, vu_ne, pz_wi_gc, pz_wi_ga, pz_wi_gn, pz_wi_gl, pz_wi_gr, pz_wi_same, pz_wi_X, pz_wl_gc, pz_wl_ga, pz_wl_gn, pz_wl_gi, pz_wl_gr, pz_wl_same, pz_wl_X, pz_wr_gc, pz_wr_ga, pz_wr_gn, pz_wr_gi, pz_wr_gl, pz_wr_same, pz_wr_X])
                  refine po_go ?_
                  refine pw_blk (mi := mz_179) (b := bz_179_84) rfl rfl ?_
                  simp only [bz_179_84, pz_cut_t, pz_cut_f, pz_cut_n, pv_gt, pv_ts, pv_tn, ev_ist1n, ev_ist1i, ev_ist1r, ev_ist1e, ev_ist1l, ev_inc2n, ev_inc2i, ev_inc2r, ev_inc2e, ev_goto, pz_wi_gc, pz_wi_ga, pz_wi_gn, pz_wi_gl, pz_wi_gr, pz_wi_same, pz_wi_X, pz_wl_gc, pz_wl_ga, pz_wl_gn, pz_wl_gi, pz_wl_gr, pz_wl_same, pz_wl_X, pz_wr_gc, pz_wr_ga, pz_wr_gn, pz_wr_gi, pz_wr_gl, pz_wr_same, pz_wr_X]
                  (try simp (disch := omega) only [nI_clamp, pz_in_nI2, pz_in_nI2L, pv_gt, nI_add, nI_addL, nI_Ladd, pk_mul, nI_mulL, nI_Lmul, pk_sub, nI_subL, nI_Lsub, nI_inc, nI_clampL, Nat.add_sub_cancel, pz_wi_else, pz_wl_else, vu_eq, vu_ne, pz_wi_gc, pz_wi_ga, pz_wi_gn, pz_wi_gl, pz_wi_gr, pz_wi_same, pz_wi_X, pz_wl_gc, pz_wl_ga, pz_wl_gn, pz_wl_gi, pz_wl_gr, pz_wl_same, pz_wl_X, pz_wr_gc, pz_wr_ga, pz_wr_gn, pz_wr_gi, pz_wr_gl, pz_wr_same, pz_wr_X])
                  refine po_go ?_
                  refine l_rh0 (by omega) s2.1.1 ?_
                  exact done M2 (flF 2 σ') c (s'.tr c2.1 (by decide)) (c2.2.trans e') s2 lr (fun z => by rw [nc] at z; cases z) hwd (xc.c1 c2) (by rw [c2.1.l (by decide)]; exact g22) (by rw [c2.1.i (by decide)]; exact g23) el2
                · first
                  | exact absurd q64 (by decide)
                  | exact absurd trivial q64
                  | exact q64.elim
                  | (exfalso; (try simp (disch := omega) only [nI_ltI, nI_leI, nI_eq, nI_ltL, nI_leL, nI_eqL, nI_Llt, nI_Lle, nI_Leq, nI_eqm, nI_meq, nI_ltm, nI_lem, nI_mlt, nI_mle, lg0, lgl, lgg, lgle, lgge, Int32.not_lt, Int32.not_le, Int64.not_lt, Int64.not_le, not_false_eq_true, not_true_eq_false, Decidable.not_not, ge_iff_le, gt_iff_lt] at q64) <;> omega)
                  | exact absurd q64 (by with_reducible assumption)
                  | exact absurd (by with_reducible assumption) q64
                  | exact absurd (Decidable.not_not.mp q64) (by with_reducible assumption)
                  | exact absurd (by with_reducible assumption) (Int32.not_le.mpr q64)
                  | exact absurd (by with_reducible assumption) (Int32.not_lt.mpr q64)
    refine pm_ent (L := [some (.ref 18), none, none]) rfl (Nat.le_of_ble_eq_true rfl) ?_
    refine pw_blk (mi := mz_179) (b := bz_179_0) rfl rfl ?_
    simp only [bz_179_0, pz_cut_t, pz_cut_f, pz_cut_n, pv_gt, pv_ts, pv_tn, ev_ald0, ev_eld0, ev_gf4_2, ev_gf8_0, ev_bp8, ev_gf8_2, ev_cv3_4, pz_wi_gc, pz_wi_ga, pz_wi_gn, pz_wi_gl, pz_wi_gr, pz_wi_same, pz_wi_X, pz_wl_gc, pz_wl_ga, pz_wl_gn, pz_wl_gi, pz_wl_gr, pz_wl_same, pz_wl_X, pz_wr_gc, pz_wr_ga, pz_wr_gn, pz_wr_gi, pz_wr_gl, pz_wr_same, pz_wr_X, so_18 hS, sr_18_1 hS, so_19 hS, sr_19_4 hS, sa_22 hS, sn_22 hS, x3]
    (try simp (disch := omega) only [nI_clamp, pz_in_nI2, pz_in_nI2L, pv_gt, nI_add, nI_addL, nI_Ladd, pk_mul, nI_mulL, nI_Lmul, pk_sub, nI_subL, nI_Lsub, nI_inc, nI_clampL, Nat.add_sub_cancel, pz_wi_else, pz_wl_else, vu_eq, vu_ne, pz_wi_gc, pz_wi_ga, pz_wi_gn, pz_wi_gl, pz_wi_gr, pz_wi_same, pz_wi_X, pz_wl_gc, pz_wl_ga, pz_wl_gn, pz_wl_gi, pz_wl_gr, pz_wl_same, pz_wl_X, pz_wr_gc, pz_wr_ga, pz_wr_gn, pz_wr_gi, pz_wr_gl, pz_wr_same, pz_wr_X, x3])
    (try refine po_gP (Nat.le_of_ble_eq_true rfl) ?_)
    refine po_call (by omega) (m_beginNamed (k := 22) (nm := c0.hw) (len := 8) (by omega) s (sa_22 hS) (sn_22 hS) (Nat.le_refl _) (by decide) (by omega) (by decide) (fun i hi => ⟨(xH i hi).1, (o.2.2.1 i hi).1⟩) (fun _ _ _ M1 s1 f1 t1 hwd g22 => ?_) (fun _ z => absurd hg z))
    refine pw_blk (mi := mz_179) (b := bz_179_20) rfl rfl ?_
    simp only [bz_179_20, pz_cut_t, pz_cut_f, pz_cut_n, pv_gt, pv_ts, pv_tn, ev_ifne, pz_wi_gc, pz_wi_ga, pz_wi_gn, pz_wi_gl, pz_wi_gr, pz_wi_same, pz_wi_X, pz_wl_gc, pz_wl_ga, pz_wl_gn, pz_wl_gi, pz_wl_gr, pz_wl_same, pz_wl_X, pz_wr_gc, pz_wr_ga, pz_wr_gn, pz_wr_gi, pz_wr_gl, pz_wr_same, pz_wr_X, x3]
    (try simp (disch := omega) only [nI_clamp, pz_in_nI2, pz_in_nI2L, pv_gt, nI_add, nI_addL, nI_Ladd, pk_mul, nI_mulL, nI_Lmul, pk_sub, nI_subL, nI_Lsub, nI_inc, nI_clampL, Nat.add_sub_cancel, pz_wi_else, pz_wl_else, vu_eq, vu_ne, pz_wi_gc, pz_wi_ga, pz_wi_gn, pz_wi_gl, pz_wi_gr, pz_wi_same, pz_wi_X, pz_wl_gc, pz_wl_ga, pz_wl_gn, pz_wl_gi, pz_wl_gr, pz_wl_same, pz_wl_X, pz_wr_gc, pz_wr_ga, pz_wr_gn, pz_wr_gi, pz_wr_gl, pz_wr_same, pz_wr_X, x3])
    refine po_brP (fun q20 => ?_) (fun q20 => ?_)
    · skip
      (try simp (disch := omega) only [nI_ltI, nI_leI, nI_eq, nI_ltL, nI_leL, nI_eqL, nI_Llt, nI_Lle, nI_Leq, nI_eqm, nI_meq, nI_ltm, nI_lem, nI_mlt, nI_mle, lg0, lgl, lgg, lgle, lgge, Int32.not_lt, Int32.not_le, Int64.not_lt, Int64.not_le, not_false_eq_true, not_true_eq_false, Decidable.not_not, ge_iff_le, gt_iff_lt] at q20)
      have hS1 := t1.1.1
      have y3 : gi M1 19 3 = nI c0.H := by rw [s1.i (by decide)]; exact x3
      have y0 : gi M1 19 0 = nI c0.B := by rw [s1.i (by decide)]; exact x0
      have hH := hg.1
      refine pw_blk (mi := mz_179) (b := bz_179_24) rfl rfl ?_
      simp only [bz_179_24, pz_cut_t, pz_cut_f, pz_cut_n, pv_gt, pv_ts, pv_tn, ev_ald0, ev_eld0, ev_gf4_2, ev_gf8_2, ev_gf8_0, ea_iast, ev_ic1, ev_ist1n, ev_ist1i, ev_ist1r, ev_ist1e, ev_ist1l, ev_ic0, ev_ist2n, ev_ist2i, ev_ist2r, ev_ist2e, ev_ist2l, ev_nil, pz_wi_gc, pz_wi_ga, pz_wi_gn, pz_wi_gl, pz_wi_gr, pz_wi_same, pz_wi_X, pz_wl_gc, pz_wl_ga, pz_wl_gn, pz_wl_gi, pz_wl_gr, pz_wl_same, pz_wl_X, pz_wr_gc, pz_wr_ga, pz_wr_gn, pz_wr_gi, pz_wr_gl, pz_wr_same, pz_wr_X, so_18 hS, sr_18_1 hS, so_19 hS, sr_19_5 hS, sa_23 hS, sn_23 hS, x3, so_18 hS1, sr_18_1 hS1, so_19 hS1, sr_19_5 hS1, sa_23 hS1, sn_23 hS1, y3, y0, sa_22 hS, sn_22 hS]
      (try simp (disch := omega) only [nI_clamp, pz_in_nI2, pz_in_nI2L, pv_gt, nI_add, nI_addL, nI_Ladd, pk_mul, nI_mulL, nI_Lmul, pk_sub, nI_subL, nI_Lsub, nI_inc, nI_clampL, Nat.add_sub_cancel, pz_wi_else, pz_wl_else, vu_eq, vu_ne, pz_wi_gc, pz_wi_ga, pz_wi_gn, pz_wi_gl, pz_wi_gr, pz_wi_same, pz_wi_X, pz_wl_gc, pz_wl_ga, pz_wl_gn, pz_wl_gi, pz_wl_gr, pz_wl_same, pz_wl_X, pz_wr_gc, pz_wr_ga, pz_wr_gn, pz_wr_gi, pz_wr_gl, pz_wr_same, pz_wr_X, x3, so_18 hS1, sr_18_1 hS1, so_19 hS1, sr_19_5 hS1, sa_23 hS1, sn_23 hS1, y3, y0])
      (try refine po_gI (by first | exact pz_in_nI (by omega) (by decide) | decide | assumption) ?_)
      refine po_go ?_
      have sx : sm [23] M1 (pz_wi M1 23 (va_up (gi M1 23) c0.H (nI c0.B))) := sm.wi sm.rf (by decide)
      refine loop 25 0 _ (nxF ru T L (nxF ru T L σ)) c0 rfl ((s1.mono (by decide)).tr sx (by decide)) (by rw [pz_wi_else (by decide)]; exact f1) (t1.sm sx (by decide) (by decide) (by decide)) (lkR.rf oB) hwd ?_ (by rw [pz_wi_gl, g22, vu_eq]) (by rw [pz_wi_same, vu_eq]) rfl (Or.inl rfl)
      refine ⟨⟨?_, ?_, ?_, ?_, ?_, ?_, ?_⟩, ?_, ?_, ?_, ?_, ?_⟩
      · rw [pz_wi_else (by decide), s1.i (by decide)]; exact x0
      · rw [pz_wi_else (by decide), s1.i (by decide)]; exact x3
      · rw [pz_wi_else (by decide), s1.i (by decide)]; exact x6
      · rw [pz_wi_else (by decide), s1.i (by decide)]; exact x10
      · rw [pz_wi_else (by decide), s1.i (by decide)]; exact x16
      · rw [pz_wi_else (by decide), s1.i (by decide)]; exact x17
      · rw [pz_wi_else (by decide), s1.i (by decide)]; exact x18
      · rw [pz_wi_gl, pz_wi_else (by decide), s1.l (by decide), s1.i (by decide)]; exact xB
      · intro j hj
        rw [pz_wi_gl, pz_wi_same, g22, vu_ne (by omega), vu_ne (by omega), s1.i (by decide)]; exact xH j hj
      · rw [pz_wi_gl, pz_wi_else (by decide), pz_wi_else (by decide), s1.l (by decide), s1.i (k := 25) (by decide), s1.i (k := 26) (by decide)]; exact xP
      · rw [pz_wi_gl, pz_wi_else (by decide), pz_wi_else (by decide), pz_wi_else (by decide), pz_wi_else (by decide), s1.l (by decide), s1.i (k := 28) (by decide), s1.i (k := 29) (by decide), s1.i (k := 30) (by decide), s1.i (k := 31) (by decide)]; exact xN
      · rw [pz_wi_else (by decide), s1.i (by decide)]; exact xL
    · first
      | exact absurd q20 (by decide)
      | exact absurd trivial q20
      | exact q20.elim
      | (exfalso; (try simp (disch := omega) only [nI_ltI, nI_leI, nI_eq, nI_ltL, nI_leL, nI_eqL, nI_Llt, nI_Lle, nI_Leq, nI_eqm, nI_meq, nI_ltm, nI_lem, nI_mlt, nI_mle, lg0, lgl, lgg, lgle, lgge, Int32.not_lt, Int32.not_le, Int64.not_lt, Int64.not_le, not_false_eq_true, not_true_eq_false, Decidable.not_not, ge_iff_le, gt_iff_lt] at q20) <;> omega)
      | exact absurd q20 (by with_reducible assumption)
      | exact absurd (by with_reducible assumption) q20
      | exact absurd (Decidable.not_not.mp q20) (by with_reducible assumption)
      | exact absurd (by with_reducible assumption) (Int32.not_le.mpr q20)
      | exact absurd (by with_reducible assumption) (Int32.not_lt.mpr q20)
  · unfold heapS at k
    rw [if_neg hg] at k
    refine pm_ent (L := [some (.ref 18), none, none]) rfl (Nat.le_of_ble_eq_true rfl) ?_
    refine pw_blk (mi := mz_179) (b := bz_179_0) rfl rfl ?_
    simp only [bz_179_0, pz_cut_t, pz_cut_f, pz_cut_n, pv_gt, pv_ts, pv_tn, ev_ald0, ev_eld0, ev_gf4_2, ev_gf8_0, ev_bp8, ev_gf8_2, ev_cv3_4, pz_wi_gc, pz_wi_ga, pz_wi_gn, pz_wi_gl, pz_wi_gr, pz_wi_same, pz_wi_X, pz_wl_gc, pz_wl_ga, pz_wl_gn, pz_wl_gi, pz_wl_gr, pz_wl_same, pz_wl_X, pz_wr_gc, pz_wr_ga, pz_wr_gn, pz_wr_gi, pz_wr_gl, pz_wr_same, pz_wr_X, so_18 hS, sr_18_1 hS, so_19 hS, sr_19_4 hS, sa_22 hS, sn_22 hS, x3]
    (try simp (disch := omega) only [nI_clamp, pz_in_nI2, pz_in_nI2L, pv_gt, nI_add, nI_addL, nI_Ladd, pk_mul, nI_mulL, nI_Lmul, pk_sub, nI_subL, nI_Lsub, nI_inc, nI_clampL, Nat.add_sub_cancel, pz_wi_else, pz_wl_else, vu_eq, vu_ne, pz_wi_gc, pz_wi_ga, pz_wi_gn, pz_wi_gl, pz_wi_gr, pz_wi_same, pz_wi_X, pz_wl_gc, pz_wl_ga, pz_wl_gn, pz_wl_gi, pz_wl_gr, pz_wl_same, pz_wl_X, pz_wr_gc, pz_wr_ga, pz_wr_gn, pz_wr_gi, pz_wr_gl, pz_wr_same, pz_wr_X, x3])
    (try refine po_gP (Nat.le_of_ble_eq_true rfl) ?_)
    refine po_call (by omega) (m_beginNamed (k := 22) (nm := c0.hw) (len := 8) (by omega) s (sa_22 hS) (sn_22 hS) (Nat.le_refl _) (by decide) (by omega) (by decide) (fun i hi => ⟨(xH i hi).1, (o.2.2.1 i hi).1⟩) (fun a b e => absurd ⟨a, b, e⟩ hg) (fun zf _ M1 c1 s1 => ?_))
    refine pw_blk (mi := mz_179) (b := bz_179_20) rfl rfl ?_
    simp only [bz_179_20, pz_cut_t, pz_cut_f, pz_cut_n, pv_gt, pv_ts, pv_tn, ev_ifne, pz_wi_gc, pz_wi_ga, pz_wi_gn, pz_wi_gl, pz_wi_gr, pz_wi_same, pz_wi_X, pz_wl_gc, pz_wl_ga, pz_wl_gn, pz_wl_gi, pz_wl_gr, pz_wl_same, pz_wl_X, pz_wr_gc, pz_wr_ga, pz_wr_gn, pz_wr_gi, pz_wr_gl, pz_wr_same, pz_wr_X, x3]
    (try simp (disch := omega) only [nI_clamp, pz_in_nI2, pz_in_nI2L, pv_gt, nI_add, nI_addL, nI_Ladd, pk_mul, nI_mulL, nI_Lmul, pk_sub, nI_subL, nI_Lsub, nI_inc, nI_clampL, Nat.add_sub_cancel, pz_wi_else, pz_wl_else, vu_eq, vu_ne, pz_wi_gc, pz_wi_ga, pz_wi_gn, pz_wi_gl, pz_wi_gr, pz_wi_same, pz_wi_X, pz_wl_gc, pz_wl_ga, pz_wl_gn, pz_wl_gi, pz_wl_gr, pz_wl_same, pz_wl_X, pz_wr_gc, pz_wr_ga, pz_wr_gn, pz_wr_gi, pz_wr_gl, pz_wr_same, pz_wr_X, x3])
    refine po_brP (fun q20 => ?_) (fun q20 => ?_)
    · first
      | exact absurd q20 (by decide)
      | exact absurd trivial q20
      | exact q20.elim
      | (exfalso; (try simp (disch := omega) only [nI_ltI, nI_leI, nI_eq, nI_ltL, nI_leL, nI_eqL, nI_Llt, nI_Lle, nI_Leq, nI_eqm, nI_meq, nI_ltm, nI_lem, nI_mlt, nI_mle, lg0, lgl, lgg, lgle, lgge, Int32.not_lt, Int32.not_le, Int64.not_lt, Int64.not_le, not_false_eq_true, not_true_eq_false, Decidable.not_not, ge_iff_le, gt_iff_lt] at q20) <;> omega)
      | exact absurd q20 (by with_reducible assumption)
      | exact absurd (by with_reducible assumption) q20
      | exact absurd (Decidable.not_not.mp q20) (by with_reducible assumption)
      | exact absurd (by with_reducible assumption) (Int32.not_le.mpr q20)
      | exact absurd (by with_reducible assumption) (Int32.not_lt.mpr q20)
    · skip
      (try simp (disch := omega) only [nI_ltI, nI_leI, nI_eq, nI_ltL, nI_leL, nI_eqL, nI_Llt, nI_Lle, nI_Leq, nI_eqm, nI_meq, nI_ltm, nI_lem, nI_mlt, nI_mle, lg0, lgl, lgg, lgle, lgge, Int32.not_lt, Int32.not_le, Int64.not_lt, Int64.not_le, not_false_eq_true, not_true_eq_false, Decidable.not_not, ge_iff_le, gt_iff_lt] at q20)
      refine pw_blk (mi := mz_179) (b := bz_179_23) rfl rfl ?_
      simp only [bz_179_23, pz_cut_t, pz_cut_f, pz_cut_n, pv_gt, pv_ts, pv_tn, ev_ret, pz_wi_gc, pz_wi_ga, pz_wi_gn, pz_wi_gl, pz_wi_gr, pz_wi_same, pz_wi_X, pz_wl_gc, pz_wl_ga, pz_wl_gn, pz_wl_gi, pz_wl_gr, pz_wl_same, pz_wl_X, pz_wr_gc, pz_wr_ga, pz_wr_gn, pz_wr_gi, pz_wr_gl, pz_wr_same, pz_wr_X, x3]
      (try simp (disch := omega) only [nI_clamp, pz_in_nI2, pz_in_nI2L, pv_gt, nI_add, nI_addL, nI_Ladd, pk_mul, nI_mulL, nI_Lmul, pk_sub, nI_subL, nI_Lsub, nI_inc, nI_clampL, Nat.add_sub_cancel, pz_wi_else, pz_wl_else, vu_eq, vu_ne, pz_wi_gc, pz_wi_ga, pz_wi_gn, pz_wi_gl, pz_wi_gr, pz_wi_same, pz_wi_X, pz_wl_gc, pz_wl_ga, pz_wl_gn, pz_wl_gi, pz_wl_gr, pz_wl_same, pz_wl_X, pz_wr_gc, pz_wr_ga, pz_wr_gn, pz_wr_gi, pz_wr_gl, pz_wr_same, pz_wr_X, x3])
      exact po_ret (k M1 (c1.1.mono (by decide)) c1.2 s1 (fun z => by rw [zf] at z; cases z))
end HP
