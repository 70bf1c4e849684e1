/-! ===== a heap, the reference ===== -/
section RH
variable {d : Nat} {M M' : pz_M} {Q : Option Value × pz_M → Prop} {ru : Bool} {T : Nat → Nat} {L : Nat} {b : Nat}
def rkS (ru : Bool) (T : Nat → Nat) (L : Nat) : Nat → Sg → Sc → Sg × Sc
  | 0, σ, c => (σ, c)
  | f + 1, σ, c => if isG (anF σ) = true then (if c.B < 24 then rkS ru T L f (nxF ru T L σ) (c.look (nmV σ)) else (flF 2 σ, c)) else (σ, c)
theorem anF_fl {σ : Sg} (h : isG (anF σ) = false) : anF σ = flF 2 σ := by
  cases σ with
  | inl f => rfl
  | inr t =>
    by_cases y : t.1 = 2
    · rw [show anF (.inr t) = .inr t from if_pos y] at h
      cases h
    · exact if_neg y
theorem anF_C {σ : Sg} {k : Nat} (h : isC k σ = true) : isG (anF σ) = false := by
  cases σ with
  | inl f => cases h
  | inr t =>
    unfold isC at h
    simp at h
    rw [show anF (.inr t) = .inl (2, t.2.2.2.1) from if_neg (by omega)]
    rfl
/-- both ways of reading looks come to the same behind the sign that ends them -/
theorem rk_lk : ∀ f σ c, isG (anF σ) = true → tsF ru T L 59 (rkS ru T L f σ c).1 = tsF ru T L 59 (lkS ru T L f σ c).1 ∧ (rkS ru T L f σ c).2 = (lkS ru T L f σ c).2 := by
  intro f
  induction f with
  | zero => intro σ c _; exact ⟨rfl, rfl⟩
  | succ f ih =>
    intro σ c h
    rw [rkS, lkS, if_pos h, if_pos h]
    by_cases hB : c.B < 24
    · rw [if_pos hB, if_pos hB]
      by_cases hc : isC 59 (nxF ru T L σ) = true
      · rw [if_pos hc]
        have hn := anF_C hc
        cases f with
        | zero => exact ⟨rfl, rfl⟩
        | succ f =>
          rw [rkS, if_neg (by rw [hn]; decide)]
          exact ⟨rfl, rfl⟩
      · rw [if_neg hc]
        cases hn : isG (anF (nxF ru T L σ)) with
        | true => exact ih _ _ hn
        | false =>
          cases f with
          | zero => exact ⟨rfl, rfl⟩
          | succ f =>
            rw [rkS, lkS, if_neg (by rw [hn]; decide), if_neg (by rw [hn]; decide), anF_fl hn]
            refine ⟨?_, rfl⟩
            rw [tsF_f flF_G]
            unfold tsF
            rw [if_neg hc]
    · rw [if_neg hB, if_neg hB]
      exact ⟨rfl, rfl⟩
def rhS (ru : Bool) (T : Nat → Nat) (L : Nat) (τ : Sg) (c : Sc) : Sg × Sc := if isG (anF (frF ru T L c.H c.hw τ)) = true then ((rkS ru T L 25 (frF ru T L c.H c.hw τ) c).1, (rkS ru T L 25 (frF ru T L c.H c.hw τ) c).2.heap (nmV τ) c.B) else (anF (frF ru T L c.H c.hw τ), c)
theorem rsc.lookW {c : Sc} {w : List Nat} (x : rsc M b c) (h : sm [123, 136, 140] M M') (e1 : gl M' 136 = va_up (gl M 136) (24 * b + c.B) (p8 w)) (e2 : gi M' 140 = va_up (gi M 140) (24 * b + c.B) (nI c.H)) (e3 : gi M' 123 = va_up (gi M 123) b (nI (c.B + 1))) : rsc M' b (c.look w) := by
  obtain ⟨⟨x0, x3, x6, x10, x18⟩, xL, xD, xB, xH, xP, xN⟩ := x
  have i : ∀ k, k ≠ 123 → k ≠ 136 → k ≠ 140 → gi M' k = gi M k := fun k a1 a2 a3 => h.i (by simp; exact ⟨a1, a2, a3⟩)
  have l : ∀ k, k ≠ 123 → k ≠ 136 → k ≠ 140 → gl M' k = gl M k := fun k a1 a2 a3 => h.l (by simp; exact ⟨a1, a2, a3⟩)
  refine ⟨⟨?_, ?_, ?_, ?_, ?_⟩, ?_, ?_, ?_, ?_, ?_, ?_⟩
  · rw [e3, vu_eq]; rfl
  · rw [i 124 (by decide) (by decide) (by decide)]; exact x3
  · rw [i 125 (by decide) (by decide) (by decide)]; exact x6
  · rw [i 126 (by decide) (by decide) (by decide)]; exact x10
  · rw [i 133 (by decide) (by decide) (by decide)]; exact x18
  · rw [i 127 (by decide) (by decide) (by decide), i 128 (by decide) (by decide) (by decide), i 129 (by decide) (by decide) (by decide), i 130 (by decide) (by decide) (by decide), i 131 (by decide) (by decide) (by decide), i 132 (by decide) (by decide) (by decide)]; exact xL
  · rw [i 134 (by decide) (by decide) (by decide), i 135 (by decide) (by decide) (by decide)]; exact xD
  · intro j hj
    have hj' : j < c.B + 1 := hj
    show gl M' 136 (24 * b + j) = p8 (va_up c.lk c.B w j) ∧ gi M' 140 (24 * b + j) = nI (va_up c.ho c.B c.H j)
    rw [e1, e2]
    by_cases q : j = c.B
    · subst q
      rw [vu_eq, vu_eq, vu_eq, vu_eq]
      exact ⟨rfl, rfl⟩
    · rw [vu_ne (show 24 * b + j ≠ 24 * b + c.B by omega), vu_ne (show 24 * b + j ≠ 24 * b + c.B by omega), vu_ne q, vu_ne q]
      exact xB j (by omega)
  · rw [l 137 (by decide) (by decide) (by decide), i 141 (by decide) (by decide) (by decide), i 142 (by decide) (by decide) (by decide)]; exact xH
  · rw [l 138 (by decide) (by decide) (by decide), i 143 (by decide) (by decide) (by decide), i 144 (by decide) (by decide) (by decide)]; exact xP
  · rw [l 139 (by decide) (by decide) (by decide), i 145 (by decide) (by decide) (by decide), i 146 (by decide) (by decide) (by decide), i 147 (by decide) (by decide) (by decide), i 148 (by decide) (by decide) (by decide)]; exact xN
theorem rsc.heapW {c : Sc} {w : List Nat} {f : Nat} (x : rsc M b c) (g1 : gl M 137 (8 * b + c.H) = p8 w) (g2 : gi M 141 (8 * b + c.H) = nI f) (h : sm [124, 142] M M') (e1 : gi M' 142 = va_up (gi M 142) (8 * b + c.H) (nI c.B - 1)) (e3 : gi M' 124 = va_up (gi M 124) b (nI (c.H + 1))) : rsc M' b (c.heap w f) := by
  obtain ⟨⟨x0, x3, x6, x10, x18⟩, xL, xD, xB, xH, xP, xN⟩ := x
  have i : ∀ k, k ≠ 124 → k ≠ 142 → gi M' k = gi M k := fun k a1 a2 => h.i (by simp; exact ⟨a1, a2⟩)
  have l : ∀ k, k ≠ 124 → k ≠ 142 → gl M' k = gl M k := fun k a1 a2 => h.l (by simp; exact ⟨a1, a2⟩)
  refine ⟨⟨?_, ?_, ?_, ?_, ?_⟩, ?_, ?_, ?_, ?_, ?_, ?_⟩
  · rw [i 123 (by decide) (by decide)]; exact x0
  · rw [e3, vu_eq]; rfl
  · rw [i 125 (by decide) (by decide)]; exact x6
  · rw [i 126 (by decide) (by decide)]; exact x10
  · rw [i 133 (by decide) (by decide)]; exact x18
  · rw [i 127 (by decide) (by decide), i 128 (by decide) (by decide), i 129 (by decide) (by decide), i 130 (by decide) (by decide), i 131 (by decide) (by decide), i 132 (by decide) (by decide)]; exact xL
  · rw [i 134 (by decide) (by decide), i 135 (by decide) (by decide)]; exact xD
  · rw [l 136 (by decide) (by decide), i 140 (by decide) (by decide)]; exact xB
  · intro j hj
    have hj' : j < c.H + 1 := hj
    show gl M' 137 (8 * b + j) = p8 (va_up c.hw c.H w j) ∧ gi M' 141 (8 * b + j) = nI (va_up c.hf c.H f j) ∧ gi M' 142 (8 * b + j) = nI (va_up c.he c.H c.B j) - 1
    rw [e1, l 137 (by decide) (by decide), i 141 (by decide) (by decide)]
    by_cases q : j = c.H
    · subst q
      rw [vu_eq, vu_eq, vu_eq, vu_eq]
      exact ⟨g1, g2, rfl⟩
    · rw [vu_ne (show 8 * b + j ≠ 8 * b + c.H by omega), vu_ne q, vu_ne q, vu_ne q]
      exact xH j (by omega)
  · rw [l 138 (by decide) (by decide), i 143 (by decide) (by decide), i 144 (by decide) (by decide)]; exact xP
  · rw [l 139 (by decide) (by decide), i 145 (by decide) (by decide), i 146 (by decide) (by decide), i 147 (by decide) (by decide), i 148 (by decide) (by decide)]; exact xN
/-- not at a name -/
theorem rSt.nn {σ : Sg} (s : rSt M ru T L σ) (z : gi M 120 4 = 0) (zg : isG (anF σ) = false) : ¬ gi M 120 8 = 2 := by
  obtain ⟨x, hO, hs⟩ := id s
  cases σ with
  | inl f =>
    rcases hs with ⟨e4, -⟩ | ⟨f1, e4, e5, e8, e6⟩
    · exact absurd z (rSt.n4 hO e4)
    · rw [e8]; decide
  | inr t =>
    obtain ⟨e4, e5, ⟨e6, e7, e8, -⟩, tp⟩ := id hs
    have h3 := hO.1.2.2.1
    intro y
    rw [e8] at y
    have y2 := (nI_eqL (by omega) (by decide)).mp y
    rw [show anF (.inr t) = .inr t from if_pos y2] at zg
    cases zg
theorem rSt.ny {σ : Sg} (s : rSt M ru T L σ) (zg : isG (anF σ) = true) : gi M 120 4 = 0 ∧ gi M 120 8 = 2 ∧ gl M 120 10 = p8 (nmV σ) ∧ isWd (nmV σ) := by
  obtain ⟨-, t, rfl, z2⟩ := anF_G zg
  obtain ⟨x, hO, hs⟩ := s
  obtain ⟨e4, e5, ⟨e6, e7, e8, e10, -⟩, tp⟩ := hs
  refine ⟨e4, ?_, e10 (Or.inl z2), hO.1.2.2.2.1 (Or.inl z2)⟩
  rw [e8, z2]
  rfl
/-- the end of a heap -/
theorem l_rh200 {H : Nat} (hS : SH M) (hb : b ≤ 1) (hH : H < 8) (e39 : gi M 120 39 = nI b) (k : ∀ M', sm [124, 142] M M' → bfr M M' b → gi M' 142 = va_up (gi M 142) (8 * b + H) (gi M 123 b - 1) → gi M' 124 = va_up (gi M 124) b (gi M 124 b + 1) → Q (none, M')) : pw d 193 (200, [some (.ref 120), some (.int (nI (8 * b + H)))], [], M) Q := by
  refine pw_blk (mi := mz_193) (b := bz_193_200) rfl rfl ?_
  simp only [bz_193_200, pz_cut_t, pz_cut_f, pz_cut_n, pv_gt, pv_ts, pv_tn, ev_ald0, ev_eld0, ev_gf11_2, ev_ild1, ev_gf11_0, ea_iald, ev_ic1, ev_isub, ea_iast, ev_dup2, ev_iadd, ev_ret, pz_wi_gc, pz_wi_ga, pz_wi_gn, pz_wi_gl, pz_wi_gr, pz_wi_same, pz_wi_X, pz_wl_gc, pz_wl_ga, pz_wl_gn, pz_wl_gi, pz_wl_gr, pz_wl_same, pz_wl_X, pz_wr_gc, pz_wr_ga, pz_wr_gn, pz_wr_gi, pz_wr_gl, pz_wr_same, pz_wr_X, so_120 hS, sr_120_31 hS, sa_142 hS, sn_142 hS, sr_120_12 hS, sa_123 hS, sn_123 hS, sr_120_13 hS, sa_124 hS, sn_124 hS, e39, sa_137 hS, sn_137 hS, sa_141 hS, sn_141 hS, sa_136 hS, sn_136 hS, sa_140 hS, sn_140 hS]
  (try simp (disch := omega) only [nI_clamp, pz_in_nI2, pz_in_nI2L, pv_gt, nI_add, nI_addL, nI_Ladd, pk_mul, nI_mulL, nI_Lmul, pk_sub, nI_subL, nI_Lsub, nI_inc, nI_clampL, Nat.add_sub_cancel, pz_wi_else, pz_wl_else, vu_eq, vu_ne, pz_wi_gc, pz_wi_ga, pz_wi_gn, pz_wi_gl, pz_wi_gr, pz_wi_same, pz_wi_X, pz_wl_gc, pz_wl_ga, pz_wl_gn, pz_wl_gi, pz_wl_gr, pz_wl_same, pz_wl_X, pz_wr_gc, pz_wr_ga, pz_wr_gn, pz_wr_gi, pz_wr_gl, pz_wr_same, pz_wr_X, e39])
  (try refine po_gI (by first | exact pz_in_nI (by omega) (by decide) | decide | assumption) ?_)
  (try refine po_gI (by first | exact pz_in_nI (by omega) (by decide) | decide | assumption) ?_)
  (try refine po_gI (by first | exact pz_in_nI (by omega) (by decide) | decide | assumption) ?_)
  (try refine po_gI (by first | exact pz_in_nI (by omega) (by decide) | decide | assumption) ?_)
  refine po_then (fun M1 hM1 => ?_)
  have w1 : (8 * b + H) / 8 = b := by omega
  have w2 : b / 1 = b := by omega
  have f1 : bfr M (pz_wi M 142 (va_up (gi M 142) (8 * b + H) (gi M 123 b - 1))) b := bfr.rf.wi (w := 8) (by decide) w1
  have f2 := f1.wi (k := 124) (w := 1) (i := b) (v := gi M 124 b + 1) (by decide) w2
  rw [pz_wi_else (by decide)] at f2
  refine k M1 ?_ ?_ ?_ ?_
  · rw [hM1]
    exact sm.wi (sm.wi sm.rf (by decide)) (by decide)
  · rw [hM1]
    exact f2
  · rw [hM1, pz_wi_else (by decide), pz_wi_same]
  · rw [hM1, pz_wi_same]
theorem r_readHeap (hd : 14 ≤ d) {τ : Sg} {c0 : Sc} (hb : b ≤ 1) (e39 : gi M 120 39 = nI b) (s : rSt M ru T L τ) (o : okS c0) (hH : c0.H < 8) (x : rsc M b c0) (k : ∀ M', bfr M M' b → rSt M' ru T L (rhS ru T L τ c0).1 → (isG (rhS ru T L τ c0).1 = true → rsc M' b (rhS ru T L τ c0).2) → Q (none, M')) : pm d 193 [.ref 120] M Q := by
  have hS := s.1.1
  obtain ⟨⟨x0, x3, x6, x10, x18⟩, xL, xD, xB, xH, xP, xN⟩ := id x
  have oB := o.1.1
  have hm : ∀ i, i < c0.H → gl M 137 (8 * b + i) = p8 (c0.hw i) ∧ isWd (c0.hw i) := fun i hi => ⟨(xH i hi).1, (o.2.2.1 i hi).1⟩
  unfold rhS at k
  -- what a fault leaves
  have flt : ∀ M' σ', bfr M M' b → rSt M' ru T L σ' → isG σ' = false → ¬ gi M' 120 4 = 0 → (∀ M'', bfr M M'' b → rSt M'' ru T L σ' → Q (none, M'')) → pw d 193 (82, [some (.ref 120), some (.int (nI (8 * b + c0.H)))], [], M') Q := by
    intro M' σ' f' s' zg n4 kk
    have hS' := s'.1.1
    have g39 : gi M' 120 39 = nI b := by rw [f'.2.1 39 (by decide) (by decide) (by decide) (by decide) (by decide) (by decide)]; exact e39
    refine pw_blk (mi := mz_193) (b := bz_193_82) rfl rfl ?_
    simp only [bz_193_82, pz_cut_t, pz_cut_f, pz_cut_n, pv_gt, pv_ts, pv_tn, ev_ald0, ev_eld0, ev_cv0_11, pz_wi_gc, pz_wi_ga, pz_wi_gn, pz_wi_gl, pz_wi_gr, pz_wi_same, pz_wi_X, pz_wl_gc, pz_wl_ga, pz_wl_gn, pz_wl_gi, pz_wl_gr, pz_wl_same, pz_wl_X, pz_wr_gc, pz_wr_ga, pz_wr_gn, pz_wr_gi, pz_wr_gl, pz_wr_same, pz_wr_X, so_120 hS']
    (try simp (disch := omega) only [nI_clamp, pz_in_nI2, pz_in_nI2L, pv_gt, nI_add, nI_addL, nI_Ladd, pk_mul, nI_mulL, nI_Lmul, pk_sub, nI_subL, nI_Lsub, nI_inc, nI_clampL, Nat.add_sub_cancel, pz_wi_else, pz_wl_else, vu_eq, vu_ne, pz_wi_gc, pz_wi_ga, pz_wi_gn, pz_wi_gl, pz_wi_gr, pz_wi_same, pz_wi_X, pz_wl_gc, pz_wl_ga, pz_wl_gn, pz_wl_gi, pz_wl_gr, pz_wl_same, pz_wl_X, pz_wr_gc, pz_wr_ga, pz_wr_gn, pz_wr_gi, pz_wr_gl, pz_wr_same, pz_wr_X])
    (try refine po_gP (Nat.le_of_ble_eq_true rfl) ?_)
    refine po_call (by omega) (r_isGd hS' (fun y => absurd y n4) (fun _ => ?_))
    refine pw_blk (mi := mz_193) (b := bz_193_86) rfl rfl ?_
    simp only [bz_193_86, pz_cut_t, pz_cut_f, pz_cut_n, pv_gt, pv_ts, pv_tn, ev_ifeq, pz_wi_gc, pz_wi_ga, pz_wi_gn, pz_wi_gl, pz_wi_gr, pz_wi_same, pz_wi_X, pz_wl_gc, pz_wl_ga, pz_wl_gn, pz_wl_gi, pz_wl_gr, pz_wl_same, pz_wl_X, pz_wr_gc, pz_wr_ga, pz_wr_gn, pz_wr_gi, pz_wr_gl, pz_wr_same, pz_wr_X]
    (try simp (disch := omega) only [nI_clamp, pz_in_nI2, pz_in_nI2L, pv_gt, nI_add, nI_addL, nI_Ladd, pk_mul, nI_mulL, nI_Lmul, pk_sub, nI_subL, nI_Lsub, nI_inc, nI_clampL, Nat.add_sub_cancel, pz_wi_else, pz_wl_else, vu_eq, vu_ne, pz_wi_gc, pz_wi_ga, pz_wi_gn, pz_wi_gl, pz_wi_gr, pz_wi_same, pz_wi_X, pz_wl_gc, pz_wl_ga, pz_wl_gn, pz_wl_gi, pz_wl_gr, pz_wl_same, pz_wl_X, pz_wr_gc, pz_wr_ga, pz_wr_gn, pz_wr_gi, pz_wr_gl, pz_wr_same, pz_wr_X])
    refine po_brP (fun q86 => ?_) (fun q86 => ?_)
    · skip
      (try simp (disch := omega) only [nI_ltI, nI_leI, nI_eq, nI_ltL, nI_leL, nI_eqL, nI_Llt, nI_Lle, nI_Leq, nI_eqm, nI_meq, nI_ltm, nI_lem, nI_mlt, nI_mle, lg0, lgl, lgg, lgle, lgge, Int32.not_lt, Int32.not_le, Int64.not_lt, Int64.not_le, not_false_eq_true, not_true_eq_false, Decidable.not_not, ge_iff_le, gt_iff_lt] at q86)
      exact l_rh200 hS' hb hH g39 (fun M'' w1 w2 _ _ => kk M'' (f'.tr w2) (s'.sm w1 (by decide) (by decide)))
    · first
      | exact absurd q86 (by decide)
      | exact absurd trivial q86
      | exact q86.elim
      | (exfalso; (try simp (disch := omega) only [nI_ltI, nI_leI, nI_eq, nI_ltL, nI_leL, nI_eqL, nI_Llt, nI_Lle, nI_Leq, nI_eqm, nI_meq, nI_ltm, nI_lem, nI_mlt, nI_mle, lg0, lgl, lgg, lgle, lgge, Int32.not_lt, Int32.not_le, Int64.not_lt, Int64.not_le, not_false_eq_true, not_true_eq_false, Decidable.not_not, ge_iff_le, gt_iff_lt] at q86) <;> omega)
      | exact absurd q86 (by with_reducible assumption)
      | exact absurd (by with_reducible assumption) q86
      | exact absurd (Decidable.not_not.mp q86) (by with_reducible assumption)
      | exact absurd (by with_reducible assumption) (Int32.not_le.mpr q86)
      | exact absurd (by with_reducible assumption) (Int32.not_lt.mpr q86)
  have loop : ∀ f M' σ' c w, 25 ≤ f + c.B → bfr M M' b → rSt M' ru T L σ' → gi M' 120 4 = 0 → lkR c0 c → rsc M' b c → gl M' 137 (8 * b + c0.H) = p8 w → gi M' 141 (8 * b + c0.H) = nI c0.B → (∀ M'', bfr M M'' b → rSt M'' ru T L (rkS ru T L f σ' c).1 → (isG (rkS ru T L f σ' c).1 = true → rsc M'' b ((rkS ru T L f σ' c).2.heap w c0.B)) → Q (none, M'')) → pw d 193 (82, [some (.ref 120), some (.int (nI (8 * b + c0.H)))], [], M') Q := by
    intro f
    induction f with
    | zero =>
      intro M' σ' c w hf f' s' g4 lr xc g1 g2 kk
      exact absurd lr.2.2.1 (by omega)
    | succ f ih =>
      intro M' σ' c w hf f' s' g4 lr xc g1 g2 kk
      have hS' := s'.1.1
      have g39 : gi M' 120 39 = nI b := by rw [f'.2.1 39 (by decide) (by decide) (by decide) (by decide) (by decide) (by decide)]; exact e39
      have y0 := xc.1.1
      have y3 := xc.1.2.1
      have eH := lr.1.1
      have lB := lr.2.2.1
      have lB2 := lr.2.1
      cases zg : isG (anF σ') with
      | false =>
        rw [rkS, if_neg (by rw [zg]; decide)] at kk
        have n8 := s'.nn g4 zg
        refine pw_blk (mi := mz_193) (b := bz_193_82) rfl rfl ?_
        simp only [bz_193_82, pz_cut_t, pz_cut_f, pz_cut_n, pv_gt, pv_ts, pv_tn, ev_ald0, ev_eld0, ev_cv0_11, pz_wi_gc, pz_wi_ga, pz_wi_gn, pz_wi_gl, pz_wi_gr, pz_wi_same, pz_wi_X, pz_wl_gc, pz_wl_ga, pz_wl_gn, pz_wl_gi, pz_wl_gr, pz_wl_same, pz_wl_X, pz_wr_gc, pz_wr_ga, pz_wr_gn, pz_wr_gi, pz_wr_gl, pz_wr_same, pz_wr_X, so_120 hS']
        (try simp (disch := omega) only [nI_clamp, pz_in_nI2, pz_in_nI2L, pv_gt, nI_add, nI_addL, nI_Ladd, pk_mul, nI_mulL, nI_Lmul, pk_sub, nI_subL, nI_Lsub, nI_inc, nI_clampL, Nat.add_sub_cancel, pz_wi_else, pz_wl_else, vu_eq, vu_ne, pz_wi_gc, pz_wi_ga, pz_wi_gn, pz_wi_gl, pz_wi_gr, pz_wi_same, pz_wi_X, pz_wl_gc, pz_wl_ga, pz_wl_gn, pz_wl_gi, pz_wl_gr, pz_wl_same, pz_wl_X, pz_wr_gc, pz_wr_ga, pz_wr_gn, pz_wr_gi, pz_wr_gl, pz_wr_same, pz_wr_X])
        (try refine po_gP (Nat.le_of_ble_eq_true rfl) ?_)
        refine po_call (by omega) (r_isGd hS' (fun _ => ?_) (fun y => absurd g4 y))
        refine pw_blk (mi := mz_193) (b := bz_193_86) rfl rfl ?_
        simp only [bz_193_86, pz_cut_t, pz_cut_f, pz_cut_n, pv_gt, pv_ts, pv_tn, ev_ifeq, pz_wi_gc, pz_wi_ga, pz_wi_gn, pz_wi_gl, pz_wi_gr, pz_wi_same, pz_wi_X, pz_wl_gc, pz_wl_ga, pz_wl_gn, pz_wl_gi, pz_wl_gr, pz_wl_same, pz_wl_X, pz_wr_gc, pz_wr_ga, pz_wr_gn, pz_wr_gi, pz_wr_gl, pz_wr_same, pz_wr_X]
        (try simp (disch := omega) only [nI_clamp, pz_in_nI2, pz_in_nI2L, pv_gt, nI_add, nI_addL, nI_Ladd, pk_mul, nI_mulL, nI_Lmul, pk_sub, nI_subL, nI_Lsub, nI_inc, nI_clampL, Nat.add_sub_cancel, pz_wi_else, pz_wl_else, vu_eq, vu_ne, pz_wi_gc, pz_wi_ga, pz_wi_gn, pz_wi_gl, pz_wi_gr, pz_wi_same, pz_wi_X, pz_wl_gc, pz_wl_ga, pz_wl_gn, pz_wl_gi, pz_wl_gr, pz_wl_same, pz_wl_X, pz_wr_gc, pz_wr_ga, pz_wr_gn, pz_wr_gi, pz_wr_gl, pz_wr_same, pz_wr_X])
        refine po_brP (fun q86 => ?_) (fun q86 => ?_)
        · first
          | exact absurd q86 (by decide)
          | exact absurd trivial q86
          | exact q86.elim
          | (exfalso; (try simp (disch := omega) only [nI_ltI, nI_leI, nI_eq, nI_ltL, nI_leL, nI_eqL, nI_Llt, nI_Lle, nI_Leq, nI_eqm, nI_meq, nI_ltm, nI_lem, nI_mlt, nI_mle, lg0, lgl, lgg, lgle, lgge, Int32.not_lt, Int32.not_le, Int64.not_lt, Int64.not_le, not_false_eq_true, not_true_eq_false, Decidable.not_not, ge_iff_le, gt_iff_lt] at q86) <;> omega)
          | exact absurd q86 (by with_reducible assumption)
          | exact absurd (by with_reducible assumption) q86
          | exact absurd (Decidable.not_not.mp q86) (by with_reducible assumption)
          | exact absurd (by with_reducible assumption) (Int32.not_le.mpr q86)
          | exact absurd (by with_reducible assumption) (Int32.not_lt.mpr q86)
        · skip
          (try simp (disch := omega) only [nI_ltI, nI_leI, nI_eq, nI_ltL, nI_leL, nI_eqL, nI_Llt, nI_Lle, nI_Leq, nI_eqm, nI_meq, nI_ltm, nI_lem, nI_mlt, nI_mle, lg0, lgl, lgg, lgle, lgge, Int32.not_lt, Int32.not_le, Int64.not_lt, Int64.not_le, not_false_eq_true, not_true_eq_false, Decidable.not_not, ge_iff_le, gt_iff_lt] at q86)
          refine pw_blk (mi := mz_193) (b := bz_193_89) rfl rfl ?_
          simp only [bz_193_89, pz_cut_t, pz_cut_f, pz_cut_n, pv_gt, pv_ts, pv_tn, ev_ald0, ev_eld0, ev_gf11_0, ev_ic2, ev_ic_ne, pz_wi_gc, pz_wi_ga, pz_wi_gn, pz_wi_gl, pz_wi_gr, pz_wi_same, pz_wi_X, pz_wl_gc, pz_wl_ga, pz_wl_gn, pz_wl_gi, pz_wl_gr, pz_wl_same, pz_wl_X, pz_wr_gc, pz_wr_ga, pz_wr_gn, pz_wr_gi, pz_wr_gl, pz_wr_same, pz_wr_X, so_120 hS']
          (try simp (disch := omega) only [nI_clamp, pz_in_nI2, pz_in_nI2L, pv_gt, nI_add, nI_addL, nI_Ladd, pk_mul, nI_mulL, nI_Lmul, pk_sub, nI_subL, nI_Lsub, nI_inc, nI_clampL, Nat.add_sub_cancel, pz_wi_else, pz_wl_else, vu_eq, vu_ne, pz_wi_gc, pz_wi_ga, pz_wi_gn, pz_wi_gl, pz_wi_gr, pz_wi_same, pz_wi_X, pz_wl_gc, pz_wl_ga, pz_wl_gn, pz_wl_gi, pz_wl_gr, pz_wl_same, pz_wl_X, pz_wr_gc, pz_wr_ga, pz_wr_gn, pz_wr_gi, pz_wr_gl, pz_wr_same, pz_wr_X])
          refine po_brP (fun q89 => ?_) (fun q89 => ?_)
          · skip
            (try simp (disch := omega) only [nI_ltI, nI_leI, nI_eq, nI_ltL, nI_leL, nI_eqL, nI_Llt, nI_Lle, nI_Leq, nI_eqm, nI_meq, nI_ltm, nI_lem, nI_mlt, nI_mle, lg0, lgl, lgg, lgle, lgge, Int32.not_lt, Int32.not_le, Int64.not_lt, Int64.not_le, not_false_eq_true, not_true_eq_false, Decidable.not_not, ge_iff_le, gt_iff_lt] at q89)
            exact l_rh200 hS' hb hH g39 (fun M'' w1 w2 w3 w4 => kk M'' (f'.tr w2) (s'.sm w1 (by decide) (by decide)) (fun _ => xc.heapW (by rw [eH]; exact g1) (by rw [eH]; exact g2) w1 (by rw [w3, y0, eH]) (by rw [w4, y3, nI_addL])))
          · first
            | exact absurd q89 (by decide)
            | exact absurd trivial q89
            | exact q89.elim
            | (exfalso; (try simp (disch := omega) only [nI_ltI, nI_leI, nI_eq, nI_ltL, nI_leL, nI_eqL, nI_Llt, nI_Lle, nI_Leq, nI_eqm, nI_meq, nI_ltm, nI_lem, nI_mlt, nI_mle, lg0, lgl, lgg, lgle, lgge, Int32.not_lt, Int32.not_le, Int64.not_lt, Int64.not_le, not_false_eq_true, not_true_eq_false, Decidable.not_not, ge_iff_le, gt_iff_lt] at q89) <;> omega)
            | exact absurd q89 (by with_reducible assumption)
            | exact absurd (by with_reducible assumption) q89
            | exact absurd (Decidable.not_not.mp q89) (by with_reducible assumption)
            | exact absurd (by with_reducible assumption) (Int32.not_le.mpr q89)
            | exact absurd (by with_reducible assumption) (Int32.not_lt.mpr q89)
      | true =>
        obtain ⟨-, e8, e10, hwd⟩ := s'.ny zg
        obtain ⟨-, t, et, z2⟩ := anF_G zg
        by_cases hB : c.B < 24
        · rw [rkS, if_pos zg, if_pos hB] at kk
          have y0' : ¬ gi M' 123 b = 24 := by rw [y0]; intro z; have := (nI_eqL (by omega) (by decide)).mp z; omega
          have w1 : (24 * b + c.B) / 24 = b := by omega
          have w2 : b / 1 = b := by omega
          have f1 : bfr M (pz_wl M' 136 (va_up (gl M' 136) (24 * b + c.B) (p8 (nmV σ')))) b := f'.wl (w := 24) (by decide) w1
          have f2 := f1.wi (k := 140) (w := 24) (i := 24 * b + c.B) (v := nI c.H) (by decide) w1
          have f3 := f2.wi (k := 123) (w := 1) (i := b) (v := nI (c.B + 1)) (by decide) w2
          simp (disch := decide) only [pz_wi_else, pz_wl_gi] at f3
          have sx : sm [123, 136, 140] M' (pz_wi (pz_wi (pz_wl M' 136 (va_up (gl M' 136) (24 * b + c.B) (p8 (nmV σ')))) 140 (va_up (gi M' 140) (24 * b + c.B) (nI c.H))) 123 (va_up (gi M' 123) b (nI (c.B + 1)))) := sm.wi (sm.wi (sm.wl sm.rf (by decide)) (by decide)) (by decide)
          have s2 := s'.sm sx (by decide) (by decide)
          have x2 := xc.lookW (w := nmV σ') sx (by simp (disch := decide) only [pz_wi_gl, pz_wl_same]) (by simp (disch := decide) only [pz_wi_else, pz_wi_same, pz_wl_gi]) (by simp (disch := decide) only [pz_wi_same])
          have g1' : gl (pz_wi (pz_wi (pz_wl M' 136 (va_up (gl M' 136) (24 * b + c.B) (p8 (nmV σ')))) 140 (va_up (gi M' 140) (24 * b + c.B) (nI c.H))) 123 (va_up (gi M' 123) b (nI (c.B + 1)))) 137 (8 * b + c0.H) = p8 w := by rw [sx.l (by decide)]; exact g1
          have g2' : gi (pz_wi (pz_wi (pz_wl M' 136 (va_up (gl M' 136) (24 * b + c.B) (p8 (nmV σ')))) 140 (va_up (gi M' 140) (24 * b + c.B) (nI c.H))) 123 (va_up (gi M' 123) b (nI (c.B + 1)))) 141 (8 * b + c0.H) = nI c0.B := by rw [sx.i (by decide)]; exact g2
          rw [et] at s2
          refine pw_blk (mi := mz_193) (b := bz_193_82) rfl rfl ?_
          simp only [bz_193_82, pz_cut_t, pz_cut_f, pz_cut_n, pv_gt, pv_ts, pv_tn, ev_ald0, ev_eld0, ev_cv0_11, pz_wi_gc, pz_wi_ga, pz_wi_gn, pz_wi_gl, pz_wi_gr, pz_wi_same, pz_wi_X, pz_wl_gc, pz_wl_ga, pz_wl_gn, pz_wl_gi, pz_wl_gr, pz_wl_same, pz_wl_X, pz_wr_gc, pz_wr_ga, pz_wr_gn, pz_wr_gi, pz_wr_gl, pz_wr_same, pz_wr_X, so_120 hS', g39, y0, y3]
          (try simp (disch := omega) only [nI_clamp, pz_in_nI2, pz_in_nI2L, pv_gt, nI_add, nI_addL, nI_Ladd, pk_mul, nI_mulL, nI_Lmul, pk_sub, nI_subL, nI_Lsub, nI_inc, nI_clampL, Nat.add_sub_cancel, pz_wi_else, pz_wl_else, vu_eq, vu_ne, pz_wi_gc, pz_wi_ga, pz_wi_gn, pz_wi_gl, pz_wi_gr, pz_wi_same, pz_wi_X, pz_wl_gc, pz_wl_ga, pz_wl_gn, pz_wl_gi, pz_wl_gr, pz_wl_same, pz_wl_X, pz_wr_gc, pz_wr_ga, pz_wr_gn, pz_wr_gi, pz_wr_gl, pz_wr_same, pz_wr_X, g39, y0, y3])
          (try refine po_gP (Nat.le_of_ble_eq_true rfl) ?_)
          refine po_call (by omega) (r_isGd hS' (fun _ => ?_) (fun y => absurd g4 y))
          refine pw_blk (mi := mz_193) (b := bz_193_86) rfl rfl ?_
          simp only [bz_193_86, pz_cut_t, pz_cut_f, pz_cut_n, pv_gt, pv_ts, pv_tn, ev_ifeq, pz_wi_gc, pz_wi_ga, pz_wi_gn, pz_wi_gl, pz_wi_gr, pz_wi_same, pz_wi_X, pz_wl_gc, pz_wl_ga, pz_wl_gn, pz_wl_gi, pz_wl_gr, pz_wl_same, pz_wl_X, pz_wr_gc, pz_wr_ga, pz_wr_gn, pz_wr_gi, pz_wr_gl, pz_wr_same, pz_wr_X, g39, y0, y3]
          (try simp (disch := omega) only [nI_clamp, pz_in_nI2, pz_in_nI2L, pv_gt, nI_add, nI_addL, nI_Ladd, pk_mul, nI_mulL, nI_Lmul, pk_sub, nI_subL, nI_Lsub, nI_inc, nI_clampL, Nat.add_sub_cancel, pz_wi_else, pz_wl_else, vu_eq, vu_ne, pz_wi_gc, pz_wi_ga, pz_wi_gn, pz_wi_gl, pz_wi_gr, pz_wi_same, pz_wi_X, pz_wl_gc, pz_wl_ga, pz_wl_gn, pz_wl_gi, pz_wl_gr, pz_wl_same, pz_wl_X, pz_wr_gc, pz_wr_ga, pz_wr_gn, pz_wr_gi, pz_wr_gl, pz_wr_same, pz_wr_X, g39, y0, y3])
          refine po_brP (fun q86 => ?_) (fun q86 => ?_)
          · first
            | exact absurd q86 (by decide)
            | exact absurd trivial q86
            | exact q86.elim
            | (exfalso; (try simp (disch := omega) only [nI_ltI, nI_leI, nI_eq, nI_ltL, nI_leL, nI_eqL, nI_Llt, nI_Lle, nI_Leq, nI_eqm, nI_meq, nI_ltm, nI_lem, nI_mlt, nI_mle, lg0, lgl, lgg, lgle, lgge, Int32.not_lt, Int32.not_le, Int64.not_lt, Int64.not_le, not_false_eq_true, not_true_eq_false, Decidable.not_not, ge_iff_le, gt_iff_lt] at q86) <;> omega)
            | exact absurd q86 (by with_reducible assumption)
            | exact absurd (by with_reducible assumption) q86
            | exact absurd (Decidable.not_not.mp q86) (by with_reducible assumption)
            | exact absurd (by with_reducible assumption) (Int32.not_le.mpr q86)
            | exact absurd (by with_reducible assumption) (Int32.not_lt.mpr q86)
          · skip
            (try simp (disch := omega) only [nI_ltI, nI_leI, nI_eq, nI_ltL, nI_leL, nI_eqL, nI_Llt, nI_Lle, nI_Leq, nI_eqm, nI_meq, nI_ltm, nI_lem, nI_mlt, nI_mle, lg0, lgl, lgg, lgle, lgge, Int32.not_lt, Int32.not_le, Int64.not_lt, Int64.not_le, not_false_eq_true, not_true_eq_false, Decidable.not_not, ge_iff_le, gt_iff_lt] at q86)
            refine pw_blk (mi := mz_193) (b := bz_193_89) rfl rfl ?_
            simp only [bz_193_89, pz_cut_t, pz_cut_f, pz_cut_n, pv_gt, pv_ts, pv_tn, ev_ald0, ev_eld0, ev_gf11_0, ev_ic2, ev_ic_ne, pz_wi_gc, pz_wi_ga, pz_wi_gn, pz_wi_gl, pz_wi_gr, pz_wi_same, pz_wi_X, pz_wl_gc, pz_wl_ga, pz_wl_gn, pz_wl_gi, pz_wl_gr, pz_wl_same, pz_wl_X, pz_wr_gc, pz_wr_ga, pz_wr_gn, pz_wr_gi, pz_wr_gl, pz_wr_same, pz_wr_X, so_120 hS', g39, y0, y3, e8]
            (try simp (disch := omega) only [nI_clamp, pz_in_nI2, pz_in_nI2L, pv_gt, nI_add, nI_addL, nI_Ladd, pk_mul, nI_mulL, nI_Lmul, pk_sub, nI_subL, nI_Lsub, nI_inc, nI_clampL, Nat.add_sub_cancel, pz_wi_else, pz_wl_else, vu_eq, vu_ne, pz_wi_gc, pz_wi_ga, pz_wi_gn, pz_wi_gl, pz_wi_gr, pz_wi_same, pz_wi_X, pz_wl_gc, pz_wl_ga, pz_wl_gn, pz_wl_gi, pz_wl_gr, pz_wl_same, pz_wl_X, pz_wr_gc, pz_wr_ga, pz_wr_gn, pz_wr_gi, pz_wr_gl, pz_wr_same, pz_wr_X, g39, y0, y3, e8])
            refine po_brP (fun q89 => ?_) (fun q89 => ?_)
            · first
              | exact absurd q89 (by decide)
              | exact absurd trivial q89
              | exact q89.elim
              | (exfalso; (try simp (disch := omega) only [nI_ltI, nI_leI, nI_eq, nI_ltL, nI_leL, nI_eqL, nI_Llt, nI_Lle, nI_Leq, nI_eqm, nI_meq, nI_ltm, nI_lem, nI_mlt, nI_mle, lg0, lgl, lgg, lgle, lgge, Int32.not_lt, Int32.not_le, Int64.not_lt, Int64.not_le, not_false_eq_true, not_true_eq_false, Decidable.not_not, ge_iff_le, gt_iff_lt] at q89) <;> omega)
              | exact absurd q89 (by with_reducible assumption)
              | exact absurd (by with_reducible assumption) q89
              | exact absurd (Decidable.not_not.mp q89) (by with_reducible assumption)
              | exact absurd (by with_reducible assumption) (Int32.not_le.mpr q89)
              | exact absurd (by with_reducible assumption) (Int32.not_lt.mpr q89)
            · skip
              (try simp (disch := omega) only [nI_ltI, nI_leI, nI_eq, nI_ltL, nI_leL, nI_eqL, nI_Llt, nI_Lle, nI_Leq, nI_eqm, nI_meq, nI_ltm, nI_lem, nI_mlt, nI_mle, lg0, lgl, lgg, lgle, lgge, Int32.not_lt, Int32.not_le, Int64.not_lt, Int64.not_le, not_false_eq_true, not_true_eq_false, Decidable.not_not, ge_iff_le, gt_iff_lt] at q89)
              refine pw_blk (mi := mz_193) (b := bz_193_97) rfl rfl ?_
              simp only [bz_193_97, pz_cut_t, pz_cut_f, pz_cut_n, pv_gt, pv_ts, pv_tn, ev_ald0, ev_eld0, ev_gf11_2, ev_gf11_0, ea_iald, ev_bp24, ev_ic_ne, pz_wi_gc, pz_wi_ga, pz_wi_gn, pz_wi_gl, pz_wi_gr, pz_wi_same, pz_wi_X, pz_wl_gc, pz_wl_ga, pz_wl_gn, pz_wl_gi, pz_wl_gr, pz_wl_same, pz_wl_X, pz_wr_gc, pz_wr_ga, pz_wr_gn, pz_wr_gi, pz_wr_gl, pz_wr_same, pz_wr_X, so_120 hS', sr_120_12 hS', sa_123 hS', sn_123 hS', g39, y0, y3, sa_124 hS', sn_124 hS', sa_137 hS', sn_137 hS', sa_141 hS', sn_141 hS', sa_136 hS', sn_136 hS', sa_140 hS', sn_140 hS', sa_142 hS', sn_142 hS']
              (try simp (disch := omega) only [nI_clamp, pz_in_nI2, pz_in_nI2L, pv_gt, nI_add, nI_addL, nI_Ladd, pk_mul, nI_mulL, nI_Lmul, pk_sub, nI_subL, nI_Lsub, nI_inc, nI_clampL, Nat.add_sub_cancel, pz_wi_else, pz_wl_else, vu_eq, vu_ne, pz_wi_gc, pz_wi_ga, pz_wi_gn, pz_wi_gl, pz_wi_gr, pz_wi_same, pz_wi_X, pz_wl_gc, pz_wl_ga, pz_wl_gn, pz_wl_gi, pz_wl_gr, pz_wl_same, pz_wl_X, pz_wr_gc, pz_wr_ga, pz_wr_gn, pz_wr_gi, pz_wr_gl, pz_wr_same, pz_wr_X, g39, y0, y3])
              (try refine po_gI (by first | exact pz_in_nI (by omega) (by decide) | decide | assumption) ?_)
              refine po_brP (fun q97 => ?_) (fun q97 => ?_)
              · skip
                (try simp (disch := omega) only [nI_ltI, nI_leI, nI_eq, nI_ltL, nI_leL, nI_eqL, nI_Llt, nI_Lle, nI_Leq, nI_eqm, nI_meq, nI_ltm, nI_lem, nI_mlt, nI_mle, lg0, lgl, lgg, lgle, lgge, Int32.not_lt, Int32.not_le, Int64.not_lt, Int64.not_le, not_false_eq_true, not_true_eq_false, Decidable.not_not, ge_iff_le, gt_iff_lt] at q97)
                refine pw_blk (mi := mz_193) (b := bz_193_115) rfl rfl ?_
                simp only [bz_193_115, pz_cut_t, pz_cut_f, pz_cut_n, pv_gt, pv_ts, pv_tn, ev_ald0, ev_eld0, ev_cv0_11, pz_wi_gc, pz_wi_ga, pz_wi_gn, pz_wi_gl, pz_wi_gr, pz_wi_same, pz_wi_X, pz_wl_gc, pz_wl_ga, pz_wl_gn, pz_wl_gi, pz_wl_gr, pz_wl_same, pz_wl_X, pz_wr_gc, pz_wr_ga, pz_wr_gn, pz_wr_gi, pz_wr_gl, pz_wr_same, pz_wr_X, so_120 hS', g39, y0, y3]
                (try simp (disch := omega) only [nI_clamp, pz_in_nI2, pz_in_nI2L, pv_gt, nI_add, nI_addL, nI_Ladd, pk_mul, nI_mulL, nI_Lmul, pk_sub, nI_subL, nI_Lsub, nI_inc, nI_clampL, Nat.add_sub_cancel, pz_wi_else, pz_wl_else, vu_eq, vu_ne, pz_wi_gc, pz_wi_ga, pz_wi_gn, pz_wi_gl, pz_wi_gr, pz_wi_same, pz_wi_X, pz_wl_gc, pz_wl_ga, pz_wl_gn, pz_wl_gi, pz_wl_gr, pz_wl_same, pz_wl_X, pz_wr_gc, pz_wr_ga, pz_wr_gn, pz_wr_gi, pz_wr_gl, pz_wr_same, pz_wr_X, g39, y0, y3])
                (try refine po_gP (Nat.le_of_ble_eq_true rfl) ?_)
                refine po_call (by omega) (r_isGd hS' (fun _ => ?_) (fun y => absurd g4 y))
                refine pw_blk (mi := mz_193) (b := bz_193_119) rfl rfl ?_
                simp only [bz_193_119, pz_cut_t, pz_cut_f, pz_cut_n, pv_gt, pv_ts, pv_tn, ev_ifne, pz_wi_gc, pz_wi_ga, pz_wi_gn, pz_wi_gl, pz_wi_gr, pz_wi_same, pz_wi_X, pz_wl_gc, pz_wl_ga, pz_wl_gn, pz_wl_gi, pz_wl_gr, pz_wl_same, pz_wl_X, pz_wr_gc, pz_wr_ga, pz_wr_gn, pz_wr_gi, pz_wr_gl, pz_wr_same, pz_wr_X, g39, y0, y3]
                (try simp (disch := omega) only [nI_clamp, pz_in_nI2, pz_in_nI2L, pv_gt, nI_add, nI_addL, nI_Ladd, pk_mul, nI_mulL, nI_Lmul, pk_sub, nI_subL, nI_Lsub, nI_inc, nI_clampL, Nat.add_sub_cancel, pz_wi_else, pz_wl_else, vu_eq, vu_ne, pz_wi_gc, pz_wi_ga, pz_wi_gn, pz_wi_gl, pz_wi_gr, pz_wi_same, pz_wi_X, pz_wl_gc, pz_wl_ga, pz_wl_gn, pz_wl_gi, pz_wl_gr, pz_wl_same, pz_wl_X, pz_wr_gc, pz_wr_ga, pz_wr_gn, pz_wr_gi, pz_wr_gl, pz_wr_same, pz_wr_X, g39, y0, y3])
                refine po_brP (fun q119 => ?_) (fun q119 => ?_)
                · skip
                  (try simp (disch := omega) only [nI_ltI, nI_leI, nI_eq, nI_ltL, nI_leL, nI_eqL, nI_Llt, nI_Lle, nI_Leq, nI_eqm, nI_meq, nI_ltm, nI_lem, nI_mlt, nI_mle, lg0, lgl, lgg, lgle, lgge, Int32.not_lt, Int32.not_le, Int64.not_lt, Int64.not_le, not_false_eq_true, not_true_eq_false, Decidable.not_not, ge_iff_le, gt_iff_lt] at q119)
                  refine pw_blk (mi := mz_193) (b := bz_193_123) rfl rfl ?_
                  simp only [bz_193_123, pz_cut_t, pz_cut_f, pz_cut_n, pv_gt, pv_ts, pv_tn, ev_ald0, ev_eld0, ev_gf11_2, ev_bp24, ev_gf11_0, ev_imul, ea_iald, ev_iadd, ev_gf11_1, ea_last, ea_iast, ev_dup2, ev_ic1, ev_cv0_11, pz_wi_gc, pz_wi_ga, pz_wi_gn, pz_wi_gl, pz_wi_gr, pz_wi_same, pz_wi_X, pz_wl_gc, pz_wl_ga, pz_wl_gn, pz_wl_gi, pz_wl_gr, pz_wl_same, pz_wl_X, pz_wr_gc, pz_wr_ga, pz_wr_gn, pz_wr_gi, pz_wr_gl, pz_wr_same, pz_wr_X, so_120 hS', sr_120_25 hS', sa_136 hS', sn_136 hS', sr_120_12 hS', sa_123 hS', sn_123 hS', sr_120_29 hS', sa_140 hS', sn_140 hS', sr_120_13 hS', sa_124 hS', sn_124 hS', g39, y0, y3, e10, sa_137 hS', sn_137 hS', sa_141 hS', sn_141 hS', sa_142 hS', sn_142 hS']
                  (try simp (disch := omega) only [nI_clamp, pz_in_nI2, pz_in_nI2L, pv_gt, nI_add, nI_addL, nI_Ladd, pk_mul, nI_mulL, nI_Lmul, pk_sub, nI_subL, nI_Lsub, nI_inc, nI_clampL, Nat.add_sub_cancel, pz_wi_else, pz_wl_else, vu_eq, vu_ne, pz_wi_gc, pz_wi_ga, pz_wi_gn, pz_wi_gl, pz_wi_gr, pz_wi_same, pz_wi_X, pz_wl_gc, pz_wl_ga, pz_wl_gn, pz_wl_gi, pz_wl_gr, pz_wl_same, pz_wl_X, pz_wr_gc, pz_wr_ga, pz_wr_gn, pz_wr_gi, pz_wr_gl, pz_wr_same, pz_wr_X, g39, y0, y3, e10])
                  (try refine po_gI (by first | exact pz_in_nI (by omega) (by decide) | decide | assumption) ?_)
                  (try refine po_gI (by first | exact pz_in_nI (by omega) (by decide) | decide | assumption) ?_)
                  (try refine po_gI (by first | exact pz_in_nI (by omega) (by decide) | decide | assumption) ?_)
                  (try refine po_gI (by first | exact pz_in_nI (by omega) (by decide) | decide | assumption) ?_)
                  (try refine po_gI (by first | exact pz_in_nI (by omega) (by decide) | decide | assumption) ?_)
                  (try refine po_gI (by first | exact pz_in_nI (by omega) (by decide) | decide | assumption) ?_)
                  (try refine po_gI (by first | exact pz_in_nI (by omega) (by decide) | decide | assumption) ?_)
                  (try refine po_gP (Nat.le_of_ble_eq_true rfl) ?_)
                  refine po_call (by omega) (r_go (by omega) s2 (fun M2 r2 s3 g4' _ => ?_))
                  refine pw_blk (mi := mz_193) (b := bz_193_197) rfl rfl ?_
                  simp only [bz_193_197, pz_cut_t, pz_cut_f, pz_cut_n, pv_gt, pv_ts, pv_tn, ev_goto, pz_wi_gc, pz_wi_ga, pz_wi_gn, pz_wi_gl, pz_wi_gr, pz_wi_same, pz_wi_X, pz_wl_gc, pz_wl_ga, pz_wl_gn, pz_wl_gi, pz_wl_gr, pz_wl_same, pz_wl_X, pz_wr_gc, pz_wr_ga, pz_wr_gn, pz_wr_gi, pz_wr_gl, pz_wr_same, pz_wr_X, g39, y0, y3]
                  (try simp (disch := omega) only [nI_clamp, pz_in_nI2, pz_in_nI2L, pv_gt, nI_add, nI_addL, nI_Ladd, pk_mul, nI_mulL, nI_Lmul, pk_sub, nI_subL, nI_Lsub, nI_inc, nI_clampL, Nat.add_sub_cancel, pz_wi_else, pz_wl_else, vu_eq, vu_ne, pz_wi_gc, pz_wi_ga, pz_wi_gn, pz_wi_gl, pz_wi_gr, pz_wi_same, pz_wi_X, pz_wl_gc, pz_wl_ga, pz_wl_gn, pz_wl_gi, pz_wl_gr, pz_wl_same, pz_wl_X, pz_wr_gc, pz_wr_ga, pz_wr_gn, pz_wr_gi, pz_wr_gl, pz_wr_same, pz_wr_X, g39, y0, y3])
                  refine po_go ?_
                  exact ih M2 (nxF ru T L σ') (c.look (nmV σ')) w (by show 25 ≤ f + (c.B + 1); omega) (f3.tr (bfr.of r2)) (by rw [et]; exact s3) g4' (lr.lk hB hwd) (x2.r r2) (by rw [r2.1.l (by decide)]; exact g1') (by rw [r2.1.i (by decide)]; exact g2') kk
                · first
                  | exact absurd q119 (by decide)
                  | exact absurd trivial q119
                  | exact q119.elim
                  | (exfalso; (try simp (disch := omega) only [nI_ltI, nI_leI, nI_eq, nI_ltL, nI_leL, nI_eqL, nI_Llt, nI_Lle, nI_Leq, nI_eqm, nI_meq, nI_ltm, nI_lem, nI_mlt, nI_mle, lg0, lgl, lgg, lgle, lgge, Int32.not_lt, Int32.not_le, Int64.not_lt, Int64.not_le, not_false_eq_true, not_true_eq_false, Decidable.not_not, ge_iff_le, gt_iff_lt] at q119) <;> omega)
                  | exact absurd q119 (by with_reducible assumption)
                  | exact absurd (by with_reducible assumption) q119
                  | exact absurd (Decidable.not_not.mp q119) (by with_reducible assumption)
                  | exact absurd (by with_reducible assumption) (Int32.not_le.mpr q119)
                  | exact absurd (by with_reducible assumption) (Int32.not_lt.mpr q119)
              · first
                | exact absurd q97 (by decide)
                | exact absurd trivial q97
                | exact q97.elim
                | (exfalso; (try simp (disch := omega) only [nI_ltI, nI_leI, nI_eq, nI_ltL, nI_leL, nI_eqL, nI_Llt, nI_Lle, nI_Leq, nI_eqm, nI_meq, nI_ltm, nI_lem, nI_mlt, nI_mle, lg0, lgl, lgg, lgle, lgge, Int32.not_lt, Int32.not_le, Int64.not_lt, Int64.not_le, not_false_eq_true, not_true_eq_false, Decidable.not_not, ge_iff_le, gt_iff_lt] at q97) <;> omega)
                | exact absurd q97 (by with_reducible assumption)
                | exact absurd (by with_reducible assumption) q97
                | exact absurd (Decidable.not_not.mp q97) (by with_reducible assumption)
                | exact absurd (by with_reducible assumption) (Int32.not_le.mpr q97)
                | exact absurd (by with_reducible assumption) (Int32.not_lt.mpr q97)
        · rw [rkS, if_pos zg, if_neg hB] at kk
          have y0' : gi M' 123 b = 24 := by rw [y0, show c.B = 24 by omega]; rfl
          refine pw_blk (mi := mz_193) (b := bz_193_82) rfl rfl ?_
          simp only [bz_193_82, pz_cut_t, pz_cut_f, pz_cut_n, pv_gt, pv_ts, pv_tn, ev_ald0, ev_eld0, ev_cv0_11, pz_wi_gc, pz_wi_ga, pz_wi_gn, pz_wi_gl, pz_wi_gr, pz_wi_same, pz_wi_X, pz_wl_gc, pz_wl_ga, pz_wl_gn, pz_wl_gi, pz_wl_gr, pz_wl_same, pz_wl_X, pz_wr_gc, pz_wr_ga, pz_wr_gn, pz_wr_gi, pz_wr_gl, pz_wr_same, pz_wr_X, so_120 hS', g39, y0']
          (try simp (disch := omega) only [nI_clamp, pz_in_nI2, pz_in_nI2L, pv_gt, nI_add, nI_addL, nI_Ladd, pk_mul, nI_mulL, nI_Lmul, pk_sub, nI_subL, nI_Lsub, nI_inc, nI_clampL, Nat.add_sub_cancel, pz_wi_else, pz_wl_else, vu_eq, vu_ne, pz_wi_gc, pz_wi_ga, pz_wi_gn, pz_wi_gl, pz_wi_gr, pz_wi_same, pz_wi_X, pz_wl_gc, pz_wl_ga, pz_wl_gn, pz_wl_gi, pz_wl_gr, pz_wl_same, pz_wl_X, pz_wr_gc, pz_wr_ga, pz_wr_gn, pz_wr_gi, pz_wr_gl, pz_wr_same, pz_wr_X, g39, y0'])
          (try refine po_gP (Nat.le_of_ble_eq_true rfl) ?_)
          refine po_call (by omega) (r_isGd hS' (fun _ => ?_) (fun y => absurd g4 y))
          refine pw_blk (mi := mz_193) (b := bz_193_86) rfl rfl ?_
          simp only [bz_193_86, pz_cut_t, pz_cut_f, pz_cut_n, pv_gt, pv_ts, pv_tn, ev_ifeq, pz_wi_gc, pz_wi_ga, pz_wi_gn, pz_wi_gl, pz_wi_gr, pz_wi_same, pz_wi_X, pz_wl_gc, pz_wl_ga, pz_wl_gn, pz_wl_gi, pz_wl_gr, pz_wl_same, pz_wl_X, pz_wr_gc, pz_wr_ga, pz_wr_gn, pz_wr_gi, pz_wr_gl, pz_wr_same, pz_wr_X, g39, y0']
          (try simp (disch := omega) only [nI_clamp, pz_in_nI2, pz_in_nI2L, pv_gt, nI_add, nI_addL, nI_Ladd, pk_mul, nI_mulL, nI_Lmul, pk_sub, nI_subL, nI_Lsub, nI_inc, nI_clampL, Nat.add_sub_cancel, pz_wi_else, pz_wl_else, vu_eq, vu_ne, pz_wi_gc, pz_wi_ga, pz_wi_gn, pz_wi_gl, pz_wi_gr, pz_wi_same, pz_wi_X, pz_wl_gc, pz_wl_ga, pz_wl_gn, pz_wl_gi, pz_wl_gr, pz_wl_same, pz_wl_X, pz_wr_gc, pz_wr_ga, pz_wr_gn, pz_wr_gi, pz_wr_gl, pz_wr_same, pz_wr_X, g39, y0'])
          refine po_brP (fun q86 => ?_) (fun q86 => ?_)
          · first
            | exact absurd q86 (by decide)
            | exact absurd trivial q86
            | exact q86.elim
            | (exfalso; (try simp (disch := omega) only [nI_ltI, nI_leI, nI_eq, nI_ltL, nI_leL, nI_eqL, nI_Llt, nI_Lle, nI_Leq, nI_eqm, nI_meq, nI_ltm, nI_lem, nI_mlt, nI_mle, lg0, lgl, lgg, lgle, lgge, Int32.not_lt, Int32.not_le, Int64.not_lt, Int64.not_le, not_false_eq_true, not_true_eq_false, Decidable.not_not, ge_iff_le, gt_iff_lt] at q86) <;> omega)
            | exact absurd q86 (by with_reducible assumption)
            | exact absurd (by with_reducible assumption) q86
            | exact absurd (Decidable.not_not.mp q86) (by with_reducible assumption)
            | exact absurd (by with_reducible assumption) (Int32.not_le.mpr q86)
            | exact absurd (by with_reducible assumption) (Int32.not_lt.mpr q86)
          · skip
            (try simp (disch := omega) only [nI_ltI, nI_leI, nI_eq, nI_ltL, nI_leL, nI_eqL, nI_Llt, nI_Lle, nI_Leq, nI_eqm, nI_meq, nI_ltm, nI_lem, nI_mlt, nI_mle, lg0, lgl, lgg, lgle, lgge, Int32.not_lt, Int32.not_le, Int64.not_lt, Int64.not_le, not_false_eq_true, not_true_eq_false, Decidable.not_not, ge_iff_le, gt_iff_lt] at q86)
            refine pw_blk (mi := mz_193) (b := bz_193_89) rfl rfl ?_
            simp only [bz_193_89, pz_cut_t, pz_cut_f, pz_cut_n, pv_gt, pv_ts, pv_tn, ev_ald0, ev_eld0, ev_gf11_0, ev_ic2, ev_ic_ne, pz_wi_gc, pz_wi_ga, pz_wi_gn, pz_wi_gl, pz_wi_gr, pz_wi_same, pz_wi_X, pz_wl_gc, pz_wl_ga, pz_wl_gn, pz_wl_gi, pz_wl_gr, pz_wl_same, pz_wl_X, pz_wr_gc, pz_wr_ga, pz_wr_gn, pz_wr_gi, pz_wr_gl, pz_wr_same, pz_wr_X, so_120 hS', g39, y0', e8]
            (try simp (disch := omega) only [nI_clamp, pz_in_nI2, pz_in_nI2L, pv_gt, nI_add, nI_addL, nI_Ladd, pk_mul, nI_mulL, nI_Lmul, pk_sub, nI_subL, nI_Lsub, nI_inc, nI_clampL, Nat.add_sub_cancel, pz_wi_else, pz_wl_else, vu_eq, vu_ne, pz_wi_gc, pz_wi_ga, pz_wi_gn, pz_wi_gl, pz_wi_gr, pz_wi_same, pz_wi_X, pz_wl_gc, pz_wl_ga, pz_wl_gn, pz_wl_gi, pz_wl_gr, pz_wl_same, pz_wl_X, pz_wr_gc, pz_wr_ga, pz_wr_gn, pz_wr_gi, pz_wr_gl, pz_wr_same, pz_wr_X, g39, y0', e8])
            refine po_brP (fun q89 => ?_) (fun q89 => ?_)
            · first
              | exact absurd q89 (by decide)
              | exact absurd trivial q89
              | exact q89.elim
              | (exfalso; (try simp (disch := omega) only [nI_ltI, nI_leI, nI_eq, nI_ltL, nI_leL, nI_eqL, nI_Llt, nI_Lle, nI_Leq, nI_eqm, nI_meq, nI_ltm, nI_lem, nI_mlt, nI_mle, lg0, lgl, lgg, lgle, lgge, Int32.not_lt, Int32.not_le, Int64.not_lt, Int64.not_le, not_false_eq_true, not_true_eq_false, Decidable.not_not, ge_iff_le, gt_iff_lt] at q89) <;> omega)
              | exact absurd q89 (by with_reducible assumption)
              | exact absurd (by with_reducible assumption) q89
              | exact absurd (Decidable.not_not.mp q89) (by with_reducible assumption)
              | exact absurd (by with_reducible assumption) (Int32.not_le.mpr q89)
              | exact absurd (by with_reducible assumption) (Int32.not_lt.mpr q89)
            · skip
              (try simp (disch := omega) only [nI_ltI, nI_leI, nI_eq, nI_ltL, nI_leL, nI_eqL, nI_Llt, nI_Lle, nI_Leq, nI_eqm, nI_meq, nI_ltm, nI_lem, nI_mlt, nI_mle, lg0, lgl, lgg, lgle, lgge, Int32.not_lt, Int32.not_le, Int64.not_lt, Int64.not_le, not_false_eq_true, not_true_eq_false, Decidable.not_not, ge_iff_le, gt_iff_lt] at q89)
              refine pw_blk (mi := mz_193) (b := bz_193_97) rfl rfl ?_
              simp only [bz_193_97, pz_cut_t, pz_cut_f, pz_cut_n, pv_gt, pv_ts, pv_tn, ev_ald0, ev_eld0, ev_gf11_2, ev_gf11_0, ea_iald, ev_bp24, ev_ic_ne, pz_wi_gc, pz_wi_ga, pz_wi_gn, pz_wi_gl, pz_wi_gr, pz_wi_same, pz_wi_X, pz_wl_gc, pz_wl_ga, pz_wl_gn, pz_wl_gi, pz_wl_gr, pz_wl_same, pz_wl_X, pz_wr_gc, pz_wr_ga, pz_wr_gn, pz_wr_gi, pz_wr_gl, pz_wr_same, pz_wr_X, so_120 hS', sr_120_12 hS', sa_123 hS', sn_123 hS', g39, y0', sa_124 hS', sn_124 hS', sa_137 hS', sn_137 hS', sa_141 hS', sn_141 hS', sa_136 hS', sn_136 hS', sa_140 hS', sn_140 hS', sa_142 hS', sn_142 hS']
              (try simp (disch := omega) only [nI_clamp, pz_in_nI2, pz_in_nI2L, pv_gt, nI_add, nI_addL, nI_Ladd, pk_mul, nI_mulL, nI_Lmul, pk_sub, nI_subL, nI_Lsub, nI_inc, nI_clampL, Nat.add_sub_cancel, pz_wi_else, pz_wl_else, vu_eq, vu_ne, pz_wi_gc, pz_wi_ga, pz_wi_gn, pz_wi_gl, pz_wi_gr, pz_wi_same, pz_wi_X, pz_wl_gc, pz_wl_ga, pz_wl_gn, pz_wl_gi, pz_wl_gr, pz_wl_same, pz_wl_X, pz_wr_gc, pz_wr_ga, pz_wr_gn, pz_wr_gi, pz_wr_gl, pz_wr_same, pz_wr_X, g39, y0'])
              (try refine po_gI (by first | exact pz_in_nI (by omega) (by decide) | decide | assumption) ?_)
              refine po_brP (fun q97 => ?_) (fun q97 => ?_)
              · first
                | exact absurd q97 (by decide)
                | exact absurd trivial q97
                | exact q97.elim
                | (exfalso; (try simp (disch := omega) only [nI_ltI, nI_leI, nI_eq, nI_ltL, nI_leL, nI_eqL, nI_Llt, nI_Lle, nI_Leq, nI_eqm, nI_meq, nI_ltm, nI_lem, nI_mlt, nI_mle, lg0, lgl, lgg, lgle, lgge, Int32.not_lt, Int32.not_le, Int64.not_lt, Int64.not_le, not_false_eq_true, not_true_eq_false, Decidable.not_not, ge_iff_le, gt_iff_lt] at q97) <;> omega)
                | exact absurd q97 (by with_reducible assumption)
                | exact absurd (by with_reducible assumption) q97
                | exact absurd (Decidable.not_not.mp q97) (by with_reducible assumption)
                | exact absurd (by with_reducible assumption) (Int32.not_le.mpr q97)
                | exact absurd (by with_reducible assumption) (Int32.not_lt.mpr q97)
              · skip
                (try simp (disch := omega) only [nI_ltI, nI_leI, nI_eq, nI_ltL, nI_leL, nI_eqL, nI_Llt, nI_Lle, nI_Leq, nI_eqm, nI_meq, nI_ltm, nI_lem, nI_mlt, nI_mle, lg0, lgl, lgg, lgle, lgge, Int32.not_lt, Int32.not_le, Int64.not_lt, Int64.not_le, not_false_eq_true, not_true_eq_false, Decidable.not_not, ge_iff_le, gt_iff_lt] at q97)
                refine pw_blk (mi := mz_193) (b := bz_193_111) rfl rfl ?_
                simp only [bz_193_111, pz_cut_t, pz_cut_f, pz_cut_n, pv_gt, pv_ts, pv_tn, ev_ald0, ev_eld0, ev_cv0_11, pz_wi_gc, pz_wi_ga, pz_wi_gn, pz_wi_gl, pz_wi_gr, pz_wi_same, pz_wi_X, pz_wl_gc, pz_wl_ga, pz_wl_gn, pz_wl_gi, pz_wl_gr, pz_wl_same, pz_wl_X, pz_wr_gc, pz_wr_ga, pz_wr_gn, pz_wr_gi, pz_wr_gl, pz_wr_same, pz_wr_X, so_120 hS', g39, y0']
                (try simp (disch := omega) only [nI_clamp, pz_in_nI2, pz_in_nI2L, pv_gt, nI_add, nI_addL, nI_Ladd, pk_mul, nI_mulL, nI_Lmul, pk_sub, nI_subL, nI_Lsub, nI_inc, nI_clampL, Nat.add_sub_cancel, pz_wi_else, pz_wl_else, vu_eq, vu_ne, pz_wi_gc, pz_wi_ga, pz_wi_gn, pz_wi_gl, pz_wi_gr, pz_wi_same, pz_wi_X, pz_wl_gc, pz_wl_ga, pz_wl_gn, pz_wl_gi, pz_wl_gr, pz_wl_same, pz_wl_X, pz_wr_gc, pz_wr_ga, pz_wr_gn, pz_wr_gi, pz_wr_gl, pz_wr_same, pz_wr_X, g39, y0'])
                (try refine po_gP (Nat.le_of_ble_eq_true rfl) ?_)
                refine po_call (by omega) (r_misplaced (by omega) s' (fun M2 r2 s2 n4 => ?_))
                have hS2 := s2.1.1
                refine pw_blk (mi := mz_193) (b := bz_193_115) rfl rfl ?_
                simp only [bz_193_115, pz_cut_t, pz_cut_f, pz_cut_n, pv_gt, pv_ts, pv_tn, ev_ald0, ev_eld0, ev_cv0_11, pz_wi_gc, pz_wi_ga, pz_wi_gn, pz_wi_gl, pz_wi_gr, pz_wi_same, pz_wi_X, pz_wl_gc, pz_wl_ga, pz_wl_gn, pz_wl_gi, pz_wl_gr, pz_wl_same, pz_wl_X, pz_wr_gc, pz_wr_ga, pz_wr_gn, pz_wr_gi, pz_wr_gl, pz_wr_same, pz_wr_X, so_120 hS', g39, y0', so_120 hS2]
                (try simp (disch := omega) only [nI_clamp, pz_in_nI2, pz_in_nI2L, pv_gt, nI_add, nI_addL, nI_Ladd, pk_mul, nI_mulL, nI_Lmul, pk_sub, nI_subL, nI_Lsub, nI_inc, nI_clampL, Nat.add_sub_cancel, pz_wi_else, pz_wl_else, vu_eq, vu_ne, pz_wi_gc, pz_wi_ga, pz_wi_gn, pz_wi_gl, pz_wi_gr, pz_wi_same, pz_wi_X, pz_wl_gc, pz_wl_ga, pz_wl_gn, pz_wl_gi, pz_wl_gr, pz_wl_same, pz_wl_X, pz_wr_gc, pz_wr_ga, pz_wr_gn, pz_wr_gi, pz_wr_gl, pz_wr_same, pz_wr_X, g39, y0', so_120 hS2])
                (try refine po_gP (Nat.le_of_ble_eq_true rfl) ?_)
                refine po_call (by omega) (r_isGd hS2 (fun y => absurd y n4) (fun _ => ?_))
                refine pw_blk (mi := mz_193) (b := bz_193_119) rfl rfl ?_
                simp only [bz_193_119, pz_cut_t, pz_cut_f, pz_cut_n, pv_gt, pv_ts, pv_tn, ev_ifne, pz_wi_gc, pz_wi_ga, pz_wi_gn, pz_wi_gl, pz_wi_gr, pz_wi_same, pz_wi_X, pz_wl_gc, pz_wl_ga, pz_wl_gn, pz_wl_gi, pz_wl_gr, pz_wl_same, pz_wl_X, pz_wr_gc, pz_wr_ga, pz_wr_gn, pz_wr_gi, pz_wr_gl, pz_wr_same, pz_wr_X, g39, y0']
                (try simp (disch := omega) only [nI_clamp, pz_in_nI2, pz_in_nI2L, pv_gt, nI_add, nI_addL, nI_Ladd, pk_mul, nI_mulL, nI_Lmul, pk_sub, nI_subL, nI_Lsub, nI_inc, nI_clampL, Nat.add_sub_cancel, pz_wi_else, pz_wl_else, vu_eq, vu_ne, pz_wi_gc, pz_wi_ga, pz_wi_gn, pz_wi_gl, pz_wi_gr, pz_wi_same, pz_wi_X, pz_wl_gc, pz_wl_ga, pz_wl_gn, pz_wl_gi, pz_wl_gr, pz_wl_same, pz_wl_X, pz_wr_gc, pz_wr_ga, pz_wr_gn, pz_wr_gi, pz_wr_gl, pz_wr_same, pz_wr_X, g39, y0'])
                refine po_brP (fun q119 => ?_) (fun q119 => ?_)
                · first
                  | exact absurd q119 (by decide)
                  | exact absurd trivial q119
                  | exact q119.elim
                  | (exfalso; (try simp (disch := omega) only [nI_ltI, nI_leI, nI_eq, nI_ltL, nI_leL, nI_eqL, nI_Llt, nI_Lle, nI_Leq, nI_eqm, nI_meq, nI_ltm, nI_lem, nI_mlt, nI_mle, lg0, lgl, lgg, lgle, lgge, Int32.not_lt, Int32.not_le, Int64.not_lt, Int64.not_le, not_false_eq_true, not_true_eq_false, Decidable.not_not, ge_iff_le, gt_iff_lt] at q119) <;> omega)
                  | exact absurd q119 (by with_reducible assumption)
                  | exact absurd (by with_reducible assumption) q119
                  | exact absurd (Decidable.not_not.mp q119) (by with_reducible assumption)
                  | exact absurd (by with_reducible assumption) (Int32.not_le.mpr q119)
                  | exact absurd (by with_reducible assumption) (Int32.not_lt.mpr q119)
                · skip
                  (try simp (disch := omega) only [nI_ltI, nI_leI, nI_eq, nI_ltL, nI_leL, nI_eqL, nI_Llt, nI_Lle, nI_Leq, nI_eqm, nI_meq, nI_ltm, nI_lem, nI_mlt, nI_mle, lg0, lgl, lgg, lgle, lgge, Int32.not_lt, Int32.not_le, Int64.not_lt, Int64.not_le, not_false_eq_true, not_true_eq_false, Decidable.not_not, ge_iff_le, gt_iff_lt] at q119)
                  refine pw_blk (mi := mz_193) (b := bz_193_122) rfl rfl ?_
                  simp only [bz_193_122, pz_cut_t, pz_cut_f, pz_cut_n, pv_gt, pv_ts, pv_tn, ev_ret, pz_wi_gc, pz_wi_ga, pz_wi_gn, pz_wi_gl, pz_wi_gr, pz_wi_same, pz_wi_X, pz_wl_gc, pz_wl_ga, pz_wl_gn, pz_wl_gi, pz_wl_gr, pz_wl_same, pz_wl_X, pz_wr_gc, pz_wr_ga, pz_wr_gn, pz_wr_gi, pz_wr_gl, pz_wr_same, pz_wr_X, g39, y0']
                  (try simp (disch := omega) only [nI_clamp, pz_in_nI2, pz_in_nI2L, pv_gt, nI_add, nI_addL, nI_Ladd, pk_mul, nI_mulL, nI_Lmul, pk_sub, nI_subL, nI_Lsub, nI_inc, nI_clampL, Nat.add_sub_cancel, pz_wi_else, pz_wl_else, vu_eq, vu_ne, pz_wi_gc, pz_wi_ga, pz_wi_gn, pz_wi_gl, pz_wi_gr, pz_wi_same, pz_wi_X, pz_wl_gc, pz_wl_ga, pz_wl_gn, pz_wl_gi, pz_wl_gr, pz_wl_same, pz_wl_X, pz_wr_gc, pz_wr_ga, pz_wr_gn, pz_wr_gi, pz_wr_gl, pz_wr_same, pz_wr_X, g39, y0'])
                  exact po_ret (kk M2 (f'.tr (bfr.of r2)) s2 (fun y => by rw [flF_G] at y; cases y))
  have at67 : ∀ M1 v, rfr M M1 → rSt M1 ru T L (frF ru T L c0.H c0.hw τ) → (isG (anF τ) = true → ¬ fnd c0.hw (nmV τ) c0.H < c0.H → v = p8 (nmV τ) ∧ isWd (nmV τ)) → ∀ g : Int32, (gi M1 120 4 = 0 → g = 1) → (¬ gi M1 120 4 = 0 → g = 0) → pw d 193 (67, [some (.ref 120), some (.int (nI (8 * b + c0.H)))], [.int g], pz_wi (pz_wl M1 137 (va_up (gl M1 137) (8 * b + c0.H) v)) 141 (va_up (gi M1 141) (8 * b + c0.H) (nI c0.B))) Q := by
    intro M1 v r1 s1 hv g hg1 hg0
    have w1 : (8 * b + c0.H) / 8 = b := by omega
    have f1 : bfr M (pz_wl M1 137 (va_up (gl M1 137) (8 * b + c0.H) v)) b := (bfr.of r1).wl (w := 8) (by decide) w1
    have f2 := f1.wi (k := 141) (w := 8) (i := 8 * b + c0.H) (v := nI c0.B) (by decide) w1
    rw [pz_wl_gi] at f2
    have sx : sm [137, 141] M1 (pz_wi (pz_wl M1 137 (va_up (gl M1 137) (8 * b + c0.H) v)) 141 (va_up (gi M1 141) (8 * b + c0.H) (nI c0.B))) := sm.wi (sm.wl sm.rf (by decide)) (by decide)
    have s2 := s1.sm sx (by decide) (by decide)
    have x1 := x.r r1
    have x2 : rsc (pz_wi (pz_wl M1 137 (va_up (gl M1 137) (8 * b + c0.H) v)) 141 (va_up (gi M1 141) (8 * b + c0.H) (nI c0.B))) b c0 := by
      obtain ⟨y1, y2, y3, y4, y5, y6, y7⟩ := x1
      have i : ∀ k, k ≠ 137 → k ≠ 141 → gi (pz_wi (pz_wl M1 137 (va_up (gl M1 137) (8 * b + c0.H) v)) 141 (va_up (gi M1 141) (8 * b + c0.H) (nI c0.B))) k = gi M1 k := fun k a1 a2 => sx.i (by simp; exact ⟨a1, a2⟩)
      have l : ∀ k, k ≠ 137 → k ≠ 141 → gl (pz_wi (pz_wl M1 137 (va_up (gl M1 137) (8 * b + c0.H) v)) 141 (va_up (gi M1 141) (8 * b + c0.H) (nI c0.B))) k = gl M1 k := fun k a1 a2 => sx.l (by simp; exact ⟨a1, a2⟩)
      unfold rsc
      rw [i 123 (by decide) (by decide), i 124 (by decide) (by decide), i 125 (by decide) (by decide), i 126 (by decide) (by decide), i 127 (by decide) (by decide), i 128 (by decide) (by decide), i 129 (by decide) (by decide), i 130 (by decide) (by decide), i 131 (by decide) (by decide), i 132 (by decide) (by decide), i 133 (by decide) (by decide), i 134 (by decide) (by decide), i 135 (by decide) (by decide), l 136 (by decide) (by decide), l 138 (by decide) (by decide), l 139 (by decide) (by decide), i 140 (by decide) (by decide), i 142 (by decide) (by decide), i 143 (by decide) (by decide), i 144 (by decide) (by decide), i 145 (by decide) (by decide), i 146 (by decide) (by decide), i 147 (by decide) (by decide), i 148 (by decide) (by decide)]
      refine ⟨y1, y2, y3, y4, fun j hj => ?_, y6, y7⟩
      rw [pz_wi_gl, pz_wl_same, pz_wi_same, vu_ne (by omega), vu_ne (by omega)]
      exact y5 j hj
    have z1 : gl (pz_wi (pz_wl M1 137 (va_up (gl M1 137) (8 * b + c0.H) v)) 141 (va_up (gi M1 141) (8 * b + c0.H) (nI c0.B))) 137 (8 * b + c0.H) = v := by rw [pz_wi_gl, pz_wl_same, vu_eq]
    have z2 : gi (pz_wi (pz_wl M1 137 (va_up (gl M1 137) (8 * b + c0.H) v)) 141 (va_up (gi M1 141) (8 * b + c0.H) (nI c0.B))) 141 (8 * b + c0.H) = nI c0.B := by rw [pz_wi_same, vu_eq]
    have e4 := sx.i (k := 120) (by decide)
    generalize hM2 : pz_wi (pz_wl M1 137 (va_up (gl M1 137) (8 * b + c0.H) v)) 141 (va_up (gi M1 141) (8 * b + c0.H) (nI c0.B)) = M2 at f2 s2 x2 z1 z2 e4
    have hS2 := s2.1.1
    by_cases q4 : gi M1 120 4 = 0
    · have g4 : gi M2 120 4 = 0 := by rw [e4]; exact q4
      rw [hg1 q4]
      cases zg : isG (anF (frF ru T L c0.H c0.hw τ)) with
      | false =>
        rw [if_neg (by rw [zg]; decide), anF_fl zg] at k
        have n8 := s2.nn g4 zg
        refine pw_blk (mi := mz_193) (b := bz_193_67) rfl rfl ?_
        simp only [bz_193_67, pz_cut_t, pz_cut_f, pz_cut_n, pv_gt, pv_ts, pv_tn, ev_ifeq, pz_wi_gc, pz_wi_ga, pz_wi_gn, pz_wi_gl, pz_wi_gr, pz_wi_same, pz_wi_X, pz_wl_gc, pz_wl_ga, pz_wl_gn, pz_wl_gi, pz_wl_gr, pz_wl_same, pz_wl_X, pz_wr_gc, pz_wr_ga, pz_wr_gn, pz_wr_gi, pz_wr_gl, pz_wr_same, pz_wr_X]
        (try simp (disch := omega) only [nI_clamp, pz_in_nI2, pz_in_nI2L, pv_gt, nI_add, nI_addL, nI_Ladd, pk_mul, nI_mulL, nI_Lmul, pk_sub, nI_subL, nI_Lsub, nI_inc, nI_clampL, Nat.add_sub_cancel, pz_wi_else, pz_wl_else, vu_eq, vu_ne, pz_wi_gc, pz_wi_ga, pz_wi_gn, pz_wi_gl, pz_wi_gr, pz_wi_same, pz_wi_X, pz_wl_gc, pz_wl_ga, pz_wl_gn, pz_wl_gi, pz_wl_gr, pz_wl_same, pz_wl_X, pz_wr_gc, pz_wr_ga, pz_wr_gn, pz_wr_gi, pz_wr_gl, pz_wr_same, pz_wr_X])
        refine po_brP (fun q67 => ?_) (fun q67 => ?_)
        · first
          | exact absurd q67 (by decide)
          | exact absurd trivial q67
          | exact q67.elim
          | (exfalso; (try simp (disch := omega) only [nI_ltI, nI_leI, nI_eq, nI_ltL, nI_leL, nI_eqL, nI_Llt, nI_Lle, nI_Leq, nI_eqm, nI_meq, nI_ltm, nI_lem, nI_mlt, nI_mle, lg0, lgl, lgg, lgle, lgge, Int32.not_lt, Int32.not_le, Int64.not_lt, Int64.not_le, not_false_eq_true, not_true_eq_false, Decidable.not_not, ge_iff_le, gt_iff_lt] at q67) <;> omega)
          | exact absurd q67 (by with_reducible assumption)
          | exact absurd (by with_reducible assumption) q67
          | exact absurd (Decidable.not_not.mp q67) (by with_reducible assumption)
          | exact absurd (by with_reducible assumption) (Int32.not_le.mpr q67)
          | exact absurd (by with_reducible assumption) (Int32.not_lt.mpr q67)
        · skip
          (try simp (disch := omega) only [nI_ltI, nI_leI, nI_eq, nI_ltL, nI_leL, nI_eqL, nI_Llt, nI_Lle, nI_Leq, nI_eqm, nI_meq, nI_ltm, nI_lem, nI_mlt, nI_mle, lg0, lgl, lgg, lgle, lgge, Int32.not_lt, Int32.not_le, Int64.not_lt, Int64.not_le, not_false_eq_true, not_true_eq_false, Decidable.not_not, ge_iff_le, gt_iff_lt] at q67)
          refine pw_blk (mi := mz_193) (b := bz_193_70) rfl rfl ?_
          simp only [bz_193_70, pz_cut_t, pz_cut_f, pz_cut_n, pv_gt, pv_ts, pv_tn, ev_ald0, ev_eld0, ev_gf11_0, ev_ic2, ev_ic_eq, pz_wi_gc, pz_wi_ga, pz_wi_gn, pz_wi_gl, pz_wi_gr, pz_wi_same, pz_wi_X, pz_wl_gc, pz_wl_ga, pz_wl_gn, pz_wl_gi, pz_wl_gr, pz_wl_same, pz_wl_X, pz_wr_gc, pz_wr_ga, pz_wr_gn, pz_wr_gi, pz_wr_gl, pz_wr_same, pz_wr_X, so_120 hS2]
          (try simp (disch := omega) only [nI_clamp, pz_in_nI2, pz_in_nI2L, pv_gt, nI_add, nI_addL, nI_Ladd, pk_mul, nI_mulL, nI_Lmul, pk_sub, nI_subL, nI_Lsub, nI_inc, nI_clampL, Nat.add_sub_cancel, pz_wi_else, pz_wl_else, vu_eq, vu_ne, pz_wi_gc, pz_wi_ga, pz_wi_gn, pz_wi_gl, pz_wi_gr, pz_wi_same, pz_wi_X, pz_wl_gc, pz_wl_ga, pz_wl_gn, pz_wl_gi, pz_wl_gr, pz_wl_same, pz_wl_X, pz_wr_gc, pz_wr_ga, pz_wr_gn, pz_wr_gi, pz_wr_gl, pz_wr_same, pz_wr_X])
          refine po_brP (fun q70 => ?_) (fun q70 => ?_)
          · first
            | exact absurd q70 (by decide)
            | exact absurd trivial q70
            | exact q70.elim
            | (exfalso; (try simp (disch := omega) only [nI_ltI, nI_leI, nI_eq, nI_ltL, nI_leL, nI_eqL, nI_Llt, nI_Lle, nI_Leq, nI_eqm, nI_meq, nI_ltm, nI_lem, nI_mlt, nI_mle, lg0, lgl, lgg, lgle, lgge, Int32.not_lt, Int32.not_le, Int64.not_lt, Int64.not_le, not_false_eq_true, not_true_eq_false, Decidable.not_not, ge_iff_le, gt_iff_lt] at q70) <;> omega)
            | exact absurd q70 (by with_reducible assumption)
            | exact absurd (by with_reducible assumption) q70
            | exact absurd (Decidable.not_not.mp q70) (by with_reducible assumption)
            | exact absurd (by with_reducible assumption) (Int32.not_le.mpr q70)
            | exact absurd (by with_reducible assumption) (Int32.not_lt.mpr q70)
          · skip
            (try simp (disch := omega) only [nI_ltI, nI_leI, nI_eq, nI_ltL, nI_leL, nI_eqL, nI_Llt, nI_Lle, nI_Leq, nI_eqm, nI_meq, nI_ltm, nI_lem, nI_mlt, nI_mle, lg0, lgl, lgg, lgle, lgge, Int32.not_lt, Int32.not_le, Int64.not_lt, Int64.not_le, not_false_eq_true, not_true_eq_false, Decidable.not_not, ge_iff_le, gt_iff_lt] at q70)
            refine pw_blk (mi := mz_193) (b := bz_193_78) rfl rfl ?_
            simp only [bz_193_78, pz_cut_t, pz_cut_f, pz_cut_n, pv_gt, pv_ts, pv_tn, ev_ald0, ev_eld0, ev_cv0_11, pz_wi_gc, pz_wi_ga, pz_wi_gn, pz_wi_gl, pz_wi_gr, pz_wi_same, pz_wi_X, pz_wl_gc, pz_wl_ga, pz_wl_gn, pz_wl_gi, pz_wl_gr, pz_wl_same, pz_wl_X, pz_wr_gc, pz_wr_ga, pz_wr_gn, pz_wr_gi, pz_wr_gl, pz_wr_same, pz_wr_X, so_120 hS2]
            (try simp (disch := omega) only [nI_clamp, pz_in_nI2, pz_in_nI2L, pv_gt, nI_add, nI_addL, nI_Ladd, pk_mul, nI_mulL, nI_Lmul, pk_sub, nI_subL, nI_Lsub, nI_inc, nI_clampL, Nat.add_sub_cancel, pz_wi_else, pz_wl_else, vu_eq, vu_ne, pz_wi_gc, pz_wi_ga, pz_wi_gn, pz_wi_gl, pz_wi_gr, pz_wi_same, pz_wi_X, pz_wl_gc, pz_wl_ga, pz_wl_gn, pz_wl_gi, pz_wl_gr, pz_wl_same, pz_wl_X, pz_wr_gc, pz_wr_ga, pz_wr_gn, pz_wr_gi, pz_wr_gl, pz_wr_same, pz_wr_X])
            (try refine po_gP (Nat.le_of_ble_eq_true rfl) ?_)
            refine po_call (by omega) (r_misplaced (by omega) s2 (fun M3 r3 s3 n4 => ?_))
            exact flt M3 _ (f2.tr (bfr.of r3)) s3 flF_G n4 (fun M'' w1 w2 => k M'' w1 w2 (fun y => by rw [flF_G] at y; cases y))
      | true =>
        rw [if_pos zg] at k
        obtain ⟨-, e8, -, -⟩ := s2.ny zg
        have hfr : isG (anF τ) = true ∧ ¬ fnd c0.hw (nmV τ) c0.H < c0.H := by
          unfold frF at zg
          by_cases a : isG (anF τ) = true
          · rw [if_pos a] at zg
            refine ⟨a, fun y => ?_⟩
            rw [if_pos y, show anF (flF 3 τ) = flF 3 τ by cases τ <;> rfl, flF_G] at zg
            cases zg
          · rw [if_neg a] at zg
            rw [show anF (anF τ) = anF τ by rw [anF_fl (isG_f a)]; cases τ <;> rfl] at zg
            exact absurd zg a
        obtain ⟨v1, v2⟩ := hv hfr.1 hfr.2
        refine pw_blk (mi := mz_193) (b := bz_193_67) rfl rfl ?_
        simp only [bz_193_67, pz_cut_t, pz_cut_f, pz_cut_n, pv_gt, pv_ts, pv_tn, ev_ifeq, pz_wi_gc, pz_wi_ga, pz_wi_gn, pz_wi_gl, pz_wi_gr, pz_wi_same, pz_wi_X, pz_wl_gc, pz_wl_ga, pz_wl_gn, pz_wl_gi, pz_wl_gr, pz_wl_same, pz_wl_X, pz_wr_gc, pz_wr_ga, pz_wr_gn, pz_wr_gi, pz_wr_gl, pz_wr_same, pz_wr_X, e8]
        (try simp (disch := omega) only [nI_clamp, pz_in_nI2, pz_in_nI2L, pv_gt, nI_add, nI_addL, nI_Ladd, pk_mul, nI_mulL, nI_Lmul, pk_sub, nI_subL, nI_Lsub, nI_inc, nI_clampL, Nat.add_sub_cancel, pz_wi_else, pz_wl_else, vu_eq, vu_ne, pz_wi_gc, pz_wi_ga, pz_wi_gn, pz_wi_gl, pz_wi_gr, pz_wi_same, pz_wi_X, pz_wl_gc, pz_wl_ga, pz_wl_gn, pz_wl_gi, pz_wl_gr, pz_wl_same, pz_wl_X, pz_wr_gc, pz_wr_ga, pz_wr_gn, pz_wr_gi, pz_wr_gl, pz_wr_same, pz_wr_X, e8])
        refine po_brP (fun q67 => ?_) (fun q67 => ?_)
        · first
          | exact absurd q67 (by decide)
          | exact absurd trivial q67
          | exact q67.elim
          | (exfalso; (try simp (disch := omega) only [nI_ltI, nI_leI, nI_eq, nI_ltL, nI_leL, nI_eqL, nI_Llt, nI_Lle, nI_Leq, nI_eqm, nI_meq, nI_ltm, nI_lem, nI_mlt, nI_mle, lg0, lgl, lgg, lgle, lgge, Int32.not_lt, Int32.not_le, Int64.not_lt, Int64.not_le, not_false_eq_true, not_true_eq_false, Decidable.not_not, ge_iff_le, gt_iff_lt] at q67) <;> omega)
          | exact absurd q67 (by with_reducible assumption)
          | exact absurd (by with_reducible assumption) q67
          | exact absurd (Decidable.not_not.mp q67) (by with_reducible assumption)
          | exact absurd (by with_reducible assumption) (Int32.not_le.mpr q67)
          | exact absurd (by with_reducible assumption) (Int32.not_lt.mpr q67)
        · skip
          (try simp (disch := omega) only [nI_ltI, nI_leI, nI_eq, nI_ltL, nI_leL, nI_eqL, nI_Llt, nI_Lle, nI_Leq, nI_eqm, nI_meq, nI_ltm, nI_lem, nI_mlt, nI_mle, lg0, lgl, lgg, lgle, lgge, Int32.not_lt, Int32.not_le, Int64.not_lt, Int64.not_le, not_false_eq_true, not_true_eq_false, Decidable.not_not, ge_iff_le, gt_iff_lt] at q67)
          refine pw_blk (mi := mz_193) (b := bz_193_70) rfl rfl ?_
          simp only [bz_193_70, pz_cut_t, pz_cut_f, pz_cut_n, pv_gt, pv_ts, pv_tn, ev_ald0, ev_eld0, ev_gf11_0, ev_ic2, ev_ic_eq, pz_wi_gc, pz_wi_ga, pz_wi_gn, pz_wi_gl, pz_wi_gr, pz_wi_same, pz_wi_X, pz_wl_gc, pz_wl_ga, pz_wl_gn, pz_wl_gi, pz_wl_gr, pz_wl_same, pz_wl_X, pz_wr_gc, pz_wr_ga, pz_wr_gn, pz_wr_gi, pz_wr_gl, pz_wr_same, pz_wr_X, so_120 hS2, e8]
          (try simp (disch := omega) only [nI_clamp, pz_in_nI2, pz_in_nI2L, pv_gt, nI_add, nI_addL, nI_Ladd, pk_mul, nI_mulL, nI_Lmul, pk_sub, nI_subL, nI_Lsub, nI_inc, nI_clampL, Nat.add_sub_cancel, pz_wi_else, pz_wl_else, vu_eq, vu_ne, pz_wi_gc, pz_wi_ga, pz_wi_gn, pz_wi_gl, pz_wi_gr, pz_wi_same, pz_wi_X, pz_wl_gc, pz_wl_ga, pz_wl_gn, pz_wl_gi, pz_wl_gr, pz_wl_same, pz_wl_X, pz_wr_gc, pz_wr_ga, pz_wr_gn, pz_wr_gi, pz_wr_gl, pz_wr_same, pz_wr_X, e8])
          refine po_brP (fun q70 => ?_) (fun q70 => ?_)
          · skip
            (try simp (disch := omega) only [nI_ltI, nI_leI, nI_eq, nI_ltL, nI_leL, nI_eqL, nI_Llt, nI_Lle, nI_Leq, nI_eqm, nI_meq, nI_ltm, nI_lem, nI_mlt, nI_mle, lg0, lgl, lgg, lgle, lgge, Int32.not_lt, Int32.not_le, Int64.not_lt, Int64.not_le, not_false_eq_true, not_true_eq_false, Decidable.not_not, ge_iff_le, gt_iff_lt] at q70)
            exact loop 25 M2 _ c0 (nmV τ) (by omega) f2 s2 g4 (lkR.rf oB) x2 (by rw [z1]; exact v1) z2 k
          · first
            | exact absurd q70 (by decide)
            | exact absurd trivial q70
            | exact q70.elim
            | (exfalso; (try simp (disch := omega) only [nI_ltI, nI_leI, nI_eq, nI_ltL, nI_leL, nI_eqL, nI_Llt, nI_Lle, nI_Leq, nI_eqm, nI_meq, nI_ltm, nI_lem, nI_mlt, nI_mle, lg0, lgl, lgg, lgle, lgge, Int32.not_lt, Int32.not_le, Int64.not_lt, Int64.not_le, not_false_eq_true, not_true_eq_false, Decidable.not_not, ge_iff_le, gt_iff_lt] at q70) <;> omega)
            | exact absurd q70 (by with_reducible assumption)
            | exact absurd (by with_reducible assumption) q70
            | exact absurd (Decidable.not_not.mp q70) (by with_reducible assumption)
            | exact absurd (by with_reducible assumption) (Int32.not_le.mpr q70)
            | exact absurd (by with_reducible assumption) (Int32.not_lt.mpr q70)
    · have g4 : ¬ gi M2 120 4 = 0 := by rw [e4]; exact q4
      rw [hg0 q4]
      have hf := s1.f q4
      have ea : anF (frF ru T L c0.H c0.hw τ) = frF ru T L c0.H c0.hw τ := by
        cases h : frF ru T L c0.H c0.hw τ with
        | inl f => rfl
        | inr t => rw [h] at hf; cases hf
      rw [ea, if_neg (by rw [hf]; decide)] at k
      refine pw_blk (mi := mz_193) (b := bz_193_67) rfl rfl ?_
      simp only [bz_193_67, pz_cut_t, pz_cut_f, pz_cut_n, pv_gt, pv_ts, pv_tn, ev_ifeq, pz_wi_gc, pz_wi_ga, pz_wi_gn, pz_wi_gl, pz_wi_gr, pz_wi_same, pz_wi_X, pz_wl_gc, pz_wl_ga, pz_wl_gn, pz_wl_gi, pz_wl_gr, pz_wl_same, pz_wl_X, pz_wr_gc, pz_wr_ga, pz_wr_gn, pz_wr_gi, pz_wr_gl, pz_wr_same, pz_wr_X]
      (try simp (disch := omega) only [nI_clamp, pz_in_nI2, pz_in_nI2L, pv_gt, nI_add, nI_addL, nI_Ladd, pk_mul, nI_mulL, nI_Lmul, pk_sub, nI_subL, nI_Lsub, nI_inc, nI_clampL, Nat.add_sub_cancel, pz_wi_else, pz_wl_else, vu_eq, vu_ne, pz_wi_gc, pz_wi_ga, pz_wi_gn, pz_wi_gl, pz_wi_gr, pz_wi_same, pz_wi_X, pz_wl_gc, pz_wl_ga, pz_wl_gn, pz_wl_gi, pz_wl_gr, pz_wl_same, pz_wl_X, pz_wr_gc, pz_wr_ga, pz_wr_gn, pz_wr_gi, pz_wr_gl, pz_wr_same, pz_wr_X])
      refine po_brP (fun q67 => ?_) (fun q67 => ?_)
      · skip
        (try simp (disch := omega) only [nI_ltI, nI_leI, nI_eq, nI_ltL, nI_leL, nI_eqL, nI_Llt, nI_Lle, nI_Leq, nI_eqm, nI_meq, nI_ltm, nI_lem, nI_mlt, nI_mle, lg0, lgl, lgg, lgle, lgge, Int32.not_lt, Int32.not_le, Int64.not_lt, Int64.not_le, not_false_eq_true, not_true_eq_false, Decidable.not_not, ge_iff_le, gt_iff_lt] at q67)
        exact flt M2 _ f2 s2 hf g4 (fun M'' w1 w2 => k M'' w1 w2 (fun y => by rw [hf] at y; cases y))
      · first
        | exact absurd q67 (by decide)
        | exact absurd trivial q67
        | exact q67.elim
        | (exfalso; (try simp (disch := omega) only [nI_ltI, nI_leI, nI_eq, nI_ltL, nI_leL, nI_eqL, nI_Llt, nI_Lle, nI_Leq, nI_eqm, nI_meq, nI_ltm, nI_lem, nI_mlt, nI_mle, lg0, lgl, lgg, lgle, lgge, Int32.not_lt, Int32.not_le, Int64.not_lt, Int64.not_le, not_false_eq_true, not_true_eq_false, Decidable.not_not, ge_iff_le, gt_iff_lt] at q67) <;> omega)
        | exact absurd q67 (by with_reducible assumption)
        | exact absurd (by with_reducible assumption) q67
        | exact absurd (Decidable.not_not.mp q67) (by with_reducible assumption)
        | exact absurd (by with_reducible assumption) (Int32.not_le.mpr q67)
        | exact absurd (by with_reducible assumption) (Int32.not_lt.mpr q67)
  refine pm_ent (L := [some (.ref 120), none]) rfl (Nat.le_of_ble_eq_true rfl) ?_
  refine pw_blk (mi := mz_193) (b := bz_193_0) rfl rfl ?_
  simp only [bz_193_0, pz_cut_t, pz_cut_f, pz_cut_n, pv_gt, pv_ts, pv_tn, ev_bp8, ev_ald0, ev_eld0, ev_gf11_0, ev_imul, ev_gf11_2, ea_iald, ev_iadd, ev_ist1n, ev_ist1i, ev_ist1r, ev_ist1e, ev_ist1l, ev_ild1, ev_cv3_11, pz_wi_gc, pz_wi_ga, pz_wi_gn, pz_wi_gl, pz_wi_gr, pz_wi_same, pz_wi_X, pz_wl_gc, pz_wl_ga, pz_wl_gn, pz_wl_gi, pz_wl_gr, pz_wl_same, pz_wl_X, pz_wr_gc, pz_wr_ga, pz_wr_gn, pz_wr_gi, pz_wr_gl, pz_wr_same, pz_wr_X, so_120 hS, sr_120_13 hS, sa_124 hS, sn_124 hS, sr_120_26 hS, sa_137 hS, sn_137 hS, e39, x3, sa_141 hS, sn_141 hS, sa_123 hS, sn_123 hS, sa_136 hS, sn_136 hS, sa_140 hS, sn_140 hS, sa_142 hS, sn_142 hS]
  (try simp (disch := omega) only [nI_clamp, pz_in_nI2, pz_in_nI2L, pv_gt, nI_add, nI_addL, nI_Ladd, pk_mul, nI_mulL, nI_Lmul, pk_sub, nI_subL, nI_Lsub, nI_inc, nI_clampL, Nat.add_sub_cancel, pz_wi_else, pz_wl_else, vu_eq, vu_ne, pz_wi_gc, pz_wi_ga, pz_wi_gn, pz_wi_gl, pz_wi_gr, pz_wi_same, pz_wi_X, pz_wl_gc, pz_wl_ga, pz_wl_gn, pz_wl_gi, pz_wl_gr, pz_wl_same, pz_wl_X, pz_wr_gc, pz_wr_ga, pz_wr_gn, pz_wr_gi, pz_wr_gl, pz_wr_same, pz_wr_X, e39, x3])
  (try refine po_gI (by first | exact pz_in_nI (by omega) (by decide) | decide | assumption) ?_)
  (try refine po_gI (by first | exact pz_in_nI (by omega) (by decide) | decide | assumption) ?_)
  (try refine po_gP (Nat.le_of_ble_eq_true rfl) ?_)
  refine po_call (by omega) (r_fresh (nm := c0.hw) (len := 16) (by omega) s (sa_137 hS) (sn_137 hS) (by omega) (by decide) hm (fun M1 v r1 s1 hv => ?_))
  have hS1 := s1.1.1
  have f39 : gi M1 120 39 = nI b := by rw [r1.2 39 (by decide) (by decide) (by decide) (by decide) (by decide) (by decide)]; exact e39
  have x1 := x.r r1
  have y0 := x1.1.1
  refine pw_blk (mi := mz_193) (b := bz_193_47) rfl rfl ?_
  simp only [bz_193_47, pz_cut_t, pz_cut_f, pz_cut_n, pv_gt, pv_ts, pv_tn, ea_last, ev_ald0, ev_eld0, ev_gf11_2, ev_ild1, ev_gf11_0, ea_iald, ea_iast, ev_cv0_11, pz_wi_gc, pz_wi_ga, pz_wi_gn, pz_wi_gl, pz_wi_gr, pz_wi_same, pz_wi_X, pz_wl_gc, pz_wl_ga, pz_wl_gn, pz_wl_gi, pz_wl_gr, pz_wl_same, pz_wl_X, pz_wr_gc, pz_wr_ga, pz_wr_gn, pz_wr_gi, pz_wr_gl, pz_wr_same, pz_wr_X, so_120 hS, sr_120_30 hS, sa_141 hS, sn_141 hS, sr_120_12 hS, sa_123 hS, sn_123 hS, e39, x3, so_120 hS1, sr_120_30 hS1, sr_120_12 hS1, sa_137 hS1, sn_137 hS1, sa_141 hS1, sn_141 hS1, sa_123 hS1, sn_123 hS1, f39, y0, sa_124 hS, sn_124 hS, sa_137 hS, sn_137 hS, sa_136 hS, sn_136 hS, sa_140 hS, sn_140 hS, sa_142 hS, sn_142 hS]
  (try simp (disch := omega) only [nI_clamp, pz_in_nI2, pz_in_nI2L, pv_gt, nI_add, nI_addL, nI_Ladd, pk_mul, nI_mulL, nI_Lmul, pk_sub, nI_subL, nI_Lsub, nI_inc, nI_clampL, Nat.add_sub_cancel, pz_wi_else, pz_wl_else, vu_eq, vu_ne, pz_wi_gc, pz_wi_ga, pz_wi_gn, pz_wi_gl, pz_wi_gr, pz_wi_same, pz_wi_X, pz_wl_gc, pz_wl_ga, pz_wl_gn, pz_wl_gi, pz_wl_gr, pz_wl_same, pz_wl_X, pz_wr_gc, pz_wr_ga, pz_wr_gn, pz_wr_gi, pz_wr_gl, pz_wr_same, pz_wr_X, e39, x3, so_120 hS1, sr_120_30 hS1, sr_120_12 hS1, sa_137 hS1, sn_137 hS1, sa_141 hS1, sn_141 hS1, sa_123 hS1, sn_123 hS1, f39, y0])
  (try refine po_gI (by first | exact pz_in_nI (by omega) (by decide) | decide | assumption) ?_)
  (try refine po_gI (by first | exact pz_in_nI (by omega) (by decide) | decide | assumption) ?_)
  (try refine po_gI (by first | exact pz_in_nI (by omega) (by decide) | decide | assumption) ?_)
  (try refine po_gP (Nat.le_of_ble_eq_true rfl) ?_)
  refine po_call (by omega) (r_isGd (hS1.sm (K := [137, 141]) (sm.wi (sm.wl sm.rf (by decide)) (by decide))) (fun z4 => ?_) (fun z4 => ?_))
  · skip
    first | exact at67 M1 v r1 s1 hv 1 (fun _ => rfl) (fun y => absurd z4 (by rw [pz_wi_else (by decide), pz_wl_gi]; exact y)) | exact at67 M1 v r1 s1 hv 0 (fun y => absurd y (by rw [pz_wi_else (by decide), pz_wl_gi] at z4; exact z4)) (fun _ => rfl)
  · skip
    first | exact at67 M1 v r1 s1 hv 1 (fun _ => rfl) (fun y => absurd z4 (by rw [pz_wi_else (by decide), pz_wl_gi]; exact y)) | exact at67 M1 v r1 s1 hv 0 (fun y => absurd y (by rw [pz_wi_else (by decide), pz_wl_gi] at z4; exact z4)) (fun _ => rfl)
end RH
