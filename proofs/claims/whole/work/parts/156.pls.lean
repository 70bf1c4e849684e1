/-! ===== plans, the class's side ===== -/
section PLS
variable {d : Nat} {M M' : pz_M} {Q : Option Value × pz_M → Prop}
abbrev Bs2 : Type := Option (Nat × Nat)
def tr2 (S : Bs2) (v a : Nat) : Bs2 := match S with
  | none => some (v, a)
  | some s => if s.1 < v then some (v, a) else some s
/-- all rows of c more plans, tried one behind another; p is the number of the row so far -/
def tS (X : DyE) (V : (Nat → T3) → Nat) (N : Nat) : Nat → (Nat → T3) → Nat → Nat → Bs2 → Bs2
  | 0, R, _, p, S => tr2 S (V R) p
  | c + 1, R, y, p, S => (List.range N).foldl (fun S q => tS X V N c (X.pn q R (nI y)) (y + 1) (p * N + q) S) S
def tF (X : DyE) (V : (Nat → T3) → Nat) (N c : Nat) (R : Nat → T3) (y p : Nat) (k : Nat) (S : Bs2) : Bs2 := (List.range k).foldl (fun S q => tS X V N c (X.pn q R (nI y)) (y + 1) (p * N + q) S) S
theorem tF_s {X : DyE} {V : (Nat → T3) → Nat} {N c : Nat} {R : Nat → T3} {y p k : Nat} {S : Bs2} : tF X V N c R y p (k + 1) S = tS X V N c (X.pn k R (nI y)) (y + 1) (p * N + k) (tF X V N c R y p k S) := by
  unfold tF
  rw [List.range_succ, List.foldl_append]
  rfl
theorem eq12.pn {X : DyE} {q : Nat} {R R' : Nat → T3} {y : Int32} (h : eq12 R R') : eq12 (X.pn q R y) (X.pn q R' y) := by
  unfold DyE.pn
  refine eq12.fd (eq12.of fun i => ?_)
  unfold mapR
  split
  · exact plT_12 _ _ (h.at i).1 (h.at i).2
  · exact h.at i
theorem DyE.pn_r {X : DyE} {N q : Nat} (hok : X.ok N) {R : Nat → T3} {y : Int32} (h : ∀ i, rT (R i)) : ∀ i, rT (X.pn q R y i) := by
  obtain ⟨-, -, -, -, -, g, f, hg, hf, eg, ef⟩ := hok
  unfold DyE.pn
  rw [eg, ef]
  exact rT.fd (rT.map h (fun x hx => plT_rT hg x hx)) hf
theorem DyE.pn_hi {X : DyE} {N q : Nat} (hok : X.ok N) (hq : q < N) {R : Nat → T3} {y : Int32} {i : Nat} (hi : 24 ≤ i) : X.pn q R y i = R i := by
  have := (hok.2.2.2.2.1 q hq).2.1
  have := hok.1
  unfold DyE.pn
  rw [fdT_hi (by omega), mapR_hi (by omega)]
/-- the best row there is, on the class's side -/
def bs2 (M : pz_M) (n N : Nat) (S : Bs2) : Prop := match S with
  | none => gi M 52 5 = -1
  | some s => s.1 ≤ 1000000 ∧ gi M 52 5 = nI s.1 ∧ ∀ k, k < n → gi M 55 k = nI (s.2 / N ^ (n - 1 - k) % N)
theorem SH.dm (hS : SH M) {k : Nat} (hk : k ≤ 4) : isMind M (56 + 5 * k) ∧ gr M 53 k = .ref (56 + 5 * k) ∧ gc M (56 + 5 * k) = some 3 := by
  match k, hk with
  | 0, _ => exact ⟨hS.mind56, sr_53_0 hS, so_56 hS⟩
  | 1, _ => exact ⟨hS.mind61, sr_53_1 hS, so_61 hS⟩
  | 2, _ => exact ⟨hS.mind66, sr_53_2 hS, so_66 hS⟩
  | 3, _ => exact ⟨hS.mind71, sr_53_3 hS, so_71 hS⟩
  | 4, _ => exact ⟨hS.mind76, sr_53_4 hS, so_76 hS⟩
def zz (M : pz_M) : Prop := ∀ k, k ≤ 4 → ∀ i, 24 ≤ i → gi M (57 + 5 * k) i = 0 ∧ gi M (58 + 5 * k) i = 0 ∧ gi M (59 + 5 * k) i = 0
def KT : List Nat := [43, 44, 45, 46, 47, 48, 49, 52, 54, 55, 56, 57, 58, 59, 60, 61, 62, 63, 64, 65, 66, 67, 68, 69, 70, 71, 72, 73, 74, 75, 76, 77, 78, 79, 80]
/-- what trying days rests on -/
def plC (M : pz_M) (X : DyE) (N : Nat) (al : Nat → Nat → Nat) (cr wk sv er : Nat) : Prop := SH M ∧ (gi M 17 0 = X.g ∧ gi M 17 1 = X.f ∧ gi M 4 0 = nI X.B ∧ gi M 4 10 = nI N ∧ gi M 17 2 = nI cr ∧ gi M 17 3 = nI wk ∧ gi M 17 4 = nI sv ∧ gi M 17 5 = nI er) ∧ RFa M al X.B ∧ ∀ p, p < N → gi M 13 p = nI (X.pa p) ∧ gi M 14 p = nI (X.pb p) ∧ gi M 15 p = nI (X.pt p) ∧ gi M 16 p = nI (X.ps p)
theorem plC.fr {X : DyE} {N cr wk sv er : Nat} {al : Nat → Nat → Nat} (x : plC M X N al cr wk sv er) (s : sg KT M M') : plC M' X N al cr wk sv er := by
  obtain ⟨x1, x2, x3, x4⟩ := x
  refine ⟨s.S, ?_, x3.fr (s.i (by decide)) (s.i (by decide)) (s.i (by decide)), ?_⟩
  · rw [s.i (k := 17) (by decide), s.i (k := 4) (by decide)]
    exact x2
  · rw [s.i (k := 13) (by decide), s.i (k := 14) (by decide), s.i (k := 15) (by decide), s.i (k := 16) (by decide)]
    exact x4
theorem m_compare2 {n N : Nat} {S : Bs2} {v a : Nat} (hn : n ≤ 4) (hS : SH M) (hb : bs2 M n N S) (hv : v ≤ 1000000) (r0 : ∀ k, k < n → gi M 54 k = nI (a / N ^ (n - 1 - k) % N)) (K : ∀ M', sm [52, 55] M M' → bs2 M' n N (tr2 S v a) → Q (none, M')) : pm d 251 [.ref 52, .int (nI v)] M Q := by
  have fin : ∀ M1, M1 = pz_wi (pz_wi M 52 (va_up (gi M 52) 5 (nI v))) 55 (rowG (gi M 54) 4 (gi M 55)) → (∀ s, S = some s → s.1 < v) → Q (none, M1) := by
    intro M1 hM1 hs
    have ets : tr2 S v a = some (v, a) := by
      unfold tr2
      cases S with
      | none => rfl
      | some s => exact if_pos (hs s rfl)
    have e52 : gi M1 52 = va_up (gi M 52) 5 (nI v) := by
      rw [hM1, pz_wi_else (by decide), pz_wi_same]
    have e55 : gi M1 55 = rowG (gi M 54) 4 (gi M 55) := by
      rw [hM1, pz_wi_same]
    refine K M1 ?_ ?_
    · rw [hM1]
      exact sm.wi (sm.wi sm.rf (by decide)) (by decide)
    · rw [ets]
      refine ⟨hv, ?_, fun k hk => ?_⟩
      · rw [e52, vu_eq]
      · rw [e55, rowG_lt (by omega)]
        exact r0 k hk
  cases S with
  | none =>
    have hb' : gi M 52 5 = -1 := hb
    refine pm_ent (L := [some (.ref 52), some (.int (nI v))]) rfl (Nat.le_of_ble_eq_true rfl) ?_
    refine pw_blk (mi := mz_251) (b := bz_251_0) rfl rfl ?_
    simp only [bz_251_0, pz_cut_t, pz_cut_f, pz_cut_n, pv_gt, pv_ts, pv_tn, ev_ild1, ev_ald0, ev_eld0, ev_gf9_0, ev_ic_le, pz_wi_gc, pz_wi_ga, pz_wi_gn, pz_wi_gl, pz_wi_gr, pz_wi_same, pz_wi_X, pz_wl_gc, pz_wl_ga, pz_wl_gn, pz_wl_gi, pz_wl_gr, pz_wl_same, pz_wl_X, pz_wr_gc, pz_wr_ga, pz_wr_gn, pz_wr_gi, pz_wr_gl, pz_wr_same, pz_wr_X, so_52 hS, hb', clamp4, clamp00, cp4]
    (try simp (disch := omega) only [nI_clamp, pz_in_nI2, pz_in_nI2L, pv_gt, nI_add, nI_addL, nI_Ladd, pk_mul, nI_mulL, nI_Lmul, pk_sub, nI_subL, nI_Lsub, nI_inc, nI_clampL, Nat.add_sub_cancel, pz_wi_else, pz_wl_else, vu_eq, vu_ne, pz_wi_gc, pz_wi_ga, pz_wi_gn, pz_wi_gl, pz_wi_gr, pz_wi_same, pz_wi_X, pz_wl_gc, pz_wl_ga, pz_wl_gn, pz_wl_gi, pz_wl_gr, pz_wl_same, pz_wl_X, pz_wr_gc, pz_wr_ga, pz_wr_gn, pz_wr_gi, pz_wr_gl, pz_wr_same, pz_wr_X, hb', clamp4, clamp00, cp4])
    refine po_brP (fun q0 => ?_) (fun q0 => ?_)
    · first
      | exact absurd q0 (by decide)
      | exact absurd trivial q0
      | exact q0.elim
      | (exfalso; (try simp (disch := omega) only [nI_ltI, nI_leI, nI_eq, nI_ltL, nI_leL, nI_eqL, nI_Llt, nI_Lle, nI_Leq, nI_eqm, nI_meq, nI_ltm, nI_lem, nI_mlt, nI_mle, lg0, lgl, lgg, lgle, lgge, Int32.not_lt, Int32.not_le, Int64.not_lt, Int64.not_le, not_false_eq_true, not_true_eq_false, Decidable.not_not, ge_iff_le, gt_iff_lt] at q0) <;> omega)
      | exact absurd q0 (by with_reducible assumption)
      | exact absurd (by with_reducible assumption) q0
      | exact absurd (Decidable.not_not.mp q0) (by with_reducible assumption)
      | exact absurd (by with_reducible assumption) (Int32.not_le.mpr q0)
      | exact absurd (by with_reducible assumption) (Int32.not_lt.mpr q0)
    · skip
      (try simp (disch := omega) only [nI_ltI, nI_leI, nI_eq, nI_ltL, nI_leL, nI_eqL, nI_Llt, nI_Lle, nI_Leq, nI_eqm, nI_meq, nI_ltm, nI_lem, nI_mlt, nI_mle, lg0, lgl, lgg, lgle, lgge, Int32.not_lt, Int32.not_le, Int64.not_lt, Int64.not_le, not_false_eq_true, not_true_eq_false, Decidable.not_not, ge_iff_le, gt_iff_lt] at q0)
      refine pw_blk (mi := mz_251) (b := bz_251_8) rfl rfl ?_
      simp only [bz_251_8, pz_cut_t, pz_cut_f, pz_cut_n, pv_gt, pv_ts, pv_tn, ev_ald0, ev_eld0, ev_ild1, ev_pf9_0, ev_gf9_2, ev_ic0, ev_ic4, ea_cpi, ea_cpl, ea_cpe, ev_nil, pz_wi_gc, pz_wi_ga, pz_wi_gn, pz_wi_gl, pz_wi_gr, pz_wi_same, pz_wi_X, pz_wl_gc, pz_wl_ga, pz_wl_gn, pz_wl_gi, pz_wl_gr, pz_wl_same, pz_wl_X, pz_wr_gc, pz_wr_ga, pz_wr_gn, pz_wr_gi, pz_wr_gl, pz_wr_same, pz_wr_X, so_52 hS, sr_52_3 hS, sa_54 hS, sn_54 hS, sr_52_4 hS, sa_55 hS, sn_55 hS, hb', clamp4, clamp00, cp4]
      (try simp (disch := omega) only [nI_clamp, pz_in_nI2, pz_in_nI2L, pv_gt, nI_add, nI_addL, nI_Ladd, pk_mul, nI_mulL, nI_Lmul, pk_sub, nI_subL, nI_Lsub, nI_inc, nI_clampL, Nat.add_sub_cancel, pz_wi_else, pz_wl_else, vu_eq, vu_ne, pz_wi_gc, pz_wi_ga, pz_wi_gn, pz_wi_gl, pz_wi_gr, pz_wi_same, pz_wi_X, pz_wl_gc, pz_wl_ga, pz_wl_gn, pz_wl_gi, pz_wl_gr, pz_wl_same, pz_wl_X, pz_wr_gc, pz_wr_ga, pz_wr_gn, pz_wr_gi, pz_wr_gl, pz_wr_same, pz_wr_X, hb', clamp4, clamp00, cp4])
      (try refine po_gP (by first | decide | exact cpg4 | assumption) ?_)
      refine po_go ?_
      refine pw_blk (mi := mz_251) (b := bz_251_27) rfl rfl ?_
      simp only [bz_251_27, pz_cut_t, pz_cut_f, pz_cut_n, pv_gt, pv_ts, pv_tn, ev_ret, pz_wi_gc, pz_wi_ga, pz_wi_gn, pz_wi_gl, pz_wi_gr, pz_wi_same, pz_wi_X, pz_wl_gc, pz_wl_ga, pz_wl_gn, pz_wl_gi, pz_wl_gr, pz_wl_same, pz_wl_X, pz_wr_gc, pz_wr_ga, pz_wr_gn, pz_wr_gi, pz_wr_gl, pz_wr_same, pz_wr_X, hb', clamp4, clamp00, cp4]
      (try simp (disch := omega) only [nI_clamp, pz_in_nI2, pz_in_nI2L, pv_gt, nI_add, nI_addL, nI_Ladd, pk_mul, nI_mulL, nI_Lmul, pk_sub, nI_subL, nI_Lsub, nI_inc, nI_clampL, Nat.add_sub_cancel, pz_wi_else, pz_wl_else, vu_eq, vu_ne, pz_wi_gc, pz_wi_ga, pz_wi_gn, pz_wi_gl, pz_wi_gr, pz_wi_same, pz_wi_X, pz_wl_gc, pz_wl_ga, pz_wl_gn, pz_wl_gi, pz_wl_gr, pz_wl_same, pz_wl_X, pz_wr_gc, pz_wr_ga, pz_wr_gn, pz_wr_gi, pz_wr_gl, pz_wr_same, pz_wr_X, hb', clamp4, clamp00, cp4])
      exact po_then (fun M1 hM1 => fin M1 hM1 (fun s hs => by cases hs))
  | some s =>
    obtain ⟨w1, w2, w3⟩ := id hb
    by_cases q : s.1 < v
    · skip
      refine pm_ent (L := [some (.ref 52), some (.int (nI v))]) rfl (Nat.le_of_ble_eq_true rfl) ?_
      refine pw_blk (mi := mz_251) (b := bz_251_0) rfl rfl ?_
      simp only [bz_251_0, pz_cut_t, pz_cut_f, pz_cut_n, pv_gt, pv_ts, pv_tn, ev_ild1, ev_ald0, ev_eld0, ev_gf9_0, ev_ic_le, pz_wi_gc, pz_wi_ga, pz_wi_gn, pz_wi_gl, pz_wi_gr, pz_wi_same, pz_wi_X, pz_wl_gc, pz_wl_ga, pz_wl_gn, pz_wl_gi, pz_wl_gr, pz_wl_same, pz_wl_X, pz_wr_gc, pz_wr_ga, pz_wr_gn, pz_wr_gi, pz_wr_gl, pz_wr_same, pz_wr_X, so_52 hS, w2, clamp4, clamp00, cp4]
      (try simp (disch := omega) only [nI_clamp, pz_in_nI2, pz_in_nI2L, pv_gt, nI_add, nI_addL, nI_Ladd, pk_mul, nI_mulL, nI_Lmul, pk_sub, nI_subL, nI_Lsub, nI_inc, nI_clampL, Nat.add_sub_cancel, pz_wi_else, pz_wl_else, vu_eq, vu_ne, pz_wi_gc, pz_wi_ga, pz_wi_gn, pz_wi_gl, pz_wi_gr, pz_wi_same, pz_wi_X, pz_wl_gc, pz_wl_ga, pz_wl_gn, pz_wl_gi, pz_wl_gr, pz_wl_same, pz_wl_X, pz_wr_gc, pz_wr_ga, pz_wr_gn, pz_wr_gi, pz_wr_gl, pz_wr_same, pz_wr_X, w2, clamp4, clamp00, cp4])
      refine po_brP (fun q0 => ?_) (fun q0 => ?_)
      · first
        | exact absurd q0 (by decide)
        | exact absurd trivial q0
        | exact q0.elim
        | (exfalso; (try simp (disch := omega) only [nI_ltI, nI_leI, nI_eq, nI_ltL, nI_leL, nI_eqL, nI_Llt, nI_Lle, nI_Leq, nI_eqm, nI_meq, nI_ltm, nI_lem, nI_mlt, nI_mle, lg0, lgl, lgg, lgle, lgge, Int32.not_lt, Int32.not_le, Int64.not_lt, Int64.not_le, not_false_eq_true, not_true_eq_false, Decidable.not_not, ge_iff_le, gt_iff_lt] at q0) <;> omega)
        | exact absurd q0 (by with_reducible assumption)
        | exact absurd (by with_reducible assumption) q0
        | exact absurd (Decidable.not_not.mp q0) (by with_reducible assumption)
        | exact absurd (by with_reducible assumption) (Int32.not_le.mpr q0)
        | exact absurd (by with_reducible assumption) (Int32.not_lt.mpr q0)
      · skip
        (try simp (disch := omega) only [nI_ltI, nI_leI, nI_eq, nI_ltL, nI_leL, nI_eqL, nI_Llt, nI_Lle, nI_Leq, nI_eqm, nI_meq, nI_ltm, nI_lem, nI_mlt, nI_mle, lg0, lgl, lgg, lgle, lgge, Int32.not_lt, Int32.not_le, Int64.not_lt, Int64.not_le, not_false_eq_true, not_true_eq_false, Decidable.not_not, ge_iff_le, gt_iff_lt] at q0)
        refine pw_blk (mi := mz_251) (b := bz_251_8) rfl rfl ?_
        simp only [bz_251_8, pz_cut_t, pz_cut_f, pz_cut_n, pv_gt, pv_ts, pv_tn, ev_ald0, ev_eld0, ev_ild1, ev_pf9_0, ev_gf9_2, ev_ic0, ev_ic4, ea_cpi, ea_cpl, ea_cpe, ev_nil, pz_wi_gc, pz_wi_ga, pz_wi_gn, pz_wi_gl, pz_wi_gr, pz_wi_same, pz_wi_X, pz_wl_gc, pz_wl_ga, pz_wl_gn, pz_wl_gi, pz_wl_gr, pz_wl_same, pz_wl_X, pz_wr_gc, pz_wr_ga, pz_wr_gn, pz_wr_gi, pz_wr_gl, pz_wr_same, pz_wr_X, so_52 hS, sr_52_3 hS, sa_54 hS, sn_54 hS, sr_52_4 hS, sa_55 hS, sn_55 hS, w2, clamp4, clamp00, cp4]
        (try simp (disch := omega) only [nI_clamp, pz_in_nI2, pz_in_nI2L, pv_gt, nI_add, nI_addL, nI_Ladd, pk_mul, nI_mulL, nI_Lmul, pk_sub, nI_subL, nI_Lsub, nI_inc, nI_clampL, Nat.add_sub_cancel, pz_wi_else, pz_wl_else, vu_eq, vu_ne, pz_wi_gc, pz_wi_ga, pz_wi_gn, pz_wi_gl, pz_wi_gr, pz_wi_same, pz_wi_X, pz_wl_gc, pz_wl_ga, pz_wl_gn, pz_wl_gi, pz_wl_gr, pz_wl_same, pz_wl_X, pz_wr_gc, pz_wr_ga, pz_wr_gn, pz_wr_gi, pz_wr_gl, pz_wr_same, pz_wr_X, w2, clamp4, clamp00, cp4])
        (try refine po_gP (by first | decide | exact cpg4 | assumption) ?_)
        refine po_go ?_
        refine pw_blk (mi := mz_251) (b := bz_251_27) rfl rfl ?_
        simp only [bz_251_27, pz_cut_t, pz_cut_f, pz_cut_n, pv_gt, pv_ts, pv_tn, ev_ret, pz_wi_gc, pz_wi_ga, pz_wi_gn, pz_wi_gl, pz_wi_gr, pz_wi_same, pz_wi_X, pz_wl_gc, pz_wl_ga, pz_wl_gn, pz_wl_gi, pz_wl_gr, pz_wl_same, pz_wl_X, pz_wr_gc, pz_wr_ga, pz_wr_gn, pz_wr_gi, pz_wr_gl, pz_wr_same, pz_wr_X, w2, clamp4, clamp00, cp4]
        (try simp (disch := omega) only [nI_clamp, pz_in_nI2, pz_in_nI2L, pv_gt, nI_add, nI_addL, nI_Ladd, pk_mul, nI_mulL, nI_Lmul, pk_sub, nI_subL, nI_Lsub, nI_inc, nI_clampL, Nat.add_sub_cancel, pz_wi_else, pz_wl_else, vu_eq, vu_ne, pz_wi_gc, pz_wi_ga, pz_wi_gn, pz_wi_gl, pz_wi_gr, pz_wi_same, pz_wi_X, pz_wl_gc, pz_wl_ga, pz_wl_gn, pz_wl_gi, pz_wl_gr, pz_wl_same, pz_wl_X, pz_wr_gc, pz_wr_ga, pz_wr_gn, pz_wr_gi, pz_wr_gl, pz_wr_same, pz_wr_X, w2, clamp4, clamp00, cp4])
        exact po_then (fun M1 hM1 => fin M1 hM1 (fun s' hs => by cases hs; exact q))
    · skip
      refine pm_ent (L := [some (.ref 52), some (.int (nI v))]) rfl (Nat.le_of_ble_eq_true rfl) ?_
      refine pw_blk (mi := mz_251) (b := bz_251_0) rfl rfl ?_
      simp only [bz_251_0, pz_cut_t, pz_cut_f, pz_cut_n, pv_gt, pv_ts, pv_tn, ev_ild1, ev_ald0, ev_eld0, ev_gf9_0, ev_ic_le, pz_wi_gc, pz_wi_ga, pz_wi_gn, pz_wi_gl, pz_wi_gr, pz_wi_same, pz_wi_X, pz_wl_gc, pz_wl_ga, pz_wl_gn, pz_wl_gi, pz_wl_gr, pz_wl_same, pz_wl_X, pz_wr_gc, pz_wr_ga, pz_wr_gn, pz_wr_gi, pz_wr_gl, pz_wr_same, pz_wr_X, so_52 hS, w2]
      (try simp (disch := omega) only [nI_clamp, pz_in_nI2, pz_in_nI2L, pv_gt, nI_add, nI_addL, nI_Ladd, pk_mul, nI_mulL, nI_Lmul, pk_sub, nI_subL, nI_Lsub, nI_inc, nI_clampL, Nat.add_sub_cancel, pz_wi_else, pz_wl_else, vu_eq, vu_ne, pz_wi_gc, pz_wi_ga, pz_wi_gn, pz_wi_gl, pz_wi_gr, pz_wi_same, pz_wi_X, pz_wl_gc, pz_wl_ga, pz_wl_gn, pz_wl_gi, pz_wl_gr, pz_wl_same, pz_wl_X, pz_wr_gc, pz_wr_ga, pz_wr_gn, pz_wr_gi, pz_wr_gl, pz_wr_same, pz_wr_X, w2])
      refine po_brP (fun q0 => ?_) (fun q0 => ?_)
      · skip
        (try simp (disch := omega) only [nI_ltI, nI_leI, nI_eq, nI_ltL, nI_leL, nI_eqL, nI_Llt, nI_Lle, nI_Leq, nI_eqm, nI_meq, nI_ltm, nI_lem, nI_mlt, nI_mle, lg0, lgl, lgg, lgle, lgge, Int32.not_lt, Int32.not_le, Int64.not_lt, Int64.not_le, not_false_eq_true, not_true_eq_false, Decidable.not_not, ge_iff_le, gt_iff_lt] at q0)
        refine pw_blk (mi := mz_251) (b := bz_251_27) rfl rfl ?_
        simp only [bz_251_27, pz_cut_t, pz_cut_f, pz_cut_n, pv_gt, pv_ts, pv_tn, ev_ret, pz_wi_gc, pz_wi_ga, pz_wi_gn, pz_wi_gl, pz_wi_gr, pz_wi_same, pz_wi_X, pz_wl_gc, pz_wl_ga, pz_wl_gn, pz_wl_gi, pz_wl_gr, pz_wl_same, pz_wl_X, pz_wr_gc, pz_wr_ga, pz_wr_gn, pz_wr_gi, pz_wr_gl, pz_wr_same, pz_wr_X, w2]
        (try simp (disch := omega) only [nI_clamp, pz_in_nI2, pz_in_nI2L, pv_gt, nI_add, nI_addL, nI_Ladd, pk_mul, nI_mulL, nI_Lmul, pk_sub, nI_subL, nI_Lsub, nI_inc, nI_clampL, Nat.add_sub_cancel, pz_wi_else, pz_wl_else, vu_eq, vu_ne, pz_wi_gc, pz_wi_ga, pz_wi_gn, pz_wi_gl, pz_wi_gr, pz_wi_same, pz_wi_X, pz_wl_gc, pz_wl_ga, pz_wl_gn, pz_wl_gi, pz_wl_gr, pz_wl_same, pz_wl_X, pz_wr_gc, pz_wr_ga, pz_wr_gn, pz_wr_gi, pz_wr_gl, pz_wr_same, pz_wr_X, w2])
        refine po_ret (K M sm.rf ?_)
        rw [show tr2 (some s) v a = some s from if_neg q]
        exact hb
      · first
        | exact absurd q0 (by decide)
        | exact absurd trivial q0
        | exact q0.elim
        | (exfalso; (try simp (disch := omega) only [nI_ltI, nI_leI, nI_eq, nI_ltL, nI_leL, nI_eqL, nI_Llt, nI_Lle, nI_Leq, nI_eqm, nI_meq, nI_ltm, nI_lem, nI_mlt, nI_mle, lg0, lgl, lgg, lgle, lgge, Int32.not_lt, Int32.not_le, Int64.not_lt, Int64.not_le, not_false_eq_true, not_true_eq_false, Decidable.not_not, ge_iff_le, gt_iff_lt] at q0) <;> omega)
        | exact absurd q0 (by with_reducible assumption)
        | exact absurd (by with_reducible assumption) q0
        | exact absurd (Decidable.not_not.mp q0) (by with_reducible assumption)
        | exact absurd (by with_reducible assumption) (Int32.not_le.mpr q0)
        | exact absurd (by with_reducible assumption) (Int32.not_lt.mpr q0)
theorem bs2.fr {n N : Nat} {S : Bs2} (x : bs2 M n N S) (e1 : gi M' 52 = gi M 52) (e2 : gi M' 55 = gi M 55) : bs2 M' n N S := by
  unfold bs2 at x ⊢
  rw [e1, e2]
  exact x
/-- what a day's trial leaves alone -/
def tdF (day : Nat) (M M' : pz_M) : Prop := sg KT M M' ∧ (∀ k, 56 ≤ k → k < 61 + 5 * day → gi M' k = gi M k) ∧ (∀ k, k < day → gi M' 54 k = gi M 54 k)
theorem tdF.tr {day : Nat} {M'' : pz_M} (a : tdF day M M') (b : tdF day M' M'') : tdF day M M'' := ⟨a.1.tr b.1 (fun _ z => z), fun k h1 h2 => (b.2.1 k h1 h2).trans (a.2.1 k h1 h2), fun k h => (b.2.2 k h).trans (a.2.2 k h)⟩
theorem kt_mem {day : Nat} (h : day + 1 ≤ 4) : ∀ k, k ∈ [56 + 5 * (day + 1), 56 + 5 * (day + 1) + 1, 56 + 5 * (day + 1) + 2, 56 + 5 * (day + 1) + 3, 56 + 5 * (day + 1) + 4] → k ∈ KT ∧ 61 + 5 * day ≤ k := by
  have hd : day = 0 ∨ day = 1 ∨ day = 2 ∨ day = 3 := by omega
  rcases hd with rfl | rfl | rfl | rfl <;> decide
theorem dig_lt {N m k q p : Nat} (hN : 0 < N) (hk : k < m) : (p * N + q) / N ^ (m - k) % N = (p * N + q) / N / N ^ (m - 1 - k) % N := by
  rw [Nat.div_div_eq_div_mul, show N * N ^ (m - 1 - k) = N ^ (m - k) by rw [Nat.mul_comm, ← Nat.pow_succ, show (m - 1 - k).succ = m - k by omega]]
theorem m_tryDay {X : DyE} {N n cr wk sv er D E : Nat} {al : Nat → Nat → Nat} {V : (Nat → T3) → Nat} (hok : X.ok N) (hN0 : 0 < N) (hn : n ≤ 4) (h0 : 0 < X.B) (sv2 : sv ≤ 24) (er2 : er ≤ 24) (hD : D < 2 ^ 24) (hE : E < 2 ^ 24) (hV : ∀ R : Nat → T3, (∀ i, rT (R i)) → endJ al cr wk sv er X.B D E (fun i => (R i).1) (-1) 0 = nI (V R) ∧ V R ≤ 1000000) : ∀ c day, day + c = n → ∀ (d : Nat) (M : pz_M) (Q : Option Value × pz_M → Prop) (R R1 : Nat → T3) (y p : Nat) (S : Bs2), 12 + 2 * c ≤ d → plC M X N al cr wk sv er → zz M → isT M (56 + 5 * day) R1 → eq12 R1 R → (∀ i, rT (R i)) → gi M (56 + 5 * day) 4 = nI D → gi M (56 + 5 * day) 5 = nI E → gi M (56 + 5 * day) 6 = nI y → (∀ k, k < day → gi M 54 k = nI (p / N ^ (day - 1 - k) % N)) → bs2 M n N S → (∀ M', tdF day M M' → zz M' → bs2 M' n N (tS X V N c R y p S) → Q (none, M')) → pm d 218 [.ref 52, .int (nI day), .int (nI n)] M Q := by
  intro c
  induction c with
  | zero =>
    intro day hday d M Q R R1 y p S hd x z hT e12 hr xD xE xy hrow hb K
    have hS := x.1
    have hdn : day = n := by omega
    obtain ⟨mD, gD, oD⟩ := hS.dm (k := day) (by omega)
    obtain ⟨x1, ⟨l0, l1, b1, p1, l2, l3, l4, l5⟩, x3, x4⟩ := id x
    have vv := hV R hr
    have ga : gr M 53 (nI day).toNatClampNeg = .ref (56 + 5 * day) := by rw [nI_clamp (by omega)]; exact gD
    subst hdn
    refine pm_ent (L := [some (.ref 52), some (.int (nI day)), some (.int (nI day)), none]) rfl (Nat.le_of_ble_eq_true rfl) ?_
    refine pw_blk (mi := mz_218) (b := bz_218_0) rfl rfl ?_
    simp only [bz_218_0, pz_cut_t, pz_cut_f, pz_cut_n, pv_gt, pv_ts, pv_tn, ev_ild1, ev_ild2, ev_ic_ge, pz_wi_gc, pz_wi_ga, pz_wi_gn, pz_wi_gl, pz_wi_gr, pz_wi_same, pz_wi_X, pz_wl_gc, pz_wl_ga, pz_wl_gn, pz_wl_gi, pz_wl_gr, pz_wl_same, pz_wl_X, pz_wr_gc, pz_wr_ga, pz_wr_gn, pz_wr_gi, pz_wr_gl, pz_wr_same, pz_wr_X]
    (try simp (disch := omega) only [nI_clamp, pz_in_nI2, pz_in_nI2L, pv_gt, nI_add, nI_addL, nI_Ladd, pk_mul, nI_mulL, nI_Lmul, pk_sub, nI_subL, nI_Lsub, nI_inc, nI_clampL, Nat.add_sub_cancel, pz_wi_else, pz_wl_else, vu_eq, vu_ne, pz_wi_gc, pz_wi_ga, pz_wi_gn, pz_wi_gl, pz_wi_gr, pz_wi_same, pz_wi_X, pz_wl_gc, pz_wl_ga, pz_wl_gn, pz_wl_gi, pz_wl_gr, pz_wl_same, pz_wl_X, pz_wr_gc, pz_wr_ga, pz_wr_gn, pz_wr_gi, pz_wr_gl, pz_wr_same, pz_wr_X])
    refine po_brP (fun q0 => ?_) (fun q0 => ?_)
    · skip
      (try simp (disch := omega) only [nI_ltI, nI_leI, nI_eq, nI_ltL, nI_leL, nI_eqL, nI_Llt, nI_Lle, nI_Leq, nI_eqm, nI_meq, nI_ltm, nI_lem, nI_mlt, nI_mle, lg0, lgl, lgg, lgle, lgge, Int32.not_lt, Int32.not_le, Int64.not_lt, Int64.not_le, not_false_eq_true, not_true_eq_false, Decidable.not_not, ge_iff_le, gt_iff_lt] at q0)
      refine pw_blk (mi := mz_218) (b := bz_218_10) rfl rfl ?_
      simp only [bz_218_10, pz_cut_t, pz_cut_f, pz_cut_n, pv_gt, pv_ts, pv_tn, ev_ald0, ev_eld0, ev_gf9_2, ev_ild1, ev_cv1_1, pz_wi_gc, pz_wi_ga, pz_wi_gn, pz_wi_gl, pz_wi_gr, pz_wi_same, pz_wi_X, pz_wl_gc, pz_wl_ga, pz_wl_gn, pz_wl_gi, pz_wl_gr, pz_wl_same, pz_wl_X, pz_wr_gc, pz_wr_ga, pz_wr_gn, pz_wr_gi, pz_wr_gl, pz_wr_same, pz_wr_X, so_52 hS, sr_52_1 hS, so_39 hS, sr_52_2 hS, sa_53 hS, sn_53 hS, ea_aald (i := nI day) (sa_53 hS) ga, sn_53 hS, oD]
      (try simp (disch := omega) only [nI_clamp, pz_in_nI2, pz_in_nI2L, pv_gt, nI_add, nI_addL, nI_Ladd, pk_mul, nI_mulL, nI_Lmul, pk_sub, nI_subL, nI_Lsub, nI_inc, nI_clampL, Nat.add_sub_cancel, pz_wi_else, pz_wl_else, vu_eq, vu_ne, pz_wi_gc, pz_wi_ga, pz_wi_gn, pz_wi_gl, pz_wi_gr, pz_wi_same, pz_wi_X, pz_wl_gc, pz_wl_ga, pz_wl_gn, pz_wl_gi, pz_wl_gr, pz_wl_same, pz_wl_X, pz_wr_gc, pz_wr_ga, pz_wr_gn, pz_wr_gi, pz_wr_gl, pz_wr_same, pz_wr_X, ea_aald (i := nI day) (sa_53 hS) ga, sn_53 hS, oD])
      (try refine po_gI (by first | exact pz_in_nI (by omega) (by decide) | decide | assumption) ?_)
      (try refine po_gP (Nat.le_of_ble_eq_true rfl) ?_)
      refine po_call (by omega) (m_endOf (h := fun i => (R i).1) (by omega) hS mD (by omega) x3 b1 hok.1 h0 l2 l3 l4 sv2 l5 er2 hD hE xD xE (by rw [hT.1, e12.1]) (fun M1 s1 => ?_))
      rw [vv.1]
      have hS1 := s1.S
      refine pw_blk (mi := mz_218) (b := bz_218_24) rfl rfl ?_
      simp only [bz_218_24, pz_cut_t, pz_cut_f, pz_cut_n, pv_gt, pv_ts, pv_tn, ev_cv1_9, pz_wi_gc, pz_wi_ga, pz_wi_gn, pz_wi_gl, pz_wi_gr, pz_wi_same, pz_wi_X, pz_wl_gc, pz_wl_ga, pz_wl_gn, pz_wl_gi, pz_wl_gr, pz_wl_same, pz_wl_X, pz_wr_gc, pz_wr_ga, pz_wr_gn, pz_wr_gi, pz_wr_gl, pz_wr_same, pz_wr_X, so_52 hS, so_52 hS1]
      (try simp (disch := omega) only [nI_clamp, pz_in_nI2, pz_in_nI2L, pv_gt, nI_add, nI_addL, nI_Ladd, pk_mul, nI_mulL, nI_Lmul, pk_sub, nI_subL, nI_Lsub, nI_inc, nI_clampL, Nat.add_sub_cancel, pz_wi_else, pz_wl_else, vu_eq, vu_ne, pz_wi_gc, pz_wi_ga, pz_wi_gn, pz_wi_gl, pz_wi_gr, pz_wi_same, pz_wi_X, pz_wl_gc, pz_wl_ga, pz_wl_gn, pz_wl_gi, pz_wl_gr, pz_wl_same, pz_wl_X, pz_wr_gc, pz_wr_ga, pz_wr_gn, pz_wr_gi, pz_wr_gl, pz_wr_same, pz_wr_X, so_52 hS1])
      (try refine po_gP (Nat.le_of_ble_eq_true rfl) ?_)
      refine po_call (by omega) (m_compare2 (a := p) hn hS1 (hb.fr (s1.i (by decide)) (s1.i (by decide))) vv.2 (fun k hk => by rw [s1.i (by decide)]; exact hrow k hk) (fun M2 s2 hb2 => ?_))
      refine pw_blk (mi := mz_218) (b := bz_218_27) rfl rfl ?_
      simp only [bz_218_27, pz_cut_t, pz_cut_f, pz_cut_n, pv_gt, pv_ts, pv_tn, ev_ret, pz_wi_gc, pz_wi_ga, pz_wi_gn, pz_wi_gl, pz_wi_gr, pz_wi_same, pz_wi_X, pz_wl_gc, pz_wl_ga, pz_wl_gn, pz_wl_gi, pz_wl_gr, pz_wl_same, pz_wl_X, pz_wr_gc, pz_wr_ga, pz_wr_gn, pz_wr_gi, pz_wr_gl, pz_wr_same, pz_wr_X]
      (try simp (disch := omega) only [nI_clamp, pz_in_nI2, pz_in_nI2L, pv_gt, nI_add, nI_addL, nI_Ladd, pk_mul, nI_mulL, nI_Lmul, pk_sub, nI_subL, nI_Lsub, nI_inc, nI_clampL, Nat.add_sub_cancel, pz_wi_else, pz_wl_else, vu_eq, vu_ne, pz_wi_gc, pz_wi_ga, pz_wi_gn, pz_wi_gl, pz_wi_gr, pz_wi_same, pz_wi_X, pz_wl_gc, pz_wl_ga, pz_wl_gn, pz_wl_gi, pz_wl_gr, pz_wl_same, pz_wl_X, pz_wr_gc, pz_wr_ga, pz_wr_gn, pz_wr_gi, pz_wr_gl, pz_wr_same, pz_wr_X])
      refine po_ret (K M2 ⟨(s1.mono (by decide)).tr (s2.sg hS1) (by decide), ?_, ?_⟩ ?_ hb2)
      · intro k h1 h2
        rw [s2.i (by simp; omega), s1.i (by simp; omega)]
      · intro k h1
        rw [s2.i (by decide), s1.i (by decide)]
      · intro k hk i hi
        rw [s2.i (k := 57 + 5 * k) (by simp; omega), s2.i (k := 58 + 5 * k) (by simp; omega), s2.i (k := 59 + 5 * k) (by simp; omega), s1.i (k := 57 + 5 * k) (by simp; omega), s1.i (k := 58 + 5 * k) (by simp; omega), s1.i (k := 59 + 5 * k) (by simp; omega)]
        exact z k hk i hi
    · first
      | exact absurd q0 (by decide)
      | exact absurd trivial q0
      | exact q0.elim
      | (exfalso; (try simp (disch := omega) only [nI_ltI, nI_leI, nI_eq, nI_ltL, nI_leL, nI_eqL, nI_Llt, nI_Lle, nI_Leq, nI_eqm, nI_meq, nI_ltm, nI_lem, nI_mlt, nI_mle, lg0, lgl, lgg, lgle, lgge, Int32.not_lt, Int32.not_le, Int64.not_lt, Int64.not_le, not_false_eq_true, not_true_eq_false, Decidable.not_not, ge_iff_le, gt_iff_lt] at q0) <;> omega)
      | exact absurd q0 (by with_reducible assumption)
      | exact absurd (by with_reducible assumption) q0
      | exact absurd (Decidable.not_not.mp q0) (by with_reducible assumption)
      | exact absurd (by with_reducible assumption) (Int32.not_le.mpr q0)
      | exact absurd (by with_reducible assumption) (Int32.not_lt.mpr q0)
  | succ c ih =>
    intro day hday d M Q R R1 y p S hd x z hT e12 hr xD xE xy hrow hb K
    have hS := x.1
    have hN6 := hok.2.2.1
    have key : ∀ q, q ≤ N → ∀ M', tdF day M M' → zz M' → bs2 M' n N (tF X V N c R y p q S) → pw d 218 (30, [some (.ref 52), some (.int (nI day)), some (.int (nI n)), some (.int (nI q))], [], M') Q := by
      refine upto (fun q hq ihq => ?_)
      intro M' f' z' hb'
      have x' := x.fr f'.1
      have hS' := x'.1
      obtain ⟨-, ⟨l0, l1, b1, p1, l2, l3, l4, l5⟩, x3, x4⟩ := id x'
      by_cases hqN : q = N
      · subst hqN
        refine pw_blk (mi := mz_218) (b := bz_218_30) rfl rfl ?_
        simp only [bz_218_30, pz_cut_t, pz_cut_f, pz_cut_n, pv_gt, pv_ts, pv_tn, ev_ild3, ev_ald0, ev_eld0, ev_gf9_2, ev_gf8_0, ev_ic_ge, pz_wi_gc, pz_wi_ga, pz_wi_gn, pz_wi_gl, pz_wi_gr, pz_wi_same, pz_wi_X, pz_wl_gc, pz_wl_ga, pz_wl_gn, pz_wl_gi, pz_wl_gr, pz_wl_same, pz_wl_X, pz_wr_gc, pz_wr_ga, pz_wr_gn, pz_wr_gi, pz_wr_gl, pz_wr_same, pz_wr_X, so_52 hS', sr_52_0 hS', so_4 hS', p1]
        (try simp (disch := omega) only [nI_clamp, pz_in_nI2, pz_in_nI2L, pv_gt, nI_add, nI_addL, nI_Ladd, pk_mul, nI_mulL, nI_Lmul, pk_sub, nI_subL, nI_Lsub, nI_inc, nI_clampL, Nat.add_sub_cancel, pz_wi_else, pz_wl_else, vu_eq, vu_ne, pz_wi_gc, pz_wi_ga, pz_wi_gn, pz_wi_gl, pz_wi_gr, pz_wi_same, pz_wi_X, pz_wl_gc, pz_wl_ga, pz_wl_gn, pz_wl_gi, pz_wl_gr, pz_wl_same, pz_wl_X, pz_wr_gc, pz_wr_ga, pz_wr_gn, pz_wr_gi, pz_wr_gl, pz_wr_same, pz_wr_X, p1])
        refine po_brP (fun q30 => ?_) (fun q30 => ?_)
        · skip
          (try simp (disch := omega) only [nI_ltI, nI_leI, nI_eq, nI_ltL, nI_leL, nI_eqL, nI_Llt, nI_Lle, nI_Leq, nI_eqm, nI_meq, nI_ltm, nI_lem, nI_mlt, nI_mle, lg0, lgl, lgg, lgle, lgge, Int32.not_lt, Int32.not_le, Int64.not_lt, Int64.not_le, not_false_eq_true, not_true_eq_false, Decidable.not_not, ge_iff_le, gt_iff_lt] at q30)
          refine pw_blk (mi := mz_218) (b := bz_218_95) rfl rfl ?_
          simp only [bz_218_95, pz_cut_t, pz_cut_f, pz_cut_n, pv_gt, pv_ts, pv_tn, ev_ret, pz_wi_gc, pz_wi_ga, pz_wi_gn, pz_wi_gl, pz_wi_gr, pz_wi_same, pz_wi_X, pz_wl_gc, pz_wl_ga, pz_wl_gn, pz_wl_gi, pz_wl_gr, pz_wl_same, pz_wl_X, pz_wr_gc, pz_wr_ga, pz_wr_gn, pz_wr_gi, pz_wr_gl, pz_wr_same, pz_wr_X, p1]
          (try simp (disch := omega) only [nI_clamp, pz_in_nI2, pz_in_nI2L, pv_gt, nI_add, nI_addL, nI_Ladd, pk_mul, nI_mulL, nI_Lmul, pk_sub, nI_subL, nI_Lsub, nI_inc, nI_clampL, Nat.add_sub_cancel, pz_wi_else, pz_wl_else, vu_eq, vu_ne, pz_wi_gc, pz_wi_ga, pz_wi_gn, pz_wi_gl, pz_wi_gr, pz_wi_same, pz_wi_X, pz_wl_gc, pz_wl_ga, pz_wl_gn, pz_wl_gi, pz_wl_gr, pz_wl_same, pz_wl_X, pz_wr_gc, pz_wr_ga, pz_wr_gn, pz_wr_gi, pz_wr_gl, pz_wr_same, pz_wr_X, p1])
          exact po_ret (K M' f' z' hb')
        · first
          | exact absurd q30 (by decide)
          | exact absurd trivial q30
          | exact q30.elim
          | (exfalso; (try simp (disch := omega) only [nI_ltI, nI_leI, nI_eq, nI_ltL, nI_leL, nI_eqL, nI_Llt, nI_Lle, nI_Leq, nI_eqm, nI_meq, nI_ltm, nI_lem, nI_mlt, nI_mle, lg0, lgl, lgg, lgle, lgge, Int32.not_lt, Int32.not_le, Int64.not_lt, Int64.not_le, not_false_eq_true, not_true_eq_false, Decidable.not_not, ge_iff_le, gt_iff_lt] at q30) <;> omega)
          | exact absurd q30 (by with_reducible assumption)
          | exact absurd (by with_reducible assumption) q30
          | exact absurd (Decidable.not_not.mp q30) (by with_reducible assumption)
          | exact absurd (by with_reducible assumption) (Int32.not_le.mpr q30)
          | exact absurd (by with_reducible assumption) (Int32.not_lt.mpr q30)
      · obtain ⟨mD, gD, oD⟩ := hS'.dm (k := day) (by omega)
        obtain ⟨mD1, gD1, oD1⟩ := hS'.dm (k := day + 1) (by omega)
        have ga : gr M' 53 (nI day).toNatClampNeg = .ref (56 + 5 * day) := by rw [nI_clamp (by omega)]; exact gD
        have ga1 : gr M' 53 (nI day + 1).toNatClampNeg = .ref (56 + 5 * (day + 1)) := by rw [nI_1, nI_clamp (by omega)]; exact gD1
        have hqN' : q < N := by omega
        obtain ⟨v1, v2, v3, v4⟩ := x4 q hqN'
        obtain ⟨w1, w2, w3, w4⟩ := hok.2.2.2.2.1 q hqN'
        have hB := hok.1
        have s0 : sm [54] M' (pz_wi M' 54 (va_up (gi M' 54) day (nI q))) := sm.wi sm.rf (by decide)
        have hS0 := hS'.sm s0
        have km := kt_mem (day := day) (by omega)
        refine pw_blk (mi := mz_218) (b := bz_218_30) rfl rfl ?_
        simp only [bz_218_30, pz_cut_t, pz_cut_f, pz_cut_n, pv_gt, pv_ts, pv_tn, ev_ild3, ev_ald0, ev_eld0, ev_gf9_2, ev_gf8_0, ev_ic_ge, pz_wi_gc, pz_wi_ga, pz_wi_gn, pz_wi_gl, pz_wi_gr, pz_wi_same, pz_wi_X, pz_wl_gc, pz_wl_ga, pz_wl_gn, pz_wl_gi, pz_wl_gr, pz_wl_same, pz_wl_X, pz_wr_gc, pz_wr_ga, pz_wr_gn, pz_wr_gi, pz_wr_gl, pz_wr_same, pz_wr_X, so_52 hS', sr_52_0 hS', so_4 hS', p1]
        (try simp (disch := omega) only [nI_clamp, pz_in_nI2, pz_in_nI2L, pv_gt, nI_add, nI_addL, nI_Ladd, pk_mul, nI_mulL, nI_Lmul, pk_sub, nI_subL, nI_Lsub, nI_inc, nI_clampL, Nat.add_sub_cancel, pz_wi_else, pz_wl_else, vu_eq, vu_ne, pz_wi_gc, pz_wi_ga, pz_wi_gn, pz_wi_gl, pz_wi_gr, pz_wi_same, pz_wi_X, pz_wl_gc, pz_wl_ga, pz_wl_gn, pz_wl_gi, pz_wl_gr, pz_wl_same, pz_wl_X, pz_wr_gc, pz_wr_ga, pz_wr_gn, pz_wr_gi, pz_wr_gl, pz_wr_same, pz_wr_X, p1])
        refine po_brP (fun q30 => ?_) (fun q30 => ?_)
        · first
          | exact absurd q30 (by decide)
          | exact absurd trivial q30
          | exact q30.elim
          | (exfalso; (try simp (disch := omega) only [nI_ltI, nI_leI, nI_eq, nI_ltL, nI_leL, nI_eqL, nI_Llt, nI_Lle, nI_Leq, nI_eqm, nI_meq, nI_ltm, nI_lem, nI_mlt, nI_mle, lg0, lgl, lgg, lgle, lgge, Int32.not_lt, Int32.not_le, Int64.not_lt, Int64.not_le, not_false_eq_true, not_true_eq_false, Decidable.not_not, ge_iff_le, gt_iff_lt] at q30) <;> omega)
          | exact absurd q30 (by with_reducible assumption)
          | exact absurd (by with_reducible assumption) q30
          | exact absurd (Decidable.not_not.mp q30) (by with_reducible assumption)
          | exact absurd (by with_reducible assumption) (Int32.not_le.mpr q30)
          | exact absurd (by with_reducible assumption) (Int32.not_lt.mpr q30)
        · skip
          (try simp (disch := omega) only [nI_ltI, nI_leI, nI_eq, nI_ltL, nI_leL, nI_eqL, nI_Llt, nI_Lle, nI_Leq, nI_eqm, nI_meq, nI_ltm, nI_lem, nI_mlt, nI_mle, lg0, lgl, lgg, lgle, lgge, Int32.not_lt, Int32.not_le, Int64.not_lt, Int64.not_le, not_false_eq_true, not_true_eq_false, Decidable.not_not, ge_iff_le, gt_iff_lt] at q30)
          refine pw_blk (mi := mz_218) (b := bz_218_41) rfl rfl ?_
          simp only [bz_218_41, pz_cut_t, pz_cut_f, pz_cut_n, pv_gt, pv_ts, pv_tn, ev_ald0, ev_eld0, ev_gf9_2, ev_ild1, ev_ild3, ea_iast, ev_ic1, ev_iadd, ev_cv1_3, pz_wi_gc, pz_wi_ga, pz_wi_gn, pz_wi_gl, pz_wi_gr, pz_wi_same, pz_wi_X, pz_wl_gc, pz_wl_ga, pz_wl_gn, pz_wl_gi, pz_wl_gr, pz_wl_same, pz_wl_X, pz_wr_gc, pz_wr_ga, pz_wr_gn, pz_wr_gi, pz_wr_gl, pz_wr_same, pz_wr_X, so_52 hS', sr_52_3 hS', sa_54 hS', sn_54 hS', sr_52_2 hS', sa_53 hS', sn_53 hS', p1, ea_aald (M := pz_wi M' 54 (va_up (gi M' 54) (nI day).toNatClampNeg (nI q))) (i := nI day) (sa_53 hS') ga, ea_aald (M := pz_wi M' 54 (va_up (gi M' 54) (nI day).toNatClampNeg (nI q))) (i := nI day + 1) (sa_53 hS') ga1, sn_53 hS', oD, oD1]
          (try simp (disch := omega) only [nI_clamp, pz_in_nI2, pz_in_nI2L, pv_gt, nI_add, nI_addL, nI_Ladd, pk_mul, nI_mulL, nI_Lmul, pk_sub, nI_subL, nI_Lsub, nI_inc, nI_clampL, Nat.add_sub_cancel, pz_wi_else, pz_wl_else, vu_eq, vu_ne, pz_wi_gc, pz_wi_ga, pz_wi_gn, pz_wi_gl, pz_wi_gr, pz_wi_same, pz_wi_X, pz_wl_gc, pz_wl_ga, pz_wl_gn, pz_wl_gi, pz_wl_gr, pz_wl_same, pz_wl_X, pz_wr_gc, pz_wr_ga, pz_wr_gn, pz_wr_gi, pz_wr_gl, pz_wr_same, pz_wr_X, p1, ea_aald (M := pz_wi M' 54 (va_up (gi M' 54) (nI day).toNatClampNeg (nI q))) (i := nI day) (sa_53 hS') ga, ea_aald (M := pz_wi M' 54 (va_up (gi M' 54) (nI day).toNatClampNeg (nI q))) (i := nI day + 1) (sa_53 hS') ga1, sn_53 hS', oD, oD1])
          (try refine po_gI (by first | exact pz_in_nI (by omega) (by decide) | decide | assumption) ?_)
          (try refine po_gI (by first | exact pz_in_nI (by omega) (by decide) | decide | assumption) ?_)
          (try refine po_gI (by first | exact pz_in_nI (by omega) (by decide) | decide | assumption) ?_)
          (try refine po_gP (Nat.le_of_ble_eq_true rfl) ?_)
          refine po_call (by omega) (m_copyFrom (mD1.sm s0) (mD.sm s0) (by omega) (fun M1 s1 a1 a2 a3 a4 a5 => ?_))
          have s01 := (s0.mono (K' := KT) (by decide)).tr s1 (fun k hk => (km k hk).1)
          have hS1 := hS'.sm s01
          obtain ⟨nD1, hD1, pD1⟩ := hS1.dm (k := day + 1) (by omega)
          have gb1 : gr M1 53 (nI day + 1).toNatClampNeg = .ref (56 + 5 * (day + 1)) := by rw [nI_1, nI_clamp (by omega)]; exact hD1
          have e57 : gi M1 (56 + 5 * (day + 1) + 1) = fun i => (R i).1 := by
            rw [a1, pz_wi_else (by omega), pz_wi_else (by omega), f'.2.1 _ (by omega) (by omega), show gi M (56 + 5 * day + 1) = _ from hT.1, e12.1]
            funext i
            by_cases hi : i < 24
            · rw [rowG_lt hi]
            · have q1 := congrFun e12.1 i
              have q2 := congrFun hT.1 i
              have q3 := (z day (by omega) i (by omega)).1
              have q4 := (z' (day + 1) (by omega) i (by omega)).1
              rw [rowG_ge (by omega), show 56 + 5 * (day + 1) + 1 = 57 + 5 * (day + 1) by omega, q4, ← show (R1 i).1 = (R i).1 from q1, ← show gi M (56 + 5 * day + 1) i = (R1 i).1 from q2, show 56 + 5 * day + 1 = 57 + 5 * day by omega, q3]
          have e58 : gi M1 (56 + 5 * (day + 1) + 2) = fun i => (R i).2.1 := by
            rw [a2, pz_wi_else (by omega), pz_wi_else (by omega), f'.2.1 _ (by omega) (by omega), show gi M (56 + 5 * day + 2) = _ from hT.2.1, e12.2]
            funext i
            by_cases hi : i < 24
            · rw [rowG_lt hi]
            · have q1 := congrFun e12.2 i
              have q2 := congrFun hT.2.1 i
              have q3 := (z day (by omega) i (by omega)).2.1
              have q4 := (z' (day + 1) (by omega) i (by omega)).2.1
              rw [rowG_ge (by omega), show 56 + 5 * (day + 1) + 2 = 58 + 5 * (day + 1) by omega, q4, ← show (R1 i).2.1 = (R i).2.1 from q1, ← show gi M (56 + 5 * day + 2) i = (R1 i).2.1 from q2, show 56 + 5 * day + 2 = 58 + 5 * day by omega, q3]
          have g6 : gi M1 (56 + 5 * (day + 1)) 6 = nI y := by rw [a5, vu_ne (by decide), vu_eq, pz_wi_else (by omega), f'.2.1 _ (by omega) (by omega)]; exact xy
          refine pw_blk (mi := mz_218) (b := bz_218_65) rfl rfl ?_
          simp only [bz_218_65, pz_cut_t, pz_cut_f, pz_cut_n, pv_gt, pv_ts, pv_tn, ev_ald0, ev_eld0, ev_gf9_2, ev_ild1, ev_ic1, ev_iadd, ev_ild3, ev_cv2_3, pz_wi_gc, pz_wi_ga, pz_wi_gn, pz_wi_gl, pz_wi_gr, pz_wi_same, pz_wi_X, pz_wl_gc, pz_wl_ga, pz_wl_gn, pz_wl_gi, pz_wl_gr, pz_wl_same, pz_wl_X, pz_wr_gc, pz_wr_ga, pz_wr_gn, pz_wr_gi, pz_wr_gl, pz_wr_same, pz_wr_X, so_52 hS', sr_52_2 hS', sa_53 hS', sn_53 hS', sr_52_0 hS', so_4 hS', p1, ea_aald (i := nI day + 1) (sa_53 hS1) gb1, sn_53 hS1, so_52 hS1, sr_52_2 hS1, sr_52_0 hS1, pD1]
          (try simp (disch := omega) only [nI_clamp, pz_in_nI2, pz_in_nI2L, pv_gt, nI_add, nI_addL, nI_Ladd, pk_mul, nI_mulL, nI_Lmul, pk_sub, nI_subL, nI_Lsub, nI_inc, nI_clampL, Nat.add_sub_cancel, pz_wi_else, pz_wl_else, vu_eq, vu_ne, pz_wi_gc, pz_wi_ga, pz_wi_gn, pz_wi_gl, pz_wi_gr, pz_wi_same, pz_wi_X, pz_wl_gc, pz_wl_ga, pz_wl_gn, pz_wl_gi, pz_wl_gr, pz_wl_same, pz_wl_X, pz_wr_gc, pz_wr_ga, pz_wr_gn, pz_wr_gi, pz_wr_gl, pz_wr_same, pz_wr_X, p1, ea_aald (i := nI day + 1) (sa_53 hS1) gb1, sn_53 hS1, so_52 hS1, sr_52_2 hS1, sr_52_0 hS1, pD1])
          (try refine po_gI (by first | exact pz_in_nI (by omega) (by decide) | decide | assumption) ?_)
          (try refine po_gP (Nat.le_of_ble_eq_true rfl) ?_)
          refine po_call (by omega) (m_follow (g := X.g) (f := X.f) (N := X.B) (R := fun i => ((R i).1, (R i).2.1, gi M1 (56 + 5 * (day + 1) + 4) i)) (by omega) hS1 nD1 (by omega) ⟨e57, e58, rfl⟩ (by omega) (by rw [s01.i (by decide)]; exact v1) (by rw [s01.i (by decide)]; exact v2) (by rw [s01.i (by decide)]; exact v3) (by rw [s01.i (by decide)]; exact v4) (by omega) w3 w4 w1 (by rw [s01.i (by decide)]; exact l0) (by rw [s01.i (by decide)]; exact l1) (by rw [s01.i (by decide)]; exact b1) hB (fun M2 s2 b0 t2 b3 => ?_))
          have s02 := s01.tr s2 (fun k hk => (km k hk).1)
          have hS2 := hS'.sm s02
          have f2 : tdF day M' M2 := ⟨s02.sg hS', fun k h1 h2 => by rw [s2.i (fun h => by have := (km k h).2; omega), s1.i (fun h => by have := (km k h).2; omega), pz_wi_else (by omega)], fun k hk => by rw [s2.i (by simp; omega), s1.i (by simp; omega), pz_wi_same, vu_ne (by omega)]⟩
          have z2 : zz M2 := fun k hk i hi => by
            by_cases qk : k = day + 1
            · subst qk
              have u1 := congrFun t2.1 i
              have u2 := congrFun t2.2.1 i
              have ep := DyE.pn_hi (q := q) hok hqN' (R := fun i => ((R i).1, (R i).2.1, gi M1 (56 + 5 * (day + 1) + 4) i)) (y := gi M1 (56 + 5 * (day + 1)) 6) hi
              have q1 := congrFun e12.1 i
              have q2 := congrFun hT.1 i
              have q3 := z day (by omega) i hi
              have q1' := congrFun e12.2 i
              have q2' := congrFun hT.2.1 i
              refine ⟨?_, ?_, ?_⟩
              · rw [show 57 + 5 * (day + 1) = 56 + 5 * (day + 1) + 1 by omega]
                rw [u1]
                show (X.pn q _ _ i).1 = 0
                rw [ep]
                show (R i).1 = 0
                rw [← show (R1 i).1 = (R i).1 from q1, ← show gi M (56 + 5 * day + 1) i = (R1 i).1 from q2, show 56 + 5 * day + 1 = 57 + 5 * day by omega, q3.1]
              · rw [show 58 + 5 * (day + 1) = 56 + 5 * (day + 1) + 2 by omega]
                rw [u2]
                show (X.pn q _ _ i).2.1 = 0
                rw [ep]
                show (R i).2.1 = 0
                rw [← show (R1 i).2.1 = (R i).2.1 from q1', ← show gi M (56 + 5 * day + 2) i = (R1 i).2.1 from q2', show 56 + 5 * day + 2 = 58 + 5 * day by omega, q3.2.1]
              · rw [show 59 + 5 * (day + 1) = 56 + 5 * (day + 1) + 3 by omega, b3, rowF_hi (by omega), a3, rowG_ge hi, pz_wi_else (by omega), show 56 + 5 * (day + 1) + 3 = 59 + 5 * (day + 1) by omega]
                exact (z' (day + 1) (by omega) i hi).2.2
            · have no : ∀ j, j < 5 → (56 + 5 * k + j) ∉ [56 + 5 * (day + 1), 56 + 5 * (day + 1) + 1, 56 + 5 * (day + 1) + 2, 56 + 5 * (day + 1) + 3, 56 + 5 * (day + 1) + 4] := fun j hj => by simp; omega
              rw [show 57 + 5 * k = 56 + 5 * k + 1 by omega, show 58 + 5 * k = 56 + 5 * k + 2 by omega, show 59 + 5 * k = 56 + 5 * k + 3 by omega, s2.i (no 1 (by decide)), s2.i (no 2 (by decide)), s2.i (no 3 (by decide)), s1.i (no 1 (by decide)), s1.i (no 2 (by decide)), s1.i (no 3 (by decide)), pz_wi_else (by omega), pz_wi_else (by omega), pz_wi_else (by omega), show 56 + 5 * k + 1 = 57 + 5 * k by omega, show 56 + 5 * k + 2 = 58 + 5 * k by omega, show 56 + 5 * k + 3 = 59 + 5 * k by omega]
              exact z' k hk i hi
          have h12 : eq12 (fdT X.f 1 X.B (mapR (X.pa q) (X.pb q + 1) (plT X.g (gi M1 (56 + 5 * (day + 1)) 6) (X.pt q) (X.ps q)) (fun i => ((R i).1, (R i).2.1, gi M1 (56 + 5 * (day + 1) + 4) i)))) (X.pn q R (nI y)) := by
            rw [g6]
            exact eq12.pn (X := X) (q := q) (y := nI y) (R := fun i => ((R i).1, (R i).2.1, gi M1 (56 + 5 * (day + 1) + 4) i)) (R' := R) ⟨rfl, rfl⟩
          have hxD : gi M2 (56 + 5 * (day + 1)) 4 = nI D := by rw [b0, vu_ne (by decide), a5, vu_ne (by decide), vu_ne (by decide), vu_ne (by decide), vu_eq, pz_wi_else (by omega), f'.2.1 _ (by omega) (by omega)]; exact xD
          have hxE : gi M2 (56 + 5 * (day + 1)) 5 = nI E := by rw [b0, vu_ne (by decide), a5, vu_ne (by decide), vu_ne (by decide), vu_eq, pz_wi_else (by omega), f'.2.1 _ (by omega) (by omega)]; exact xE
          have hxy : gi M2 (56 + 5 * (day + 1)) 6 = nI (y + 1) := by rw [b0, vu_eq, g6, nI_1]
          have hro : ∀ k, k < day + 1 → gi M2 54 k = nI ((p * N + q) / N ^ (day + 1 - 1 - k) % N) := fun k hk => by
            rw [s2.i (by simp; omega), s1.i (by simp; omega), pz_wi_same]
            by_cases qk : k = day
            · subst qk
              rw [vu_eq, show k + 1 - 1 - k = 0 by omega, Nat.pow_zero, Nat.div_one, Nat.mul_comm, Nat.mul_add_mod, Nat.mod_eq_of_lt hqN']
            · rw [vu_ne qk, f'.2.2 k (by omega), hrow k (by omega), show day + 1 - 1 - k = day - k by omega, dig_lt hN0 (by omega), show (p * N + q) / N = p by rw [Nat.mul_comm, Nat.mul_add_div hN0, Nat.div_eq_of_lt hqN', Nat.add_zero]]
          have hbs : bs2 M2 n N (tF X V N c R y p q S) := hb'.fr (by rw [s2.i (by simp; omega), s1.i (by simp; omega), pz_wi_else (by decide)]) (by rw [s2.i (by simp; omega), s1.i (by simp; omega), pz_wi_else (by decide)])
          refine pw_blk (mi := mz_218) (b := bz_218_81) rfl rfl ?_
          simp only [bz_218_81, pz_cut_t, pz_cut_f, pz_cut_n, pv_gt, pv_ts, pv_tn, ev_ald0, ev_eld0, ev_ild1, ev_ic1, ev_iadd, ev_ild2, ev_cv2_9, pz_wi_gc, pz_wi_ga, pz_wi_gn, pz_wi_gl, pz_wi_gr, pz_wi_same, pz_wi_X, pz_wl_gc, pz_wl_ga, pz_wl_gn, pz_wl_gi, pz_wl_gr, pz_wl_same, pz_wl_X, pz_wr_gc, pz_wr_ga, pz_wr_gn, pz_wr_gi, pz_wr_gl, pz_wr_same, pz_wr_X, so_52 hS', p1, so_52 hS2]
          (try simp (disch := omega) only [nI_clamp, pz_in_nI2, pz_in_nI2L, pv_gt, nI_add, nI_addL, nI_Ladd, pk_mul, nI_mulL, nI_Lmul, pk_sub, nI_subL, nI_Lsub, nI_inc, nI_clampL, Nat.add_sub_cancel, pz_wi_else, pz_wl_else, vu_eq, vu_ne, pz_wi_gc, pz_wi_ga, pz_wi_gn, pz_wi_gl, pz_wi_gr, pz_wi_same, pz_wi_X, pz_wl_gc, pz_wl_ga, pz_wl_gn, pz_wl_gi, pz_wl_gr, pz_wl_same, pz_wl_X, pz_wr_gc, pz_wr_ga, pz_wr_gn, pz_wr_gi, pz_wr_gl, pz_wr_same, pz_wr_X, p1, so_52 hS2])
          (try refine po_gP (Nat.le_of_ble_eq_true rfl) ?_)
          refine po_call (by omega) (ih (day + 1) (by omega) _ M2 _ (X.pn q R (nI y)) _ (y + 1) (p * N + q) (tF X V N c R y p q S) (by omega) (x'.fr f2.1) z2 t2 h12 (DyE.pn_r hok hr) hxD hxE hxy hro hbs (fun M3 f3 z3 hb3 => ?_))
          refine pw_blk (mi := mz_218) (b := bz_218_89) rfl rfl ?_
          simp only [bz_218_89, pz_cut_t, pz_cut_f, pz_cut_n, pv_gt, pv_ts, pv_tn, ev_inc3n, ev_inc3i, ev_inc3r, ev_inc3e, ev_goto, pz_wi_gc, pz_wi_ga, pz_wi_gn, pz_wi_gl, pz_wi_gr, pz_wi_same, pz_wi_X, pz_wl_gc, pz_wl_ga, pz_wl_gn, pz_wl_gi, pz_wl_gr, pz_wl_same, pz_wl_X, pz_wr_gc, pz_wr_ga, pz_wr_gn, pz_wr_gi, pz_wr_gl, pz_wr_same, pz_wr_X, p1]
          (try simp (disch := omega) only [nI_clamp, pz_in_nI2, pz_in_nI2L, pv_gt, nI_add, nI_addL, nI_Ladd, pk_mul, nI_mulL, nI_Lmul, pk_sub, nI_subL, nI_Lsub, nI_inc, nI_clampL, Nat.add_sub_cancel, pz_wi_else, pz_wl_else, vu_eq, vu_ne, pz_wi_gc, pz_wi_ga, pz_wi_gn, pz_wi_gl, pz_wi_gr, pz_wi_same, pz_wi_X, pz_wl_gc, pz_wl_ga, pz_wl_gn, pz_wl_gi, pz_wl_gr, pz_wl_same, pz_wl_X, pz_wr_gc, pz_wr_ga, pz_wr_gn, pz_wr_gi, pz_wr_gl, pz_wr_same, pz_wr_X, p1])
          refine po_go ?_
          refine ihq (q + 1) (by omega) (by omega) M3 ((f'.tr f2).tr ⟨f3.1, fun k h1 h2 => f3.2.1 k h1 (by omega), fun k hk => f3.2.2 k (by omega)⟩) z3 ?_
          rw [tF_s]
          exact hb3
    refine pm_ent (L := [some (.ref 52), some (.int (nI day)), some (.int (nI n)), none]) rfl (Nat.le_of_ble_eq_true rfl) ?_
    refine pw_blk (mi := mz_218) (b := bz_218_0) rfl rfl ?_
    simp only [bz_218_0, pz_cut_t, pz_cut_f, pz_cut_n, pv_gt, pv_ts, pv_tn, ev_ild1, ev_ild2, ev_ic_ge, pz_wi_gc, pz_wi_ga, pz_wi_gn, pz_wi_gl, pz_wi_gr, pz_wi_same, pz_wi_X, pz_wl_gc, pz_wl_ga, pz_wl_gn, pz_wl_gi, pz_wl_gr, pz_wl_same, pz_wl_X, pz_wr_gc, pz_wr_ga, pz_wr_gn, pz_wr_gi, pz_wr_gl, pz_wr_same, pz_wr_X]
    (try simp (disch := omega) only [nI_clamp, pz_in_nI2, pz_in_nI2L, pv_gt, nI_add, nI_addL, nI_Ladd, pk_mul, nI_mulL, nI_Lmul, pk_sub, nI_subL, nI_Lsub, nI_inc, nI_clampL, Nat.add_sub_cancel, pz_wi_else, pz_wl_else, vu_eq, vu_ne, pz_wi_gc, pz_wi_ga, pz_wi_gn, pz_wi_gl, pz_wi_gr, pz_wi_same, pz_wi_X, pz_wl_gc, pz_wl_ga, pz_wl_gn, pz_wl_gi, pz_wl_gr, pz_wl_same, pz_wl_X, pz_wr_gc, pz_wr_ga, pz_wr_gn, pz_wr_gi, pz_wr_gl, pz_wr_same, pz_wr_X])
    refine po_brP (fun q0 => ?_) (fun q0 => ?_)
    · first
      | exact absurd q0 (by decide)
      | exact absurd trivial q0
      | exact q0.elim
      | (exfalso; (try simp (disch := omega) only [nI_ltI, nI_leI, nI_eq, nI_ltL, nI_leL, nI_eqL, nI_Llt, nI_Lle, nI_Leq, nI_eqm, nI_meq, nI_ltm, nI_lem, nI_mlt, nI_mle, lg0, lgl, lgg, lgle, lgge, Int32.not_lt, Int32.not_le, Int64.not_lt, Int64.not_le, not_false_eq_true, not_true_eq_false, Decidable.not_not, ge_iff_le, gt_iff_lt] at q0) <;> omega)
      | exact absurd q0 (by with_reducible assumption)
      | exact absurd (by with_reducible assumption) q0
      | exact absurd (Decidable.not_not.mp q0) (by with_reducible assumption)
      | exact absurd (by with_reducible assumption) (Int32.not_le.mpr q0)
      | exact absurd (by with_reducible assumption) (Int32.not_lt.mpr q0)
    · skip
      (try simp (disch := omega) only [nI_ltI, nI_leI, nI_eq, nI_ltL, nI_leL, nI_eqL, nI_Llt, nI_Lle, nI_Leq, nI_eqm, nI_meq, nI_ltm, nI_lem, nI_mlt, nI_mle, lg0, lgl, lgg, lgle, lgge, Int32.not_lt, Int32.not_le, Int64.not_lt, Int64.not_le, not_false_eq_true, not_true_eq_false, Decidable.not_not, ge_iff_le, gt_iff_lt] at q0)
      refine pw_blk (mi := mz_218) (b := bz_218_5) rfl rfl ?_
      simp only [bz_218_5, pz_cut_t, pz_cut_f, pz_cut_n, pv_gt, pv_ts, pv_tn, ev_ild1, ev_ic4, ev_ic_lt, pz_wi_gc, pz_wi_ga, pz_wi_gn, pz_wi_gl, pz_wi_gr, pz_wi_same, pz_wi_X, pz_wl_gc, pz_wl_ga, pz_wl_gn, pz_wl_gi, pz_wl_gr, pz_wl_same, pz_wl_X, pz_wr_gc, pz_wr_ga, pz_wr_gn, pz_wr_gi, pz_wr_gl, pz_wr_same, pz_wr_X]
      (try simp (disch := omega) only [nI_clamp, pz_in_nI2, pz_in_nI2L, pv_gt, nI_add, nI_addL, nI_Ladd, pk_mul, nI_mulL, nI_Lmul, pk_sub, nI_subL, nI_Lsub, nI_inc, nI_clampL, Nat.add_sub_cancel, pz_wi_else, pz_wl_else, vu_eq, vu_ne, pz_wi_gc, pz_wi_ga, pz_wi_gn, pz_wi_gl, pz_wi_gr, pz_wi_same, pz_wi_X, pz_wl_gc, pz_wl_ga, pz_wl_gn, pz_wl_gi, pz_wl_gr, pz_wl_same, pz_wl_X, pz_wr_gc, pz_wr_ga, pz_wr_gn, pz_wr_gi, pz_wr_gl, pz_wr_same, pz_wr_X])
      refine po_brP (fun q5 => ?_) (fun q5 => ?_)
      · skip
        (try simp (disch := omega) only [nI_ltI, nI_leI, nI_eq, nI_ltL, nI_leL, nI_eqL, nI_Llt, nI_Lle, nI_Leq, nI_eqm, nI_meq, nI_ltm, nI_lem, nI_mlt, nI_mle, lg0, lgl, lgg, lgle, lgge, Int32.not_lt, Int32.not_le, Int64.not_lt, Int64.not_le, not_false_eq_true, not_true_eq_false, Decidable.not_not, ge_iff_le, gt_iff_lt] at q5)
        refine pw_blk (mi := mz_218) (b := bz_218_28) rfl rfl ?_
        simp only [bz_218_28, pz_cut_t, pz_cut_f, pz_cut_n, pv_gt, pv_ts, pv_tn, ev_ic0, ev_ist3n, ev_ist3i, ev_ist3r, ev_ist3e, ev_ist3l, ev_nil, pz_wi_gc, pz_wi_ga, pz_wi_gn, pz_wi_gl, pz_wi_gr, pz_wi_same, pz_wi_X, pz_wl_gc, pz_wl_ga, pz_wl_gn, pz_wl_gi, pz_wl_gr, pz_wl_same, pz_wl_X, pz_wr_gc, pz_wr_ga, pz_wr_gn, pz_wr_gi, pz_wr_gl, pz_wr_same, pz_wr_X]
        (try simp (disch := omega) only [nI_clamp, pz_in_nI2, pz_in_nI2L, pv_gt, nI_add, nI_addL, nI_Ladd, pk_mul, nI_mulL, nI_Lmul, pk_sub, nI_subL, nI_Lsub, nI_inc, nI_clampL, Nat.add_sub_cancel, pz_wi_else, pz_wl_else, vu_eq, vu_ne, pz_wi_gc, pz_wi_ga, pz_wi_gn, pz_wi_gl, pz_wi_gr, pz_wi_same, pz_wi_X, pz_wl_gc, pz_wl_ga, pz_wl_gn, pz_wl_gi, pz_wl_gr, pz_wl_same, pz_wl_X, pz_wr_gc, pz_wr_ga, pz_wr_gn, pz_wr_gi, pz_wr_gl, pz_wr_same, pz_wr_X])
        refine po_go ?_
        exact key 0 (by omega) M ⟨sg.rf hS, fun _ _ _ => rfl, fun _ _ => rfl⟩ z hb
      · first
        | exact absurd q5 (by decide)
        | exact absurd trivial q5
        | exact q5.elim
        | (exfalso; (try simp (disch := omega) only [nI_ltI, nI_leI, nI_eq, nI_ltL, nI_leL, nI_eqL, nI_Llt, nI_Lle, nI_Leq, nI_eqm, nI_meq, nI_ltm, nI_lem, nI_mlt, nI_mle, lg0, lgl, lgg, lgle, lgge, Int32.not_lt, Int32.not_le, Int64.not_lt, Int64.not_le, not_false_eq_true, not_true_eq_false, Decidable.not_not, ge_iff_le, gt_iff_lt] at q5) <;> omega)
        | exact absurd q5 (by with_reducible assumption)
        | exact absurd (by with_reducible assumption) q5
        | exact absurd (Decidable.not_not.mp q5) (by with_reducible assumption)
        | exact absurd (by with_reducible assumption) (Int32.not_le.mpr q5)
        | exact absurd (by with_reducible assumption) (Int32.not_lt.mpr q5)
end PLS
