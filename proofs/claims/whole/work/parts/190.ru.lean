/-! ===== rules: what is read, as functions; the class's reader ===== -/
section RU
variable {d : Nat} {M M' : pz_M} {Q : Option Value × pz_M → Prop} {T : Nat → Nat} {L B : Nat}
/-- a token or a fault; units; codes, the last one first -/
abbrev Ru : Type := Sg × Nat × List (Nat × Nat)
def rAdv (T : Nat → Nat) (L : Nat) (s : Ru) : Ru := (nxF true T L s.1, s.2.1, s.2.2)
def rFl (j : Nat) (s : Ru) : Ru := (flF j s.1, s.2.1, s.2.2)
def rTs (T : Nat → Nat) (L c : Nat) (s : Ru) : Ru := (tsF true T L c s.1, s.2.1, s.2.2)
def rAdd (k v : Nat) (s : Ru) : Ru := (s.1, s.2.1, if s.2.2.length < 600 then (k, v) :: s.2.2 else s.2.2)
def rUp (s : Ru) : Ru := (s.1, s.2.1 + 1, s.2.2)
def wuK (σ : Sg) : Nat := if isWs 18 σ = true then 1 else if isWs 22 σ = true then 2 else if isWs 19 σ = true then 3 else if isWs 20 σ = true then 4 else if isWs 21 σ = true then 5 else 0
def buF (T : Nat → Nat) (L B k : Nat) (s : Ru) : Ru := if isG (atF 0 B (rAdv T L s).1) = true then rAdv T L (rAdd k (nuV (rAdv T L s).1) (rAdv T L s)) else (atF 0 B (rAdv T L s).1, s.2.1, s.2.2)
def wuF (T : Nat → Nat) (L B : Nat) (s : Ru) : Ru := if wuK s.1 = 0 then rFl 2 s else if wuK s.1 ≤ 2 then rAdv T L (rAdd (wuK s.1) 0 s) else buF T L B (wuK s.1) s
def unF (T : Nat → Nat) (L B : Nat) (E : Ru → Ru) (g : Nat) (s : Ru) : Ru := if 40 ≤ s.2.1 then rFl 2 s else if isN s.1 = true then rAdv T L (rAdd 0 (nuV s.1) (rUp s)) else if isC 40 s.1 = true then (if g = 0 then rFl 2 (rUp s) else rTs T L 41 (E (rAdv T L (rUp s)))) else wuF T L B (rUp s)
def lpF (c : Sg → Bool) (b : Ru → Ru) : Nat → Ru → Ru
  | 0, s => s
  | f + 1, s => if c s.1 = true then lpF c b f (b s) else s
def teB (T : Nat → Nat) (L B : Nat) (E : Ru → Ru) (g : Nat) (s : Ru) : Ru := rAdd 7 0 (unF T L B E g (rAdv T L s))
def teF (T : Nat → Nat) (L B : Nat) (E : Ru → Ru) (g : Nat) (s : Ru) : Ru := lpF (isC 42) (teB T L B E g) 40 (unF T L B E g s)
def suC (σ : Sg) : Bool := isC 43 σ || isC 45 σ
def suK (σ : Sg) : Nat := if isC 43 σ = true then 8 else 9
def suB (T : Nat → Nat) (L B : Nat) (E : Ru → Ru) (g : Nat) (s : Ru) : Ru := rAdd (suK s.1) 0 (teF T L B E g (rAdv T L s))
def suF (T : Nat → Nat) (L B : Nat) (E : Ru → Ru) (g : Nat) (s : Ru) : Ru := lpF suC (suB T L B E g) 40 (teF T L B E g s)
def cmK (σ : Sg) : Nat := if isC 60 σ = true then 10 else if isC 62 σ = true then 11 else if isC 61 σ = true then 12 else 0
def reF (T : Nat → Nat) (L B : Nat) (E : Ru → Ru) (g : Nat) (s : Ru) : Ru := if cmK (suF T L B E g s).1 = 0 then suF T L B E g s else rAdd (cmK (suF T L B E g s).1) 0 (suF T L B E g (rAdv T L (suF T L B E g s)))
def onF (T : Nat → Nat) (L B : Nat) (E O : Ru → Ru) (g : Nat) (s : Ru) : Ru := if isWs 25 s.1 = true then (if g = 0 then rFl 2 s else rAdd 6 0 (O (rAdv T L s))) else reF T L B E g s
def boB (T : Nat → Nat) (L B : Nat) (E O : Ru → Ru) (g : Nat) (s : Ru) : Ru := rAdd 13 0 (onF T L B E O g (rAdv T L s))
def boF (T : Nat → Nat) (L B : Nat) (E O : Ru → Ru) (g : Nat) (s : Ru) : Ru := lpF (isWs 23) (boB T L B E O g) 40 (onF T L B E O g s)
def eiB (T : Nat → Nat) (L B : Nat) (E O : Ru → Ru) (g : Nat) (s : Ru) : Ru := rAdd 14 0 (boF T L B E O g (rAdv T L s))
def eiF (T : Nat → Nat) (L B : Nat) (E O : Ru → Ru) (g : Nat) (s : Ru) : Ru := lpF (isWs 24) (eiB T L B E O g) 40 (boF T L B E O g s)
/-- either and one, with g levels left -/
def PF (T : Nat → Nat) (L B : Nat) : Nat → (Ru → Ru) × (Ru → Ru)
  | 0 => (id, id)
  | g + 1 => (eiF T L B (PF T L B g).1 (PF T L B g).2 g, onF T L B (PF T L B g).1 (PF T L B g).2 g)
def crC (M : pz_M) : List (Nat × Nat) → Prop
  | [] => True
  | x :: C => gi M 102 C.length = nI (65536 * x.1 + x.2) ∧ crC M C
theorem crC.fr {C : List (Nat × Nat)} (h : crC M C) (e : ∀ i, i < C.length → gi M' 102 i = gi M 102 i) : crC M' C := by
  induction C with
  | nil => trivial
  | cons x C ih => exact ⟨by rw [e _ (by rw [List.length_cons]; omega)]; exact h.1, ih h.2 (fun i hi => e i (by rw [List.length_cons]; omega))⟩
/-- the class's reader of rules -/
def cR (M : pz_M) (T : Nat → Nat) (L : Nat) (s : Ru) : Prop := cSt M true T L s.1 ∧ (gi M 99 1 = nI s.2.1 ∧ gi M 99 2 = nI s.2.2.length) ∧ crC M s.2.2 ∧ s.2.1 ≤ 40 ∧ s.2.2.length ≤ 600
def cfx (M M' : pz_M) : Prop := sm [1, 99, 102] M M' ∧ gi M' 1 2 = gi M 1 2 ∧ gi M' 99 0 = gi M 99 0
theorem cfx.rf : cfx M M := ⟨sm.rf, rfl, rfl⟩
theorem cfx.tr {M'' : pz_M} (a : cfx M M') (b : cfx M' M'') : cfx M M'' := ⟨a.1.tr b.1 (fun _ z => z), b.2.1.trans a.2.1, b.2.2.trans a.2.2⟩
theorem cfr.x (a : cfr M M') : cfx M M' := ⟨a.1.mono (by decide), a.2, by rw [a.1.i (by decide)]⟩
theorem cR.t {s : Ru} {σ : Sg} (h : cR M T L s) (a : cfr M M') (t : cSt M' true T L σ) : cR M' T L (σ, s.2.1, s.2.2) := by
  obtain ⟨h1, h2, h3, h4, h5⟩ := h
  refine ⟨t, ?_, ?_, h4, h5⟩
  · rw [a.1.i (by decide)]; exact h2
  · exact h3.fr (fun i _ => by rw [a.1.i (by decide)])
theorem m_rAdv (hd : 10 ≤ d) {s : Ru} (h : cR M T L s) (k : ∀ M', cfx M M' → cR M' T L (rAdv T L s) → Q (none, M')) : pm d 232 [.ref 1] M Q := m_adv hd h.1 (fun M' a t => k M' a.x (h.t a t))
theorem m_rFl {j : Nat} (hj : 0 < j) (hj7 : j < 7) {s : Ru} (h : cR M T L s) (k : ∀ M', cfx M M' → cR M' T L (rFl j s) → Q (none, M')) : pm d 184 [.ref 1, .int (nI j)] M Q := m_fail hj hj7 h.1 (fun M' a t => k M' a.x (h.t a t))
theorem m_rTs (hd : 12 ≤ d) {c : Nat} (hc : c < 256) {s : Ru} (h : cR M T L s) (k : ∀ M', cfx M M' → cR M' T L (rTs T L c s) → Q (none, M')) : pm d 236 [.ref 1, .int (nI c)] M Q := m_takeSign hd hc h.1 (fun M' a t => k M' a.x (h.t a t))
theorem shl16 {k v : Nat} (hk : k < 15) (hv : v < 10000) : nI k <<< ((16 : Int32) &&& 31) ||| nI v = nI (65536 * k + v) := by
  rw [pk_shlN _ 16 (by decide) (by omega), or_nI, or_add (by omega)]
  congr 1
  omega
theorem n600 : Int32.ofNat 600 = nI 600 := rfl
theorem m_rAdd {k v : Nat} (hk : k < 15) (hv : v < 10000) {s : Ru} (h : cR M T L s) (z : ∀ M', cfx M M' → cR M' T L (rAdd k v s) → Q (none, M')) : pm d 272 [.ref 99, .int (nI k), .int (nI v)] M Q := by
  have hS := h.1.1.1
  obtain ⟨h1, ⟨e1, e2⟩, h3, h4, h5⟩ := id h
  have e16 := shl16 hk hv
  generalize hn : s.2.2.length = n at e2 h5
  by_cases q : n < 600
  · have fin : ∀ M1, M1 = pz_wi (pz_wi M 102 (va_up (gi M 102) n (nI (65536 * k + v)))) 99 (va_up (gi M 99) 2 (nI (n + 1))) → cfx M M1 ∧ cR M1 T L (rAdd k v s) := by
      intro M1 hM1
      have s1 : sm [99, 102] M M1 := by rw [hM1]; exact sm.wi (sm.wi sm.rf (by decide)) (by decide)
      have f1 : gi M1 99 = va_up (gi M 99) 2 (nI (n + 1)) := by rw [hM1, pz_wi_same]
      have f2 : gi M1 102 = va_up (gi M 102) n (nI (65536 * k + v)) := by rw [hM1, pz_wi_else (by decide), pz_wi_same]
      refine ⟨⟨s1.mono (by decide), by rw [s1.i (by decide)], by rw [f1, vu_ne (by decide)]⟩, ?_⟩
      unfold rAdd
      rw [if_pos (by omega)]
      refine ⟨h1.sm s1 (by decide) (by decide) (by decide), ⟨by rw [f1, vu_ne (by decide)]; exact e1, ?_⟩, ⟨?_, ?_⟩, h4, ?_⟩
      · rw [f1, vu_eq, List.length_cons, hn]
      · rw [f2, hn, vu_eq]
      · exact h3.fr (fun i hi => by rw [f2, vu_ne (by omega)])
      · rw [List.length_cons, hn]; omega
    refine pm_ent (L := [some (.ref 99), some (.int (nI k)), some (.int (nI v))]) rfl (Nat.le_of_ble_eq_true rfl) ?_
    refine pw_blk (mi := mz_272) (b := bz_272_0) rfl rfl ?_
    simp only [bz_272_0, pz_cut_t, pz_cut_f, pz_cut_n, pv_gt, pv_ts, pv_tn, ev_ald0, ev_eld0, ev_gf6_0, ev_gf6_2, ea_alen0, ea_alen1, ea_alen2, ea_alen3, ev_ic_ge, pz_wi_gc, pz_wi_ga, pz_wi_gn, pz_wi_gl, pz_wi_gr, pz_wi_same, pz_wi_X, pz_wl_gc, pz_wl_ga, pz_wl_gn, pz_wl_gi, pz_wl_gr, pz_wl_same, pz_wl_X, pz_wr_gc, pz_wr_ga, pz_wr_gn, pz_wr_gi, pz_wr_gl, pz_wr_same, pz_wr_X, so_99 hS, sr_99_5 hS, sa_102 hS, sn_102 hS, e2, n600]
    (try simp (disch := omega) only [nI_clamp, pz_in_nI2, pz_in_nI2L, pv_gt, nI_add, nI_addL, nI_Ladd, pk_mul, nI_mulL, nI_Lmul, pk_sub, nI_subL, nI_Lsub, nI_inc, nI_clampL, Nat.add_sub_cancel, pz_wi_else, pz_wl_else, vu_eq, vu_ne, pz_wi_gc, pz_wi_ga, pz_wi_gn, pz_wi_gl, pz_wi_gr, pz_wi_same, pz_wi_X, pz_wl_gc, pz_wl_ga, pz_wl_gn, pz_wl_gi, pz_wl_gr, pz_wl_same, pz_wl_X, pz_wr_gc, pz_wr_ga, pz_wr_gn, pz_wr_gi, pz_wr_gl, pz_wr_same, pz_wr_X, e2, n600])
    refine po_brP (fun q0 => ?_) (fun q0 => ?_)
    · first
      | exact absurd q0 (by decide)
      | exact absurd trivial q0
      | exact q0.elim
      | (exfalso; (try simp (disch := omega) only [nI_ltI, nI_leI, nI_eq, nI_ltL, nI_leL, nI_eqL, nI_Llt, nI_Lle, nI_Leq, nI_eqm, nI_meq, nI_ltm, nI_lem, nI_mlt, nI_mle, lg0, lgl, lgg, lgle, lgge, Int32.not_lt, Int32.not_le, Int64.not_lt, Int64.not_le, not_false_eq_true, not_true_eq_false, Decidable.not_not, ge_iff_le, gt_iff_lt] at q0) <;> omega)
      | exact absurd q0 (by with_reducible assumption)
      | exact absurd (by with_reducible assumption) q0
      | exact absurd (Decidable.not_not.mp q0) (by with_reducible assumption)
      | exact absurd (by with_reducible assumption) (Int32.not_le.mpr q0)
      | exact absurd (by with_reducible assumption) (Int32.not_lt.mpr q0)
    · skip
      (try simp (disch := omega) only [nI_ltI, nI_leI, nI_eq, nI_ltL, nI_leL, nI_eqL, nI_Llt, nI_Lle, nI_Leq, nI_eqm, nI_meq, nI_ltm, nI_lem, nI_mlt, nI_mle, lg0, lgl, lgg, lgle, lgge, Int32.not_lt, Int32.not_le, Int64.not_lt, Int64.not_le, not_false_eq_true, not_true_eq_false, Decidable.not_not, ge_iff_le, gt_iff_lt] at q0)
      refine pw_blk (mi := mz_272) (b := bz_272_12) rfl rfl ?_
      simp only [bz_272_12, pz_cut_t, pz_cut_f, pz_cut_n, pv_gt, pv_ts, pv_tn, ev_ald0, ev_eld0, ev_gf6_2, ev_gf6_0, ev_ild1, ev_bp16, ev_ishl, ev_ild2, ev_ior, ea_iast, ev_dupi, ev_dupr, ev_dupe, ev_ic1, ev_iadd, ev_pf6_0, ev_nil, pz_wi_gc, pz_wi_ga, pz_wi_gn, pz_wi_gl, pz_wi_gr, pz_wi_same, pz_wi_X, pz_wl_gc, pz_wl_ga, pz_wl_gn, pz_wl_gi, pz_wl_gr, pz_wl_same, pz_wl_X, pz_wr_gc, pz_wr_ga, pz_wr_gn, pz_wr_gi, pz_wr_gl, pz_wr_same, pz_wr_X, so_99 hS, sr_99_5 hS, sa_102 hS, sn_102 hS, e2, n600, e16]
      (try simp (disch := omega) only [nI_clamp, pz_in_nI2, pz_in_nI2L, pv_gt, nI_add, nI_addL, nI_Ladd, pk_mul, nI_mulL, nI_Lmul, pk_sub, nI_subL, nI_Lsub, nI_inc, nI_clampL, Nat.add_sub_cancel, pz_wi_else, pz_wl_else, vu_eq, vu_ne, pz_wi_gc, pz_wi_ga, pz_wi_gn, pz_wi_gl, pz_wi_gr, pz_wi_same, pz_wi_X, pz_wl_gc, pz_wl_ga, pz_wl_gn, pz_wl_gi, pz_wl_gr, pz_wl_same, pz_wl_X, pz_wr_gc, pz_wr_ga, pz_wr_gn, pz_wr_gi, pz_wr_gl, pz_wr_same, pz_wr_X, e2, n600, e16])
      (try refine po_gI (by first | exact pz_in_nI (by omega) (by decide) | decide | assumption) ?_)
      refine po_go ?_
      refine pw_blk (mi := mz_272) (b := bz_272_37) rfl rfl ?_
      simp only [bz_272_37, pz_cut_t, pz_cut_f, pz_cut_n, pv_gt, pv_ts, pv_tn, ev_ret, pz_wi_gc, pz_wi_ga, pz_wi_gn, pz_wi_gl, pz_wi_gr, pz_wi_same, pz_wi_X, pz_wl_gc, pz_wl_ga, pz_wl_gn, pz_wl_gi, pz_wl_gr, pz_wl_same, pz_wl_X, pz_wr_gc, pz_wr_ga, pz_wr_gn, pz_wr_gi, pz_wr_gl, pz_wr_same, pz_wr_X, e2, n600]
      (try simp (disch := omega) only [nI_clamp, pz_in_nI2, pz_in_nI2L, pv_gt, nI_add, nI_addL, nI_Ladd, pk_mul, nI_mulL, nI_Lmul, pk_sub, nI_subL, nI_Lsub, nI_inc, nI_clampL, Nat.add_sub_cancel, pz_wi_else, pz_wl_else, vu_eq, vu_ne, pz_wi_gc, pz_wi_ga, pz_wi_gn, pz_wi_gl, pz_wi_gr, pz_wi_same, pz_wi_X, pz_wl_gc, pz_wl_ga, pz_wl_gn, pz_wl_gi, pz_wl_gr, pz_wl_same, pz_wl_X, pz_wr_gc, pz_wr_ga, pz_wr_gn, pz_wr_gi, pz_wr_gl, pz_wr_same, pz_wr_X, e2, n600])
      obtain ⟨y1, y2⟩ := fin _ rfl
      exact po_ret (z _ y1 y2)
  · have e0 : rAdd k v s = s := by
      unfold rAdd
      rw [if_neg (by omega)]
    rw [e0] at z
    refine pm_ent (L := [some (.ref 99), some (.int (nI k)), some (.int (nI v))]) rfl (Nat.le_of_ble_eq_true rfl) ?_
    refine pw_blk (mi := mz_272) (b := bz_272_0) rfl rfl ?_
    simp only [bz_272_0, pz_cut_t, pz_cut_f, pz_cut_n, pv_gt, pv_ts, pv_tn, ev_ald0, ev_eld0, ev_gf6_0, ev_gf6_2, ea_alen0, ea_alen1, ea_alen2, ea_alen3, ev_ic_ge, pz_wi_gc, pz_wi_ga, pz_wi_gn, pz_wi_gl, pz_wi_gr, pz_wi_same, pz_wi_X, pz_wl_gc, pz_wl_ga, pz_wl_gn, pz_wl_gi, pz_wl_gr, pz_wl_same, pz_wl_X, pz_wr_gc, pz_wr_ga, pz_wr_gn, pz_wr_gi, pz_wr_gl, pz_wr_same, pz_wr_X, so_99 hS, sr_99_5 hS, sa_102 hS, sn_102 hS, e2, n600]
    (try simp (disch := omega) only [nI_clamp, pz_in_nI2, pz_in_nI2L, pv_gt, nI_add, nI_addL, nI_Ladd, pk_mul, nI_mulL, nI_Lmul, pk_sub, nI_subL, nI_Lsub, nI_inc, nI_clampL, Nat.add_sub_cancel, pz_wi_else, pz_wl_else, vu_eq, vu_ne, pz_wi_gc, pz_wi_ga, pz_wi_gn, pz_wi_gl, pz_wi_gr, pz_wi_same, pz_wi_X, pz_wl_gc, pz_wl_ga, pz_wl_gn, pz_wl_gi, pz_wl_gr, pz_wl_same, pz_wl_X, pz_wr_gc, pz_wr_ga, pz_wr_gn, pz_wr_gi, pz_wr_gl, pz_wr_same, pz_wr_X, e2, n600])
    refine po_brP (fun q0 => ?_) (fun q0 => ?_)
    · skip
      (try simp (disch := omega) only [nI_ltI, nI_leI, nI_eq, nI_ltL, nI_leL, nI_eqL, nI_Llt, nI_Lle, nI_Leq, nI_eqm, nI_meq, nI_ltm, nI_lem, nI_mlt, nI_mle, lg0, lgl, lgg, lgle, lgge, Int32.not_lt, Int32.not_le, Int64.not_lt, Int64.not_le, not_false_eq_true, not_true_eq_false, Decidable.not_not, ge_iff_le, gt_iff_lt] at q0)
      refine pw_blk (mi := mz_272) (b := bz_272_37) rfl rfl ?_
      simp only [bz_272_37, pz_cut_t, pz_cut_f, pz_cut_n, pv_gt, pv_ts, pv_tn, ev_ret, pz_wi_gc, pz_wi_ga, pz_wi_gn, pz_wi_gl, pz_wi_gr, pz_wi_same, pz_wi_X, pz_wl_gc, pz_wl_ga, pz_wl_gn, pz_wl_gi, pz_wl_gr, pz_wl_same, pz_wl_X, pz_wr_gc, pz_wr_ga, pz_wr_gn, pz_wr_gi, pz_wr_gl, pz_wr_same, pz_wr_X, e2, n600]
      (try simp (disch := omega) only [nI_clamp, pz_in_nI2, pz_in_nI2L, pv_gt, nI_add, nI_addL, nI_Ladd, pk_mul, nI_mulL, nI_Lmul, pk_sub, nI_subL, nI_Lsub, nI_inc, nI_clampL, Nat.add_sub_cancel, pz_wi_else, pz_wl_else, vu_eq, vu_ne, pz_wi_gc, pz_wi_ga, pz_wi_gn, pz_wi_gl, pz_wi_gr, pz_wi_same, pz_wi_X, pz_wl_gc, pz_wl_ga, pz_wl_gn, pz_wl_gi, pz_wl_gr, pz_wl_same, pz_wl_X, pz_wr_gc, pz_wr_ga, pz_wr_gn, pz_wr_gi, pz_wr_gl, pz_wr_same, pz_wr_X, e2, n600])
      exact po_ret (z M cfx.rf h)
    · first
      | exact absurd q0 (by decide)
      | exact absurd trivial q0
      | exact q0.elim
      | (exfalso; (try simp (disch := omega) only [nI_ltI, nI_leI, nI_eq, nI_ltL, nI_leL, nI_eqL, nI_Llt, nI_Lle, nI_Leq, nI_eqm, nI_meq, nI_ltm, nI_lem, nI_mlt, nI_mle, lg0, lgl, lgg, lgle, lgge, Int32.not_lt, Int32.not_le, Int64.not_lt, Int64.not_le, not_false_eq_true, not_true_eq_false, Decidable.not_not, ge_iff_le, gt_iff_lt] at q0) <;> omega)
      | exact absurd q0 (by with_reducible assumption)
      | exact absurd (by with_reducible assumption) q0
      | exact absurd (Decidable.not_not.mp q0) (by with_reducible assumption)
      | exact absurd (by with_reducible assumption) (Int32.not_le.mpr q0)
      | exact absurd (by with_reducible assumption) (Int32.not_lt.mpr q0)
/-- a method of the reader, on one number: what it does -/
def cE (d j w : Nat) (T : Nat → Nat) (L B : Nat) (F : Ru → Ru) : Prop := ∀ M s Q, gi M 4 0 = nI B → cR M T L s → (∀ M', cfx M M' → cR M' T L (F s) → Q (none, M')) → pm d j [.ref 98, .int (nI w)] M Q
end RU
