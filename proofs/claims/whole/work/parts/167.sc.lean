/-! ===== a piece as it is read ===== -/
section SC
variable {d : Nat} {M M' : pz_M} {Q : Option Value × pz_M → Prop} {ru : Bool} {T : Nat → Nat} {L : Nat}
abbrev Sc : Type := (Nat) × (Nat) × (Nat) × (Nat) × (Nat → List Nat) × (Nat → Nat) × (Nat → List Nat) × (Nat → Nat) × (Nat → Nat) × (Nat → List Nat) × (Nat → Nat) × (Nat → Nat) × (Nat → List Nat) × (Nat → Nat) × (Nat → Nat) × (Nat → Nat) × (Nat → Nat) × (Nat) × (Nat) × (Bool) × (Nat → Nat)
def Sc.B (c : Sc) : Nat := c.1
def Sc.H (c : Sc) : Nat := c.2.1
def Sc.P (c : Sc) : Nat := c.2.2.1
def Sc.N (c : Sc) : Nat := c.2.2.2.1
def Sc.lk (c : Sc) : Nat → List Nat := c.2.2.2.2.1
def Sc.ho (c : Sc) : Nat → Nat := c.2.2.2.2.2.1
def Sc.hw (c : Sc) : Nat → List Nat := c.2.2.2.2.2.2.1
def Sc.hf (c : Sc) : Nat → Nat := c.2.2.2.2.2.2.2.1
def Sc.he (c : Sc) : Nat → Nat := c.2.2.2.2.2.2.2.2.1
def Sc.pw (c : Sc) : Nat → List Nat := c.2.2.2.2.2.2.2.2.2.1
def Sc.pf (c : Sc) : Nat → Nat := c.2.2.2.2.2.2.2.2.2.2.1
def Sc.pt (c : Sc) : Nat → Nat := c.2.2.2.2.2.2.2.2.2.2.2.1
def Sc.nw (c : Sc) : Nat → List Nat := c.2.2.2.2.2.2.2.2.2.2.2.2.1
def Sc.na (c : Sc) : Nat → Nat := c.2.2.2.2.2.2.2.2.2.2.2.2.2.1
def Sc.nb (c : Sc) : Nat → Nat := c.2.2.2.2.2.2.2.2.2.2.2.2.2.2.1
def Sc.nt (c : Sc) : Nat → Nat := c.2.2.2.2.2.2.2.2.2.2.2.2.2.2.2.1
def Sc.ns (c : Sc) : Nat → Nat := c.2.2.2.2.2.2.2.2.2.2.2.2.2.2.2.2.1
def Sc.D (c : Sc) : Nat := c.2.2.2.2.2.2.2.2.2.2.2.2.2.2.2.2.2.1
def Sc.E (c : Sc) : Nat := c.2.2.2.2.2.2.2.2.2.2.2.2.2.2.2.2.2.2.1
def Sc.lt (c : Sc) : Bool := c.2.2.2.2.2.2.2.2.2.2.2.2.2.2.2.2.2.2.2.1
def Sc.lw (c : Sc) : Nat → Nat := c.2.2.2.2.2.2.2.2.2.2.2.2.2.2.2.2.2.2.2.2
def Sc.look (c : Sc) (w : List Nat) : Sc := (c.B + 1, c.H, c.P, c.N, va_up c.lk c.B w, va_up c.ho c.B c.H, c.hw, c.hf, c.he, c.pw, c.pf, c.pt, c.nw, c.na, c.nb, c.nt, c.ns, c.D, c.E, c.lt, c.lw)
def Sc.heap (c : Sc) (w : List Nat) (b : Nat) : Sc := (c.B, c.H + 1, c.P, c.N, c.lk, c.ho, va_up c.hw c.H w, va_up c.hf c.H b, va_up c.he c.H c.B, c.pw, c.pf, c.pt, c.nw, c.na, c.nb, c.nt, c.ns, c.D, c.E, c.lt, c.lw)
def Sc.part (c : Sc) (w : List Nat) (f t : Nat) : Sc := (c.B, c.H, c.P + 1, c.N, c.lk, c.ho, c.hw, c.hf, c.he, va_up c.pw c.P w, va_up c.pf c.P f, va_up c.pt c.P t, c.nw, c.na, c.nb, c.nt, c.ns, c.D, c.E, c.lt, c.lw)
def Sc.plan (c : Sc) (w : List Nat) (a b t s : Nat) : Sc := (c.B, c.H, c.P, c.N + 1, c.lk, c.ho, c.hw, c.hf, c.he, c.pw, c.pf, c.pt, va_up c.nw c.N w, va_up c.na c.N a, va_up c.nb c.N b, va_up c.nt c.N t, va_up c.ns c.N s, c.D, c.E, c.lt, c.lw)
def Sc.door (c : Sc) (n : Nat) : Sc := (c.B, c.H, c.P, c.N, c.lk, c.ho, c.hw, c.hf, c.he, c.pw, c.pf, c.pt, c.nw, c.na, c.nb, c.nt, c.ns, c.D ||| 2 ^ n, c.E, c.lt, c.lw)
def Sc.mark (c : Sc) (n : Nat) : Sc := (c.B, c.H, c.P, c.N, c.lk, c.ho, c.hw, c.hf, c.he, c.pw, c.pf, c.pt, c.nw, c.na, c.nb, c.nt, c.ns, c.D, c.E ||| 2 ^ n, c.lt, c.lw)
def Sc.told (c : Sc)  : Sc := (c.B, c.H, c.P, c.N, c.lk, c.ho, c.hw, c.hf, c.he, c.pw, c.pf, c.pt, c.nw, c.na, c.nb, c.nt, c.ns, c.D, c.E, true, c.lw)
def Sc.law (c : Sc) (i n : Nat) : Sc := (c.B, c.H, c.P, c.N, c.lk, c.ho, c.hw, c.hf, c.he, c.pw, c.pf, c.pt, c.nw, c.na, c.nb, c.nt, c.ns, c.D, c.E, c.lt, va_up c.lw i n)
/-- the class's reader holds it -/
def csc (M : pz_M) (c : Sc) : Prop := (gi M 19 0 = nI c.B ∧ gi M 19 3 = nI c.H ∧ gi M 19 6 = nI c.P ∧ gi M 19 10 = nI c.N ∧ gi M 19 16 = nI c.D ∧ gi M 19 17 = nI c.E ∧ gi M 19 18 = bI c.lt) ∧ (∀ i, i < c.B → gl M 20 i = p5 (c.lk i) ∧ gi M 21 i = nI (c.ho i)) ∧ (∀ i, i < c.H → gl M 22 i = p5 (c.hw i) ∧ gi M 23 i = nI (c.hf i)) ∧ (∀ i, i < c.P → gl M 24 i = p5 (c.pw i) ∧ gi M 25 i = nI (c.hf (c.pf i)) ∧ gi M 26 i = nI (c.he (c.pt i)) - 1) ∧ (∀ i, i < c.N → gl M 27 i = p5 (c.nw i) ∧ gi M 28 i = nI (c.na i) ∧ gi M 29 i = nI (c.nb i) ∧ gi M 30 i = nI (c.nt i) ∧ gi M 31 i = nI (c.ns i)) ∧ ∀ i, i < 6 → gi M 32 i = nI (c.lw i)
def scK : List Nat := [19, 20, 21, 22, 23, 24, 25, 26, 27, 28, 29, 30, 31, 32]
theorem csc.fr {c : Sc} (x : csc M c) (e : ag scK M M') : csc M' c := by
  unfold csc at x ⊢
  rw [(e 19 (by decide)).1, (e 20 (by decide)).2, (e 21 (by decide)).1, (e 22 (by decide)).2, (e 23 (by decide)).1, (e 24 (by decide)).2, (e 25 (by decide)).1, (e 26 (by decide)).1, (e 27 (by decide)).2, (e 28 (by decide)).1, (e 29 (by decide)).1, (e 30 (by decide)).1, (e 31 (by decide)).1, (e 32 (by decide)).1]
  exact x
theorem csc.c1 {c : Sc} (x : csc M c) (e : cfr M M') : csc M' c := x.fr (fun k hk => ⟨e.1.i (by simp [scK] at hk; simp; omega), e.1.l (by simp [scK] at hk; simp; omega)⟩)
/-- a piece as it can be -/
def okS (c : Sc) : Prop := (c.B ≤ 24 ∧ c.H ≤ 8 ∧ c.P ≤ 4 ∧ c.N ≤ 6 ∧ c.H ≤ c.B ∧ (c.H = 0 → c.B = 0) ∧ c.D < 2 ^ c.B ∧ c.E < 2 ^ c.B) ∧ (∀ i, i < c.B → isWd (c.lk i) ∧ c.ho i < 8) ∧ (∀ i, i < c.H → isWd (c.hw i) ∧ c.hf i < c.he i ∧ c.he i ≤ c.B ∧ (i + 1 < c.H → c.hf (i + 1) = c.he i) ∧ (i + 1 = c.H → c.he i = c.B)) ∧ (∀ i, i < c.P → isWd (c.pw i) ∧ c.pf i < c.H ∧ c.pt i < c.H) ∧ (∀ i, i < c.N → isWd (c.nw i) ∧ c.na i ≤ c.nb i ∧ c.nb i < c.B ∧ c.nt i ≤ 20 ∧ c.ns i ≤ 20) ∧ (1 ≤ c.lw 0 ∧ c.lw 0 ≤ 500 ∧ c.lw 1 ≤ 200 ∧ c.lw 2 ≤ 100 ∧ c.lw 3 ≤ 1000 ∧ c.lw 4 ≤ 24 ∧ c.lw 5 ≤ 24)
/-- looks, one behind another -/
def lkS (ru : Bool) (T : Nat → Nat) (L : Nat) : Nat → Sg → Sc → Sg × Sc
  | 0, σ, c => (σ, c)
  | f + 1, σ, c => if isG (anF σ) = true then (if c.B < 24 then (if isC 59 (nxF ru T L σ) = true then (nxF ru T L σ, c.look (nmV σ)) else lkS ru T L f (nxF ru T L σ) (c.look (nmV σ))) else (flF 2 σ, c)) else (anF σ, c)
theorem m_readLook (hd : 14 ≤ d) {σ : Sg} {c : Sc} (s : cSt M ru T L σ) (hB : c.B ≤ 24) (e0 : gi M 19 0 = nI c.B) (e3 : gi M 19 3 = nI c.H) (k1 : isG (anF σ) = true → c.B < 24 → ∀ M', sm [1, 19, 20, 21] M M' → gi M' 1 2 = gi M 1 2 → cSt M' ru T L (nxF ru T L σ) → isWd (nmV σ) → gi M' 19 = va_up (gi M 19) 0 (nI (c.B + 1)) → gl M' 20 = va_up (gl M 20) c.B (p5 (nmV σ)) → gi M' 21 = va_up (gi M 21) c.B (nI c.H) → Q (some (.int 1), M')) (k2 : isG (anF σ) = true → ¬ c.B < 24 → ∀ M', cfr M M' → cSt M' ru T L (flF 2 σ) → Q (some (.int 0), M')) (k3 : isG (anF σ) = false → ∀ M', cfr M M' → cSt M' ru T L (anF σ) → Q (some (.int 0), M')) : pm d 234 [.ref 18] M Q := by
  have hS := s.1.1
  cases zg : isG (anF σ) with
  | false =>
    refine pm_ent (L := [some (.ref 18)]) rfl (Nat.le_of_ble_eq_true rfl) ?_
    refine pw_blk (mi := mz_234) (b := bz_234_0) rfl rfl ?_
    simp only [bz_234_0, pz_cut_t, pz_cut_f, pz_cut_n, pv_gt, pv_ts, pv_tn, ev_ald0, ev_eld0, ev_gf4_2, ev_cv0_10, pz_wi_gc, pz_wi_ga, pz_wi_gn, pz_wi_gl, pz_wi_gr, pz_wi_same, pz_wi_X, pz_wl_gc, pz_wl_ga, pz_wl_gn, pz_wl_gi, pz_wl_gr, pz_wl_same, pz_wl_X, pz_wr_gc, pz_wr_ga, pz_wr_gn, pz_wr_gi, pz_wr_gl, pz_wr_same, pz_wr_X, so_18 hS, sr_18_0 hS, so_1 hS]
    (try simp (disch := omega) only [nI_clamp, pz_in_nI2, pz_in_nI2L, pv_gt, nI_add, nI_addL, nI_Ladd, pk_mul, nI_mulL, nI_Lmul, pk_sub, nI_subL, nI_Lsub, nI_inc, nI_clampL, Nat.add_sub_cancel, pz_wi_else, pz_wl_else, vu_eq, vu_ne, pz_wi_gc, pz_wi_ga, pz_wi_gn, pz_wi_gl, pz_wi_gr, pz_wi_same, pz_wi_X, pz_wl_gc, pz_wl_ga, pz_wl_gn, pz_wl_gi, pz_wl_gr, pz_wl_same, pz_wl_X, pz_wr_gc, pz_wr_ga, pz_wr_gn, pz_wr_gi, pz_wr_gl, pz_wr_same, pz_wr_X])
    (try refine po_gP (Nat.le_of_ble_eq_true rfl) ?_)
    refine po_call (by omega) (m_atName (by omega) s (fun M1 c1 s1 => ?_))
    rw [zg]
    refine pw_blk (mi := mz_234) (b := bz_234_7) rfl rfl ?_
    simp only [bz_234_7, pz_cut_t, pz_cut_f, pz_cut_n, pv_gt, pv_ts, pv_tn, ev_ifne, pz_wi_gc, pz_wi_ga, pz_wi_gn, pz_wi_gl, pz_wi_gr, pz_wi_same, pz_wi_X, pz_wl_gc, pz_wl_ga, pz_wl_gn, pz_wl_gi, pz_wl_gr, pz_wl_same, pz_wl_X, pz_wr_gc, pz_wr_ga, pz_wr_gn, pz_wr_gi, pz_wr_gl, pz_wr_same, pz_wr_X, bI_f]
    (try simp (disch := omega) only [nI_clamp, pz_in_nI2, pz_in_nI2L, pv_gt, nI_add, nI_addL, nI_Ladd, pk_mul, nI_mulL, nI_Lmul, pk_sub, nI_subL, nI_Lsub, nI_inc, nI_clampL, Nat.add_sub_cancel, pz_wi_else, pz_wl_else, vu_eq, vu_ne, pz_wi_gc, pz_wi_ga, pz_wi_gn, pz_wi_gl, pz_wi_gr, pz_wi_same, pz_wi_X, pz_wl_gc, pz_wl_ga, pz_wl_gn, pz_wl_gi, pz_wl_gr, pz_wl_same, pz_wl_X, pz_wr_gc, pz_wr_ga, pz_wr_gn, pz_wr_gi, pz_wr_gl, pz_wr_same, pz_wr_X, bI_f])
    refine po_brP (fun q7 => ?_) (fun q7 => ?_)
    · first
      | exact absurd q7 (by decide)
      | exact absurd trivial q7
      | exact q7.elim
      | (exfalso; (try simp (disch := omega) only [nI_ltI, nI_leI, nI_eq, nI_ltL, nI_leL, nI_eqL, nI_Llt, nI_Lle, nI_Leq, nI_eqm, nI_meq, nI_ltm, nI_lem, nI_mlt, nI_mle, lg0, lgl, lgg, lgle, lgge, Int32.not_lt, Int32.not_le, Int64.not_lt, Int64.not_le, not_false_eq_true, not_true_eq_false, Decidable.not_not, ge_iff_le, gt_iff_lt] at q7) <;> omega)
      | exact absurd q7 (by with_reducible assumption)
      | exact absurd (by with_reducible assumption) q7
      | exact absurd (Decidable.not_not.mp q7) (by with_reducible assumption)
      | exact absurd (by with_reducible assumption) (Int32.not_le.mpr q7)
      | exact absurd (by with_reducible assumption) (Int32.not_lt.mpr q7)
    · skip
      (try simp (disch := omega) only [nI_ltI, nI_leI, nI_eq, nI_ltL, nI_leL, nI_eqL, nI_Llt, nI_Lle, nI_Leq, nI_eqm, nI_meq, nI_ltm, nI_lem, nI_mlt, nI_mle, lg0, lgl, lgg, lgle, lgge, Int32.not_lt, Int32.not_le, Int64.not_lt, Int64.not_le, not_false_eq_true, not_true_eq_false, Decidable.not_not, ge_iff_le, gt_iff_lt] at q7)
      refine pw_blk (mi := mz_234) (b := bz_234_10) rfl rfl ?_
      simp only [bz_234_10, pz_cut_t, pz_cut_f, pz_cut_n, pv_gt, pv_ts, pv_tn, ev_ic0, ev_iret1, pz_wi_gc, pz_wi_ga, pz_wi_gn, pz_wi_gl, pz_wi_gr, pz_wi_same, pz_wi_X, pz_wl_gc, pz_wl_ga, pz_wl_gn, pz_wl_gi, pz_wl_gr, pz_wl_same, pz_wl_X, pz_wr_gc, pz_wr_ga, pz_wr_gn, pz_wr_gi, pz_wr_gl, pz_wr_same, pz_wr_X]
      (try simp (disch := omega) only [nI_clamp, pz_in_nI2, pz_in_nI2L, pv_gt, nI_add, nI_addL, nI_Ladd, pk_mul, nI_mulL, nI_Lmul, pk_sub, nI_subL, nI_Lsub, nI_inc, nI_clampL, Nat.add_sub_cancel, pz_wi_else, pz_wl_else, vu_eq, vu_ne, pz_wi_gc, pz_wi_ga, pz_wi_gn, pz_wi_gl, pz_wi_gr, pz_wi_same, pz_wi_X, pz_wl_gc, pz_wl_ga, pz_wl_gn, pz_wl_gi, pz_wl_gr, pz_wl_same, pz_wl_X, pz_wr_gc, pz_wr_ga, pz_wr_gn, pz_wr_gi, pz_wr_gl, pz_wr_same, pz_wr_X])
      (try refine po_gP (by first | decide | assumption) ?_)
      exact po_ret (k3 zg M1 c1 s1)
  | true =>
    have ea := (anF_G zg).1
    by_cases hB2 : c.B < 24
    · skip
      refine pm_ent (L := [some (.ref 18)]) rfl (Nat.le_of_ble_eq_true rfl) ?_
      refine pw_blk (mi := mz_234) (b := bz_234_0) rfl rfl ?_
      simp only [bz_234_0, pz_cut_t, pz_cut_f, pz_cut_n, pv_gt, pv_ts, pv_tn, ev_ald0, ev_eld0, ev_gf4_2, ev_cv0_10, pz_wi_gc, pz_wi_ga, pz_wi_gn, pz_wi_gl, pz_wi_gr, pz_wi_same, pz_wi_X, pz_wl_gc, pz_wl_ga, pz_wl_gn, pz_wl_gi, pz_wl_gr, pz_wl_same, pz_wl_X, pz_wr_gc, pz_wr_ga, pz_wr_gn, pz_wr_gi, pz_wr_gl, pz_wr_same, pz_wr_X, so_18 hS, sr_18_0 hS, so_1 hS]
      (try simp (disch := omega) only [nI_clamp, pz_in_nI2, pz_in_nI2L, pv_gt, nI_add, nI_addL, nI_Ladd, pk_mul, nI_mulL, nI_Lmul, pk_sub, nI_subL, nI_Lsub, nI_inc, nI_clampL, Nat.add_sub_cancel, pz_wi_else, pz_wl_else, vu_eq, vu_ne, pz_wi_gc, pz_wi_ga, pz_wi_gn, pz_wi_gl, pz_wi_gr, pz_wi_same, pz_wi_X, pz_wl_gc, pz_wl_ga, pz_wl_gn, pz_wl_gi, pz_wl_gr, pz_wl_same, pz_wl_X, pz_wr_gc, pz_wr_ga, pz_wr_gn, pz_wr_gi, pz_wr_gl, pz_wr_same, pz_wr_X])
      (try refine po_gP (Nat.le_of_ble_eq_true rfl) ?_)
      refine po_call (by omega) (m_atName (by omega) s (fun M1 c1 s1 => ?_))
      rw [zg]
      rw [ea] at s1
      have hS1 := s1.1.1
      obtain ⟨g8, hwd⟩ := s1.nm zg
      have e0' : gi M1 19 0 = nI c.B := by rw [c1.1.i (by decide)]; exact e0
      have e3' : gi M1 19 3 = nI c.H := by rw [c1.1.i (by decide)]; exact e3
      refine pw_blk (mi := mz_234) (b := bz_234_7) rfl rfl ?_
      simp only [bz_234_7, pz_cut_t, pz_cut_f, pz_cut_n, pv_gt, pv_ts, pv_tn, ev_ifne, pz_wi_gc, pz_wi_ga, pz_wi_gn, pz_wi_gl, pz_wi_gr, pz_wi_same, pz_wi_X, pz_wl_gc, pz_wl_ga, pz_wl_gn, pz_wl_gi, pz_wl_gr, pz_wl_same, pz_wl_X, pz_wr_gc, pz_wr_ga, pz_wr_gn, pz_wr_gi, pz_wr_gl, pz_wr_same, pz_wr_X, bI_t]
      (try simp (disch := omega) only [nI_clamp, pz_in_nI2, pz_in_nI2L, pv_gt, nI_add, nI_addL, nI_Ladd, pk_mul, nI_mulL, nI_Lmul, pk_sub, nI_subL, nI_Lsub, nI_inc, nI_clampL, Nat.add_sub_cancel, pz_wi_else, pz_wl_else, vu_eq, vu_ne, pz_wi_gc, pz_wi_ga, pz_wi_gn, pz_wi_gl, pz_wi_gr, pz_wi_same, pz_wi_X, pz_wl_gc, pz_wl_ga, pz_wl_gn, pz_wl_gi, pz_wl_gr, pz_wl_same, pz_wl_X, pz_wr_gc, pz_wr_ga, pz_wr_gn, pz_wr_gi, pz_wr_gl, pz_wr_same, pz_wr_X, bI_t])
      refine po_brP (fun q7 => ?_) (fun q7 => ?_)
      · skip
        (try simp (disch := omega) only [nI_ltI, nI_leI, nI_eq, nI_ltL, nI_leL, nI_eqL, nI_Llt, nI_Lle, nI_Leq, nI_eqm, nI_meq, nI_ltm, nI_lem, nI_mlt, nI_mle, lg0, lgl, lgg, lgle, lgge, Int32.not_lt, Int32.not_le, Int64.not_lt, Int64.not_le, not_false_eq_true, not_true_eq_false, Decidable.not_not, ge_iff_le, gt_iff_lt] at q7)
        refine pw_blk (mi := mz_234) (b := bz_234_12) rfl rfl ?_
        simp only [bz_234_12, pz_cut_t, pz_cut_f, pz_cut_n, pv_gt, pv_ts, pv_tn, ev_ald0, ev_eld0, ev_gf4_2, ev_gf8_0, ev_bp24, ev_ic_lt, pz_wi_gc, pz_wi_ga, pz_wi_gn, pz_wi_gl, pz_wi_gr, pz_wi_same, pz_wi_X, pz_wl_gc, pz_wl_ga, pz_wl_gn, pz_wl_gi, pz_wl_gr, pz_wl_same, pz_wl_X, pz_wr_gc, pz_wr_ga, pz_wr_gn, pz_wr_gi, pz_wr_gl, pz_wr_same, pz_wr_X, so_18 hS, sr_18_1 hS, so_19 hS, so_18 hS1, sr_18_1 hS1, so_19 hS1, e0']
        (try simp (disch := omega) only [nI_clamp, pz_in_nI2, pz_in_nI2L, pv_gt, nI_add, nI_addL, nI_Ladd, pk_mul, nI_mulL, nI_Lmul, pk_sub, nI_subL, nI_Lsub, nI_inc, nI_clampL, Nat.add_sub_cancel, pz_wi_else, pz_wl_else, vu_eq, vu_ne, pz_wi_gc, pz_wi_ga, pz_wi_gn, pz_wi_gl, pz_wi_gr, pz_wi_same, pz_wi_X, pz_wl_gc, pz_wl_ga, pz_wl_gn, pz_wl_gi, pz_wl_gr, pz_wl_same, pz_wl_X, pz_wr_gc, pz_wr_ga, pz_wr_gn, pz_wr_gi, pz_wr_gl, pz_wr_same, pz_wr_X, so_18 hS1, sr_18_1 hS1, so_19 hS1, e0'])
        refine po_brP (fun q12 => ?_) (fun q12 => ?_)
        · skip
          (try simp (disch := omega) only [nI_ltI, nI_leI, nI_eq, nI_ltL, nI_leL, nI_eqL, nI_Llt, nI_Lle, nI_Leq, nI_eqm, nI_meq, nI_ltm, nI_lem, nI_mlt, nI_mle, lg0, lgl, lgg, lgle, lgge, Int32.not_lt, Int32.not_le, Int64.not_lt, Int64.not_le, not_false_eq_true, not_true_eq_false, Decidable.not_not, ge_iff_le, gt_iff_lt] at q12)
          refine pw_blk (mi := mz_234) (b := bz_234_34) rfl rfl ?_
          simp only [bz_234_34, pz_cut_t, pz_cut_f, pz_cut_n, pv_gt, pv_ts, pv_tn, ev_ald0, ev_eld0, ev_gf4_2, ev_gf8_2, ev_gf8_0, ev_gf10_1, ea_last, ea_iast, ev_dupi, ev_dupr, ev_dupe, ev_ic1, ev_iadd, ev_pf8_0, ev_cv0_10, pz_wi_gc, pz_wi_ga, pz_wi_gn, pz_wi_gl, pz_wi_gr, pz_wi_same, pz_wi_X, pz_wl_gc, pz_wl_ga, pz_wl_gn, pz_wl_gi, pz_wl_gr, pz_wl_same, pz_wl_X, pz_wr_gc, pz_wr_ga, pz_wr_gn, pz_wr_gi, pz_wr_gl, pz_wr_same, pz_wr_X, so_18 hS, sr_18_1 hS, so_19 hS, sr_19_1 hS, sa_20 hS, sn_20 hS, sr_18_0 hS, so_1 hS, sr_19_2 hS, sa_21 hS, sn_21 hS, so_18 hS1, sr_18_1 hS1, sr_18_0 hS1, so_19 hS1, so_1 hS1, sr_19_1 hS1, sr_19_2 hS1, sa_20 hS1, sn_20 hS1, sa_21 hS1, sn_21 hS1, e0', e3', g8]
          (try simp (disch := omega) only [nI_clamp, pz_in_nI2, pz_in_nI2L, pv_gt, nI_add, nI_addL, nI_Ladd, pk_mul, nI_mulL, nI_Lmul, pk_sub, nI_subL, nI_Lsub, nI_inc, nI_clampL, Nat.add_sub_cancel, pz_wi_else, pz_wl_else, vu_eq, vu_ne, pz_wi_gc, pz_wi_ga, pz_wi_gn, pz_wi_gl, pz_wi_gr, pz_wi_same, pz_wi_X, pz_wl_gc, pz_wl_ga, pz_wl_gn, pz_wl_gi, pz_wl_gr, pz_wl_same, pz_wl_X, pz_wr_gc, pz_wr_ga, pz_wr_gn, pz_wr_gi, pz_wr_gl, pz_wr_same, pz_wr_X, so_18 hS1, sr_18_1 hS1, sr_18_0 hS1, so_19 hS1, so_1 hS1, sr_19_1 hS1, sr_19_2 hS1, sa_20 hS1, sn_20 hS1, sa_21 hS1, sn_21 hS1, e0', e3', g8])
          (try refine po_gI (by first | exact pz_in_nI (by omega) (by decide) | decide | assumption) ?_)
          (try refine po_gI (by first | exact pz_in_nI (by omega) (by decide) | decide | assumption) ?_)
          (try refine po_gP (Nat.le_of_ble_eq_true rfl) ?_)
          refine po_call (by omega) (m_adv (by omega) (s1.sm (K := [19, 20, 21]) (sm.wi (sm.wi (sm.wl sm.rf (by decide)) (by decide)) (by decide)) (by decide) (by decide) (by decide)) (fun M2 c2 s2 => ?_))
          refine pw_blk (mi := mz_234) (b := bz_234_98) rfl rfl ?_
          simp only [bz_234_98, pz_cut_t, pz_cut_f, pz_cut_n, pv_gt, pv_ts, pv_tn, ev_ic1, ev_iret1, pz_wi_gc, pz_wi_ga, pz_wi_gn, pz_wi_gl, pz_wi_gr, pz_wi_same, pz_wi_X, pz_wl_gc, pz_wl_ga, pz_wl_gn, pz_wl_gi, pz_wl_gr, pz_wl_same, pz_wl_X, pz_wr_gc, pz_wr_ga, pz_wr_gn, pz_wr_gi, pz_wr_gl, pz_wr_same, pz_wr_X]
          (try simp (disch := omega) only [nI_clamp, pz_in_nI2, pz_in_nI2L, pv_gt, nI_add, nI_addL, nI_Ladd, pk_mul, nI_mulL, nI_Lmul, pk_sub, nI_subL, nI_Lsub, nI_inc, nI_clampL, Nat.add_sub_cancel, pz_wi_else, pz_wl_else, vu_eq, vu_ne, pz_wi_gc, pz_wi_ga, pz_wi_gn, pz_wi_gl, pz_wi_gr, pz_wi_same, pz_wi_X, pz_wl_gc, pz_wl_ga, pz_wl_gn, pz_wl_gi, pz_wl_gr, pz_wl_same, pz_wl_X, pz_wr_gc, pz_wr_ga, pz_wr_gn, pz_wr_gi, pz_wr_gl, pz_wr_same, pz_wr_X])
          (try refine po_gP (by first | decide | assumption) ?_)
          refine po_ret (k1 zg hB2 M2 ?_ ?_ s2 hwd ?_ ?_ ?_)
          · exact ((c1.1.mono (K' := [1, 19, 20, 21]) (by decide)).tr (sm.wi (K := [19, 20, 21]) (sm.wi (sm.wl sm.rf (by decide)) (by decide)) (by decide)) (by decide)).tr c2.1 (by decide)
          · rw [c2.2]
            simp (disch := decide) only [pz_wi_else, pz_wl_gi]
            exact c1.2
          · rw [c2.1.i (by decide)]
            simp (disch := decide) only [pz_wi_else, pz_wl_gi, pz_wi_same]
            rw [c1.1.i (by decide)]
          · rw [c2.1.l (by decide)]
            simp (disch := decide) only [pz_wi_gl, pz_wl_same]
            rw [c1.1.l (by decide)]
          · rw [c2.1.i (by decide)]
            simp (disch := decide) only [pz_wi_else, pz_wl_gi, pz_wi_same]
            rw [c1.1.i (by decide)]
        · first
          | exact absurd q12 (by decide)
          | exact absurd trivial q12
          | exact q12.elim
          | (exfalso; (try simp (disch := omega) only [nI_ltI, nI_leI, nI_eq, nI_ltL, nI_leL, nI_eqL, nI_Llt, nI_Lle, nI_Leq, nI_eqm, nI_meq, nI_ltm, nI_lem, nI_mlt, nI_mle, lg0, lgl, lgg, lgle, lgge, Int32.not_lt, Int32.not_le, Int64.not_lt, Int64.not_le, not_false_eq_true, not_true_eq_false, Decidable.not_not, ge_iff_le, gt_iff_lt] at q12) <;> omega)
          | exact absurd q12 (by with_reducible assumption)
          | exact absurd (by with_reducible assumption) q12
          | exact absurd (Decidable.not_not.mp q12) (by with_reducible assumption)
          | exact absurd (by with_reducible assumption) (Int32.not_le.mpr q12)
          | exact absurd (by with_reducible assumption) (Int32.not_lt.mpr q12)
      · first
        | exact absurd q7 (by decide)
        | exact absurd trivial q7
        | exact q7.elim
        | (exfalso; (try simp (disch := omega) only [nI_ltI, nI_leI, nI_eq, nI_ltL, nI_leL, nI_eqL, nI_Llt, nI_Lle, nI_Leq, nI_eqm, nI_meq, nI_ltm, nI_lem, nI_mlt, nI_mle, lg0, lgl, lgg, lgle, lgge, Int32.not_lt, Int32.not_le, Int64.not_lt, Int64.not_le, not_false_eq_true, not_true_eq_false, Decidable.not_not, ge_iff_le, gt_iff_lt] at q7) <;> omega)
        | exact absurd q7 (by with_reducible assumption)
        | exact absurd (by with_reducible assumption) q7
        | exact absurd (Decidable.not_not.mp q7) (by with_reducible assumption)
        | exact absurd (by with_reducible assumption) (Int32.not_le.mpr q7)
        | exact absurd (by with_reducible assumption) (Int32.not_lt.mpr q7)
    · skip
      refine pm_ent (L := [some (.ref 18)]) rfl (Nat.le_of_ble_eq_true rfl) ?_
      refine pw_blk (mi := mz_234) (b := bz_234_0) rfl rfl ?_
      simp only [bz_234_0, pz_cut_t, pz_cut_f, pz_cut_n, pv_gt, pv_ts, pv_tn, ev_ald0, ev_eld0, ev_gf4_2, ev_cv0_10, pz_wi_gc, pz_wi_ga, pz_wi_gn, pz_wi_gl, pz_wi_gr, pz_wi_same, pz_wi_X, pz_wl_gc, pz_wl_ga, pz_wl_gn, pz_wl_gi, pz_wl_gr, pz_wl_same, pz_wl_X, pz_wr_gc, pz_wr_ga, pz_wr_gn, pz_wr_gi, pz_wr_gl, pz_wr_same, pz_wr_X, so_18 hS, sr_18_0 hS, so_1 hS]
      (try simp (disch := omega) only [nI_clamp, pz_in_nI2, pz_in_nI2L, pv_gt, nI_add, nI_addL, nI_Ladd, pk_mul, nI_mulL, nI_Lmul, pk_sub, nI_subL, nI_Lsub, nI_inc, nI_clampL, Nat.add_sub_cancel, pz_wi_else, pz_wl_else, vu_eq, vu_ne, pz_wi_gc, pz_wi_ga, pz_wi_gn, pz_wi_gl, pz_wi_gr, pz_wi_same, pz_wi_X, pz_wl_gc, pz_wl_ga, pz_wl_gn, pz_wl_gi, pz_wl_gr, pz_wl_same, pz_wl_X, pz_wr_gc, pz_wr_ga, pz_wr_gn, pz_wr_gi, pz_wr_gl, pz_wr_same, pz_wr_X])
      (try refine po_gP (Nat.le_of_ble_eq_true rfl) ?_)
      refine po_call (by omega) (m_atName (by omega) s (fun M1 c1 s1 => ?_))
      rw [zg]
      rw [ea] at s1
      have hS1 := s1.1.1
      have e0' : gi M1 19 0 = nI c.B := by rw [c1.1.i (by decide)]; exact e0
      refine pw_blk (mi := mz_234) (b := bz_234_7) rfl rfl ?_
      simp only [bz_234_7, pz_cut_t, pz_cut_f, pz_cut_n, pv_gt, pv_ts, pv_tn, ev_ifne, pz_wi_gc, pz_wi_ga, pz_wi_gn, pz_wi_gl, pz_wi_gr, pz_wi_same, pz_wi_X, pz_wl_gc, pz_wl_ga, pz_wl_gn, pz_wl_gi, pz_wl_gr, pz_wl_same, pz_wl_X, pz_wr_gc, pz_wr_ga, pz_wr_gn, pz_wr_gi, pz_wr_gl, pz_wr_same, pz_wr_X, bI_t]
      (try simp (disch := omega) only [nI_clamp, pz_in_nI2, pz_in_nI2L, pv_gt, nI_add, nI_addL, nI_Ladd, pk_mul, nI_mulL, nI_Lmul, pk_sub, nI_subL, nI_Lsub, nI_inc, nI_clampL, Nat.add_sub_cancel, pz_wi_else, pz_wl_else, vu_eq, vu_ne, pz_wi_gc, pz_wi_ga, pz_wi_gn, pz_wi_gl, pz_wi_gr, pz_wi_same, pz_wi_X, pz_wl_gc, pz_wl_ga, pz_wl_gn, pz_wl_gi, pz_wl_gr, pz_wl_same, pz_wl_X, pz_wr_gc, pz_wr_ga, pz_wr_gn, pz_wr_gi, pz_wr_gl, pz_wr_same, pz_wr_X, bI_t])
      refine po_brP (fun q7 => ?_) (fun q7 => ?_)
      · skip
        (try simp (disch := omega) only [nI_ltI, nI_leI, nI_eq, nI_ltL, nI_leL, nI_eqL, nI_Llt, nI_Lle, nI_Leq, nI_eqm, nI_meq, nI_ltm, nI_lem, nI_mlt, nI_mle, lg0, lgl, lgg, lgle, lgge, Int32.not_lt, Int32.not_le, Int64.not_lt, Int64.not_le, not_false_eq_true, not_true_eq_false, Decidable.not_not, ge_iff_le, gt_iff_lt] at q7)
        refine pw_blk (mi := mz_234) (b := bz_234_12) rfl rfl ?_
        simp only [bz_234_12, pz_cut_t, pz_cut_f, pz_cut_n, pv_gt, pv_ts, pv_tn, ev_ald0, ev_eld0, ev_gf4_2, ev_gf8_0, ev_bp24, ev_ic_lt, pz_wi_gc, pz_wi_ga, pz_wi_gn, pz_wi_gl, pz_wi_gr, pz_wi_same, pz_wi_X, pz_wl_gc, pz_wl_ga, pz_wl_gn, pz_wl_gi, pz_wl_gr, pz_wl_same, pz_wl_X, pz_wr_gc, pz_wr_ga, pz_wr_gn, pz_wr_gi, pz_wr_gl, pz_wr_same, pz_wr_X, so_18 hS, sr_18_1 hS, so_19 hS, so_18 hS1, sr_18_1 hS1, so_19 hS1, e0']
        (try simp (disch := omega) only [nI_clamp, pz_in_nI2, pz_in_nI2L, pv_gt, nI_add, nI_addL, nI_Ladd, pk_mul, nI_mulL, nI_Lmul, pk_sub, nI_subL, nI_Lsub, nI_inc, nI_clampL, Nat.add_sub_cancel, pz_wi_else, pz_wl_else, vu_eq, vu_ne, pz_wi_gc, pz_wi_ga, pz_wi_gn, pz_wi_gl, pz_wi_gr, pz_wi_same, pz_wi_X, pz_wl_gc, pz_wl_ga, pz_wl_gn, pz_wl_gi, pz_wl_gr, pz_wl_same, pz_wl_X, pz_wr_gc, pz_wr_ga, pz_wr_gn, pz_wr_gi, pz_wr_gl, pz_wr_same, pz_wr_X, so_18 hS1, sr_18_1 hS1, so_19 hS1, e0'])
        refine po_brP (fun q12 => ?_) (fun q12 => ?_)
        · first
          | exact absurd q12 (by decide)
          | exact absurd trivial q12
          | exact q12.elim
          | (exfalso; (try simp (disch := omega) only [nI_ltI, nI_leI, nI_eq, nI_ltL, nI_leL, nI_eqL, nI_Llt, nI_Lle, nI_Leq, nI_eqm, nI_meq, nI_ltm, nI_lem, nI_mlt, nI_mle, lg0, lgl, lgg, lgle, lgge, Int32.not_lt, Int32.not_le, Int64.not_lt, Int64.not_le, not_false_eq_true, not_true_eq_false, Decidable.not_not, ge_iff_le, gt_iff_lt] at q12) <;> omega)
          | exact absurd q12 (by with_reducible assumption)
          | exact absurd (by with_reducible assumption) q12
          | exact absurd (Decidable.not_not.mp q12) (by with_reducible assumption)
          | exact absurd (by with_reducible assumption) (Int32.not_le.mpr q12)
          | exact absurd (by with_reducible assumption) (Int32.not_lt.mpr q12)
        · skip
          (try simp (disch := omega) only [nI_ltI, nI_leI, nI_eq, nI_ltL, nI_leL, nI_eqL, nI_Llt, nI_Lle, nI_Leq, nI_eqm, nI_meq, nI_ltm, nI_lem, nI_mlt, nI_mle, lg0, lgl, lgg, lgle, lgge, Int32.not_lt, Int32.not_le, Int64.not_lt, Int64.not_le, not_false_eq_true, not_true_eq_false, Decidable.not_not, ge_iff_le, gt_iff_lt] at q12)
          refine pw_blk (mi := mz_234) (b := bz_234_24) rfl rfl ?_
          simp only [bz_234_24, pz_cut_t, pz_cut_f, pz_cut_n, pv_gt, pv_ts, pv_tn, ev_ald0, ev_eld0, ev_gf4_2, ev_ic2, ev_cv1_10, pz_wi_gc, pz_wi_ga, pz_wi_gn, pz_wi_gl, pz_wi_gr, pz_wi_same, pz_wi_X, pz_wl_gc, pz_wl_ga, pz_wl_gn, pz_wl_gi, pz_wl_gr, pz_wl_same, pz_wl_X, pz_wr_gc, pz_wr_ga, pz_wr_gn, pz_wr_gi, pz_wr_gl, pz_wr_same, pz_wr_X, so_18 hS, sr_18_0 hS, so_1 hS, so_18 hS1, sr_18_0 hS1, so_1 hS1]
          (try simp (disch := omega) only [nI_clamp, pz_in_nI2, pz_in_nI2L, pv_gt, nI_add, nI_addL, nI_Ladd, pk_mul, nI_mulL, nI_Lmul, pk_sub, nI_subL, nI_Lsub, nI_inc, nI_clampL, Nat.add_sub_cancel, pz_wi_else, pz_wl_else, vu_eq, vu_ne, pz_wi_gc, pz_wi_ga, pz_wi_gn, pz_wi_gl, pz_wi_gr, pz_wi_same, pz_wi_X, pz_wl_gc, pz_wl_ga, pz_wl_gn, pz_wl_gi, pz_wl_gr, pz_wl_same, pz_wl_X, pz_wr_gc, pz_wr_ga, pz_wr_gn, pz_wr_gi, pz_wr_gl, pz_wr_same, pz_wr_X, so_18 hS1, sr_18_0 hS1, so_1 hS1])
          (try refine po_gP (Nat.le_of_ble_eq_true rfl) ?_)
          refine po_call (by omega) (m_fail (j := 2) (by decide) (by decide) s1 (fun M2 c2 s2 => ?_))
          refine pw_blk (mi := mz_234) (b := bz_234_32) rfl rfl ?_
          simp only [bz_234_32, pz_cut_t, pz_cut_f, pz_cut_n, pv_gt, pv_ts, pv_tn, ev_ic0, ev_iret1, pz_wi_gc, pz_wi_ga, pz_wi_gn, pz_wi_gl, pz_wi_gr, pz_wi_same, pz_wi_X, pz_wl_gc, pz_wl_ga, pz_wl_gn, pz_wl_gi, pz_wl_gr, pz_wl_same, pz_wl_X, pz_wr_gc, pz_wr_ga, pz_wr_gn, pz_wr_gi, pz_wr_gl, pz_wr_same, pz_wr_X]
          (try simp (disch := omega) only [nI_clamp, pz_in_nI2, pz_in_nI2L, pv_gt, nI_add, nI_addL, nI_Ladd, pk_mul, nI_mulL, nI_Lmul, pk_sub, nI_subL, nI_Lsub, nI_inc, nI_clampL, Nat.add_sub_cancel, pz_wi_else, pz_wl_else, vu_eq, vu_ne, pz_wi_gc, pz_wi_ga, pz_wi_gn, pz_wi_gl, pz_wi_gr, pz_wi_same, pz_wi_X, pz_wl_gc, pz_wl_ga, pz_wl_gn, pz_wl_gi, pz_wl_gr, pz_wl_same, pz_wl_X, pz_wr_gc, pz_wr_ga, pz_wr_gn, pz_wr_gi, pz_wr_gl, pz_wr_same, pz_wr_X])
          (try refine po_gP (by first | decide | assumption) ?_)
          exact po_ret (k2 zg hB2 M2 (c1.tr c2) s2)
      · first
        | exact absurd q7 (by decide)
        | exact absurd trivial q7
        | exact q7.elim
        | (exfalso; (try simp (disch := omega) only [nI_ltI, nI_leI, nI_eq, nI_ltL, nI_leL, nI_eqL, nI_Llt, nI_Lle, nI_Leq, nI_eqm, nI_meq, nI_ltm, nI_lem, nI_mlt, nI_mle, lg0, lgl, lgg, lgle, lgge, Int32.not_lt, Int32.not_le, Int64.not_lt, Int64.not_le, not_false_eq_true, not_true_eq_false, Decidable.not_not, ge_iff_le, gt_iff_lt] at q7) <;> omega)
        | exact absurd q7 (by with_reducible assumption)
        | exact absurd (by with_reducible assumption) q7
        | exact absurd (Decidable.not_not.mp q7) (by with_reducible assumption)
        | exact absurd (by with_reducible assumption) (Int32.not_le.mpr q7)
        | exact absurd (by with_reducible assumption) (Int32.not_lt.mpr q7)
end SC
