/-! ===== laws, plans: the reference ===== -/
section RT
variable {d : Nat} {M M' : pz_M} {Q : Option Value × pz_M → Prop} {ru : Bool} {T : Nat → Nat} {L : Nat} {b : Nat}
theorem rsc.toldW {c : Sc} (x : rsc M b c) : rsc (pz_wi M 133 (va_up (gi M 133) b 1)) b c.told := by
  obtain ⟨⟨x0, x3, x6, x10, x18⟩, xL, xD, xB, xH, xP, xN⟩ := x
  unfold rsc
  simp (disch := decide) only [pz_wi_gl, pz_wi_else, pz_wi_same, vu_eq]
  exact ⟨⟨x0, x3, x6, x10, rfl⟩, xL, xD, xB, xH, xP, xN⟩
theorem rsc.law0W {c : Sc} {n : Nat} (x : rsc M b c) : rsc (pz_wi M 127 (va_up (gi M 127) b (nI n))) b (c.law 0 n) := by
  obtain ⟨x1, xL, xD, xB, xH, xP, xN⟩ := x
  unfold rsc
  simp (disch := decide) only [pz_wi_gl, pz_wi_else, pz_wi_same, vu_eq]
  exact ⟨x1, ⟨rfl, xL.2.1, xL.2.2.1, xL.2.2.2.1, xL.2.2.2.2.1, xL.2.2.2.2.2⟩, xD, xB, xH, xP, xN⟩
theorem rsc.law1W {c : Sc} {n : Nat} (x : rsc M b c) : rsc (pz_wi M 128 (va_up (gi M 128) b (nI n))) b (c.law 1 n) := by
  obtain ⟨x1, xL, xD, xB, xH, xP, xN⟩ := x
  unfold rsc
  simp (disch := decide) only [pz_wi_gl, pz_wi_else, pz_wi_same, vu_eq]
  exact ⟨x1, ⟨xL.1, rfl, xL.2.2.1, xL.2.2.2.1, xL.2.2.2.2.1, xL.2.2.2.2.2⟩, xD, xB, xH, xP, xN⟩
theorem rsc.law2W {c : Sc} {n : Nat} (x : rsc M b c) : rsc (pz_wi M 129 (va_up (gi M 129) b (nI n))) b (c.law 2 n) := by
  obtain ⟨x1, xL, xD, xB, xH, xP, xN⟩ := x
  unfold rsc
  simp (disch := decide) only [pz_wi_gl, pz_wi_else, pz_wi_same, vu_eq]
  exact ⟨x1, ⟨xL.1, xL.2.1, rfl, xL.2.2.2.1, xL.2.2.2.2.1, xL.2.2.2.2.2⟩, xD, xB, xH, xP, xN⟩
theorem rsc.law3W {c : Sc} {n : Nat} (x : rsc M b c) : rsc (pz_wi M 130 (va_up (gi M 130) b (nI n))) b (c.law 3 n) := by
  obtain ⟨x1, xL, xD, xB, xH, xP, xN⟩ := x
  unfold rsc
  simp (disch := decide) only [pz_wi_gl, pz_wi_else, pz_wi_same, vu_eq]
  exact ⟨x1, ⟨xL.1, xL.2.1, xL.2.2.1, rfl, xL.2.2.2.2.1, xL.2.2.2.2.2⟩, xD, xB, xH, xP, xN⟩
theorem rsc.law4W {c : Sc} {n : Nat} (x : rsc M b c) : rsc (pz_wi M 131 (va_up (gi M 131) b (nI n))) b (c.law 4 n) := by
  obtain ⟨x1, xL, xD, xB, xH, xP, xN⟩ := x
  unfold rsc
  simp (disch := decide) only [pz_wi_gl, pz_wi_else, pz_wi_same, vu_eq]
  exact ⟨x1, ⟨xL.1, xL.2.1, xL.2.2.1, xL.2.2.2.1, rfl, xL.2.2.2.2.2⟩, xD, xB, xH, xP, xN⟩
theorem rsc.law5W {c : Sc} {n : Nat} (x : rsc M b c) : rsc (pz_wi M 132 (va_up (gi M 132) b (nI n))) b (c.law 5 n) := by
  obtain ⟨x1, xL, xD, xB, xH, xP, xN⟩ := x
  unfold rsc
  simp (disch := decide) only [pz_wi_gl, pz_wi_else, pz_wi_same, vu_eq]
  exact ⟨x1, ⟨xL.1, xL.2.1, xL.2.2.1, xL.2.2.2.1, xL.2.2.2.2.1, rfl⟩, xD, xB, xH, xP, xN⟩
/-- a law's numbers, behind its word -/
def rlL (ru : Bool) (T : Nat → Nat) (L : Nat) : Nat → Nat → Sg → Sc → Sg × Sc
  | 0, _, σ, c => (σ, c)
  | f + 1, i, σ, c => rlL ru T L f (i + 1) (tnF ru T L (7 + i) (lwLo i) (lwHi i) σ) (c.law i (nuV (nxF ru T L σ)))
theorem rlL_f : ∀ f i σ c, isG σ = false → (rlL ru T L f i σ c).1 = σ := by
  intro f
  induction f with
  | zero => intro i σ c h; rfl
  | succ f ih =>
    intro i σ c h
    rw [rlL, tnF_f h]
    exact ih _ _ _ h
theorem law_eq : ∀ f i σ c, (lawL ru T L f i σ c).1 = (rlL ru T L f i σ c).1 ∧ (isG (lawL ru T L f i σ c).1 = true → (lawL ru T L f i σ c).2 = (rlL ru T L f i σ c).2) := by
  intro f
  induction f with
  | zero => intro i σ c; exact ⟨rfl, fun _ => rfl⟩
  | succ f ih =>
    intro i σ c
    by_cases h : isG σ = true
    · by_cases g : tnB ru T L (7 + i) (lwLo i) (lwHi i) σ = true
      · rw [lawL, if_pos h, if_pos g, rlL, tnF_t g]
        exact ih _ _ _
      · have hf := tnF_G (ru := ru) (T := T) (L := L) (show tnB ru T L (7 + i) (lwLo i) (lwHi i) σ = false by cases q : tnB ru T L (7 + i) (lwLo i) (lwHi i) σ with | true => exact absurd q g | false => rfl)
        rw [lawL, if_pos h, if_neg g, rlL, rlL_f _ _ _ _ hf]
        exact ⟨rfl, fun z => by rw [hf] at z; cases z⟩
    · have hf := isG_f h
      rw [lawL, if_neg h, rlL_f _ _ _ _ hf]
      exact ⟨rfl, fun z => absurd z h⟩
theorem lawS_eq {σ : Sg} {c : Sc} (h : c.lt = false) : (lawS ru T L σ c).1 = tsF ru T L 59 (rlL ru T L 6 0 (nxF ru T L σ) c.told).1 ∧ (isG (lawS ru T L σ c).1 = true → (lawS ru T L σ c).2 = (rlL ru T L 6 0 (nxF ru T L σ) c.told).2) := by
  unfold lawS
  rw [if_neg (by rw [h]; decide)]
  obtain ⟨a1, a2⟩ := law_eq (ru := ru) (T := T) (L := L) 6 0 (nxF ru T L σ) c.told
  refine ⟨by rw [a1], fun z => a2 ?_⟩
  exact isC_G (tsF_G z)
theorem tnV {w lo hi : Nat} {σ : Sg} (h : isG (tnF ru T L w lo hi σ) = true) : (if tnB ru T L w lo hi σ = true then nI (nuV (nxF ru T L σ)) else nI lo) = nI (nuV (nxF ru T L σ)) := if_pos (tnF_g h).1
theorem r_readLaw (hd : 14 ≤ d) {τ : Sg} {c : Sc} (hb : b ≤ 1) (e39 : gi M 120 39 = nI b) (s : rSt M ru T L τ) (x : rsc M b c) (k : ∀ M', bfr M M' b → rSt M' ru T L (rlL ru T L 6 0 τ c.told).1 → (isG (rlL ru T L 6 0 τ c.told).1 = true → rsc M' b (rlL ru T L 6 0 τ c.told).2) → Q (none, M')) : pm d 196 [.ref 120] M Q := by
  have hS := s.1.1
  have w2 : b / 1 = b := by omega
  have x0 := x.toldW
  have f0 : bfr M (pz_wi M 133 (va_up (gi M 133) b 1)) b := bfr.rf.wi (w := 1) (by decide) w2
  have s0 := s.sm (M' := pz_wi M 133 (va_up (gi M 133) b 1)) (K := [133]) (sm.wi sm.rf (by decide)) (by decide) (by decide)
  refine pm_ent (L := [some (.ref 120)]) rfl (Nat.le_of_ble_eq_true rfl) ?_
  refine pw_blk (mi := mz_196) (b := bz_196_0) rfl rfl ?_
  simp only [bz_196_0, pz_cut_t, pz_cut_f, pz_cut_n, pv_gt, pv_ts, pv_tn, ev_ald0, ev_eld0, ev_gf11_2, ev_gf11_0, ev_ic1, ea_bast, ea_zast, ev_ldl1734437230, ev_sp500, ev_cv3_11, pz_wi_gc, pz_wi_ga, pz_wi_gn, pz_wi_gl, pz_wi_gr, pz_wi_same, pz_wi_X, pz_wl_gc, pz_wl_ga, pz_wl_gn, pz_wl_gi, pz_wl_gr, pz_wl_same, pz_wl_X, pz_wr_gc, pz_wr_ga, pz_wr_gn, pz_wr_gi, pz_wr_gl, pz_wr_same, pz_wr_X, so_120 hS, sr_120_22 hS, sa_133 hS, sn_133 hS, sr_120_16 hS, sa_127 hS, sn_127 hS, e39, sa_128 hS, sn_128 hS, sa_129 hS, sn_129 hS, sa_130 hS, sn_130 hS, sa_131 hS, sn_131 hS, sa_132 hS, sn_132 hS]
  (try simp (disch := omega) only [nI_clamp, pz_in_nI2, pz_in_nI2L, pv_gt, nI_add, nI_addL, nI_Ladd, pk_mul, nI_mulL, nI_Lmul, pk_sub, nI_subL, nI_Lsub, nI_inc, nI_clampL, Nat.add_sub_cancel, pz_wi_else, pz_wl_else, vu_eq, vu_ne, pz_wi_gc, pz_wi_ga, pz_wi_gn, pz_wi_gl, pz_wi_gr, pz_wi_same, pz_wi_X, pz_wl_gc, pz_wl_ga, pz_wl_gn, pz_wl_gi, pz_wl_gr, pz_wl_same, pz_wl_X, pz_wr_gc, pz_wr_ga, pz_wr_gn, pz_wr_gi, pz_wr_gl, pz_wr_same, pz_wr_X, e39])
  (try refine po_gI (by first | exact pz_in_nI (by omega) (by decide) | decide | assumption) ?_)
  (try refine po_gP (Nat.le_of_ble_eq_true rfl) ?_)
  refine po_call (by omega) (r_after (w := 7 + 0) (lo := lwLo 0) (hi := lwHi 0) (by omega) (by decide +kernel) (by decide) (by decide) (by decide) (by decide) s0 (fun M1 r1 t1 => ?_))
  have hS1 := t1.1.1
  have e1 : gi M1 120 39 = nI b := by rw [(f0.tr (bfr.of (b := b) r1)).2.1 39 (by decide) (by decide) (by decide) (by decide) (by decide) (by decide)]; exact e39
  have f1 : bfr M (pz_wi M1 127 (va_up (gi M1 127) b (if tnB ru T L (7 + 0) (lwLo 0) (lwHi 0) τ = true then nI (nuV (nxF ru T L τ)) else nI (lwLo 0)))) b := (f0.tr (bfr.of r1)).wi (w := 1) (by decide) w2
  have s1 := t1.sm (M' := (pz_wi M1 127 (va_up (gi M1 127) b (if tnB ru T L (7 + 0) (lwLo 0) (lwHi 0) τ = true then nI (nuV (nxF ru T L τ)) else nI (lwLo 0))))) (K := [127]) (sm.wi sm.rf (by decide)) (by decide) (by decide)
  have x1 : isG (tnF ru T L (7 + 0) (lwLo 0) (lwHi 0) τ) = true → rsc (pz_wi M1 127 (va_up (gi M1 127) b (if tnB ru T L (7 + 0) (lwLo 0) (lwHi 0) τ = true then nI (nuV (nxF ru T L τ)) else nI (lwLo 0)))) b (c.told.law 0 (nuV (nxF ru T L τ))) := fun y => by rw [tnV y]; exact (x0.r r1).law0W
  refine pw_blk (mi := mz_196) (b := bz_196_29) rfl rfl ?_
  simp only [bz_196_29, pz_cut_t, pz_cut_f, pz_cut_n, pv_gt, pv_ts, pv_tn, ea_iast, ev_ald0, ev_eld0, ev_gf11_2, ev_gf11_0, ev_ldl1717658725, ev_ic0, ev_sp200, ev_cv3_11, pz_wi_gc, pz_wi_ga, pz_wi_gn, pz_wi_gl, pz_wi_gr, pz_wi_same, pz_wi_X, pz_wl_gc, pz_wl_ga, pz_wl_gn, pz_wl_gi, pz_wl_gr, pz_wl_same, pz_wl_X, pz_wr_gc, pz_wr_ga, pz_wr_gn, pz_wr_gi, pz_wr_gl, pz_wr_same, pz_wr_X, so_120 hS, sr_120_17 hS, sa_128 hS, sn_128 hS, e39, so_120 hS1, sr_120_16 hS1, sa_127 hS1, sn_127 hS1, e1, sr_120_17 hS1, sa_133 hS, sn_133 hS, sa_127 hS, sn_127 hS, sa_129 hS, sn_129 hS, sa_130 hS, sn_130 hS, sa_131 hS, sn_131 hS, sa_132 hS, sn_132 hS]
  (try simp (disch := omega) only [nI_clamp, pz_in_nI2, pz_in_nI2L, pv_gt, nI_add, nI_addL, nI_Ladd, pk_mul, nI_mulL, nI_Lmul, pk_sub, nI_subL, nI_Lsub, nI_inc, nI_clampL, Nat.add_sub_cancel, pz_wi_else, pz_wl_else, vu_eq, vu_ne, pz_wi_gc, pz_wi_ga, pz_wi_gn, pz_wi_gl, pz_wi_gr, pz_wi_same, pz_wi_X, pz_wl_gc, pz_wl_ga, pz_wl_gn, pz_wl_gi, pz_wl_gr, pz_wl_same, pz_wl_X, pz_wr_gc, pz_wr_ga, pz_wr_gn, pz_wr_gi, pz_wr_gl, pz_wr_same, pz_wr_X, e39, so_120 hS1, sr_120_16 hS1, sa_127 hS1, sn_127 hS1, e1, sr_120_17 hS1])
  (try refine po_gI (by first | exact pz_in_nI (by omega) (by decide) | decide | assumption) ?_)
  (try refine po_gP (Nat.le_of_ble_eq_true rfl) ?_)
  refine po_call (by omega) (r_after (w := 7 + 1) (lo := lwLo 1) (hi := lwHi 1) (by omega) (by decide +kernel) (by decide) (by decide) (by decide) (by decide) s1 (fun M2 r2 t2 => ?_))
  have hS2 := t2.1.1
  have e2 : gi M2 120 39 = nI b := by rw [(f1.tr (bfr.of (b := b) r2)).2.1 39 (by decide) (by decide) (by decide) (by decide) (by decide) (by decide)]; exact e39
  have f2 : bfr M (pz_wi M2 128 (va_up (gi M2 128) b (if tnB ru T L (7 + 1) (lwLo 1) (lwHi 1) (tnF ru T L (7 + 0) (lwLo 0) (lwHi 0) τ) = true then nI (nuV (nxF ru T L (tnF ru T L (7 + 0) (lwLo 0) (lwHi 0) τ))) else nI (lwLo 1)))) b := (f1.tr (bfr.of r2)).wi (w := 1) (by decide) w2
  have s2 := t2.sm (M' := (pz_wi M2 128 (va_up (gi M2 128) b (if tnB ru T L (7 + 1) (lwLo 1) (lwHi 1) (tnF ru T L (7 + 0) (lwLo 0) (lwHi 0) τ) = true then nI (nuV (nxF ru T L (tnF ru T L (7 + 0) (lwLo 0) (lwHi 0) τ))) else nI (lwLo 1))))) (K := [128]) (sm.wi sm.rf (by decide)) (by decide) (by decide)
  have x2 : isG (tnF ru T L (7 + 1) (lwLo 1) (lwHi 1) (tnF ru T L (7 + 0) (lwLo 0) (lwHi 0) τ)) = true → rsc (pz_wi M2 128 (va_up (gi M2 128) b (if tnB ru T L (7 + 1) (lwLo 1) (lwHi 1) (tnF ru T L (7 + 0) (lwLo 0) (lwHi 0) τ) = true then nI (nuV (nxF ru T L (tnF ru T L (7 + 0) (lwLo 0) (lwHi 0) τ))) else nI (lwLo 1)))) b ((c.told.law 0 (nuV (nxF ru T L τ))).law 1 (nuV (nxF ru T L (tnF ru T L (7 + 0) (lwLo 0) (lwHi 0) τ)))) := fun y => by rw [tnV y]; exact ((x1 (tnF_g y).2.2).r r2).law1W
  refine pw_blk (mi := mz_196) (b := bz_196_49) rfl rfl ?_
  simp only [bz_196_49, pz_cut_t, pz_cut_f, pz_cut_n, pv_gt, pv_ts, pv_tn, ea_iast, ev_ald0, ev_eld0, ev_gf11_2, ev_gf11_0, ev_ldl427121668979, ev_ic0, ev_bp100, ev_cv3_11, pz_wi_gc, pz_wi_ga, pz_wi_gn, pz_wi_gl, pz_wi_gr, pz_wi_same, pz_wi_X, pz_wl_gc, pz_wl_ga, pz_wl_gn, pz_wl_gi, pz_wl_gr, pz_wl_same, pz_wl_X, pz_wr_gc, pz_wr_ga, pz_wr_gn, pz_wr_gi, pz_wr_gl, pz_wr_same, pz_wr_X, so_120 hS, sr_120_18 hS, sa_129 hS, sn_129 hS, e39, so_120 hS2, sr_120_17 hS2, sa_128 hS2, sn_128 hS2, e2, sr_120_18 hS2, sa_133 hS, sn_133 hS, sa_127 hS, sn_127 hS, sa_128 hS, sn_128 hS, sa_130 hS, sn_130 hS, sa_131 hS, sn_131 hS, sa_132 hS, sn_132 hS]
  (try simp (disch := omega) only [nI_clamp, pz_in_nI2, pz_in_nI2L, pv_gt, nI_add, nI_addL, nI_Ladd, pk_mul, nI_mulL, nI_Lmul, pk_sub, nI_subL, nI_Lsub, nI_inc, nI_clampL, Nat.add_sub_cancel, pz_wi_else, pz_wl_else, vu_eq, vu_ne, pz_wi_gc, pz_wi_ga, pz_wi_gn, pz_wi_gl, pz_wi_gr, pz_wi_same, pz_wi_X, pz_wl_gc, pz_wl_ga, pz_wl_gn, pz_wl_gi, pz_wl_gr, pz_wl_same, pz_wl_X, pz_wr_gc, pz_wr_ga, pz_wr_gn, pz_wr_gi, pz_wr_gl, pz_wr_same, pz_wr_X, e39, so_120 hS2, sr_120_17 hS2, sa_128 hS2, sn_128 hS2, e2, sr_120_18 hS2])
  (try refine po_gI (by first | exact pz_in_nI (by omega) (by decide) | decide | assumption) ?_)
  (try refine po_gP (Nat.le_of_ble_eq_true rfl) ?_)
  refine po_call (by omega) (r_after (w := 7 + 2) (lo := lwLo 2) (hi := lwHi 2) (by omega) (by decide +kernel) (by decide) (by decide) (by decide) (by decide) s2 (fun M3 r3 t3 => ?_))
  have hS3 := t3.1.1
  have e3 : gi M3 120 39 = nI b := by rw [(f2.tr (bfr.of (b := b) r3)).2.1 39 (by decide) (by decide) (by decide) (by decide) (by decide) (by decide)]; exact e39
  have f3 : bfr M (pz_wi M3 129 (va_up (gi M3 129) b (if tnB ru T L (7 + 2) (lwLo 2) (lwHi 2) (tnF ru T L (7 + 1) (lwLo 1) (lwHi 1) (tnF ru T L (7 + 0) (lwLo 0) (lwHi 0) τ)) = true then nI (nuV (nxF ru T L (tnF ru T L (7 + 1) (lwLo 1) (lwHi 1) (tnF ru T L (7 + 0) (lwLo 0) (lwHi 0) τ)))) else nI (lwLo 2)))) b := (f2.tr (bfr.of r3)).wi (w := 1) (by decide) w2
  have s3 := t3.sm (M' := (pz_wi M3 129 (va_up (gi M3 129) b (if tnB ru T L (7 + 2) (lwLo 2) (lwHi 2) (tnF ru T L (7 + 1) (lwLo 1) (lwHi 1) (tnF ru T L (7 + 0) (lwLo 0) (lwHi 0) τ)) = true then nI (nuV (nxF ru T L (tnF ru T L (7 + 1) (lwLo 1) (lwHi 1) (tnF ru T L (7 + 0) (lwLo 0) (lwHi 0) τ)))) else nI (lwLo 2))))) (K := [129]) (sm.wi sm.rf (by decide)) (by decide) (by decide)
  have x3 : isG (tnF ru T L (7 + 2) (lwLo 2) (lwHi 2) (tnF ru T L (7 + 1) (lwLo 1) (lwHi 1) (tnF ru T L (7 + 0) (lwLo 0) (lwHi 0) τ))) = true → rsc (pz_wi M3 129 (va_up (gi M3 129) b (if tnB ru T L (7 + 2) (lwLo 2) (lwHi 2) (tnF ru T L (7 + 1) (lwLo 1) (lwHi 1) (tnF ru T L (7 + 0) (lwLo 0) (lwHi 0) τ)) = true then nI (nuV (nxF ru T L (tnF ru T L (7 + 1) (lwLo 1) (lwHi 1) (tnF ru T L (7 + 0) (lwLo 0) (lwHi 0) τ)))) else nI (lwLo 2)))) b (((c.told.law 0 (nuV (nxF ru T L τ))).law 1 (nuV (nxF ru T L (tnF ru T L (7 + 0) (lwLo 0) (lwHi 0) τ)))).law 2 (nuV (nxF ru T L (tnF ru T L (7 + 1) (lwLo 1) (lwHi 1) (tnF ru T L (7 + 0) (lwLo 0) (lwHi 0) τ))))) := fun y => by rw [tnV y]; exact ((x2 (tnF_g y).2.2).r r3).law2W
  refine pw_blk (mi := mz_196) (b := bz_196_68) rfl rfl ?_
  simp only [bz_196_68, pz_cut_t, pz_cut_f, pz_cut_n, pv_gt, pv_ts, pv_tn, ea_iast, ev_ald0, ev_eld0, ev_gf11_2, ev_gf11_0, ev_ldl2003132779, ev_ic0, ev_sp1000, ev_cv3_11, pz_wi_gc, pz_wi_ga, pz_wi_gn, pz_wi_gl, pz_wi_gr, pz_wi_same, pz_wi_X, pz_wl_gc, pz_wl_ga, pz_wl_gn, pz_wl_gi, pz_wl_gr, pz_wl_same, pz_wl_X, pz_wr_gc, pz_wr_ga, pz_wr_gn, pz_wr_gi, pz_wr_gl, pz_wr_same, pz_wr_X, so_120 hS, sr_120_19 hS, sa_130 hS, sn_130 hS, e39, so_120 hS3, sr_120_18 hS3, sa_129 hS3, sn_129 hS3, e3, sr_120_19 hS3, sa_133 hS, sn_133 hS, sa_127 hS, sn_127 hS, sa_128 hS, sn_128 hS, sa_129 hS, sn_129 hS, sa_131 hS, sn_131 hS, sa_132 hS, sn_132 hS]
  (try simp (disch := omega) only [nI_clamp, pz_in_nI2, pz_in_nI2L, pv_gt, nI_add, nI_addL, nI_Ladd, pk_mul, nI_mulL, nI_Lmul, pk_sub, nI_subL, nI_Lsub, nI_inc, nI_clampL, Nat.add_sub_cancel, pz_wi_else, pz_wl_else, vu_eq, vu_ne, pz_wi_gc, pz_wi_ga, pz_wi_gn, pz_wi_gl, pz_wi_gr, pz_wi_same, pz_wi_X, pz_wl_gc, pz_wl_ga, pz_wl_gn, pz_wl_gi, pz_wl_gr, pz_wl_same, pz_wl_X, pz_wr_gc, pz_wr_ga, pz_wr_gn, pz_wr_gi, pz_wr_gl, pz_wr_same, pz_wr_X, e39, so_120 hS3, sr_120_18 hS3, sa_129 hS3, sn_129 hS3, e3, sr_120_19 hS3])
  (try refine po_gI (by first | exact pz_in_nI (by omega) (by decide) | decide | assumption) ?_)
  (try refine po_gP (Nat.le_of_ble_eq_true rfl) ?_)
  refine po_call (by omega) (r_after (w := 7 + 3) (lo := lwLo 3) (hi := lwHi 3) (by omega) (by decide +kernel) (by decide) (by decide) (by decide) (by decide) s3 (fun M4 r4 t4 => ?_))
  have hS4 := t4.1.1
  have e4 : gi M4 120 39 = nI b := by rw [(f3.tr (bfr.of (b := b) r4)).2.1 39 (by decide) (by decide) (by decide) (by decide) (by decide) (by decide)]; exact e39
  have f4 : bfr M (pz_wi M4 130 (va_up (gi M4 130) b (if tnB ru T L (7 + 3) (lwLo 3) (lwHi 3) (tnF ru T L (7 + 2) (lwLo 2) (lwHi 2) (tnF ru T L (7 + 1) (lwLo 1) (lwHi 1) (tnF ru T L (7 + 0) (lwLo 0) (lwHi 0) τ))) = true then nI (nuV (nxF ru T L (tnF ru T L (7 + 2) (lwLo 2) (lwHi 2) (tnF ru T L (7 + 1) (lwLo 1) (lwHi 1) (tnF ru T L (7 + 0) (lwLo 0) (lwHi 0) τ))))) else nI (lwLo 3)))) b := (f3.tr (bfr.of r4)).wi (w := 1) (by decide) w2
  have s4 := t4.sm (M' := (pz_wi M4 130 (va_up (gi M4 130) b (if tnB ru T L (7 + 3) (lwLo 3) (lwHi 3) (tnF ru T L (7 + 2) (lwLo 2) (lwHi 2) (tnF ru T L (7 + 1) (lwLo 1) (lwHi 1) (tnF ru T L (7 + 0) (lwLo 0) (lwHi 0) τ))) = true then nI (nuV (nxF ru T L (tnF ru T L (7 + 2) (lwLo 2) (lwHi 2) (tnF ru T L (7 + 1) (lwLo 1) (lwHi 1) (tnF ru T L (7 + 0) (lwLo 0) (lwHi 0) τ))))) else nI (lwLo 3))))) (K := [130]) (sm.wi sm.rf (by decide)) (by decide) (by decide)
  have x4 : isG (tnF ru T L (7 + 3) (lwLo 3) (lwHi 3) (tnF ru T L (7 + 2) (lwLo 2) (lwHi 2) (tnF ru T L (7 + 1) (lwLo 1) (lwHi 1) (tnF ru T L (7 + 0) (lwLo 0) (lwHi 0) τ)))) = true → rsc (pz_wi M4 130 (va_up (gi M4 130) b (if tnB ru T L (7 + 3) (lwLo 3) (lwHi 3) (tnF ru T L (7 + 2) (lwLo 2) (lwHi 2) (tnF ru T L (7 + 1) (lwLo 1) (lwHi 1) (tnF ru T L (7 + 0) (lwLo 0) (lwHi 0) τ))) = true then nI (nuV (nxF ru T L (tnF ru T L (7 + 2) (lwLo 2) (lwHi 2) (tnF ru T L (7 + 1) (lwLo 1) (lwHi 1) (tnF ru T L (7 + 0) (lwLo 0) (lwHi 0) τ))))) else nI (lwLo 3)))) b ((((c.told.law 0 (nuV (nxF ru T L τ))).law 1 (nuV (nxF ru T L (tnF ru T L (7 + 0) (lwLo 0) (lwHi 0) τ)))).law 2 (nuV (nxF ru T L (tnF ru T L (7 + 1) (lwLo 1) (lwHi 1) (tnF ru T L (7 + 0) (lwLo 0) (lwHi 0) τ))))).law 3 (nuV (nxF ru T L (tnF ru T L (7 + 2) (lwLo 2) (lwHi 2) (tnF ru T L (7 + 1) (lwLo 1) (lwHi 1) (tnF ru T L (7 + 0) (lwLo 0) (lwHi 0) τ)))))) := fun y => by rw [tnV y]; exact ((x3 (tnF_g y).2.2).r r4).law3W
  refine pw_blk (mi := mz_196) (b := bz_196_88) rfl rfl ?_
  simp only [bz_196_88, pz_cut_t, pz_cut_f, pz_cut_n, pv_gt, pv_ts, pv_tn, ea_iast, ev_ald0, ev_eld0, ev_gf11_2, ev_gf11_0, ev_ldl1935767141, ev_ic0, ev_bp24, ev_cv3_11, pz_wi_gc, pz_wi_ga, pz_wi_gn, pz_wi_gl, pz_wi_gr, pz_wi_same, pz_wi_X, pz_wl_gc, pz_wl_ga, pz_wl_gn, pz_wl_gi, pz_wl_gr, pz_wl_same, pz_wl_X, pz_wr_gc, pz_wr_ga, pz_wr_gn, pz_wr_gi, pz_wr_gl, pz_wr_same, pz_wr_X, so_120 hS, sr_120_20 hS, sa_131 hS, sn_131 hS, e39, so_120 hS4, sr_120_19 hS4, sa_130 hS4, sn_130 hS4, e4, sr_120_20 hS4, sa_133 hS, sn_133 hS, sa_127 hS, sn_127 hS, sa_128 hS, sn_128 hS, sa_129 hS, sn_129 hS, sa_130 hS, sn_130 hS, sa_132 hS, sn_132 hS]
  (try simp (disch := omega) only [nI_clamp, pz_in_nI2, pz_in_nI2L, pv_gt, nI_add, nI_addL, nI_Ladd, pk_mul, nI_mulL, nI_Lmul, pk_sub, nI_subL, nI_Lsub, nI_inc, nI_clampL, Nat.add_sub_cancel, pz_wi_else, pz_wl_else, vu_eq, vu_ne, pz_wi_gc, pz_wi_ga, pz_wi_gn, pz_wi_gl, pz_wi_gr, pz_wi_same, pz_wi_X, pz_wl_gc, pz_wl_ga, pz_wl_gn, pz_wl_gi, pz_wl_gr, pz_wl_same, pz_wl_X, pz_wr_gc, pz_wr_ga, pz_wr_gn, pz_wr_gi, pz_wr_gl, pz_wr_same, pz_wr_X, e39, so_120 hS4, sr_120_19 hS4, sa_130 hS4, sn_130 hS4, e4, sr_120_20 hS4])
  (try refine po_gI (by first | exact pz_in_nI (by omega) (by decide) | decide | assumption) ?_)
  (try refine po_gP (Nat.le_of_ble_eq_true rfl) ?_)
  refine po_call (by omega) (r_after (w := 7 + 4) (lo := lwLo 4) (hi := lwHi 4) (by omega) (by decide +kernel) (by decide) (by decide) (by decide) (by decide) s4 (fun M5 r5 t5 => ?_))
  have hS5 := t5.1.1
  have e5 : gi M5 120 39 = nI b := by rw [(f4.tr (bfr.of (b := b) r5)).2.1 39 (by decide) (by decide) (by decide) (by decide) (by decide) (by decide)]; exact e39
  have f5 : bfr M (pz_wi M5 131 (va_up (gi M5 131) b (if tnB ru T L (7 + 4) (lwLo 4) (lwHi 4) (tnF ru T L (7 + 3) (lwLo 3) (lwHi 3) (tnF ru T L (7 + 2) (lwLo 2) (lwHi 2) (tnF ru T L (7 + 1) (lwLo 1) (lwHi 1) (tnF ru T L (7 + 0) (lwLo 0) (lwHi 0) τ)))) = true then nI (nuV (nxF ru T L (tnF ru T L (7 + 3) (lwLo 3) (lwHi 3) (tnF ru T L (7 + 2) (lwLo 2) (lwHi 2) (tnF ru T L (7 + 1) (lwLo 1) (lwHi 1) (tnF ru T L (7 + 0) (lwLo 0) (lwHi 0) τ)))))) else nI (lwLo 4)))) b := (f4.tr (bfr.of r5)).wi (w := 1) (by decide) w2
  have s5 := t5.sm (M' := (pz_wi M5 131 (va_up (gi M5 131) b (if tnB ru T L (7 + 4) (lwLo 4) (lwHi 4) (tnF ru T L (7 + 3) (lwLo 3) (lwHi 3) (tnF ru T L (7 + 2) (lwLo 2) (lwHi 2) (tnF ru T L (7 + 1) (lwLo 1) (lwHi 1) (tnF ru T L (7 + 0) (lwLo 0) (lwHi 0) τ)))) = true then nI (nuV (nxF ru T L (tnF ru T L (7 + 3) (lwLo 3) (lwHi 3) (tnF ru T L (7 + 2) (lwLo 2) (lwHi 2) (tnF ru T L (7 + 1) (lwLo 1) (lwHi 1) (tnF ru T L (7 + 0) (lwLo 0) (lwHi 0) τ)))))) else nI (lwLo 4))))) (K := [131]) (sm.wi sm.rf (by decide)) (by decide) (by decide)
  have x5 : isG (tnF ru T L (7 + 4) (lwLo 4) (lwHi 4) (tnF ru T L (7 + 3) (lwLo 3) (lwHi 3) (tnF ru T L (7 + 2) (lwLo 2) (lwHi 2) (tnF ru T L (7 + 1) (lwLo 1) (lwHi 1) (tnF ru T L (7 + 0) (lwLo 0) (lwHi 0) τ))))) = true → rsc (pz_wi M5 131 (va_up (gi M5 131) b (if tnB ru T L (7 + 4) (lwLo 4) (lwHi 4) (tnF ru T L (7 + 3) (lwLo 3) (lwHi 3) (tnF ru T L (7 + 2) (lwLo 2) (lwHi 2) (tnF ru T L (7 + 1) (lwLo 1) (lwHi 1) (tnF ru T L (7 + 0) (lwLo 0) (lwHi 0) τ)))) = true then nI (nuV (nxF ru T L (tnF ru T L (7 + 3) (lwLo 3) (lwHi 3) (tnF ru T L (7 + 2) (lwLo 2) (lwHi 2) (tnF ru T L (7 + 1) (lwLo 1) (lwHi 1) (tnF ru T L (7 + 0) (lwLo 0) (lwHi 0) τ)))))) else nI (lwLo 4)))) b (((((c.told.law 0 (nuV (nxF ru T L τ))).law 1 (nuV (nxF ru T L (tnF ru T L (7 + 0) (lwLo 0) (lwHi 0) τ)))).law 2 (nuV (nxF ru T L (tnF ru T L (7 + 1) (lwLo 1) (lwHi 1) (tnF ru T L (7 + 0) (lwLo 0) (lwHi 0) τ))))).law 3 (nuV (nxF ru T L (tnF ru T L (7 + 2) (lwLo 2) (lwHi 2) (tnF ru T L (7 + 1) (lwLo 1) (lwHi 1) (tnF ru T L (7 + 0) (lwLo 0) (lwHi 0) τ)))))).law 4 (nuV (nxF ru T L (tnF ru T L (7 + 3) (lwLo 3) (lwHi 3) (tnF ru T L (7 + 2) (lwLo 2) (lwHi 2) (tnF ru T L (7 + 1) (lwLo 1) (lwHi 1) (tnF ru T L (7 + 0) (lwLo 0) (lwHi 0) τ))))))) := fun y => by rw [tnV y]; exact ((x4 (tnF_g y).2.2).r r5).law4W
  refine pw_blk (mi := mz_196) (b := bz_196_107) rfl rfl ?_
  simp only [bz_196_107, pz_cut_t, pz_cut_f, pz_cut_n, pv_gt, pv_ts, pv_tn, ea_iast, ev_ald0, ev_eld0, ev_gf11_2, ev_gf11_0, ev_ldl6644082, ev_ic0, ev_bp24, ev_cv3_11, pz_wi_gc, pz_wi_ga, pz_wi_gn, pz_wi_gl, pz_wi_gr, pz_wi_same, pz_wi_X, pz_wl_gc, pz_wl_ga, pz_wl_gn, pz_wl_gi, pz_wl_gr, pz_wl_same, pz_wl_X, pz_wr_gc, pz_wr_ga, pz_wr_gn, pz_wr_gi, pz_wr_gl, pz_wr_same, pz_wr_X, so_120 hS, sr_120_21 hS, sa_132 hS, sn_132 hS, e39, so_120 hS5, sr_120_20 hS5, sa_131 hS5, sn_131 hS5, e5, sr_120_21 hS5, sa_133 hS, sn_133 hS, sa_127 hS, sn_127 hS, sa_128 hS, sn_128 hS, sa_129 hS, sn_129 hS, sa_130 hS, sn_130 hS, sa_131 hS, sn_131 hS]
  (try simp (disch := omega) only [nI_clamp, pz_in_nI2, pz_in_nI2L, pv_gt, nI_add, nI_addL, nI_Ladd, pk_mul, nI_mulL, nI_Lmul, pk_sub, nI_subL, nI_Lsub, nI_inc, nI_clampL, Nat.add_sub_cancel, pz_wi_else, pz_wl_else, vu_eq, vu_ne, pz_wi_gc, pz_wi_ga, pz_wi_gn, pz_wi_gl, pz_wi_gr, pz_wi_same, pz_wi_X, pz_wl_gc, pz_wl_ga, pz_wl_gn, pz_wl_gi, pz_wl_gr, pz_wl_same, pz_wl_X, pz_wr_gc, pz_wr_ga, pz_wr_gn, pz_wr_gi, pz_wr_gl, pz_wr_same, pz_wr_X, e39, so_120 hS5, sr_120_20 hS5, sa_131 hS5, sn_131 hS5, e5, sr_120_21 hS5])
  (try refine po_gI (by first | exact pz_in_nI (by omega) (by decide) | decide | assumption) ?_)
  (try refine po_gP (Nat.le_of_ble_eq_true rfl) ?_)
  refine po_call (by omega) (r_after (w := 7 + 5) (lo := lwLo 5) (hi := lwHi 5) (by omega) (by decide +kernel) (by decide) (by decide) (by decide) (by decide) s5 (fun M6 r6 t6 => ?_))
  have hS6 := t6.1.1
  have e6 : gi M6 120 39 = nI b := by rw [(f5.tr (bfr.of (b := b) r6)).2.1 39 (by decide) (by decide) (by decide) (by decide) (by decide) (by decide)]; exact e39
  have f6 : bfr M (pz_wi M6 132 (va_up (gi M6 132) b (if tnB ru T L (7 + 5) (lwLo 5) (lwHi 5) (tnF ru T L (7 + 4) (lwLo 4) (lwHi 4) (tnF ru T L (7 + 3) (lwLo 3) (lwHi 3) (tnF ru T L (7 + 2) (lwLo 2) (lwHi 2) (tnF ru T L (7 + 1) (lwLo 1) (lwHi 1) (tnF ru T L (7 + 0) (lwLo 0) (lwHi 0) τ))))) = true then nI (nuV (nxF ru T L (tnF ru T L (7 + 4) (lwLo 4) (lwHi 4) (tnF ru T L (7 + 3) (lwLo 3) (lwHi 3) (tnF ru T L (7 + 2) (lwLo 2) (lwHi 2) (tnF ru T L (7 + 1) (lwLo 1) (lwHi 1) (tnF ru T L (7 + 0) (lwLo 0) (lwHi 0) τ))))))) else nI (lwLo 5)))) b := (f5.tr (bfr.of r6)).wi (w := 1) (by decide) w2
  have s6 := t6.sm (M' := (pz_wi M6 132 (va_up (gi M6 132) b (if tnB ru T L (7 + 5) (lwLo 5) (lwHi 5) (tnF ru T L (7 + 4) (lwLo 4) (lwHi 4) (tnF ru T L (7 + 3) (lwLo 3) (lwHi 3) (tnF ru T L (7 + 2) (lwLo 2) (lwHi 2) (tnF ru T L (7 + 1) (lwLo 1) (lwHi 1) (tnF ru T L (7 + 0) (lwLo 0) (lwHi 0) τ))))) = true then nI (nuV (nxF ru T L (tnF ru T L (7 + 4) (lwLo 4) (lwHi 4) (tnF ru T L (7 + 3) (lwLo 3) (lwHi 3) (tnF ru T L (7 + 2) (lwLo 2) (lwHi 2) (tnF ru T L (7 + 1) (lwLo 1) (lwHi 1) (tnF ru T L (7 + 0) (lwLo 0) (lwHi 0) τ))))))) else nI (lwLo 5))))) (K := [132]) (sm.wi sm.rf (by decide)) (by decide) (by decide)
  have x6 : isG (tnF ru T L (7 + 5) (lwLo 5) (lwHi 5) (tnF ru T L (7 + 4) (lwLo 4) (lwHi 4) (tnF ru T L (7 + 3) (lwLo 3) (lwHi 3) (tnF ru T L (7 + 2) (lwLo 2) (lwHi 2) (tnF ru T L (7 + 1) (lwLo 1) (lwHi 1) (tnF ru T L (7 + 0) (lwLo 0) (lwHi 0) τ)))))) = true → rsc (pz_wi M6 132 (va_up (gi M6 132) b (if tnB ru T L (7 + 5) (lwLo 5) (lwHi 5) (tnF ru T L (7 + 4) (lwLo 4) (lwHi 4) (tnF ru T L (7 + 3) (lwLo 3) (lwHi 3) (tnF ru T L (7 + 2) (lwLo 2) (lwHi 2) (tnF ru T L (7 + 1) (lwLo 1) (lwHi 1) (tnF ru T L (7 + 0) (lwLo 0) (lwHi 0) τ))))) = true then nI (nuV (nxF ru T L (tnF ru T L (7 + 4) (lwLo 4) (lwHi 4) (tnF ru T L (7 + 3) (lwLo 3) (lwHi 3) (tnF ru T L (7 + 2) (lwLo 2) (lwHi 2) (tnF ru T L (7 + 1) (lwLo 1) (lwHi 1) (tnF ru T L (7 + 0) (lwLo 0) (lwHi 0) τ))))))) else nI (lwLo 5)))) b ((((((c.told.law 0 (nuV (nxF ru T L τ))).law 1 (nuV (nxF ru T L (tnF ru T L (7 + 0) (lwLo 0) (lwHi 0) τ)))).law 2 (nuV (nxF ru T L (tnF ru T L (7 + 1) (lwLo 1) (lwHi 1) (tnF ru T L (7 + 0) (lwLo 0) (lwHi 0) τ))))).law 3 (nuV (nxF ru T L (tnF ru T L (7 + 2) (lwLo 2) (lwHi 2) (tnF ru T L (7 + 1) (lwLo 1) (lwHi 1) (tnF ru T L (7 + 0) (lwLo 0) (lwHi 0) τ)))))).law 4 (nuV (nxF ru T L (tnF ru T L (7 + 3) (lwLo 3) (lwHi 3) (tnF ru T L (7 + 2) (lwLo 2) (lwHi 2) (tnF ru T L (7 + 1) (lwLo 1) (lwHi 1) (tnF ru T L (7 + 0) (lwLo 0) (lwHi 0) τ))))))).law 5 (nuV (nxF ru T L (tnF ru T L (7 + 4) (lwLo 4) (lwHi 4) (tnF ru T L (7 + 3) (lwLo 3) (lwHi 3) (tnF ru T L (7 + 2) (lwLo 2) (lwHi 2) (tnF ru T L (7 + 1) (lwLo 1) (lwHi 1) (tnF ru T L (7 + 0) (lwLo 0) (lwHi 0) τ)))))))) := fun y => by rw [tnV y]; exact ((x5 (tnF_g y).2.2).r r6).law5W
  refine pw_blk (mi := mz_196) (b := bz_196_126) rfl rfl ?_
  simp only [bz_196_126, pz_cut_t, pz_cut_f, pz_cut_n, pv_gt, pv_ts, pv_tn, ea_iast, ev_ret, pz_wi_gc, pz_wi_ga, pz_wi_gn, pz_wi_gl, pz_wi_gr, pz_wi_same, pz_wi_X, pz_wl_gc, pz_wl_ga, pz_wl_gn, pz_wl_gi, pz_wl_gr, pz_wl_same, pz_wl_X, pz_wr_gc, pz_wr_ga, pz_wr_gn, pz_wr_gi, pz_wr_gl, pz_wr_same, pz_wr_X, e39, so_120 hS6, sr_120_21 hS6, sa_132 hS6, sn_132 hS6, e6, sa_133 hS, sn_133 hS, sa_127 hS, sn_127 hS, sa_128 hS, sn_128 hS, sa_129 hS, sn_129 hS, sa_130 hS, sn_130 hS, sa_131 hS, sn_131 hS, sa_132 hS, sn_132 hS]
  (try simp (disch := omega) only [nI_clamp, pz_in_nI2, pz_in_nI2L, pv_gt, nI_add, nI_addL, nI_Ladd, pk_mul, nI_mulL, nI_Lmul, pk_sub, nI_subL, nI_Lsub, nI_inc, nI_clampL, Nat.add_sub_cancel, pz_wi_else, pz_wl_else, vu_eq, vu_ne, pz_wi_gc, pz_wi_ga, pz_wi_gn, pz_wi_gl, pz_wi_gr, pz_wi_same, pz_wi_X, pz_wl_gc, pz_wl_ga, pz_wl_gn, pz_wl_gi, pz_wl_gr, pz_wl_same, pz_wl_X, pz_wr_gc, pz_wr_ga, pz_wr_gn, pz_wr_gi, pz_wr_gl, pz_wr_same, pz_wr_X, e39, so_120 hS6, sr_120_21 hS6, sa_132 hS6, sn_132 hS6, e6])
  (try refine po_gI (by first | exact pz_in_nI (by omega) (by decide) | decide | assumption) ?_)
  exact po_ret (k _ f6 s6 x6)
/-- a plan's line, behind its word -/
def rnA (ru : Bool) (T : Nat → Nat) (L : Nat) (τ : Sg) (c : Sc) : Sg := frF ru T L c.N c.nw τ
def rnB (ru : Bool) (T : Nat → Nat) (L : Nat) (τ : Sg) (c : Sc) : Sg := tnF ru T L 2 0 c.B (rnA ru T L τ c)
def rnL (ru : Bool) (T : Nat → Nat) (L : Nat) (τ : Sg) (c : Sc) : Nat := if tnB ru T L 2 0 c.B (rnA ru T L τ c) = true then nuV (nxF ru T L (rnA ru T L τ c)) else 0
def rnC (ru : Bool) (T : Nat → Nat) (L : Nat) (τ : Sg) (c : Sc) : Sg := tnF ru T L 3 (rnL ru T L τ c) c.B (rnB ru T L τ c)
def rnD (ru : Bool) (T : Nat → Nat) (L : Nat) (τ : Sg) (c : Sc) : Sg := tnF ru T L 14 0 21 (rnC ru T L τ c)
def rnE (ru : Bool) (T : Nat → Nat) (L : Nat) (τ : Sg) (c : Sc) : Sg := tnF ru T L 15 0 21 (rnD ru T L τ c)
def rnS (ru : Bool) (T : Nat → Nat) (L : Nat) (τ : Sg) (c : Sc) : Sg × Sc := (rnE ru T L τ c, c.plan (nmV τ) (nuV (nxF ru T L (rnA ru T L τ c))) (nuV (nxF ru T L (rnB ru T L τ c))) (nuV (nxF ru T L (rnC ru T L τ c))) (nuV (nxF ru T L (rnD ru T L τ c))))
theorem r_readPlan (hd : 14 ≤ d) {τ : Sg} {c : Sc} (hb : b ≤ 1) (e39 : gi M 120 39 = nI b) (s : rSt M ru T L τ) (o : okS c) (hN : c.N < 6) (x : rsc M b c) (k : ∀ M', bfr M M' b → rSt M' ru T L (rnS ru T L τ c).1 → (isG (rnS ru T L τ c).1 = true → rsc M' b (rnS ru T L τ c).2) → Q (none, M')) : pm d 197 [.ref 120] M Q := by
  have hS := s.1.1
  have x0 := x.1.1
  have x10 := x.1.2.2.2.1
  have oB := o.1.1
  have hm : ∀ i, i < c.N → gl M 139 (6 * b + i) = p8 (c.nw i) ∧ isWd (c.nw i) := fun i hi => ⟨(x.2.2.2.2.2.2 i hi).1, (o.2.2.2.2.1 i hi).1⟩
  have w1 : (6 * b + c.N) / 6 = b := by omega
  have w2 : b / 1 = b := by omega
  have hLl : rnL ru T L τ c < 10000 := by
    unfold rnL
    by_cases q : tnB ru T L 2 0 c.B (rnA ru T L τ c) = true
    · rw [if_pos q]
      unfold tnB at q
      simp only [Bool.and_eq_true] at q
      have := (atF_G q.2).2.2.1
      omega
    · rw [if_neg q]
      decide
  refine pm_ent (L := [some (.ref 120), none]) rfl (Nat.le_of_ble_eq_true rfl) ?_
  refine pw_blk (mi := mz_197) (b := bz_197_0) rfl rfl ?_
  simp only [bz_197_0, pz_cut_t, pz_cut_f, pz_cut_n, pv_gt, pv_ts, pv_tn, ev_bp6, ev_ald0, ev_eld0, ev_gf11_0, ev_imul, ev_gf11_2, ea_iald, ev_iadd, ev_ist1n, ev_ist1i, ev_ist1r, ev_ist1e, ev_ist1l, ev_ild1, ev_cv3_11, pz_wi_gc, pz_wi_ga, pz_wi_gn, pz_wi_gl, pz_wi_gr, pz_wi_same, pz_wi_X, pz_wl_gc, pz_wl_ga, pz_wl_gn, pz_wl_gi, pz_wl_gr, pz_wl_same, pz_wl_X, pz_wr_gc, pz_wr_ga, pz_wr_gn, pz_wr_gi, pz_wr_gl, pz_wr_same, pz_wr_X, so_120 hS, sr_120_15 hS, sa_126 hS, sn_126 hS, sr_120_28 hS, sa_139 hS, sn_139 hS, e39, x10, sa_145 hS, sn_145 hS, sa_123 hS, sn_123 hS, sa_146 hS, sn_146 hS, sa_147 hS, sn_147 hS, sa_148 hS, sn_148 hS]
  (try simp (disch := omega) only [nI_clamp, pz_in_nI2, pz_in_nI2L, pv_gt, nI_add, nI_addL, nI_Ladd, pk_mul, nI_mulL, nI_Lmul, pk_sub, nI_subL, nI_Lsub, nI_inc, nI_clampL, Nat.add_sub_cancel, pz_wi_else, pz_wl_else, vu_eq, vu_ne, pz_wi_gc, pz_wi_ga, pz_wi_gn, pz_wi_gl, pz_wi_gr, pz_wi_same, pz_wi_X, pz_wl_gc, pz_wl_ga, pz_wl_gn, pz_wl_gi, pz_wl_gr, pz_wl_same, pz_wl_X, pz_wr_gc, pz_wr_ga, pz_wr_gn, pz_wr_gi, pz_wr_gl, pz_wr_same, pz_wr_X, e39, x10])
  (try refine po_gI (by first | exact pz_in_nI (by omega) (by decide) | decide | assumption) ?_)
  (try refine po_gI (by first | exact pz_in_nI (by omega) (by decide) | decide | assumption) ?_)
  (try refine po_gP (Nat.le_of_ble_eq_true rfl) ?_)
  refine po_call (by omega) (r_fresh (nm := c.nw) (len := 12) (by omega) s (sa_139 hS) (sn_139 hS) (by omega) (by decide) hm (fun M1 v r1 t1 hv => ?_))
  have hS1 := t1.1.1
  have x1 := (x.r r1).w139 (v := v)
  have f1 : bfr M (pz_wl M1 139 (va_up (gl M1 139) (6 * b + c.N) v)) b := (bfr.of r1).wl (w := 6) (by decide) w1
  have s1 := t1.sm (M' := pz_wl M1 139 (va_up (gl M1 139) (6 * b + c.N) v)) (K := [139]) (sm.wl sm.rf (by decide)) (by decide) (by decide)
  have g1 : gl (pz_wl M1 139 (va_up (gl M1 139) (6 * b + c.N) v)) 139 (6 * b + c.N) = v := by rw [pz_wl_same, vu_eq]
  have e1 : gi M1 120 39 = nI b := by rw [r1.2 39 (by decide) (by decide) (by decide) (by decide) (by decide) (by decide)]; exact e39
  have y1 := (x.r r1).1.1
  refine pw_blk (mi := mz_197) (b := bz_197_47) rfl rfl ?_
  simp only [bz_197_47, pz_cut_t, pz_cut_f, pz_cut_n, pv_gt, pv_ts, pv_tn, ea_last, ev_ald0, ev_eld0, ev_gf11_2, ev_ild1, ev_ldl1718775661, ev_ic0, ev_gf11_0, ea_iald, ev_ic1, ev_isub, ev_cv3_11, pz_wi_gc, pz_wi_ga, pz_wi_gn, pz_wi_gl, pz_wi_gr, pz_wi_same, pz_wi_X, pz_wl_gc, pz_wl_ga, pz_wl_gn, pz_wl_gi, pz_wl_gr, pz_wl_same, pz_wl_X, pz_wr_gc, pz_wr_ga, pz_wr_gn, pz_wr_gi, pz_wr_gl, pz_wr_same, pz_wr_X, so_120 hS, sr_120_34 hS, sa_145 hS, sn_145 hS, sr_120_12 hS, sa_123 hS, sn_123 hS, e39, x10, so_120 hS1, sa_139 hS1, sn_139 hS1, sr_120_34 hS1, sr_120_12 hS1, sa_123 hS1, sn_123 hS1, e1, y1, sa_126 hS, sn_126 hS, sa_139 hS, sn_139 hS, sa_146 hS, sn_146 hS, sa_147 hS, sn_147 hS, sa_148 hS, sn_148 hS]
  (try simp (disch := omega) only [nI_clamp, pz_in_nI2, pz_in_nI2L, pv_gt, nI_add, nI_addL, nI_Ladd, pk_mul, nI_mulL, nI_Lmul, pk_sub, nI_subL, nI_Lsub, nI_inc, nI_clampL, Nat.add_sub_cancel, pz_wi_else, pz_wl_else, vu_eq, vu_ne, pz_wi_gc, pz_wi_ga, pz_wi_gn, pz_wi_gl, pz_wi_gr, pz_wi_same, pz_wi_X, pz_wl_gc, pz_wl_ga, pz_wl_gn, pz_wl_gi, pz_wl_gr, pz_wl_same, pz_wl_X, pz_wr_gc, pz_wr_ga, pz_wr_gn, pz_wr_gi, pz_wr_gl, pz_wr_same, pz_wr_X, e39, x10, so_120 hS1, sa_139 hS1, sn_139 hS1, sr_120_34 hS1, sr_120_12 hS1, sa_123 hS1, sn_123 hS1, e1, y1])
  (try refine po_gI (by first | exact pz_in_nI (by omega) (by decide) | decide | assumption) ?_)
  (try refine po_gI (by first | exact pz_in_nI (by omega) (by decide) | decide | assumption) ?_)
  (try refine po_gP (Nat.le_of_ble_eq_true rfl) ?_)
  refine po_call (by omega) (r_after (w := 2) (lo := 0) (hi := c.B) (by omega) (by decide +kernel) (by decide) (by decide) (by omega) (by first | rfl | (rw [nI_subL (n := 1) (by show 1 ≤ c.B; omega)])) s1 (fun M2 r2 t2 => ?_))
  have hS2 := t2.1.1
  have t2' : rSt M2 ru T L (rnB ru T L τ c) := t2
  have x2 := (x1.r r2).w145 (v := (nI (rnL ru T L τ c)))
  have f2 : bfr M (pz_wi M2 145 (va_up (gi M2 145) (6 * b + c.N) (nI (rnL ru T L τ c)))) b := (f1.tr (bfr.of r2)).wi (w := 6) (by decide) w1
  have s2 := t2'.sm (M' := (pz_wi M2 145 (va_up (gi M2 145) (6 * b + c.N) (nI (rnL ru T L τ c))))) (K := [145]) (sm.wi sm.rf (by decide)) (by decide) (by decide)
  have e2 : gi M2 120 39 = nI b := by rw [(f1.tr (bfr.of (b := b) r2)).2.1 39 (by decide) (by decide) (by decide) (by decide) (by decide) (by decide)]; exact e39
  have y2 := (x1.r r2).1.1
  have g2 : gl (pz_wi M2 145 (va_up (gi M2 145) (6 * b + c.N) (nI (rnL ru T L τ c)))) 139 (6 * b + c.N) = v := by rw [pz_wi_gl, r2.1.l (by decide)]; exact g1
  have h20 : gi (pz_wi M2 145 (va_up (gi M2 145) (6 * b + c.N) (nI (rnL ru T L τ c)))) 145 (6 * b + c.N) = (nI (rnL ru T L τ c)) := by rw [pz_wi_same, vu_eq]
  have vL : (if tnB ru T L 2 0 c.B (frF ru T L c.N c.nw τ) = true then nI (nuV (nxF ru T L (frF ru T L c.N c.nw τ))) else nI 0) = nI (rnL ru T L τ c) := by unfold rnL rnA; by_cases q : tnB ru T L 2 0 c.B (frF ru T L c.N c.nw τ) = true; rw [if_pos q, if_pos q]; rw [if_neg q, if_neg q]
  refine pw_blk (mi := mz_197) (b := bz_197_72) rfl rfl ?_
  simp only [bz_197_72, pz_cut_t, pz_cut_f, pz_cut_n, pv_gt, pv_ts, pv_tn, ea_iast, ev_ald0, ev_eld0, ev_gf11_2, ev_ild1, ev_ldl29807, ea_iald, ev_gf11_0, ev_ic1, ev_isub, ev_cv3_11, pz_wi_gc, pz_wi_ga, pz_wi_gn, pz_wi_gl, pz_wi_gr, pz_wi_same, pz_wi_X, pz_wl_gc, pz_wl_ga, pz_wl_gn, pz_wl_gi, pz_wl_gr, pz_wl_same, pz_wl_X, pz_wr_gc, pz_wr_ga, pz_wr_gn, pz_wr_gi, pz_wr_gl, pz_wr_same, pz_wr_X, so_120 hS, sr_120_35 hS, sa_146 hS, sn_146 hS, sr_120_34 hS, sa_145 hS, sn_145 hS, sr_120_12 hS, sa_123 hS, sn_123 hS, e39, x10, so_120 hS2, sa_145 hS2, sn_145 hS2, sr_120_34 hS2, sr_120_35 hS2, sr_120_12 hS2, sa_145 hS2, sn_145 hS2, sa_123 hS2, sn_123 hS2, e2, y2, vL, sa_126 hS, sn_126 hS, sa_139 hS, sn_139 hS, sa_147 hS, sn_147 hS, sa_148 hS, sn_148 hS]
  (try simp (disch := omega) only [nI_clamp, pz_in_nI2, pz_in_nI2L, pv_gt, nI_add, nI_addL, nI_Ladd, pk_mul, nI_mulL, nI_Lmul, pk_sub, nI_subL, nI_Lsub, nI_inc, nI_clampL, Nat.add_sub_cancel, pz_wi_else, pz_wl_else, vu_eq, vu_ne, pz_wi_gc, pz_wi_ga, pz_wi_gn, pz_wi_gl, pz_wi_gr, pz_wi_same, pz_wi_X, pz_wl_gc, pz_wl_ga, pz_wl_gn, pz_wl_gi, pz_wl_gr, pz_wl_same, pz_wl_X, pz_wr_gc, pz_wr_ga, pz_wr_gn, pz_wr_gi, pz_wr_gl, pz_wr_same, pz_wr_X, e39, x10, so_120 hS2, sa_145 hS2, sn_145 hS2, sr_120_34 hS2, sr_120_35 hS2, sr_120_12 hS2, sa_145 hS2, sn_145 hS2, sa_123 hS2, sn_123 hS2, e2, y2, vL])
  (try refine po_gI (by first | exact pz_in_nI (by omega) (by decide) | decide | assumption) ?_)
  (try refine po_gI (by first | exact pz_in_nI (by omega) (by decide) | decide | assumption) ?_)
  (try refine po_gI (by first | exact pz_in_nI (by omega) (by decide) | decide | assumption) ?_)
  (try refine po_gP (Nat.le_of_ble_eq_true rfl) ?_)
  refine po_call (by omega) (r_after (w := 3) (lo := rnL ru T L τ c) (hi := c.B) (by omega) (by decide +kernel) (by decide) hLl (by omega) (by first | rfl | (rw [nI_subL (n := 1) (by show 1 ≤ c.B; omega)])) s2 (fun M3 r3 t3 => ?_))
  have hS3 := t3.1.1
  have t3' : rSt M3 ru T L (rnC ru T L τ c) := t3
  have x3 := (x2.r r3).w146 (v := (if tnB ru T L 3 (rnL ru T L τ c) c.B (rnB ru T L τ c) = true then nI (nuV (nxF ru T L (rnB ru T L τ c))) else nI (rnL ru T L τ c)))
  have f3 : bfr M (pz_wi M3 146 (va_up (gi M3 146) (6 * b + c.N) (if tnB ru T L 3 (rnL ru T L τ c) c.B (rnB ru T L τ c) = true then nI (nuV (nxF ru T L (rnB ru T L τ c))) else nI (rnL ru T L τ c)))) b := (f2.tr (bfr.of r3)).wi (w := 6) (by decide) w1
  have s3 := t3'.sm (M' := (pz_wi M3 146 (va_up (gi M3 146) (6 * b + c.N) (if tnB ru T L 3 (rnL ru T L τ c) c.B (rnB ru T L τ c) = true then nI (nuV (nxF ru T L (rnB ru T L τ c))) else nI (rnL ru T L τ c))))) (K := [146]) (sm.wi sm.rf (by decide)) (by decide) (by decide)
  have e3 : gi M3 120 39 = nI b := by rw [(f2.tr (bfr.of (b := b) r3)).2.1 39 (by decide) (by decide) (by decide) (by decide) (by decide) (by decide)]; exact e39
  have y3 := (x2.r r3).1.1
  have g3 : gl (pz_wi M3 146 (va_up (gi M3 146) (6 * b + c.N) (if tnB ru T L 3 (rnL ru T L τ c) c.B (rnB ru T L τ c) = true then nI (nuV (nxF ru T L (rnB ru T L τ c))) else nI (rnL ru T L τ c)))) 139 (6 * b + c.N) = v := by rw [pz_wi_gl, r3.1.l (by decide)]; exact g2
  have h30 : gi (pz_wi M3 146 (va_up (gi M3 146) (6 * b + c.N) (if tnB ru T L 3 (rnL ru T L τ c) c.B (rnB ru T L τ c) = true then nI (nuV (nxF ru T L (rnB ru T L τ c))) else nI (rnL ru T L τ c)))) 145 (6 * b + c.N) = (nI (rnL ru T L τ c)) := by rw [pz_wi_else (by decide), r3.1.i (by decide)]; exact h20
  have h31 : gi (pz_wi M3 146 (va_up (gi M3 146) (6 * b + c.N) (if tnB ru T L 3 (rnL ru T L τ c) c.B (rnB ru T L τ c) = true then nI (nuV (nxF ru T L (rnB ru T L τ c))) else nI (rnL ru T L τ c)))) 146 (6 * b + c.N) = (if tnB ru T L 3 (rnL ru T L τ c) c.B (rnB ru T L τ c) = true then nI (nuV (nxF ru T L (rnB ru T L τ c))) else nI (rnL ru T L τ c)) := by rw [pz_wi_same, vu_eq]
  refine pw_blk (mi := mz_197) (b := bz_197_102) rfl rfl ?_
  simp only [bz_197_102, pz_cut_t, pz_cut_f, pz_cut_n, pv_gt, pv_ts, pv_tn, ea_iast, ev_ald0, ev_eld0, ev_gf11_2, ev_ild1, ev_ldl499984983411, ev_ic0, ev_bp20, ev_cv3_11, pz_wi_gc, pz_wi_ga, pz_wi_gn, pz_wi_gl, pz_wi_gr, pz_wi_same, pz_wi_X, pz_wl_gc, pz_wl_ga, pz_wl_gn, pz_wl_gi, pz_wl_gr, pz_wl_same, pz_wl_X, pz_wr_gc, pz_wr_ga, pz_wr_gn, pz_wr_gi, pz_wr_gl, pz_wr_same, pz_wr_X, so_120 hS, sr_120_36 hS, sa_147 hS, sn_147 hS, e39, x10, so_120 hS3, sa_146 hS3, sn_146 hS3, sr_120_36 hS3, sa_126 hS, sn_126 hS, sa_139 hS, sn_139 hS, sa_145 hS, sn_145 hS, sa_123 hS, sn_123 hS, sa_146 hS, sn_146 hS, sa_148 hS, sn_148 hS]
  (try simp (disch := omega) only [nI_clamp, pz_in_nI2, pz_in_nI2L, pv_gt, nI_add, nI_addL, nI_Ladd, pk_mul, nI_mulL, nI_Lmul, pk_sub, nI_subL, nI_Lsub, nI_inc, nI_clampL, Nat.add_sub_cancel, pz_wi_else, pz_wl_else, vu_eq, vu_ne, pz_wi_gc, pz_wi_ga, pz_wi_gn, pz_wi_gl, pz_wi_gr, pz_wi_same, pz_wi_X, pz_wl_gc, pz_wl_ga, pz_wl_gn, pz_wl_gi, pz_wl_gr, pz_wl_same, pz_wl_X, pz_wr_gc, pz_wr_ga, pz_wr_gn, pz_wr_gi, pz_wr_gl, pz_wr_same, pz_wr_X, e39, x10, so_120 hS3, sa_146 hS3, sn_146 hS3, sr_120_36 hS3])
  (try refine po_gI (by first | exact pz_in_nI (by omega) (by decide) | decide | assumption) ?_)
  (try refine po_gP (Nat.le_of_ble_eq_true rfl) ?_)
  refine po_call (by omega) (r_after (w := 14) (lo := 0) (hi := 21) (by omega) (by decide +kernel) (by decide) (by decide) (by decide) (by decide) s3 (fun M4 r4 t4 => ?_))
  have hS4 := t4.1.1
  have t4' : rSt M4 ru T L (rnD ru T L τ c) := t4
  have x4 := (x3.r r4).w147 (v := (if tnB ru T L 14 0 21 (rnC ru T L τ c) = true then nI (nuV (nxF ru T L (rnC ru T L τ c))) else nI 0))
  have f4 : bfr M (pz_wi M4 147 (va_up (gi M4 147) (6 * b + c.N) (if tnB ru T L 14 0 21 (rnC ru T L τ c) = true then nI (nuV (nxF ru T L (rnC ru T L τ c))) else nI 0))) b := (f3.tr (bfr.of r4)).wi (w := 6) (by decide) w1
  have s4 := t4'.sm (M' := (pz_wi M4 147 (va_up (gi M4 147) (6 * b + c.N) (if tnB ru T L 14 0 21 (rnC ru T L τ c) = true then nI (nuV (nxF ru T L (rnC ru T L τ c))) else nI 0)))) (K := [147]) (sm.wi sm.rf (by decide)) (by decide) (by decide)
  have e4 : gi M4 120 39 = nI b := by rw [(f3.tr (bfr.of (b := b) r4)).2.1 39 (by decide) (by decide) (by decide) (by decide) (by decide) (by decide)]; exact e39
  have y4 := (x3.r r4).1.1
  have g4 : gl (pz_wi M4 147 (va_up (gi M4 147) (6 * b + c.N) (if tnB ru T L 14 0 21 (rnC ru T L τ c) = true then nI (nuV (nxF ru T L (rnC ru T L τ c))) else nI 0))) 139 (6 * b + c.N) = v := by rw [pz_wi_gl, r4.1.l (by decide)]; exact g3
  have h40 : gi (pz_wi M4 147 (va_up (gi M4 147) (6 * b + c.N) (if tnB ru T L 14 0 21 (rnC ru T L τ c) = true then nI (nuV (nxF ru T L (rnC ru T L τ c))) else nI 0))) 145 (6 * b + c.N) = (nI (rnL ru T L τ c)) := by rw [pz_wi_else (by decide), r4.1.i (by decide)]; exact h30
  have h41 : gi (pz_wi M4 147 (va_up (gi M4 147) (6 * b + c.N) (if tnB ru T L 14 0 21 (rnC ru T L τ c) = true then nI (nuV (nxF ru T L (rnC ru T L τ c))) else nI 0))) 146 (6 * b + c.N) = (if tnB ru T L 3 (rnL ru T L τ c) c.B (rnB ru T L τ c) = true then nI (nuV (nxF ru T L (rnB ru T L τ c))) else nI (rnL ru T L τ c)) := by rw [pz_wi_else (by decide), r4.1.i (by decide)]; exact h31
  have h42 : gi (pz_wi M4 147 (va_up (gi M4 147) (6 * b + c.N) (if tnB ru T L 14 0 21 (rnC ru T L τ c) = true then nI (nuV (nxF ru T L (rnC ru T L τ c))) else nI 0))) 147 (6 * b + c.N) = (if tnB ru T L 14 0 21 (rnC ru T L τ c) = true then nI (nuV (nxF ru T L (rnC ru T L τ c))) else nI 0) := by rw [pz_wi_same, vu_eq]
  refine pw_blk (mi := mz_197) (b := bz_197_118) rfl rfl ?_
  simp only [bz_197_118, pz_cut_t, pz_cut_f, pz_cut_n, pv_gt, pv_ts, pv_tn, ea_iast, ev_ald0, ev_eld0, ev_gf11_2, ev_ild1, ev_ldl1936486263, ev_ic0, ev_bp20, ev_cv3_11, pz_wi_gc, pz_wi_ga, pz_wi_gn, pz_wi_gl, pz_wi_gr, pz_wi_same, pz_wi_X, pz_wl_gc, pz_wl_ga, pz_wl_gn, pz_wl_gi, pz_wl_gr, pz_wl_same, pz_wl_X, pz_wr_gc, pz_wr_ga, pz_wr_gn, pz_wr_gi, pz_wr_gl, pz_wr_same, pz_wr_X, so_120 hS, sr_120_37 hS, sa_148 hS, sn_148 hS, e39, x10, so_120 hS4, sa_147 hS4, sn_147 hS4, sr_120_37 hS4, sa_126 hS, sn_126 hS, sa_139 hS, sn_139 hS, sa_145 hS, sn_145 hS, sa_123 hS, sn_123 hS, sa_146 hS, sn_146 hS, sa_147 hS, sn_147 hS]
  (try simp (disch := omega) only [nI_clamp, pz_in_nI2, pz_in_nI2L, pv_gt, nI_add, nI_addL, nI_Ladd, pk_mul, nI_mulL, nI_Lmul, pk_sub, nI_subL, nI_Lsub, nI_inc, nI_clampL, Nat.add_sub_cancel, pz_wi_else, pz_wl_else, vu_eq, vu_ne, pz_wi_gc, pz_wi_ga, pz_wi_gn, pz_wi_gl, pz_wi_gr, pz_wi_same, pz_wi_X, pz_wl_gc, pz_wl_ga, pz_wl_gn, pz_wl_gi, pz_wl_gr, pz_wl_same, pz_wl_X, pz_wr_gc, pz_wr_ga, pz_wr_gn, pz_wr_gi, pz_wr_gl, pz_wr_same, pz_wr_X, e39, x10, so_120 hS4, sa_147 hS4, sn_147 hS4, sr_120_37 hS4])
  (try refine po_gI (by first | exact pz_in_nI (by omega) (by decide) | decide | assumption) ?_)
  (try refine po_gP (Nat.le_of_ble_eq_true rfl) ?_)
  refine po_call (by omega) (r_after (w := 15) (lo := 0) (hi := 21) (by omega) (by decide +kernel) (by decide) (by decide) (by decide) (by decide) s4 (fun M5 r5 t5 => ?_))
  have hS5 := t5.1.1
  have t5' : rSt M5 ru T L (rnE ru T L τ c) := t5
  have x5 := (x4.r r5).w148 (v := (if tnB ru T L 15 0 21 (rnD ru T L τ c) = true then nI (nuV (nxF ru T L (rnD ru T L τ c))) else nI 0))
  have f5 : bfr M (pz_wi M5 148 (va_up (gi M5 148) (6 * b + c.N) (if tnB ru T L 15 0 21 (rnD ru T L τ c) = true then nI (nuV (nxF ru T L (rnD ru T L τ c))) else nI 0))) b := (f4.tr (bfr.of r5)).wi (w := 6) (by decide) w1
  have s5 := t5'.sm (M' := (pz_wi M5 148 (va_up (gi M5 148) (6 * b + c.N) (if tnB ru T L 15 0 21 (rnD ru T L τ c) = true then nI (nuV (nxF ru T L (rnD ru T L τ c))) else nI 0)))) (K := [148]) (sm.wi sm.rf (by decide)) (by decide) (by decide)
  have e5 : gi M5 120 39 = nI b := by rw [(f4.tr (bfr.of (b := b) r5)).2.1 39 (by decide) (by decide) (by decide) (by decide) (by decide) (by decide)]; exact e39
  have y5 := (x4.r r5).1.1
  have g5 : gl (pz_wi M5 148 (va_up (gi M5 148) (6 * b + c.N) (if tnB ru T L 15 0 21 (rnD ru T L τ c) = true then nI (nuV (nxF ru T L (rnD ru T L τ c))) else nI 0))) 139 (6 * b + c.N) = v := by rw [pz_wi_gl, r5.1.l (by decide)]; exact g4
  have h50 : gi (pz_wi M5 148 (va_up (gi M5 148) (6 * b + c.N) (if tnB ru T L 15 0 21 (rnD ru T L τ c) = true then nI (nuV (nxF ru T L (rnD ru T L τ c))) else nI 0))) 145 (6 * b + c.N) = (nI (rnL ru T L τ c)) := by rw [pz_wi_else (by decide), r5.1.i (by decide)]; exact h40
  have h51 : gi (pz_wi M5 148 (va_up (gi M5 148) (6 * b + c.N) (if tnB ru T L 15 0 21 (rnD ru T L τ c) = true then nI (nuV (nxF ru T L (rnD ru T L τ c))) else nI 0))) 146 (6 * b + c.N) = (if tnB ru T L 3 (rnL ru T L τ c) c.B (rnB ru T L τ c) = true then nI (nuV (nxF ru T L (rnB ru T L τ c))) else nI (rnL ru T L τ c)) := by rw [pz_wi_else (by decide), r5.1.i (by decide)]; exact h41
  have h52 : gi (pz_wi M5 148 (va_up (gi M5 148) (6 * b + c.N) (if tnB ru T L 15 0 21 (rnD ru T L τ c) = true then nI (nuV (nxF ru T L (rnD ru T L τ c))) else nI 0))) 147 (6 * b + c.N) = (if tnB ru T L 14 0 21 (rnC ru T L τ c) = true then nI (nuV (nxF ru T L (rnC ru T L τ c))) else nI 0) := by rw [pz_wi_else (by decide), r5.1.i (by decide)]; exact h42
  have h53 : gi (pz_wi M5 148 (va_up (gi M5 148) (6 * b + c.N) (if tnB ru T L 15 0 21 (rnD ru T L τ c) = true then nI (nuV (nxF ru T L (rnD ru T L τ c))) else nI 0))) 148 (6 * b + c.N) = (if tnB ru T L 15 0 21 (rnD ru T L τ c) = true then nI (nuV (nxF ru T L (rnD ru T L τ c))) else nI 0) := by rw [pz_wi_same, vu_eq]
  have z5 := (x4.r r5).1.2.2.2.1
  refine pw_blk (mi := mz_197) (b := bz_197_134) rfl rfl ?_
  simp only [bz_197_134, pz_cut_t, pz_cut_f, pz_cut_n, pv_gt, pv_ts, pv_tn, ea_iast, ev_ald0, ev_eld0, ev_gf11_2, ev_gf11_0, ev_dup2, ea_iald, ev_ic1, ev_iadd, ev_ret, pz_wi_gc, pz_wi_ga, pz_wi_gn, pz_wi_gl, pz_wi_gr, pz_wi_same, pz_wi_X, pz_wl_gc, pz_wl_ga, pz_wl_gn, pz_wl_gi, pz_wl_gr, pz_wl_same, pz_wl_X, pz_wr_gc, pz_wr_ga, pz_wr_gn, pz_wr_gi, pz_wr_gl, pz_wr_same, pz_wr_X, so_120 hS, sr_120_15 hS, sa_126 hS, sn_126 hS, e39, x10, so_120 hS5, sa_148 hS5, sn_148 hS5, sr_120_15 hS5, sa_126 hS5, sn_126 hS5, e5, z5, sa_139 hS, sn_139 hS, sa_145 hS, sn_145 hS, sa_123 hS, sn_123 hS, sa_146 hS, sn_146 hS, sa_147 hS, sn_147 hS, sa_148 hS, sn_148 hS]
  (try simp (disch := omega) only [nI_clamp, pz_in_nI2, pz_in_nI2L, pv_gt, nI_add, nI_addL, nI_Ladd, pk_mul, nI_mulL, nI_Lmul, pk_sub, nI_subL, nI_Lsub, nI_inc, nI_clampL, Nat.add_sub_cancel, pz_wi_else, pz_wl_else, vu_eq, vu_ne, pz_wi_gc, pz_wi_ga, pz_wi_gn, pz_wi_gl, pz_wi_gr, pz_wi_same, pz_wi_X, pz_wl_gc, pz_wl_ga, pz_wl_gn, pz_wl_gi, pz_wl_gr, pz_wl_same, pz_wl_X, pz_wr_gc, pz_wr_ga, pz_wr_gn, pz_wr_gi, pz_wr_gl, pz_wr_same, pz_wr_X, e39, x10, so_120 hS5, sa_148 hS5, sn_148 hS5, sr_120_15 hS5, sa_126 hS5, sn_126 hS5, e5, z5])
  (try refine po_gI (by first | exact pz_in_nI (by omega) (by decide) | decide | assumption) ?_)
  (try refine po_gI (by first | exact pz_in_nI (by omega) (by decide) | decide | assumption) ?_)
  (try refine po_gI (by first | exact pz_in_nI (by omega) (by decide) | decide | assumption) ?_)
  refine po_then (fun M6 hM6 => ?_)
  have f6 := f5.wi (k := 126) (w := 1) (i := b) (v := nI (c.N + 1)) (by decide) w2
  rw [pz_wi_else (by decide)] at f6
  have e6 : gi M6 126 = va_up (gi M5 126) b (nI (c.N + 1)) := by rw [hM6, pz_wi_same]
  have sx : sm [148, 126] M5 M6 := by
    rw [hM6]
    exact sm.wi (sm.wi sm.rf (by decide)) (by decide)
  refine k M6 (by rw [hM6]; exact f6) (t5'.sm sx (by decide) (by decide)) (fun y => ?_)
  have q5 := tnF_g y
  have q4 := tnF_g q5.2.2
  have q3 := tnF_g q4.2.2
  have q2 := tnF_g q3.2.2
  have q1 := frF_G q2.2.2
  have qv := hv q1.1 q1.2.1
  refine x5.planW (M' := M6) ?_ ?_ ?_ ?_ ?_ ?_ ?_
  · rw [g5]; exact qv.1
  · rw [h50]; unfold rnL; rw [if_pos q2.1]
  · rw [h51]; exact if_pos q3.1
  · rw [h52]; exact if_pos q4.1
  · rw [h53]; exact if_pos q5.1
  · rw [hM6]; exact sm.wi sm.rf (by decide)
  · rw [hM6, pz_wi_same, pz_wi_else (by decide)]
theorem plan_eq {σ : Sg} {c : Sc} (h : c.N < 6) : (planS ru T L σ c).1 = tsF ru T L 59 (rnS ru T L (nxF ru T L σ) c).1 ∧ (isG (planS ru T L σ c).1 = true → (planS ru T L σ c).2 = (rnS ru T L (nxF ru T L σ) c).2) := by
  unfold planS rnS
  simp only
  by_cases h1 : isG (anF (nxF ru T L σ)) = true ∧ ¬ fnd c.nw (nmV (nxF ru T L σ)) c.N < c.N
  · rw [if_pos ⟨h, h1⟩]
    have e1 : rnA ru T L (nxF ru T L σ) c = nxF ru T L (nxF ru T L σ) := by
      unfold rnA frF
      rw [if_pos h1.1, if_neg h1.2]
    by_cases h2 : tnB ru T L 2 0 c.B (nxF ru T L (nxF ru T L σ)) = true
    · have e2 : rnB ru T L (nxF ru T L σ) c = nxF ru T L (nxF ru T L (nxF ru T L (nxF ru T L σ))) := by unfold rnB; rw [e1, tnF_t h2]
      have eL : rnL ru T L (nxF ru T L σ) c = nuV (nxF ru T L (nxF ru T L (nxF ru T L σ))) := by unfold rnL; rw [e1, if_pos h2]
      rw [if_pos h2]
      by_cases h3 : tnB ru T L 3 (nuV (nxF ru T L (nxF ru T L (nxF ru T L σ)))) c.B (nxF ru T L (nxF ru T L (nxF ru T L (nxF ru T L σ)))) = true
      · have e3 : rnC ru T L (nxF ru T L σ) c = nxF ru T L (nxF ru T L (nxF ru T L (nxF ru T L (nxF ru T L (nxF ru T L σ))))) := by unfold rnC; rw [e2, eL, tnF_t h3]
        rw [if_pos h3]
        by_cases h4 : tnB ru T L 14 0 21 (nxF ru T L (nxF ru T L (nxF ru T L (nxF ru T L (nxF ru T L (nxF ru T L σ)))))) = true
        · have e4 : rnD ru T L (nxF ru T L σ) c = nxF ru T L (nxF ru T L (nxF ru T L (nxF ru T L (nxF ru T L (nxF ru T L (nxF ru T L (nxF ru T L σ))))))) := by unfold rnD; rw [e3, tnF_t h4]
          rw [if_pos h4]
          by_cases h5 : tnB ru T L 15 0 21 (nxF ru T L (nxF ru T L (nxF ru T L (nxF ru T L (nxF ru T L (nxF ru T L (nxF ru T L (nxF ru T L σ)))))))) = true
          · rw [if_pos h5]
            unfold rnE
            rw [e4, tnF_t h5, e3, e2, e1]
            exact ⟨rfl, fun _ => rfl⟩
          · have hf := tnF_G (ru := ru) (T := T) (L := L) (Bool.eq_false_iff.mpr h5)
            rw [if_neg h5]
            unfold rnE
            rw [e4, tsF_f hf]
            exact ⟨rfl, fun z => by rw [hf] at z; cases z⟩
        · have hf := tnF_G (ru := ru) (T := T) (L := L) (Bool.eq_false_iff.mpr h4)
          rw [if_neg h4]
          unfold rnE rnD
          rw [e3, tnF_f hf, tsF_f hf]
          exact ⟨rfl, fun z => by rw [hf] at z; cases z⟩
      · have hf := tnF_G (ru := ru) (T := T) (L := L) (Bool.eq_false_iff.mpr h3)
        rw [if_neg h3]
        unfold rnE rnD rnC
        rw [e2, eL, tnF_f hf, tnF_f hf, tsF_f hf]
        exact ⟨rfl, fun z => by rw [hf] at z; cases z⟩
    · have hf := tnF_G (ru := ru) (T := T) (L := L) (Bool.eq_false_iff.mpr h2)
      rw [if_neg h2]
      have e2 : rnB ru T L (nxF ru T L σ) c = tnF ru T L 2 0 c.B (nxF ru T L (nxF ru T L σ)) := by unfold rnB; rw [e1]
      unfold rnE rnD rnC
      rw [e2, tnF_f hf, tnF_f hf, tnF_f hf, tsF_f hf]
      exact ⟨rfl, fun z => by rw [hf] at z; cases z⟩
  · rw [if_neg (fun z => h1 z.2), bgF_fr h]
    have hf := frF_f (ru := ru) (T := T) (L := L) h1
    have e1 : rnA ru T L (nxF ru T L σ) c = frF ru T L c.N c.nw (nxF ru T L σ) := rfl
    unfold rnE rnD rnC rnB
    rw [e1, tnF_f hf, tnF_f hf, tnF_f hf, tnF_f hf, tsF_f hf]
    exact ⟨rfl, fun z => by rw [hf] at z; cases z⟩
end RT
