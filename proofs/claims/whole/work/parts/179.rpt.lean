/-! ===== parts, spots, laws, plans: the reference ===== -/
section RP
variable {d : Nat} {M M' : pz_M} {Q : Option Value × pz_M → Prop} {ru : Bool} {T : Nat → Nat} {L : Nat} {b : Nat}
theorem rsc.w138 {c : Sc} {v : Int64} (x : rsc M b c) : rsc (pz_wl M 138 (va_up (gl M 138) (4 * b + c.P) v)) b c := by
  obtain ⟨x1, x2, x3, x4, x5, x6, x7⟩ := x
  unfold rsc
  simp (disch := decide) only [pz_wl_gi, pz_wl_else, pz_wi_gl, pz_wi_else, pz_wl_same, pz_wi_same]
  refine ⟨x1, x2, x3, x4, x5, fun i hi => ?_, x7⟩
  rw [vu_ne (show 4 * b + i ≠ 4 * b + c.P by omega)]
  exact x6 i hi
theorem rsc.w143 {c : Sc} {v : Int32} (x : rsc M b c) : rsc (pz_wi M 143 (va_up (gi M 143) (4 * b + c.P) v)) b c := by
  obtain ⟨x1, x2, x3, x4, x5, x6, x7⟩ := x
  unfold rsc
  simp (disch := decide) only [pz_wl_gi, pz_wl_else, pz_wi_gl, pz_wi_else, pz_wl_same, pz_wi_same]
  refine ⟨x1, x2, x3, x4, x5, fun i hi => ?_, x7⟩
  rw [vu_ne (show 4 * b + i ≠ 4 * b + c.P by omega)]
  exact x6 i hi
theorem rsc.w144 {c : Sc} {v : Int32} (x : rsc M b c) : rsc (pz_wi M 144 (va_up (gi M 144) (4 * b + c.P) v)) b c := by
  obtain ⟨x1, x2, x3, x4, x5, x6, x7⟩ := x
  unfold rsc
  simp (disch := decide) only [pz_wl_gi, pz_wl_else, pz_wi_gl, pz_wi_else, pz_wl_same, pz_wi_same]
  refine ⟨x1, x2, x3, x4, x5, fun i hi => ?_, x7⟩
  rw [vu_ne (show 4 * b + i ≠ 4 * b + c.P by omega)]
  exact x6 i hi
theorem rsc.w139 {c : Sc} {v : Int64} (x : rsc M b c) : rsc (pz_wl M 139 (va_up (gl M 139) (6 * b + c.N) v)) b c := by
  obtain ⟨x1, x2, x3, x4, x5, x6, x7⟩ := x
  unfold rsc
  simp (disch := decide) only [pz_wl_gi, pz_wl_else, pz_wi_gl, pz_wi_else, pz_wl_same, pz_wi_same]
  refine ⟨x1, x2, x3, x4, x5, x6, fun i hi => ?_⟩
  rw [vu_ne (show 6 * b + i ≠ 6 * b + c.N by omega)]
  exact x7 i hi
theorem rsc.w145 {c : Sc} {v : Int32} (x : rsc M b c) : rsc (pz_wi M 145 (va_up (gi M 145) (6 * b + c.N) v)) b c := by
  obtain ⟨x1, x2, x3, x4, x5, x6, x7⟩ := x
  unfold rsc
  simp (disch := decide) only [pz_wl_gi, pz_wl_else, pz_wi_gl, pz_wi_else, pz_wl_same, pz_wi_same]
  refine ⟨x1, x2, x3, x4, x5, x6, fun i hi => ?_⟩
  rw [vu_ne (show 6 * b + i ≠ 6 * b + c.N by omega)]
  exact x7 i hi
theorem rsc.w146 {c : Sc} {v : Int32} (x : rsc M b c) : rsc (pz_wi M 146 (va_up (gi M 146) (6 * b + c.N) v)) b c := by
  obtain ⟨x1, x2, x3, x4, x5, x6, x7⟩ := x
  unfold rsc
  simp (disch := decide) only [pz_wl_gi, pz_wl_else, pz_wi_gl, pz_wi_else, pz_wl_same, pz_wi_same]
  refine ⟨x1, x2, x3, x4, x5, x6, fun i hi => ?_⟩
  rw [vu_ne (show 6 * b + i ≠ 6 * b + c.N by omega)]
  exact x7 i hi
theorem rsc.w147 {c : Sc} {v : Int32} (x : rsc M b c) : rsc (pz_wi M 147 (va_up (gi M 147) (6 * b + c.N) v)) b c := by
  obtain ⟨x1, x2, x3, x4, x5, x6, x7⟩ := x
  unfold rsc
  simp (disch := decide) only [pz_wl_gi, pz_wl_else, pz_wi_gl, pz_wi_else, pz_wl_same, pz_wi_same]
  refine ⟨x1, x2, x3, x4, x5, x6, fun i hi => ?_⟩
  rw [vu_ne (show 6 * b + i ≠ 6 * b + c.N by omega)]
  exact x7 i hi
theorem rsc.w148 {c : Sc} {v : Int32} (x : rsc M b c) : rsc (pz_wi M 148 (va_up (gi M 148) (6 * b + c.N) v)) b c := by
  obtain ⟨x1, x2, x3, x4, x5, x6, x7⟩ := x
  unfold rsc
  simp (disch := decide) only [pz_wl_gi, pz_wl_else, pz_wi_gl, pz_wi_else, pz_wl_same, pz_wi_same]
  refine ⟨x1, x2, x3, x4, x5, x6, fun i hi => ?_⟩
  rw [vu_ne (show 6 * b + i ≠ 6 * b + c.N by omega)]
  exact x7 i hi
theorem rsc.partW {c : Sc} {w : List Nat} {f t : Nat} (x : rsc M b c) (g1 : gl M 138 (4 * b + c.P) = p8 w) (g2 : gi M 143 (4 * b + c.P) = nI f) (g3 : gi M 144 (4 * b + c.P) = nI t) (h : sm [125] M M') (e3 : gi M' 125 = va_up (gi M 125) b (nI (c.P + 1))) : rsc M' b (c.part w f t) := by
  obtain ⟨⟨x0, x3, x6, x10, x18⟩, xL, xD, xB, xH, xP, xN⟩ := x
  have i : ∀ k, k ≠ 125 → gi M' k = gi M k := fun k a1 => h.i (by simp; exact a1)
  have l : ∀ k, k ≠ 125 → gl M' k = gl M k := fun k a1 => h.l (by simp; exact a1)
  unfold rsc
  rw [i 123 (by decide), i 124 (by decide), i 126 (by decide), i 127 (by decide), i 128 (by decide), i 129 (by decide), i 130 (by decide), i 131 (by decide), i 132 (by decide), i 133 (by decide), i 134 (by decide), i 135 (by decide), l 136 (by decide), l 137 (by decide), l 138 (by decide), l 139 (by decide), i 140 (by decide), i 141 (by decide), i 142 (by decide), i 143 (by decide), i 144 (by decide), i 145 (by decide), i 146 (by decide), i 147 (by decide), i 148 (by decide), e3, vu_eq]
  refine ⟨⟨x0, x3, rfl, x10, x18⟩, xL, xD, xB, xH, fun j hj => ?_, xN⟩
  have hj' : j < c.P + 1 := hj
  show gl M 138 (4 * b + j) = p8 (va_up c.pw c.P w j) ∧ gi M 143 (4 * b + j) = nI (va_up c.pf c.P f j) ∧ gi M 144 (4 * b + j) = nI (va_up c.pt c.P t j)
  by_cases q : j = c.P
  · subst q
    rw [vu_eq, vu_eq, vu_eq]
    exact ⟨g1, g2, g3⟩
  · rw [vu_ne q, vu_ne q, vu_ne q]
    exact xP j (by omega)
theorem rsc.planW {c : Sc} {w : List Nat} {f t u v : Nat} (x : rsc M b c) (g1 : gl M 139 (6 * b + c.N) = p8 w) (g2 : gi M 145 (6 * b + c.N) = nI f) (g3 : gi M 146 (6 * b + c.N) = nI t) (g4 : gi M 147 (6 * b + c.N) = nI u) (g5 : gi M 148 (6 * b + c.N) = nI v) (h : sm [126] M M') (e3 : gi M' 126 = va_up (gi M 126) b (nI (c.N + 1))) : rsc M' b (c.plan w f t u v) := by
  obtain ⟨⟨x0, x3, x6, x10, x18⟩, xL, xD, xB, xH, xP, xN⟩ := x
  have i : ∀ k, k ≠ 126 → gi M' k = gi M k := fun k a1 => h.i (by simp; exact a1)
  have l : ∀ k, k ≠ 126 → gl M' k = gl M k := fun k a1 => h.l (by simp; exact a1)
  unfold rsc
  rw [i 123 (by decide), i 124 (by decide), i 125 (by decide), i 127 (by decide), i 128 (by decide), i 129 (by decide), i 130 (by decide), i 131 (by decide), i 132 (by decide), i 133 (by decide), i 134 (by decide), i 135 (by decide), l 136 (by decide), l 137 (by decide), l 138 (by decide), l 139 (by decide), i 140 (by decide), i 141 (by decide), i 142 (by decide), i 143 (by decide), i 144 (by decide), i 145 (by decide), i 146 (by decide), i 147 (by decide), i 148 (by decide), e3, vu_eq]
  refine ⟨⟨x0, x3, x6, rfl, x18⟩, xL, xD, xB, xH, xP, fun j hj => ?_⟩
  have hj' : j < c.N + 1 := hj
  show gl M 139 (6 * b + j) = p8 (va_up c.nw c.N w j) ∧ gi M 145 (6 * b + j) = nI (va_up c.na c.N f j) ∧ gi M 146 (6 * b + j) = nI (va_up c.nb c.N t j) ∧ gi M 147 (6 * b + j) = nI (va_up c.nt c.N u j) ∧ gi M 148 (6 * b + j) = nI (va_up c.ns c.N v j)
  by_cases q : j = c.N
  · subst q
    rw [vu_eq, vu_eq, vu_eq, vu_eq, vu_eq]
    exact ⟨g1, g2, g3, g4, g5⟩
  · rw [vu_ne q, vu_ne q, vu_ne q, vu_ne q, vu_ne q]
    exact xN j (by omega)
theorem r_isWd {σ : Sg} {w : Nat} {wv : Int64} (hwv : wv = p8 (wds.getD w [])) (hw : w < 26) (s : rSt M ru T L σ) (k : ∀ b : Bool, (gi M 120 4 = 0 → b = isWs w σ) → Q (some (.int (bI b)), M)) : pm d 220 [.ref 120, .long wv] M Q := by
  subst hwv
  exact r_isWord hw s k
theorem frF_G {n : Nat} {nm : Nat → List Nat} {τ : Sg} (zg : isG (frF ru T L n nm τ) = true) : isG (anF τ) = true ∧ ¬ fnd nm (nmV τ) n < n ∧ frF ru T L n nm τ = nxF ru T L τ := by
  unfold frF at zg ⊢
  by_cases a : isG (anF τ) = true
  · rw [if_pos a] at zg ⊢
    by_cases y : fnd nm (nmV τ) n < n
    · rw [if_pos y, flF_G] at zg
      cases zg
    · rw [if_neg y]
      exact ⟨a, y, rfl⟩
  · rw [if_neg a] at zg
    exact absurd zg a
theorem thF_g {c : Sc} {lo : Nat} {σ : Sg} (zg : isG (thF ru T L c lo σ) = true) : thB c lo σ = true ∧ thF ru T L c lo σ = nxF ru T L σ ∧ isG σ = true := by
  unfold thF at zg ⊢
  unfold thB
  by_cases a : isG (anF σ) = true
  · rw [if_pos a] at zg ⊢
    by_cases y : fnd c.hw (nmV σ) c.H < c.H
    · rw [if_pos y] at zg ⊢
      by_cases z : lo ≤ fnd c.hw (nmV σ) c.H
      · rw [if_pos z]
        refine ⟨by simp [a, y, z], rfl, ?_⟩
        obtain ⟨-, t, rfl, -⟩ := anF_G a
        rfl
      · rw [if_neg z, flF_G] at zg
        cases zg
    · rw [if_neg y, flF_G] at zg
      cases zg
  · rw [if_neg a] at zg
    exact absurd zg a
theorem twF_G {w : Nat} {σ : Sg} (zg : isG (twF ru T L w σ) = true) : isWs w σ = true ∧ twF ru T L w σ = nxF ru T L σ := by
  unfold twF at zg ⊢
  by_cases a : isWs w σ = true
  · rw [if_pos a]
    exact ⟨a, rfl⟩
  · rw [if_neg a, flF_G] at zg
    cases zg
theorem tnF_g {w lo hi : Nat} {σ : Sg} (zg : isG (tnF ru T L w lo hi σ) = true) : tnB ru T L w lo hi σ = true ∧ tnF ru T L w lo hi σ = nxF ru T L (nxF ru T L σ) ∧ isG σ = true := by
  unfold tnF at zg ⊢
  unfold tnB
  by_cases a : isWs w σ = true
  · rw [if_pos a] at zg ⊢
    by_cases y : isG (atF lo hi (nxF ru T L σ)) = true
    · rw [if_pos y]
      exact ⟨by simp [a, y], rfl, isWs_G a⟩
    · rw [if_neg y] at zg
      exact absurd zg y
  · rw [if_neg a, flF_G] at zg
    cases zg
/-- a part's line, behind its word -/
def rpF (ru : Bool) (T : Nat → Nat) (L : Nat) (τ : Sg) (c : Sc) : Sg := twF ru T L 2 (frF ru T L c.P c.pw τ)
def rpf (ru : Bool) (T : Nat → Nat) (L : Nat) (τ : Sg) (c : Sc) : Nat := fnd c.hw (nmV (rpF ru T L τ c)) c.H
def rpT (ru : Bool) (T : Nat → Nat) (L : Nat) (τ : Sg) (c : Sc) : Sg := twF ru T L 3 (thF ru T L c 0 (rpF ru T L τ c))
def rpS (ru : Bool) (T : Nat → Nat) (L : Nat) (τ : Sg) (c : Sc) : Sg × Sc := (thF ru T L c (rpf ru T L τ c) (rpT ru T L τ c), c.part (nmV τ) (rpf ru T L τ c) (fnd c.hw (nmV (rpT ru T L τ c)) c.H))
theorem r_readPart (hd : 20 ≤ d) {τ : Sg} {c : Sc} (hb : b ≤ 1) (e39 : gi M 120 39 = nI b) (s : rSt M ru T L τ) (o : okS c) (hP : c.P < 4) (x : rsc M b c) (k : ∀ M', bfr M M' b → rSt M' ru T L (rpS ru T L τ c).1 → (isG (rpS ru T L τ c).1 = true → rsc M' b (rpS ru T L τ c).2) → Q (none, M')) : pm d 194 [.ref 120] M Q := by
  have hS := s.1.1
  have x6 := x.1.2.2.1
  have hm : ∀ i, i < c.P → gl M 138 (4 * b + i) = p8 (c.pw i) ∧ isWd (c.pw i) := fun i hi => ⟨(x.2.2.2.2.2.1 i hi).1, (o.2.2.2.1 i hi).1⟩
  have w1 : (4 * b + c.P) / 4 = b := by omega
  have w2 : b / 1 = b := by omega
  refine pm_ent (L := [some (.ref 120), none]) rfl (Nat.le_of_ble_eq_true rfl) ?_
  refine pw_blk (mi := mz_194) (b := bz_194_0) rfl rfl ?_
  simp only [bz_194_0, pz_cut_t, pz_cut_f, pz_cut_n, pv_gt, pv_ts, pv_tn, ev_ic4, ev_ald0, ev_eld0, ev_gf11_0, ev_imul, ev_gf11_2, ea_iald, ev_iadd, ev_ist1n, ev_ist1i, ev_ist1r, ev_ist1e, ev_ist1l, ev_ild1, ev_cv3_11, pz_wi_gc, pz_wi_ga, pz_wi_gn, pz_wi_gl, pz_wi_gr, pz_wi_same, pz_wi_X, pz_wl_gc, pz_wl_ga, pz_wl_gn, pz_wl_gi, pz_wl_gr, pz_wl_same, pz_wl_X, pz_wr_gc, pz_wr_ga, pz_wr_gn, pz_wr_gi, pz_wr_gl, pz_wr_same, pz_wr_X, so_120 hS, sr_120_14 hS, sa_125 hS, sn_125 hS, sr_120_27 hS, sa_138 hS, sn_138 hS, e39, x6, sa_143 hS, sn_143 hS, sa_144 hS, sn_144 hS]
  (try simp (disch := omega) only [nI_clamp, pz_in_nI2, pz_in_nI2L, pv_gt, nI_add, nI_addL, nI_Ladd, pk_mul, nI_mulL, nI_Lmul, pk_sub, nI_subL, nI_Lsub, nI_inc, nI_clampL, Nat.add_sub_cancel, pz_wi_else, pz_wl_else, vu_eq, vu_ne, pz_wi_gc, pz_wi_ga, pz_wi_gn, pz_wi_gl, pz_wi_gr, pz_wi_same, pz_wi_X, pz_wl_gc, pz_wl_ga, pz_wl_gn, pz_wl_gi, pz_wl_gr, pz_wl_same, pz_wl_X, pz_wr_gc, pz_wr_ga, pz_wr_gn, pz_wr_gi, pz_wr_gl, pz_wr_same, pz_wr_X, e39, x6])
  (try refine po_gI (by first | exact pz_in_nI (by omega) (by decide) | decide | assumption) ?_)
  (try refine po_gI (by first | exact pz_in_nI (by omega) (by decide) | decide | assumption) ?_)
  (try refine po_gP (Nat.le_of_ble_eq_true rfl) ?_)
  refine po_call (by omega) (r_fresh (nm := c.pw) (len := 8) (by omega) s (sa_138 hS) (sn_138 hS) (by omega) (by decide) hm (fun M1 v r1 s1 hv => ?_))
  have hS1 := s1.1.1
  have x1 := (x.r r1).w138 (v := v)
  have f1 : bfr M (pz_wl M1 138 (va_up (gl M1 138) (4 * b + c.P) v)) b := (bfr.of r1).wl (w := 4) (by decide) w1
  have s2 := s1.sm (M' := pz_wl M1 138 (va_up (gl M1 138) (4 * b + c.P) v)) (K := [138]) (sm.wl sm.rf (by decide)) (by decide) (by decide)
  have g1 : gl (pz_wl M1 138 (va_up (gl M1 138) (4 * b + c.P) v)) 138 (4 * b + c.P) = v := by rw [pz_wl_same, vu_eq]
  refine pw_blk (mi := mz_194) (b := bz_194_45) rfl rfl ?_
  simp only [bz_194_45, pz_cut_t, pz_cut_f, pz_cut_n, pv_gt, pv_ts, pv_tn, ea_last, ev_ald0, ev_eld0, ev_ldl1718775661, ev_cv1_11, pz_wi_gc, pz_wi_ga, pz_wi_gn, pz_wi_gl, pz_wi_gr, pz_wi_same, pz_wi_X, pz_wl_gc, pz_wl_ga, pz_wl_gn, pz_wl_gi, pz_wl_gr, pz_wl_same, pz_wl_X, pz_wr_gc, pz_wr_ga, pz_wr_gn, pz_wr_gi, pz_wr_gl, pz_wr_same, pz_wr_X, so_120 hS, e39, x6, so_120 hS1, sa_138 hS1, sn_138 hS1, sa_125 hS, sn_125 hS, sa_138 hS, sn_138 hS, sa_143 hS, sn_143 hS, sa_144 hS, sn_144 hS]
  (try simp (disch := omega) only [nI_clamp, pz_in_nI2, pz_in_nI2L, pv_gt, nI_add, nI_addL, nI_Ladd, pk_mul, nI_mulL, nI_Lmul, pk_sub, nI_subL, nI_Lsub, nI_inc, nI_clampL, Nat.add_sub_cancel, pz_wi_else, pz_wl_else, vu_eq, vu_ne, pz_wi_gc, pz_wi_ga, pz_wi_gn, pz_wi_gl, pz_wi_gr, pz_wi_same, pz_wi_X, pz_wl_gc, pz_wl_ga, pz_wl_gn, pz_wl_gi, pz_wl_gr, pz_wl_same, pz_wl_X, pz_wr_gc, pz_wr_ga, pz_wr_gn, pz_wr_gi, pz_wr_gl, pz_wr_same, pz_wr_X, e39, x6, so_120 hS1, sa_138 hS1, sn_138 hS1])
  (try refine po_gI (by first | exact pz_in_nI (by omega) (by decide) | decide | assumption) ?_)
  (try refine po_gP (Nat.le_of_ble_eq_true rfl) ?_)
  refine po_call (by omega) (r_isWd (w := 2) (by decide +kernel) (by decide) s2 (fun q hq => ?_))
  refine pw_blk (mi := mz_194) (b := bz_194_54) rfl rfl ?_
  simp only [bz_194_54, pz_cut_t, pz_cut_f, pz_cut_n, pv_gt, pv_ts, pv_tn, ev_cv1_11, pz_wi_gc, pz_wi_ga, pz_wi_gn, pz_wi_gl, pz_wi_gr, pz_wi_same, pz_wi_X, pz_wl_gc, pz_wl_ga, pz_wl_gn, pz_wl_gi, pz_wl_gr, pz_wl_same, pz_wl_X, pz_wr_gc, pz_wr_ga, pz_wr_gn, pz_wr_gi, pz_wr_gl, pz_wr_same, pz_wr_X, so_120 hS, e39, x6, so_120 s2.1.1]
  (try simp (disch := omega) only [nI_clamp, pz_in_nI2, pz_in_nI2L, pv_gt, nI_add, nI_addL, nI_Ladd, pk_mul, nI_mulL, nI_Lmul, pk_sub, nI_subL, nI_Lsub, nI_inc, nI_clampL, Nat.add_sub_cancel, pz_wi_else, pz_wl_else, vu_eq, vu_ne, pz_wi_gc, pz_wi_ga, pz_wi_gn, pz_wi_gl, pz_wi_gr, pz_wi_same, pz_wi_X, pz_wl_gc, pz_wl_ga, pz_wl_gn, pz_wl_gi, pz_wl_gr, pz_wl_same, pz_wl_X, pz_wr_gc, pz_wr_ga, pz_wr_gn, pz_wr_gi, pz_wr_gl, pz_wr_same, pz_wr_X, e39, x6, so_120 s2.1.1])
  (try refine po_gP (Nat.le_of_ble_eq_true rfl) ?_)
  refine po_call (by omega) (r_must (by omega) s2 (fun hq1 hz => by rw [hq hz] at hq1; exact isWs_G hq1) (fun M3 r3 s3 => ?_))
  rw [mustW s2 hq] at s3
  have hS3 := s3.1.1
  have x3 := x1.r r3
  have f3 := f1.tr (bfr.of r3)
  have e3 : gi M3 120 39 = nI b := by rw [f3.2.1 39 (by decide) (by decide) (by decide) (by decide) (by decide) (by decide)]; exact e39
  have g3 : gl M3 138 (4 * b + c.P) = v := by rw [r3.1.l (by decide)]; exact g1
  refine pw_blk (mi := mz_194) (b := bz_194_57) rfl rfl ?_
  simp only [bz_194_57, pz_cut_t, pz_cut_f, pz_cut_n, pv_gt, pv_ts, pv_tn, ev_ald0, ev_eld0, ev_gf11_2, ev_ild1, ev_ic0, ev_cv1_11, pz_wi_gc, pz_wi_ga, pz_wi_gn, pz_wi_gl, pz_wi_gr, pz_wi_same, pz_wi_X, pz_wl_gc, pz_wl_ga, pz_wl_gn, pz_wl_gi, pz_wl_gr, pz_wl_same, pz_wl_X, pz_wr_gc, pz_wr_ga, pz_wr_gn, pz_wr_gi, pz_wr_gl, pz_wr_same, pz_wr_X, so_120 hS, sr_120_32 hS, sa_143 hS, sn_143 hS, e39, x6, so_120 hS3, sr_120_32 hS3]
  (try simp (disch := omega) only [nI_clamp, pz_in_nI2, pz_in_nI2L, pv_gt, nI_add, nI_addL, nI_Ladd, pk_mul, nI_mulL, nI_Lmul, pk_sub, nI_subL, nI_Lsub, nI_inc, nI_clampL, Nat.add_sub_cancel, pz_wi_else, pz_wl_else, vu_eq, vu_ne, pz_wi_gc, pz_wi_ga, pz_wi_gn, pz_wi_gl, pz_wi_gr, pz_wi_same, pz_wi_X, pz_wl_gc, pz_wl_ga, pz_wl_gn, pz_wl_gi, pz_wl_gr, pz_wl_same, pz_wl_X, pz_wr_gc, pz_wr_ga, pz_wr_gn, pz_wr_gi, pz_wr_gl, pz_wr_same, pz_wr_X, e39, x6, so_120 hS3, sr_120_32 hS3])
  (try refine po_gP (Nat.le_of_ble_eq_true rfl) ?_)
  refine po_call (by omega) (r_aHeap (lo := 0) (by omega) hb e3 s3 o x3 (fun _ => ⟨rfl, by decide⟩) (fun M4 u r4 s4 hu => ?_))
  have hS4 := s4.1.1
  have x4 := (x3.r r4).w143 (v := u)
  have f4 : bfr M (pz_wi M4 143 (va_up (gi M4 143) (4 * b + c.P) u)) b := (f3.tr (bfr.of r4)).wi (w := 4) (by decide) w1
  have s5 := s4.sm (M' := pz_wi M4 143 (va_up (gi M4 143) (4 * b + c.P) u)) (K := [143]) (sm.wi sm.rf (by decide)) (by decide) (by decide)
  have g4 : gl (pz_wi M4 143 (va_up (gi M4 143) (4 * b + c.P) u)) 138 (4 * b + c.P) = v := by rw [pz_wi_gl, r4.1.l (by decide)]; exact g3
  have j4 : gi (pz_wi M4 143 (va_up (gi M4 143) (4 * b + c.P) u)) 143 (4 * b + c.P) = u := by rw [pz_wi_same, vu_eq]
  refine pw_blk (mi := mz_194) (b := bz_194_67) rfl rfl ?_
  simp only [bz_194_67, pz_cut_t, pz_cut_f, pz_cut_n, pv_gt, pv_ts, pv_tn, ea_iast, ev_ald0, ev_eld0, ev_ldl29807, ev_cv1_11, pz_wi_gc, pz_wi_ga, pz_wi_gn, pz_wi_gl, pz_wi_gr, pz_wi_same, pz_wi_X, pz_wl_gc, pz_wl_ga, pz_wl_gn, pz_wl_gi, pz_wl_gr, pz_wl_same, pz_wl_X, pz_wr_gc, pz_wr_ga, pz_wr_gn, pz_wr_gi, pz_wr_gl, pz_wr_same, pz_wr_X, so_120 hS, e39, x6, so_120 hS4, sa_143 hS4, sn_143 hS4, sa_125 hS, sn_125 hS, sa_138 hS, sn_138 hS, sa_143 hS, sn_143 hS, sa_144 hS, sn_144 hS]
  (try simp (disch := omega) only [nI_clamp, pz_in_nI2, pz_in_nI2L, pv_gt, nI_add, nI_addL, nI_Ladd, pk_mul, nI_mulL, nI_Lmul, pk_sub, nI_subL, nI_Lsub, nI_inc, nI_clampL, Nat.add_sub_cancel, pz_wi_else, pz_wl_else, vu_eq, vu_ne, pz_wi_gc, pz_wi_ga, pz_wi_gn, pz_wi_gl, pz_wi_gr, pz_wi_same, pz_wi_X, pz_wl_gc, pz_wl_ga, pz_wl_gn, pz_wl_gi, pz_wl_gr, pz_wl_same, pz_wl_X, pz_wr_gc, pz_wr_ga, pz_wr_gn, pz_wr_gi, pz_wr_gl, pz_wr_same, pz_wr_X, e39, x6, so_120 hS4, sa_143 hS4, sn_143 hS4])
  (try refine po_gI (by first | exact pz_in_nI (by omega) (by decide) | decide | assumption) ?_)
  (try refine po_gP (Nat.le_of_ble_eq_true rfl) ?_)
  refine po_call (by omega) (r_isWd (w := 3) (by decide +kernel) (by decide) s5 (fun p hp => ?_))
  refine pw_blk (mi := mz_194) (b := bz_194_76) rfl rfl ?_
  simp only [bz_194_76, pz_cut_t, pz_cut_f, pz_cut_n, pv_gt, pv_ts, pv_tn, ev_cv1_11, pz_wi_gc, pz_wi_ga, pz_wi_gn, pz_wi_gl, pz_wi_gr, pz_wi_same, pz_wi_X, pz_wl_gc, pz_wl_ga, pz_wl_gn, pz_wl_gi, pz_wl_gr, pz_wl_same, pz_wl_X, pz_wr_gc, pz_wr_ga, pz_wr_gn, pz_wr_gi, pz_wr_gl, pz_wr_same, pz_wr_X, so_120 hS, e39, x6, so_120 s5.1.1]
  (try simp (disch := omega) only [nI_clamp, pz_in_nI2, pz_in_nI2L, pv_gt, nI_add, nI_addL, nI_Ladd, pk_mul, nI_mulL, nI_Lmul, pk_sub, nI_subL, nI_Lsub, nI_inc, nI_clampL, Nat.add_sub_cancel, pz_wi_else, pz_wl_else, vu_eq, vu_ne, pz_wi_gc, pz_wi_ga, pz_wi_gn, pz_wi_gl, pz_wi_gr, pz_wi_same, pz_wi_X, pz_wl_gc, pz_wl_ga, pz_wl_gn, pz_wl_gi, pz_wl_gr, pz_wl_same, pz_wl_X, pz_wr_gc, pz_wr_ga, pz_wr_gn, pz_wr_gi, pz_wr_gl, pz_wr_same, pz_wr_X, e39, x6, so_120 s5.1.1])
  (try refine po_gP (Nat.le_of_ble_eq_true rfl) ?_)
  refine po_call (by omega) (r_must (by omega) s5 (fun hq1 hz => by rw [hp hz] at hq1; exact isWs_G hq1) (fun M6 r6 s6 => ?_))
  rw [mustW s5 hp] at s6
  have hS6 := s6.1.1
  have x6' := x4.r r6
  have f6 := f4.tr (bfr.of r6)
  have e6 : gi M6 120 39 = nI b := by rw [f6.2.1 39 (by decide) (by decide) (by decide) (by decide) (by decide) (by decide)]; exact e39
  have g6 : gl M6 138 (4 * b + c.P) = v := by rw [r6.1.l (by decide)]; exact g4
  have j6 : gi M6 143 (4 * b + c.P) = u := by rw [r6.1.i (by decide)]; exact j4
  have hlo : isG (twF ru T L 3 (thF ru T L c 0 (twF ru T L 2 (frF ru T L c.P c.pw τ)))) = true → u = nI (rpf ru T L τ c) ∧ rpf ru T L τ c < 8 := fun y => by
    have oH8 := o.1.2.1
    have y1 := twF_G y
    have y2 := thF_g (isWs_G y1.1)
    have y3 := fnd_le (nm := c.hw) (w := nmV (rpF ru T L τ c)) (n := c.H)
    refine ⟨hu y2.1, ?_⟩
    have y4 := y2.1
    unfold thB at y4
    simp only [Bool.and_eq_true, decide_eq_true_eq] at y4
    have y5 : rpf ru T L τ c < c.H := y4.1.2
    omega
  refine pw_blk (mi := mz_194) (b := bz_194_79) rfl rfl ?_
  simp only [bz_194_79, pz_cut_t, pz_cut_f, pz_cut_n, pv_gt, pv_ts, pv_tn, ev_ald0, ev_eld0, ev_gf11_2, ev_ild1, ea_iald, ev_cv1_11, pz_wi_gc, pz_wi_ga, pz_wi_gn, pz_wi_gl, pz_wi_gr, pz_wi_same, pz_wi_X, pz_wl_gc, pz_wl_ga, pz_wl_gn, pz_wl_gi, pz_wl_gr, pz_wl_same, pz_wl_X, pz_wr_gc, pz_wr_ga, pz_wr_gn, pz_wr_gi, pz_wr_gl, pz_wr_same, pz_wr_X, so_120 hS, sr_120_33 hS, sa_144 hS, sn_144 hS, sr_120_32 hS, sa_143 hS, sn_143 hS, e39, x6, so_120 hS6, sr_120_33 hS6, sr_120_32 hS6, sa_143 hS6, sn_143 hS6, j6, sa_125 hS, sn_125 hS, sa_138 hS, sn_138 hS]
  (try simp (disch := omega) only [nI_clamp, pz_in_nI2, pz_in_nI2L, pv_gt, nI_add, nI_addL, nI_Ladd, pk_mul, nI_mulL, nI_Lmul, pk_sub, nI_subL, nI_Lsub, nI_inc, nI_clampL, Nat.add_sub_cancel, pz_wi_else, pz_wl_else, vu_eq, vu_ne, pz_wi_gc, pz_wi_ga, pz_wi_gn, pz_wi_gl, pz_wi_gr, pz_wi_same, pz_wi_X, pz_wl_gc, pz_wl_ga, pz_wl_gn, pz_wl_gi, pz_wl_gr, pz_wl_same, pz_wl_X, pz_wr_gc, pz_wr_ga, pz_wr_gn, pz_wr_gi, pz_wr_gl, pz_wr_same, pz_wr_X, e39, x6, so_120 hS6, sr_120_33 hS6, sr_120_32 hS6, sa_143 hS6, sn_143 hS6, j6])
  (try refine po_gI (by first | exact pz_in_nI (by omega) (by decide) | decide | assumption) ?_)
  (try refine po_gP (Nat.le_of_ble_eq_true rfl) ?_)
  refine po_call (by omega) (r_aHeap (lo := rpf ru T L τ c) (by omega) hb e6 s6 o x6' hlo (fun M7 t r7 s7 ht => ?_))
  have hS7 := s7.1.1
  have x7 := (x6'.r r7).w144 (v := t)
  have e7 : gi M7 120 39 = nI b := by rw [r7.2 39 (by decide) (by decide) (by decide) (by decide) (by decide) (by decide)]; exact e6
  have p7 := (x6'.r r7).1.2.2.1
  refine pw_blk (mi := mz_194) (b := bz_194_94) rfl rfl ?_
  simp only [bz_194_94, pz_cut_t, pz_cut_f, pz_cut_n, pv_gt, pv_ts, pv_tn, ea_iast, ev_ald0, ev_eld0, ev_gf11_2, ev_gf11_0, ev_dup2, ea_iald, ev_ic1, ev_iadd, ev_ret, pz_wi_gc, pz_wi_ga, pz_wi_gn, pz_wi_gl, pz_wi_gr, pz_wi_same, pz_wi_X, pz_wl_gc, pz_wl_ga, pz_wl_gn, pz_wl_gi, pz_wl_gr, pz_wl_same, pz_wl_X, pz_wr_gc, pz_wr_ga, pz_wr_gn, pz_wr_gi, pz_wr_gl, pz_wr_same, pz_wr_X, so_120 hS, sr_120_14 hS, sa_125 hS, sn_125 hS, e39, x6, so_120 hS7, sa_144 hS7, sn_144 hS7, sr_120_14 hS7, sa_125 hS7, sn_125 hS7, e7, p7, sa_138 hS, sn_138 hS, sa_143 hS, sn_143 hS, sa_144 hS, sn_144 hS]
  (try simp (disch := omega) only [nI_clamp, pz_in_nI2, pz_in_nI2L, pv_gt, nI_add, nI_addL, nI_Ladd, pk_mul, nI_mulL, nI_Lmul, pk_sub, nI_subL, nI_Lsub, nI_inc, nI_clampL, Nat.add_sub_cancel, pz_wi_else, pz_wl_else, vu_eq, vu_ne, pz_wi_gc, pz_wi_ga, pz_wi_gn, pz_wi_gl, pz_wi_gr, pz_wi_same, pz_wi_X, pz_wl_gc, pz_wl_ga, pz_wl_gn, pz_wl_gi, pz_wl_gr, pz_wl_same, pz_wl_X, pz_wr_gc, pz_wr_ga, pz_wr_gn, pz_wr_gi, pz_wr_gl, pz_wr_same, pz_wr_X, e39, x6, so_120 hS7, sa_144 hS7, sn_144 hS7, sr_120_14 hS7, sa_125 hS7, sn_125 hS7, e7, p7])
  (try refine po_gI (by first | exact pz_in_nI (by omega) (by decide) | decide | assumption) ?_)
  (try refine po_gI (by first | exact pz_in_nI (by omega) (by decide) | decide | assumption) ?_)
  (try refine po_gI (by first | exact pz_in_nI (by omega) (by decide) | decide | assumption) ?_)
  refine po_then (fun M8 hM8 => ?_)
  have f7 : bfr M (pz_wi M7 144 (va_up (gi M7 144) (4 * b + c.P) t)) b := (f6.tr (bfr.of r7)).wi (w := 4) (by decide) w1
  have f8 := f7.wi (k := 125) (w := 1) (i := b) (v := nI (c.P + 1)) (by decide) w2
  rw [pz_wi_else (by decide)] at f8
  have hM8' : M8 = pz_wi (pz_wi M7 144 (va_up (gi M7 144) (4 * b + c.P) t)) 125 (va_up (gi M7 125) b (nI (c.P + 1))) := hM8
  have sx : sm [144, 125] M7 M8 := by
    rw [hM8']
    exact sm.wi (sm.wi sm.rf (by decide)) (by decide)
  refine k M8 (by rw [hM8']; exact f8) (s7.sm sx (by decide) (by decide)) (fun y => ?_)
  have y7 := thF_g y
  have y6 := twF_G y7.2.2
  have y4 := thF_g (isWs_G y6.1)
  have y3 := twF_G y4.2.2
  have y1 := frF_G (isWs_G y3.1)
  have q1 := hv y1.1 y1.2.1
  have q2 := (hlo y7.2.2).1
  have q3 := ht y7.1
  refine x7.partW (M' := M8) ?_ ?_ ?_ ?_ ?_
  · rw [pz_wi_gl, r7.1.l (by decide), g6]; exact q1.1
  · rw [pz_wi_else (by decide), r7.1.i (by decide), j6]; exact q2
  · rw [pz_wi_same, vu_eq]; exact q3
  · rw [hM8']; exact sm.wi sm.rf (by decide)
  · rw [hM8', pz_wi_same, pz_wi_else (by decide)]
theorem twF_f {w : Nat} {σ : Sg} (h : isG σ = false) : twF ru T L w σ = σ := by
  cases σ with
  | inl f => rfl
  | inr t => cases h
theorem thF_f {c : Sc} {lo : Nat} {σ : Sg} (h : isG σ = false) : thF ru T L c lo σ = σ := by
  cases σ with
  | inl f => rfl
  | inr t => cases h
theorem tnF_f {w lo hi : Nat} {σ : Sg} (h : isG σ = false) : tnF ru T L w lo hi σ = σ := by
  cases σ with
  | inl f => rfl
  | inr t => cases h
theorem bgF_fr {n m : Nat} {nm : Nat → List Nat} {σ : Sg} (h : n < m) : bgF ru T L n m nm σ = frF ru T L n nm (nxF ru T L σ) := by
  unfold bgF frF
  rw [if_pos h]
theorem frF_f {n : Nat} {nm : Nat → List Nat} {τ : Sg} (h : ¬ (isG (anF τ) = true ∧ ¬ fnd nm (nmV τ) n < n)) : isG (frF ru T L n nm τ) = false := by
  cases z : isG (frF ru T L n nm τ) with
  | false => rfl
  | true => exact absurd ⟨(frF_G z).1, (frF_G z).2.1⟩ h
theorem thF_t {c : Sc} {lo : Nat} {σ : Sg} (h : thB c lo σ = true) : thF ru T L c lo σ = nxF ru T L σ := by
  unfold thB at h
  simp only [Bool.and_eq_true, decide_eq_true_eq] at h
  unfold thF
  rw [if_pos h.1.1, if_pos h.1.2, if_pos h.2]
theorem tnF_t {w lo hi : Nat} {σ : Sg} (h : tnB ru T L w lo hi σ = true) : tnF ru T L w lo hi σ = nxF ru T L (nxF ru T L σ) := by
  unfold tnB at h
  simp only [Bool.and_eq_true] at h
  unfold tnF
  rw [if_pos h.1, if_pos h.2]
/-- the class's line of a part is the reference's, and the sign that ends it -/
theorem part_eq {σ : Sg} {c : Sc} (h : c.P < 4) : (partS ru T L σ c).1 = tsF ru T L 59 (rpS ru T L (nxF ru T L σ) c).1 ∧ (isG (partS ru T L σ c).1 = true → (partS ru T L σ c).2 = (rpS ru T L (nxF ru T L σ) c).2) := by
  unfold partS rpS rpT rpf rpF
  by_cases h1 : isG (anF (nxF ru T L σ)) = true ∧ ¬ fnd c.pw (nmV (nxF ru T L σ)) c.P < c.P
  · rw [if_pos ⟨h, h1⟩]
    have e1 : frF ru T L c.P c.pw (nxF ru T L σ) = nxF ru T L (nxF ru T L σ) := by
      unfold frF
      rw [if_pos h1.1, if_neg h1.2]
    rw [e1]
    by_cases h2 : isWs 2 (nxF ru T L (nxF ru T L σ)) = true
    · rw [if_pos h2, show twF ru T L 2 (nxF ru T L (nxF ru T L σ)) = nxF ru T L (nxF ru T L (nxF ru T L σ)) from if_pos h2]
      by_cases h3 : thB c 0 (nxF ru T L (nxF ru T L (nxF ru T L σ))) = true
      · rw [if_pos h3, thF_t h3]
        by_cases h4 : isWs 3 (nxF ru T L (nxF ru T L (nxF ru T L (nxF ru T L σ)))) = true
        · rw [if_pos h4, show twF ru T L 3 (nxF ru T L (nxF ru T L (nxF ru T L (nxF ru T L σ)))) = _ from if_pos h4]
          by_cases h5 : thB c (fnd c.hw (nmV (nxF ru T L (nxF ru T L (nxF ru T L σ)))) c.H) (nxF ru T L (nxF ru T L (nxF ru T L (nxF ru T L (nxF ru T L σ))))) = true
          · rw [if_pos h5, thF_t h5]
            exact ⟨rfl, fun _ => rfl⟩
          · have hf := thF_G (ru := ru) (T := T) (L := L) (by cases q : thB c (fnd c.hw (nmV (nxF ru T L (nxF ru T L (nxF ru T L σ)))) c.H) (nxF ru T L (nxF ru T L (nxF ru T L (nxF ru T L (nxF ru T L σ))))) with | true => exact absurd q h5 | false => rfl : thB c (fnd c.hw (nmV (nxF ru T L (nxF ru T L (nxF ru T L σ)))) c.H) (nxF ru T L (nxF ru T L (nxF ru T L (nxF ru T L (nxF ru T L σ))))) = false)
            rw [if_neg h5]
            exact ⟨(tsF_f hf).symm, fun z => by rw [hf] at z; cases z⟩
        · rw [if_neg h4, show twF ru T L 3 (nxF ru T L (nxF ru T L (nxF ru T L (nxF ru T L σ)))) = _ from if_neg h4]
          rw [thF_f flF_G, tsF_f flF_G]
          exact ⟨rfl, fun z => by rw [flF_G] at z; cases z⟩
      · have hf := thF_G (ru := ru) (T := T) (L := L) (by cases q : thB c 0 (nxF ru T L (nxF ru T L (nxF ru T L σ))) with | true => exact absurd q h3 | false => rfl : thB c 0 (nxF ru T L (nxF ru T L (nxF ru T L σ))) = false)
        rw [if_neg h3, twF_f hf, thF_f hf, tsF_f hf]
        exact ⟨rfl, fun z => by rw [hf] at z; cases z⟩
    · rw [if_neg h2, show twF ru T L 2 (nxF ru T L (nxF ru T L σ)) = flF 2 (nxF ru T L (nxF ru T L σ)) from if_neg h2]
      rw [thF_f (flF_G (σ := nxF ru T L (nxF ru T L σ))), twF_f flF_G, thF_f flF_G, tsF_f flF_G]
      exact ⟨rfl, fun z => by rw [flF_G] at z; cases z⟩
  · rw [if_neg (fun z => h1 z.2), bgF_fr h]
    have hf := frF_f (ru := ru) (T := T) (L := L) h1
    rw [twF_f hf, thF_f hf, twF_f hf, thF_f hf, tsF_f hf]
    exact ⟨rfl, fun z => by rw [hf] at z; cases z⟩
/-- the same of a heap -/
theorem heap_eq {σ : Sg} {c : Sc} (h : c.H < 8) : (heapS ru T L σ c).1 = tsF ru T L 59 (rhS ru T L (nxF ru T L σ) c).1 ∧ (isG (heapS ru T L σ c).1 = true → (heapS ru T L σ c).2 = (rhS ru T L (nxF ru T L σ) c).2) := by
  unfold heapS rhS
  by_cases h1 : isG (anF (nxF ru T L σ)) = true ∧ ¬ fnd c.hw (nmV (nxF ru T L σ)) c.H < c.H
  · rw [if_pos ⟨h, h1⟩]
    have e1 : frF ru T L c.H c.hw (nxF ru T L σ) = nxF ru T L (nxF ru T L σ) := by
      unfold frF
      rw [if_pos h1.1, if_neg h1.2]
    rw [e1]
    cases h2 : isG (anF (nxF ru T L (nxF ru T L σ))) with
    | true =>
      rw [if_pos rfl]
      obtain ⟨a1, a2⟩ := rk_lk (ru := ru) (T := T) (L := L) 25 (nxF ru T L (nxF ru T L σ)) c h2
      exact ⟨a1.symm, fun _ => by rw [← a2]⟩
    | false =>
      rw [if_neg (by decide)]
      have e2 : lkS ru T L 25 (nxF ru T L (nxF ru T L σ)) c = (anF (nxF ru T L (nxF ru T L σ)), c) := by
        rw [lkS, if_neg (by rw [h2]; decide)]
      rw [e2]
      refine ⟨rfl, fun z => ?_⟩
      rw [show tsF ru T L 59 (anF (nxF ru T L (nxF ru T L σ)), c).1 = anF (nxF ru T L (nxF ru T L σ)) from tsF_f h2, h2] at z
      cases z
  · rw [if_neg (fun z => h1 z.2), bgF_fr h]
    have hf := frF_f (ru := ru) (T := T) (L := L) h1
    have ha : anF (frF ru T L c.H c.hw (nxF ru T L σ)) = frF ru T L c.H c.hw (nxF ru T L σ) := by
      cases q : frF ru T L c.H c.hw (nxF ru T L σ) with
      | inl f => rfl
      | inr t => rw [q] at hf; cases hf
    rw [ha, if_neg (by rw [hf]; exact Bool.false_ne_true), tsF_f hf]
    exact ⟨rfl, fun _ => rfl⟩
end RP
