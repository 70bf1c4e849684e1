/-! ===== a line, all lines, the class's reader ===== -/
section LN
variable {d : Nat} {M M' : pz_M} {Q : Option Value × pz_M → Prop} {ru : Bool} {T : Nat → Nat} {L : Nat}
def lineS (ru : Bool) (T : Nat → Nat) (L : Nat) (σ : Sg) (c : Sc) : Sg × Sc := if isWs 0 σ = true then heapS ru T L σ c else if isWs 1 σ = true then partS ru T L σ c else if isWs 4 σ = true then (wbF ru T L c.B c.D σ, c.door (nuV (nxF ru T L σ))) else if isWs 5 σ = true then (wbF ru T L c.B c.E σ, c.mark (nuV (nxF ru T L σ))) else if isWs 6 σ = true then lawS ru T L σ c else if isWs 13 σ = true then planS ru T L σ c else (flF 2 σ, c)
def pS (ru : Bool) (T : Nat → Nat) (L : Nat) : Nat → Sg → Sc → Sg × Sc
  | 0, σ, c => (σ, c)
  | f + 1, σ, c => if isG σ = true ∧ isE σ = false then pS ru T L f (lineS ru T L σ c).1 (lineS ru T L σ c).2 else (σ, c)
theorem swD0 : ∀ v, v < 26 → v = 0 ∨ v = 1 ∨ v = 4 ∨ v = 5 ∨ v = 6 ∨ v = 13 ∨ pz_swt 52 142 0 13 #[72, 79, 142, 142, 86, 107, 128, 142, 142, 142, 142, 142, 142, 135] (nI v) = 194 := by decide +kernel
theorem swD (v : Nat) (hv : v < 26) (h0 : ¬ v = 0) (h1 : ¬ v = 1) (h4 : ¬ v = 4) (h5 : ¬ v = 5) (h6 : ¬ v = 6) (h13 : ¬ v = 13) : pz_swt 52 142 0 13 #[72, 79, 142, 142, 86, 107, 128, 142, 142, 142, 142, 142, 142, 135] (nI v) = 194 := by
  rcases swD0 v hv with q | q | q | q | q | q | q
  · exact absurd q h0
  · exact absurd q h1
  · exact absurd q h4
  · exact absurd q h5
  · exact absurd q h6
  · exact absurd q h13
  · exact q
theorem swM : pz_swt 52 142 0 13 #[72, 79, 142, 142, 86, 107, 128, 142, 142, 142, 142, 142, 142, 135] (-1) = 194 := by decide +kernel
theorem sw_line {σ : Sg} (s : cSt M ru T L σ) (h0 : isWs 0 σ = false) (h1 : isWs 1 σ = false) (h4 : isWs 4 σ = false) (h5 : isWs 5 σ = false) (h6 : isWs 6 σ = false) (h13 : isWs 13 σ = false) : pz_swt 52 142 0 13 #[72, 79, 142, 142, 86, 107, 128, 142, 142, 142, 142, 142, 142, 135] (gi M 1 7) = 194 := by
  obtain ⟨x, hO, hs⟩ := id s
  cases σ with
  | inl f =>
    obtain ⟨-, -, -, -, f4⟩ := id hs
    rw [f4]
    exact swM
  | inr t =>
    obtain ⟨⟨-, -, -, -, hv, -, -⟩, -⟩ := id hO
    obtain ⟨-, -, c6, c7, -⟩ := id hs
    rw [c7]
    by_cases z : t.1 = 3
    · rw [if_pos z]
      unfold isWs at h0 h1 h4 h5 h6 h13
      simp [z] at h0 h1 h4 h5 h6 h13
      exact swD _ (hv z) h0 h1 h4 h5 h6 h13
    · rw [if_neg z]
      exact swM
theorem okS.door {c : Sc} {n : Nat} (o : okS c) (hn : n < c.B) : okS (c.door n) := by
  obtain ⟨⟨o1, o2, o3, o4, o5, o6, o7, o8⟩, oB, oH, oP, oN, oL⟩ := o
  exact ⟨⟨o1, o2, o3, o4, o5, o6, Nat.or_lt_two_pow o7 (Nat.pow_lt_pow_right (by decide) hn), o8⟩, oB, oH, oP, oN, oL⟩
theorem okS.mark {c : Sc} {n : Nat} (o : okS c) (hn : n < c.B) : okS (c.mark n) := by
  obtain ⟨⟨o1, o2, o3, o4, o5, o6, o7, o8⟩, oB, oH, oP, oN, oL⟩ := o
  exact ⟨⟨o1, o2, o3, o4, o5, o6, o7, Nat.or_lt_two_pow o8 (Nat.pow_lt_pow_right (by decide) hn)⟩, oB, oH, oP, oN, oL⟩
theorem m_line (hd : 20 ≤ d) {i : Nat} {σ : Sg} {c : Sc} (s : cSt M ru T L σ) (o : okS c) (x : csc M c) (k : ∀ M', sm (1 :: scK) M M' → gi M' 1 2 = gi M 1 2 → cSt M' ru T L (lineS ru T L σ c).1 → (isG (lineS ru T L σ c).1 = true → csc M' (lineS ru T L σ c).2 ∧ okS (lineS ru T L σ c).2) → pw d 98 (202, [some (.ref 18), some (.int (nI i))], [], M') Q) : pw d 98 (45, [some (.ref 18), some (.int (nI i))], [], M) Q := by
  have hS := s.1.1
  obtain ⟨⟨x0, x3, x6, x10, x16, x17, x18⟩, xB, xH, xP, xN, xL⟩ := id x
  have oB := o.1.1
  have D4 := D24 o.1.2.2.2.2.2.2.1 oB
  have E4 := D24 o.1.2.2.2.2.2.2.2 oB
  unfold lineS at k
  cases z0 : isWs 0 σ with
  | true =>
    rw [if_pos z0] at k
    have e7 := (cSt_w (w := 0) (by decide) s).mpr z0
    refine pw_blk (mi := mz_98) (b := bz_98_45) rfl rfl ?_
    simp only [bz_98_45, pz_cut_t, pz_cut_f, pz_cut_n, pv_gt, pv_ts, pv_tn, ev_ald0, ev_eld0, ev_gf4_2, ev_gf10_0, ev_tsw, pz_wi_gc, pz_wi_ga, pz_wi_gn, pz_wi_gl, pz_wi_gr, pz_wi_same, pz_wi_X, pz_wl_gc, pz_wl_ga, pz_wl_gn, pz_wl_gi, pz_wl_gr, pz_wl_same, pz_wl_X, pz_wr_gc, pz_wr_ga, pz_wr_gn, pz_wr_gi, pz_wr_gl, pz_wr_same, pz_wr_X, so_18 hS, sr_18_0 hS, so_1 hS, e7]
    (try simp (disch := omega) only [nI_clamp, pz_in_nI2, pz_in_nI2L, pv_gt, nI_add, nI_addL, nI_Ladd, pk_mul, nI_mulL, nI_Lmul, pk_sub, nI_subL, nI_Lsub, nI_inc, nI_clampL, Nat.add_sub_cancel, pz_wi_else, pz_wl_else, vu_eq, vu_ne, pz_wi_gc, pz_wi_ga, pz_wi_gn, pz_wi_gl, pz_wi_gr, pz_wi_same, pz_wi_X, pz_wl_gc, pz_wl_ga, pz_wl_gn, pz_wl_gi, pz_wl_gr, pz_wl_same, pz_wl_X, pz_wr_gc, pz_wr_ga, pz_wr_gn, pz_wr_gi, pz_wr_gl, pz_wr_same, pz_wr_X, e7])
    refine po_go ?_
    rw [show pz_swt _ _ _ _ _ (nI 0) = 124 by decide +kernel]
    refine pw_blk (mi := mz_98) (b := bz_98_124) rfl rfl ?_
    simp only [bz_98_124, pz_cut_t, pz_cut_f, pz_cut_n, pv_gt, pv_ts, pv_tn, ev_ald0, ev_eld0, ev_cv0_4, pz_wi_gc, pz_wi_ga, pz_wi_gn, pz_wi_gl, pz_wi_gr, pz_wi_same, pz_wi_X, pz_wl_gc, pz_wl_ga, pz_wl_gn, pz_wl_gi, pz_wl_gr, pz_wl_same, pz_wl_X, pz_wr_gc, pz_wr_ga, pz_wr_gn, pz_wr_gi, pz_wr_gl, pz_wr_same, pz_wr_X, so_18 hS, e7]
    (try simp (disch := omega) only [nI_clamp, pz_in_nI2, pz_in_nI2L, pv_gt, nI_add, nI_addL, nI_Ladd, pk_mul, nI_mulL, nI_Lmul, pk_sub, nI_subL, nI_Lsub, nI_inc, nI_clampL, Nat.add_sub_cancel, pz_wi_else, pz_wl_else, vu_eq, vu_ne, pz_wi_gc, pz_wi_ga, pz_wi_gn, pz_wi_gl, pz_wi_gr, pz_wi_same, pz_wi_X, pz_wl_gc, pz_wl_ga, pz_wl_gn, pz_wl_gi, pz_wl_gr, pz_wl_same, pz_wl_X, pz_wr_gc, pz_wr_ga, pz_wr_gn, pz_wr_gi, pz_wr_gl, pz_wr_same, pz_wr_X, e7])
    (try refine po_gP (Nat.le_of_ble_eq_true rfl) ?_)
    refine po_call (by omega) (m_readHeap (by omega) s o x (fun M1 s1 f1 t1 h1 => ?_))
    refine pw_blk (mi := mz_98) (b := bz_98_128) rfl rfl ?_
    simp only [bz_98_128, pz_cut_t, pz_cut_f, pz_cut_n, pv_gt, pv_ts, pv_tn, ev_goto, pz_wi_gc, pz_wi_ga, pz_wi_gn, pz_wi_gl, pz_wi_gr, pz_wi_same, pz_wi_X, pz_wl_gc, pz_wl_ga, pz_wl_gn, pz_wl_gi, pz_wl_gr, pz_wl_same, pz_wl_X, pz_wr_gc, pz_wr_ga, pz_wr_gn, pz_wr_gi, pz_wr_gl, pz_wr_same, pz_wr_X, e7]
    (try simp (disch := omega) only [nI_clamp, pz_in_nI2, pz_in_nI2L, pv_gt, nI_add, nI_addL, nI_Ladd, pk_mul, nI_mulL, nI_Lmul, pk_sub, nI_subL, nI_Lsub, nI_inc, nI_clampL, Nat.add_sub_cancel, pz_wi_else, pz_wl_else, vu_eq, vu_ne, pz_wi_gc, pz_wi_ga, pz_wi_gn, pz_wi_gl, pz_wi_gr, pz_wi_same, pz_wi_X, pz_wl_gc, pz_wl_ga, pz_wl_gn, pz_wl_gi, pz_wl_gr, pz_wl_same, pz_wl_X, pz_wr_gc, pz_wr_ga, pz_wr_gn, pz_wr_gi, pz_wr_gl, pz_wr_same, pz_wr_X, e7])
    refine po_go ?_
    exact k M1 (s1.mono (by decide)) f1 t1 h1
  | false =>
    rw [if_neg (by rw [z0]; decide)] at k
    cases z1 : isWs 1 σ with
    | true =>
      rw [if_pos z1] at k
      have e7 := (cSt_w (w := 1) (by decide) s).mpr z1
      refine pw_blk (mi := mz_98) (b := bz_98_45) rfl rfl ?_
      simp only [bz_98_45, pz_cut_t, pz_cut_f, pz_cut_n, pv_gt, pv_ts, pv_tn, ev_ald0, ev_eld0, ev_gf4_2, ev_gf10_0, ev_tsw, pz_wi_gc, pz_wi_ga, pz_wi_gn, pz_wi_gl, pz_wi_gr, pz_wi_same, pz_wi_X, pz_wl_gc, pz_wl_ga, pz_wl_gn, pz_wl_gi, pz_wl_gr, pz_wl_same, pz_wl_X, pz_wr_gc, pz_wr_ga, pz_wr_gn, pz_wr_gi, pz_wr_gl, pz_wr_same, pz_wr_X, so_18 hS, sr_18_0 hS, so_1 hS, e7]
      (try simp (disch := omega) only [nI_clamp, pz_in_nI2, pz_in_nI2L, pv_gt, nI_add, nI_addL, nI_Ladd, pk_mul, nI_mulL, nI_Lmul, pk_sub, nI_subL, nI_Lsub, nI_inc, nI_clampL, Nat.add_sub_cancel, pz_wi_else, pz_wl_else, vu_eq, vu_ne, pz_wi_gc, pz_wi_ga, pz_wi_gn, pz_wi_gl, pz_wi_gr, pz_wi_same, pz_wi_X, pz_wl_gc, pz_wl_ga, pz_wl_gn, pz_wl_gi, pz_wl_gr, pz_wl_same, pz_wl_X, pz_wr_gc, pz_wr_ga, pz_wr_gn, pz_wr_gi, pz_wr_gl, pz_wr_same, pz_wr_X, e7])
      refine po_go ?_
      rw [show pz_swt _ _ _ _ _ (nI 1) = 131 by decide +kernel]
      refine pw_blk (mi := mz_98) (b := bz_98_131) rfl rfl ?_
      simp only [bz_98_131, pz_cut_t, pz_cut_f, pz_cut_n, pv_gt, pv_ts, pv_tn, ev_ald0, ev_eld0, ev_cv0_4, pz_wi_gc, pz_wi_ga, pz_wi_gn, pz_wi_gl, pz_wi_gr, pz_wi_same, pz_wi_X, pz_wl_gc, pz_wl_ga, pz_wl_gn, pz_wl_gi, pz_wl_gr, pz_wl_same, pz_wl_X, pz_wr_gc, pz_wr_ga, pz_wr_gn, pz_wr_gi, pz_wr_gl, pz_wr_same, pz_wr_X, so_18 hS, e7]
      (try simp (disch := omega) only [nI_clamp, pz_in_nI2, pz_in_nI2L, pv_gt, nI_add, nI_addL, nI_Ladd, pk_mul, nI_mulL, nI_Lmul, pk_sub, nI_subL, nI_Lsub, nI_inc, nI_clampL, Nat.add_sub_cancel, pz_wi_else, pz_wl_else, vu_eq, vu_ne, pz_wi_gc, pz_wi_ga, pz_wi_gn, pz_wi_gl, pz_wi_gr, pz_wi_same, pz_wi_X, pz_wl_gc, pz_wl_ga, pz_wl_gn, pz_wl_gi, pz_wl_gr, pz_wl_same, pz_wl_X, pz_wr_gc, pz_wr_ga, pz_wr_gn, pz_wr_gi, pz_wr_gl, pz_wr_same, pz_wr_X, e7])
      (try refine po_gP (Nat.le_of_ble_eq_true rfl) ?_)
      refine po_call (by omega) (m_readPart (by omega) s o x (fun M1 s1 f1 t1 h1 => ?_))
      refine pw_blk (mi := mz_98) (b := bz_98_135) rfl rfl ?_
      simp only [bz_98_135, pz_cut_t, pz_cut_f, pz_cut_n, pv_gt, pv_ts, pv_tn, ev_goto, pz_wi_gc, pz_wi_ga, pz_wi_gn, pz_wi_gl, pz_wi_gr, pz_wi_same, pz_wi_X, pz_wl_gc, pz_wl_ga, pz_wl_gn, pz_wl_gi, pz_wl_gr, pz_wl_same, pz_wl_X, pz_wr_gc, pz_wr_ga, pz_wr_gn, pz_wr_gi, pz_wr_gl, pz_wr_same, pz_wr_X, e7]
      (try simp (disch := omega) only [nI_clamp, pz_in_nI2, pz_in_nI2L, pv_gt, nI_add, nI_addL, nI_Ladd, pk_mul, nI_mulL, nI_Lmul, pk_sub, nI_subL, nI_Lsub, nI_inc, nI_clampL, Nat.add_sub_cancel, pz_wi_else, pz_wl_else, vu_eq, vu_ne, pz_wi_gc, pz_wi_ga, pz_wi_gn, pz_wi_gl, pz_wi_gr, pz_wi_same, pz_wi_X, pz_wl_gc, pz_wl_ga, pz_wl_gn, pz_wl_gi, pz_wl_gr, pz_wl_same, pz_wl_X, pz_wr_gc, pz_wr_ga, pz_wr_gn, pz_wr_gi, pz_wr_gl, pz_wr_same, pz_wr_X, e7])
      refine po_go ?_
      exact k M1 (s1.mono (by decide)) f1 t1 h1
    | false =>
      rw [if_neg (by rw [z1]; decide)] at k
      cases z4 : isWs 4 σ with
      | true =>
        rw [if_pos z4] at k
        have e7 := (cSt_w (w := 4) (by decide) s).mpr z4
        have fin : ∀ M1 v, cfr M M1 → cSt M1 ru T L (wbF ru T L c.B c.D σ) → (isG (wbF ru T L c.B c.D σ) = true → v = nI (c.D ||| 2 ^ nuV (nxF ru T L σ)) ∧ nuV (nxF ru T L σ) < c.B) → pw d 98 (202, [some (.ref 18), some (.int (nI i))], [], pz_wi M1 19 (va_up (gi M1 19) 16 v)) Q := fun M1 v c1 t1 h1 => by
          have sx : sm [19] M1 (pz_wi M1 19 (va_up (gi M1 19) 16 v)) := sm.wi sm.rf (by decide)
          refine k _ ((c1.1.mono (by decide)).tr sx (by decide)) (by rw [pz_wi_else (by decide)]; exact c1.2) (t1.sm sx (by decide) (by decide) (by decide)) (fun z => ⟨?_, o.door (h1 z).2⟩)
          obtain ⟨⟨y0, y3, y6, y10, y16, y17, y18⟩, yB, yH, yP, yN, yL⟩ := x.c1 c1
          refine ⟨⟨?_, ?_, ?_, ?_, ?_, ?_, ?_⟩, ?_, ?_, ?_, ?_, ?_⟩
          all_goals (try simp (disch := decide) only [pz_wi_else, pz_wi_same, pz_wi_gl])
          · rw [vu_ne (by decide)]; exact y0
          · rw [vu_ne (by decide)]; exact y3
          · rw [vu_ne (by decide)]; exact y6
          · rw [vu_ne (by decide)]; exact y10
          · rw [vu_eq]; exact (h1 z).1
          · rw [vu_ne (by decide)]; exact y17
          · rw [vu_ne (by decide)]; exact y18
          · exact yB
          · exact yH
          · exact yP
          · exact yN
          · exact yL
        refine pw_blk (mi := mz_98) (b := bz_98_45) rfl rfl ?_
        simp only [bz_98_45, pz_cut_t, pz_cut_f, pz_cut_n, pv_gt, pv_ts, pv_tn, ev_ald0, ev_eld0, ev_gf4_2, ev_gf10_0, ev_tsw, pz_wi_gc, pz_wi_ga, pz_wi_gn, pz_wi_gl, pz_wi_gr, pz_wi_same, pz_wi_X, pz_wl_gc, pz_wl_ga, pz_wl_gn, pz_wl_gi, pz_wl_gr, pz_wl_same, pz_wl_X, pz_wr_gc, pz_wr_ga, pz_wr_gn, pz_wr_gi, pz_wr_gl, pz_wr_same, pz_wr_X, so_18 hS, sr_18_0 hS, so_1 hS, e7, x16]
        (try simp (disch := omega) only [nI_clamp, pz_in_nI2, pz_in_nI2L, pv_gt, nI_add, nI_addL, nI_Ladd, pk_mul, nI_mulL, nI_Lmul, pk_sub, nI_subL, nI_Lsub, nI_inc, nI_clampL, Nat.add_sub_cancel, pz_wi_else, pz_wl_else, vu_eq, vu_ne, pz_wi_gc, pz_wi_ga, pz_wi_gn, pz_wi_gl, pz_wi_gr, pz_wi_same, pz_wi_X, pz_wl_gc, pz_wl_ga, pz_wl_gn, pz_wl_gi, pz_wl_gr, pz_wl_same, pz_wl_X, pz_wr_gc, pz_wr_ga, pz_wr_gn, pz_wr_gi, pz_wr_gl, pz_wr_same, pz_wr_X, e7, x16])
        refine po_go ?_
        rw [show pz_swt _ _ _ _ _ (nI 4) = 138 by decide +kernel]
        refine pw_blk (mi := mz_98) (b := bz_98_138) rfl rfl ?_
        simp only [bz_98_138, pz_cut_t, pz_cut_f, pz_cut_n, pv_gt, pv_ts, pv_tn, ev_ald0, ev_eld0, ev_gf4_2, ev_gf8_0, ev_cv1_4, pz_wi_gc, pz_wi_ga, pz_wi_gn, pz_wi_gl, pz_wi_gr, pz_wi_same, pz_wi_X, pz_wl_gc, pz_wl_ga, pz_wl_gn, pz_wl_gi, pz_wl_gr, pz_wl_same, pz_wl_X, pz_wr_gc, pz_wr_ga, pz_wr_gn, pz_wr_gi, pz_wr_gl, pz_wr_same, pz_wr_X, so_18 hS, sr_18_1 hS, so_19 hS, e7, x16]
        (try simp (disch := omega) only [nI_clamp, pz_in_nI2, pz_in_nI2L, pv_gt, nI_add, nI_addL, nI_Ladd, pk_mul, nI_mulL, nI_Lmul, pk_sub, nI_subL, nI_Lsub, nI_inc, nI_clampL, Nat.add_sub_cancel, pz_wi_else, pz_wl_else, vu_eq, vu_ne, pz_wi_gc, pz_wi_ga, pz_wi_gn, pz_wi_gl, pz_wi_gr, pz_wi_same, pz_wi_X, pz_wl_gc, pz_wl_ga, pz_wl_gn, pz_wl_gi, pz_wl_gr, pz_wl_same, pz_wl_X, pz_wr_gc, pz_wr_ga, pz_wr_gn, pz_wr_gi, pz_wr_gl, pz_wr_same, pz_wr_X, e7, x16])
        (try refine po_gP (Nat.le_of_ble_eq_true rfl) ?_)
        refine po_call (by omega) (m_withBar (B := c.B) (X := c.D) (by omega) s x0 oB D4 (fun _ M1 c1 t1 hn => ?_) (fun zf M1 c1 t1 => ?_))
        · skip
          have hS1 := t1.1.1
          refine pw_blk (mi := mz_98) (b := bz_98_153) rfl rfl ?_
          simp only [bz_98_153, pz_cut_t, pz_cut_f, pz_cut_n, pv_gt, pv_ts, pv_tn, ev_pf8_0, ev_goto, pz_wi_gc, pz_wi_ga, pz_wi_gn, pz_wi_gl, pz_wi_gr, pz_wi_same, pz_wi_X, pz_wl_gc, pz_wl_ga, pz_wl_gn, pz_wl_gi, pz_wl_gr, pz_wl_same, pz_wl_X, pz_wr_gc, pz_wr_ga, pz_wr_gn, pz_wr_gi, pz_wr_gl, pz_wr_same, pz_wr_X, so_19 hS, e7, x16, so_19 hS1]
          (try simp (disch := omega) only [nI_clamp, pz_in_nI2, pz_in_nI2L, pv_gt, nI_add, nI_addL, nI_Ladd, pk_mul, nI_mulL, nI_Lmul, pk_sub, nI_subL, nI_Lsub, nI_inc, nI_clampL, Nat.add_sub_cancel, pz_wi_else, pz_wl_else, vu_eq, vu_ne, pz_wi_gc, pz_wi_ga, pz_wi_gn, pz_wi_gl, pz_wi_gr, pz_wi_same, pz_wi_X, pz_wl_gc, pz_wl_ga, pz_wl_gn, pz_wl_gi, pz_wl_gr, pz_wl_same, pz_wl_X, pz_wr_gc, pz_wr_ga, pz_wr_gn, pz_wr_gi, pz_wr_gl, pz_wr_same, pz_wr_X, e7, x16, so_19 hS1])
          refine po_go ?_
          first | exact fin M1 _ c1 t1 (fun _ => ⟨rfl, hn⟩) | exact fin M1 _ c1 t1 (fun z => by rw [zf] at z; cases z)
        · skip
          have hS1 := t1.1.1
          refine pw_blk (mi := mz_98) (b := bz_98_153) rfl rfl ?_
          simp only [bz_98_153, pz_cut_t, pz_cut_f, pz_cut_n, pv_gt, pv_ts, pv_tn, ev_pf8_0, ev_goto, pz_wi_gc, pz_wi_ga, pz_wi_gn, pz_wi_gl, pz_wi_gr, pz_wi_same, pz_wi_X, pz_wl_gc, pz_wl_ga, pz_wl_gn, pz_wl_gi, pz_wl_gr, pz_wl_same, pz_wl_X, pz_wr_gc, pz_wr_ga, pz_wr_gn, pz_wr_gi, pz_wr_gl, pz_wr_same, pz_wr_X, so_19 hS, e7, x16, so_19 hS1]
          (try simp (disch := omega) only [nI_clamp, pz_in_nI2, pz_in_nI2L, pv_gt, nI_add, nI_addL, nI_Ladd, pk_mul, nI_mulL, nI_Lmul, pk_sub, nI_subL, nI_Lsub, nI_inc, nI_clampL, Nat.add_sub_cancel, pz_wi_else, pz_wl_else, vu_eq, vu_ne, pz_wi_gc, pz_wi_ga, pz_wi_gn, pz_wi_gl, pz_wi_gr, pz_wi_same, pz_wi_X, pz_wl_gc, pz_wl_ga, pz_wl_gn, pz_wl_gi, pz_wl_gr, pz_wl_same, pz_wl_X, pz_wr_gc, pz_wr_ga, pz_wr_gn, pz_wr_gi, pz_wr_gl, pz_wr_same, pz_wr_X, e7, x16, so_19 hS1])
          refine po_go ?_
          first | exact fin M1 _ c1 t1 (fun _ => ⟨rfl, hn⟩) | exact fin M1 _ c1 t1 (fun z => by rw [zf] at z; cases z)
      | false =>
        rw [if_neg (by rw [z4]; decide)] at k
        cases z5 : isWs 5 σ with
        | true =>
          rw [if_pos z5] at k
          have e7 := (cSt_w (w := 5) (by decide) s).mpr z5
          have fin : ∀ M1 v, cfr M M1 → cSt M1 ru T L (wbF ru T L c.B c.E σ) → (isG (wbF ru T L c.B c.E σ) = true → v = nI (c.E ||| 2 ^ nuV (nxF ru T L σ)) ∧ nuV (nxF ru T L σ) < c.B) → pw d 98 (202, [some (.ref 18), some (.int (nI i))], [], pz_wi M1 19 (va_up (gi M1 19) 17 v)) Q := fun M1 v c1 t1 h1 => by
            have sx : sm [19] M1 (pz_wi M1 19 (va_up (gi M1 19) 17 v)) := sm.wi sm.rf (by decide)
            refine k _ ((c1.1.mono (by decide)).tr sx (by decide)) (by rw [pz_wi_else (by decide)]; exact c1.2) (t1.sm sx (by decide) (by decide) (by decide)) (fun z => ⟨?_, o.mark (h1 z).2⟩)
            obtain ⟨⟨y0, y3, y6, y10, y16, y17, y18⟩, yB, yH, yP, yN, yL⟩ := x.c1 c1
            refine ⟨⟨?_, ?_, ?_, ?_, ?_, ?_, ?_⟩, ?_, ?_, ?_, ?_, ?_⟩
            all_goals (try simp (disch := decide) only [pz_wi_else, pz_wi_same, pz_wi_gl])
            · rw [vu_ne (by decide)]; exact y0
            · rw [vu_ne (by decide)]; exact y3
            · rw [vu_ne (by decide)]; exact y6
            · rw [vu_ne (by decide)]; exact y10
            · rw [vu_ne (by decide)]; exact y16
            · rw [vu_eq]; exact (h1 z).1
            · rw [vu_ne (by decide)]; exact y18
            · exact yB
            · exact yH
            · exact yP
            · exact yN
            · exact yL
          refine pw_blk (mi := mz_98) (b := bz_98_45) rfl rfl ?_
          simp only [bz_98_45, pz_cut_t, pz_cut_f, pz_cut_n, pv_gt, pv_ts, pv_tn, ev_ald0, ev_eld0, ev_gf4_2, ev_gf10_0, ev_tsw, pz_wi_gc, pz_wi_ga, pz_wi_gn, pz_wi_gl, pz_wi_gr, pz_wi_same, pz_wi_X, pz_wl_gc, pz_wl_ga, pz_wl_gn, pz_wl_gi, pz_wl_gr, pz_wl_same, pz_wl_X, pz_wr_gc, pz_wr_ga, pz_wr_gn, pz_wr_gi, pz_wr_gl, pz_wr_same, pz_wr_X, so_18 hS, sr_18_0 hS, so_1 hS, e7, x17]
          (try simp (disch := omega) only [nI_clamp, pz_in_nI2, pz_in_nI2L, pv_gt, nI_add, nI_addL, nI_Ladd, pk_mul, nI_mulL, nI_Lmul, pk_sub, nI_subL, nI_Lsub, nI_inc, nI_clampL, Nat.add_sub_cancel, pz_wi_else, pz_wl_else, vu_eq, vu_ne, pz_wi_gc, pz_wi_ga, pz_wi_gn, pz_wi_gl, pz_wi_gr, pz_wi_same, pz_wi_X, pz_wl_gc, pz_wl_ga, pz_wl_gn, pz_wl_gi, pz_wl_gr, pz_wl_same, pz_wl_X, pz_wr_gc, pz_wr_ga, pz_wr_gn, pz_wr_gi, pz_wr_gl, pz_wr_same, pz_wr_X, e7, x17])
          refine po_go ?_
          rw [show pz_swt _ _ _ _ _ (nI 5) = 159 by decide +kernel]
          refine pw_blk (mi := mz_98) (b := bz_98_159) rfl rfl ?_
          simp only [bz_98_159, pz_cut_t, pz_cut_f, pz_cut_n, pv_gt, pv_ts, pv_tn, ev_ald0, ev_eld0, ev_gf4_2, ev_gf8_0, ev_cv1_4, pz_wi_gc, pz_wi_ga, pz_wi_gn, pz_wi_gl, pz_wi_gr, pz_wi_same, pz_wi_X, pz_wl_gc, pz_wl_ga, pz_wl_gn, pz_wl_gi, pz_wl_gr, pz_wl_same, pz_wl_X, pz_wr_gc, pz_wr_ga, pz_wr_gn, pz_wr_gi, pz_wr_gl, pz_wr_same, pz_wr_X, so_18 hS, sr_18_1 hS, so_19 hS, e7, x17]
          (try simp (disch := omega) only [nI_clamp, pz_in_nI2, pz_in_nI2L, pv_gt, nI_add, nI_addL, nI_Ladd, pk_mul, nI_mulL, nI_Lmul, pk_sub, nI_subL, nI_Lsub, nI_inc, nI_clampL, Nat.add_sub_cancel, pz_wi_else, pz_wl_else, vu_eq, vu_ne, pz_wi_gc, pz_wi_ga, pz_wi_gn, pz_wi_gl, pz_wi_gr, pz_wi_same, pz_wi_X, pz_wl_gc, pz_wl_ga, pz_wl_gn, pz_wl_gi, pz_wl_gr, pz_wl_same, pz_wl_X, pz_wr_gc, pz_wr_ga, pz_wr_gn, pz_wr_gi, pz_wr_gl, pz_wr_same, pz_wr_X, e7, x17])
          (try refine po_gP (Nat.le_of_ble_eq_true rfl) ?_)
          refine po_call (by omega) (m_withBar (B := c.B) (X := c.E) (by omega) s x0 oB E4 (fun _ M1 c1 t1 hn => ?_) (fun zf M1 c1 t1 => ?_))
          · skip
            have hS1 := t1.1.1
            refine pw_blk (mi := mz_98) (b := bz_98_174) rfl rfl ?_
            simp only [bz_98_174, pz_cut_t, pz_cut_f, pz_cut_n, pv_gt, pv_ts, pv_tn, ev_pf8_0, ev_goto, pz_wi_gc, pz_wi_ga, pz_wi_gn, pz_wi_gl, pz_wi_gr, pz_wi_same, pz_wi_X, pz_wl_gc, pz_wl_ga, pz_wl_gn, pz_wl_gi, pz_wl_gr, pz_wl_same, pz_wl_X, pz_wr_gc, pz_wr_ga, pz_wr_gn, pz_wr_gi, pz_wr_gl, pz_wr_same, pz_wr_X, so_19 hS, e7, x17, so_19 hS1]
            (try simp (disch := omega) only [nI_clamp, pz_in_nI2, pz_in_nI2L, pv_gt, nI_add, nI_addL, nI_Ladd, pk_mul, nI_mulL, nI_Lmul, pk_sub, nI_subL, nI_Lsub, nI_inc, nI_clampL, Nat.add_sub_cancel, pz_wi_else, pz_wl_else, vu_eq, vu_ne, pz_wi_gc, pz_wi_ga, pz_wi_gn, pz_wi_gl, pz_wi_gr, pz_wi_same, pz_wi_X, pz_wl_gc, pz_wl_ga, pz_wl_gn, pz_wl_gi, pz_wl_gr, pz_wl_same, pz_wl_X, pz_wr_gc, pz_wr_ga, pz_wr_gn, pz_wr_gi, pz_wr_gl, pz_wr_same, pz_wr_X, e7, x17, so_19 hS1])
            refine po_go ?_
            first | exact fin M1 _ c1 t1 (fun _ => ⟨rfl, hn⟩) | exact fin M1 _ c1 t1 (fun z => by rw [zf] at z; cases z)
          · skip
            have hS1 := t1.1.1
            refine pw_blk (mi := mz_98) (b := bz_98_174) rfl rfl ?_
            simp only [bz_98_174, pz_cut_t, pz_cut_f, pz_cut_n, pv_gt, pv_ts, pv_tn, ev_pf8_0, ev_goto, pz_wi_gc, pz_wi_ga, pz_wi_gn, pz_wi_gl, pz_wi_gr, pz_wi_same, pz_wi_X, pz_wl_gc, pz_wl_ga, pz_wl_gn, pz_wl_gi, pz_wl_gr, pz_wl_same, pz_wl_X, pz_wr_gc, pz_wr_ga, pz_wr_gn, pz_wr_gi, pz_wr_gl, pz_wr_same, pz_wr_X, so_19 hS, e7, x17, so_19 hS1]
            (try simp (disch := omega) only [nI_clamp, pz_in_nI2, pz_in_nI2L, pv_gt, nI_add, nI_addL, nI_Ladd, pk_mul, nI_mulL, nI_Lmul, pk_sub, nI_subL, nI_Lsub, nI_inc, nI_clampL, Nat.add_sub_cancel, pz_wi_else, pz_wl_else, vu_eq, vu_ne, pz_wi_gc, pz_wi_ga, pz_wi_gn, pz_wi_gl, pz_wi_gr, pz_wi_same, pz_wi_X, pz_wl_gc, pz_wl_ga, pz_wl_gn, pz_wl_gi, pz_wl_gr, pz_wl_same, pz_wl_X, pz_wr_gc, pz_wr_ga, pz_wr_gn, pz_wr_gi, pz_wr_gl, pz_wr_same, pz_wr_X, e7, x17, so_19 hS1])
            refine po_go ?_
            first | exact fin M1 _ c1 t1 (fun _ => ⟨rfl, hn⟩) | exact fin M1 _ c1 t1 (fun z => by rw [zf] at z; cases z)
        | false =>
          rw [if_neg (by rw [z5]; decide)] at k
          cases z6 : isWs 6 σ with
          | true =>
            rw [if_pos z6] at k
            have e7 := (cSt_w (w := 6) (by decide) s).mpr z6
            refine pw_blk (mi := mz_98) (b := bz_98_45) rfl rfl ?_
            simp only [bz_98_45, pz_cut_t, pz_cut_f, pz_cut_n, pv_gt, pv_ts, pv_tn, ev_ald0, ev_eld0, ev_gf4_2, ev_gf10_0, ev_tsw, pz_wi_gc, pz_wi_ga, pz_wi_gn, pz_wi_gl, pz_wi_gr, pz_wi_same, pz_wi_X, pz_wl_gc, pz_wl_ga, pz_wl_gn, pz_wl_gi, pz_wl_gr, pz_wl_same, pz_wl_X, pz_wr_gc, pz_wr_ga, pz_wr_gn, pz_wr_gi, pz_wr_gl, pz_wr_same, pz_wr_X, so_18 hS, sr_18_0 hS, so_1 hS, e7]
            (try simp (disch := omega) only [nI_clamp, pz_in_nI2, pz_in_nI2L, pv_gt, nI_add, nI_addL, nI_Ladd, pk_mul, nI_mulL, nI_Lmul, pk_sub, nI_subL, nI_Lsub, nI_inc, nI_clampL, Nat.add_sub_cancel, pz_wi_else, pz_wl_else, vu_eq, vu_ne, pz_wi_gc, pz_wi_ga, pz_wi_gn, pz_wi_gl, pz_wi_gr, pz_wi_same, pz_wi_X, pz_wl_gc, pz_wl_ga, pz_wl_gn, pz_wl_gi, pz_wl_gr, pz_wl_same, pz_wl_X, pz_wr_gc, pz_wr_ga, pz_wr_gn, pz_wr_gi, pz_wr_gl, pz_wr_same, pz_wr_X, e7])
            refine po_go ?_
            rw [show pz_swt _ _ _ _ _ (nI 6) = 180 by decide +kernel]
            refine pw_blk (mi := mz_98) (b := bz_98_180) rfl rfl ?_
            simp only [bz_98_180, pz_cut_t, pz_cut_f, pz_cut_n, pv_gt, pv_ts, pv_tn, ev_ald0, ev_eld0, ev_cv0_4, pz_wi_gc, pz_wi_ga, pz_wi_gn, pz_wi_gl, pz_wi_gr, pz_wi_same, pz_wi_X, pz_wl_gc, pz_wl_ga, pz_wl_gn, pz_wl_gi, pz_wl_gr, pz_wl_same, pz_wl_X, pz_wr_gc, pz_wr_ga, pz_wr_gn, pz_wr_gi, pz_wr_gl, pz_wr_same, pz_wr_X, so_18 hS, e7]
            (try simp (disch := omega) only [nI_clamp, pz_in_nI2, pz_in_nI2L, pv_gt, nI_add, nI_addL, nI_Ladd, pk_mul, nI_mulL, nI_Lmul, pk_sub, nI_subL, nI_Lsub, nI_inc, nI_clampL, Nat.add_sub_cancel, pz_wi_else, pz_wl_else, vu_eq, vu_ne, pz_wi_gc, pz_wi_ga, pz_wi_gn, pz_wi_gl, pz_wi_gr, pz_wi_same, pz_wi_X, pz_wl_gc, pz_wl_ga, pz_wl_gn, pz_wl_gi, pz_wl_gr, pz_wl_same, pz_wl_X, pz_wr_gc, pz_wr_ga, pz_wr_gn, pz_wr_gi, pz_wr_gl, pz_wr_same, pz_wr_X, e7])
            (try refine po_gP (Nat.le_of_ble_eq_true rfl) ?_)
            refine po_call (by omega) (m_readLaw (by omega) s o x (fun M1 s1 f1 t1 h1 => ?_))
            refine pw_blk (mi := mz_98) (b := bz_98_184) rfl rfl ?_
            simp only [bz_98_184, pz_cut_t, pz_cut_f, pz_cut_n, pv_gt, pv_ts, pv_tn, ev_goto, pz_wi_gc, pz_wi_ga, pz_wi_gn, pz_wi_gl, pz_wi_gr, pz_wi_same, pz_wi_X, pz_wl_gc, pz_wl_ga, pz_wl_gn, pz_wl_gi, pz_wl_gr, pz_wl_same, pz_wl_X, pz_wr_gc, pz_wr_ga, pz_wr_gn, pz_wr_gi, pz_wr_gl, pz_wr_same, pz_wr_X, e7]
            (try simp (disch := omega) only [nI_clamp, pz_in_nI2, pz_in_nI2L, pv_gt, nI_add, nI_addL, nI_Ladd, pk_mul, nI_mulL, nI_Lmul, pk_sub, nI_subL, nI_Lsub, nI_inc, nI_clampL, Nat.add_sub_cancel, pz_wi_else, pz_wl_else, vu_eq, vu_ne, pz_wi_gc, pz_wi_ga, pz_wi_gn, pz_wi_gl, pz_wi_gr, pz_wi_same, pz_wi_X, pz_wl_gc, pz_wl_ga, pz_wl_gn, pz_wl_gi, pz_wl_gr, pz_wl_same, pz_wl_X, pz_wr_gc, pz_wr_ga, pz_wr_gn, pz_wr_gi, pz_wr_gl, pz_wr_same, pz_wr_X, e7])
            refine po_go ?_
            exact k M1 (s1.mono (by decide)) f1 t1 h1
          | false =>
            rw [if_neg (by rw [z6]; decide)] at k
            cases z13 : isWs 13 σ with
            | true =>
              rw [if_pos z13] at k
              have e7 := (cSt_w (w := 13) (by decide) s).mpr z13
              refine pw_blk (mi := mz_98) (b := bz_98_45) rfl rfl ?_
              simp only [bz_98_45, pz_cut_t, pz_cut_f, pz_cut_n, pv_gt, pv_ts, pv_tn, ev_ald0, ev_eld0, ev_gf4_2, ev_gf10_0, ev_tsw, pz_wi_gc, pz_wi_ga, pz_wi_gn, pz_wi_gl, pz_wi_gr, pz_wi_same, pz_wi_X, pz_wl_gc, pz_wl_ga, pz_wl_gn, pz_wl_gi, pz_wl_gr, pz_wl_same, pz_wl_X, pz_wr_gc, pz_wr_ga, pz_wr_gn, pz_wr_gi, pz_wr_gl, pz_wr_same, pz_wr_X, so_18 hS, sr_18_0 hS, so_1 hS, e7]
              (try simp (disch := omega) only [nI_clamp, pz_in_nI2, pz_in_nI2L, pv_gt, nI_add, nI_addL, nI_Ladd, pk_mul, nI_mulL, nI_Lmul, pk_sub, nI_subL, nI_Lsub, nI_inc, nI_clampL, Nat.add_sub_cancel, pz_wi_else, pz_wl_else, vu_eq, vu_ne, pz_wi_gc, pz_wi_ga, pz_wi_gn, pz_wi_gl, pz_wi_gr, pz_wi_same, pz_wi_X, pz_wl_gc, pz_wl_ga, pz_wl_gn, pz_wl_gi, pz_wl_gr, pz_wl_same, pz_wl_X, pz_wr_gc, pz_wr_ga, pz_wr_gn, pz_wr_gi, pz_wr_gl, pz_wr_same, pz_wr_X, e7])
              refine po_go ?_
              rw [show pz_swt _ _ _ _ _ (nI 13) = 187 by decide +kernel]
              refine pw_blk (mi := mz_98) (b := bz_98_187) rfl rfl ?_
              simp only [bz_98_187, pz_cut_t, pz_cut_f, pz_cut_n, pv_gt, pv_ts, pv_tn, ev_ald0, ev_eld0, ev_cv0_4, pz_wi_gc, pz_wi_ga, pz_wi_gn, pz_wi_gl, pz_wi_gr, pz_wi_same, pz_wi_X, pz_wl_gc, pz_wl_ga, pz_wl_gn, pz_wl_gi, pz_wl_gr, pz_wl_same, pz_wl_X, pz_wr_gc, pz_wr_ga, pz_wr_gn, pz_wr_gi, pz_wr_gl, pz_wr_same, pz_wr_X, so_18 hS, e7]
              (try simp (disch := omega) only [nI_clamp, pz_in_nI2, pz_in_nI2L, pv_gt, nI_add, nI_addL, nI_Ladd, pk_mul, nI_mulL, nI_Lmul, pk_sub, nI_subL, nI_Lsub, nI_inc, nI_clampL, Nat.add_sub_cancel, pz_wi_else, pz_wl_else, vu_eq, vu_ne, pz_wi_gc, pz_wi_ga, pz_wi_gn, pz_wi_gl, pz_wi_gr, pz_wi_same, pz_wi_X, pz_wl_gc, pz_wl_ga, pz_wl_gn, pz_wl_gi, pz_wl_gr, pz_wl_same, pz_wl_X, pz_wr_gc, pz_wr_ga, pz_wr_gn, pz_wr_gi, pz_wr_gl, pz_wr_same, pz_wr_X, e7])
              (try refine po_gP (Nat.le_of_ble_eq_true rfl) ?_)
              refine po_call (by omega) (m_readPlan (by omega) s o x (fun M1 s1 f1 t1 h1 => ?_))
              refine pw_blk (mi := mz_98) (b := bz_98_191) rfl rfl ?_
              simp only [bz_98_191, pz_cut_t, pz_cut_f, pz_cut_n, pv_gt, pv_ts, pv_tn, ev_goto, pz_wi_gc, pz_wi_ga, pz_wi_gn, pz_wi_gl, pz_wi_gr, pz_wi_same, pz_wi_X, pz_wl_gc, pz_wl_ga, pz_wl_gn, pz_wl_gi, pz_wl_gr, pz_wl_same, pz_wl_X, pz_wr_gc, pz_wr_ga, pz_wr_gn, pz_wr_gi, pz_wr_gl, pz_wr_same, pz_wr_X, e7]
              (try simp (disch := omega) only [nI_clamp, pz_in_nI2, pz_in_nI2L, pv_gt, nI_add, nI_addL, nI_Ladd, pk_mul, nI_mulL, nI_Lmul, pk_sub, nI_subL, nI_Lsub, nI_inc, nI_clampL, Nat.add_sub_cancel, pz_wi_else, pz_wl_else, vu_eq, vu_ne, pz_wi_gc, pz_wi_ga, pz_wi_gn, pz_wi_gl, pz_wi_gr, pz_wi_same, pz_wi_X, pz_wl_gc, pz_wl_ga, pz_wl_gn, pz_wl_gi, pz_wl_gr, pz_wl_same, pz_wl_X, pz_wr_gc, pz_wr_ga, pz_wr_gn, pz_wr_gi, pz_wr_gl, pz_wr_same, pz_wr_X, e7])
              refine po_go ?_
              exact k M1 (s1.mono (by decide)) f1 t1 h1
            | false =>
              rw [if_neg (by rw [z13]; decide)] at k
              have hsw := sw_line s z0 z1 z4 z5 z6 z13
              refine pw_blk (mi := mz_98) (b := bz_98_45) rfl rfl ?_
              simp only [bz_98_45, pz_cut_t, pz_cut_f, pz_cut_n, pv_gt, pv_ts, pv_tn, ev_ald0, ev_eld0, ev_gf4_2, ev_gf10_0, ev_tsw, pz_wi_gc, pz_wi_ga, pz_wi_gn, pz_wi_gl, pz_wi_gr, pz_wi_same, pz_wi_X, pz_wl_gc, pz_wl_ga, pz_wl_gn, pz_wl_gi, pz_wl_gr, pz_wl_same, pz_wl_X, pz_wr_gc, pz_wr_ga, pz_wr_gn, pz_wr_gi, pz_wr_gl, pz_wr_same, pz_wr_X, so_18 hS, sr_18_0 hS, so_1 hS]
              (try simp (disch := omega) only [nI_clamp, pz_in_nI2, pz_in_nI2L, pv_gt, nI_add, nI_addL, nI_Ladd, pk_mul, nI_mulL, nI_Lmul, pk_sub, nI_subL, nI_Lsub, nI_inc, nI_clampL, Nat.add_sub_cancel, pz_wi_else, pz_wl_else, vu_eq, vu_ne, pz_wi_gc, pz_wi_ga, pz_wi_gn, pz_wi_gl, pz_wi_gr, pz_wi_same, pz_wi_X, pz_wl_gc, pz_wl_ga, pz_wl_gn, pz_wl_gi, pz_wl_gr, pz_wl_same, pz_wl_X, pz_wr_gc, pz_wr_ga, pz_wr_gn, pz_wr_gi, pz_wr_gl, pz_wr_same, pz_wr_X])
              refine po_go ?_
              rw [hsw]
              refine pw_blk (mi := mz_98) (b := bz_98_194) rfl rfl ?_
              simp only [bz_98_194, pz_cut_t, pz_cut_f, pz_cut_n, pv_gt, pv_ts, pv_tn, ev_ald0, ev_eld0, ev_gf4_2, ev_ic2, ev_cv1_10, pz_wi_gc, pz_wi_ga, pz_wi_gn, pz_wi_gl, pz_wi_gr, pz_wi_same, pz_wi_X, pz_wl_gc, pz_wl_ga, pz_wl_gn, pz_wl_gi, pz_wl_gr, pz_wl_same, pz_wl_X, pz_wr_gc, pz_wr_ga, pz_wr_gn, pz_wr_gi, pz_wr_gl, pz_wr_same, pz_wr_X, so_18 hS, sr_18_0 hS, so_1 hS]
              (try simp (disch := omega) only [nI_clamp, pz_in_nI2, pz_in_nI2L, pv_gt, nI_add, nI_addL, nI_Ladd, pk_mul, nI_mulL, nI_Lmul, pk_sub, nI_subL, nI_Lsub, nI_inc, nI_clampL, Nat.add_sub_cancel, pz_wi_else, pz_wl_else, vu_eq, vu_ne, pz_wi_gc, pz_wi_ga, pz_wi_gn, pz_wi_gl, pz_wi_gr, pz_wi_same, pz_wi_X, pz_wl_gc, pz_wl_ga, pz_wl_gn, pz_wl_gi, pz_wl_gr, pz_wl_same, pz_wl_X, pz_wr_gc, pz_wr_ga, pz_wr_gn, pz_wr_gi, pz_wr_gl, pz_wr_same, pz_wr_X])
              (try refine po_gP (Nat.le_of_ble_eq_true rfl) ?_)
              refine po_call (by omega) (m_fail (j := 2) (by decide) (by decide) s (fun M1 c1 t1 => ?_))
              exact k M1 (c1.1.mono (by decide)) c1.2 t1 (fun z => by rw [flF_G] at z; cases z)
def scE : Sc := (0, 0, 0, 0, fun _ => [], fun _ => 0, fun _ => [], fun _ => 0, fun _ => 0, fun _ => [], fun _ => 0, fun _ => 0, fun _ => [], fun _ => 0, fun _ => 0, fun _ => 0, fun _ => 0, 0, 0, false, fun i => ([100, 10, 20, 500, 4, 2] : List Nat).getD i 0)
theorem scE_ok : okS scE := ⟨⟨by decide, by decide, by decide, by decide, by decide, fun _ => rfl, by decide, by decide⟩, fun i hi => absurd (show i < 0 from hi) (by omega), fun i hi => absurd (show i < 0 from hi) (by omega), fun i hi => absurd (show i < 0 from hi) (by omega), fun i hi => absurd (show i < 0 from hi) (by omega), by decide⟩
theorem clamp6 : Int32.toNatClampNeg 6 = 6 := by decide
theorem cpg6 : ¬ (0 : Int32) < 0 ∧ ¬ (0 : Int32) < 0 ∧ ¬ (6 : Int32) < 0 ∧ (0 : Int32).toNatClampNeg + (6 : Int32).toNatClampNeg ≤ 6 ∧ (0 : Int32).toNatClampNeg + (6 : Int32).toNatClampNeg ≤ 6 ∧ (([] : List Value).map fun v => v.category).sum ≤ 8 := by decide
theorem m_empty (hS : SH M) (k : ∀ M', sm [19, 32] M M' → csc M' scE → Q (none, M')) : pm d 175 [.ref 19] M Q := by
  have lwE : ∀ i, i < 6 → ([100, 10, 20, 500, 4, 2] : List Int32).getD i 0 = nI (([100, 10, 20, 500, 4, 2] : List Nat).getD i 0) := by decide
  refine pm_ent (L := [some (.ref 19)]) rfl (Nat.le_of_ble_eq_true rfl) ?_
  refine pw_blk (mi := mz_175) (b := bz_175_0) rfl rfl ?_
  simp only [bz_175_0, pz_cut_t, pz_cut_f, pz_cut_n, pv_gt, pv_ts, pv_tn, ev_ald0, ev_eld0, ev_ic0, ev_pf8_0, ev_pf8_3, ev_gs1, ev_gf8_2, ev_bp6, ea_cpi, ea_cpl, ea_cpe, ev_ret, pz_wi_gc, pz_wi_ga, pz_wi_gn, pz_wi_gl, pz_wi_gr, pz_wi_same, pz_wi_X, pz_wl_gc, pz_wl_ga, pz_wl_gn, pz_wl_gi, pz_wl_gr, pz_wl_same, pz_wl_X, pz_wr_gc, pz_wr_ga, pz_wr_gn, pz_wr_gi, pz_wr_gl, pz_wr_same, pz_wr_X, so_19 hS, sr_19_19 hS, sa_32 hS, sn_32 hS, clamp6, clamp00, ea_cpe (sa_32 hS)]
  (try simp (disch := omega) only [nI_clamp, pz_in_nI2, pz_in_nI2L, pv_gt, nI_add, nI_addL, nI_Ladd, pk_mul, nI_mulL, nI_Lmul, pk_sub, nI_subL, nI_Lsub, nI_inc, nI_clampL, Nat.add_sub_cancel, pz_wi_else, pz_wl_else, vu_eq, vu_ne, pz_wi_gc, pz_wi_ga, pz_wi_gn, pz_wi_gl, pz_wi_gr, pz_wi_same, pz_wi_X, pz_wl_gc, pz_wl_ga, pz_wl_gn, pz_wl_gi, pz_wl_gr, pz_wl_same, pz_wl_X, pz_wr_gc, pz_wr_ga, pz_wr_gn, pz_wr_gi, pz_wr_gl, pz_wr_same, pz_wr_X, clamp6, clamp00, ea_cpe (sa_32 hS)])
  (try refine po_gP (by first | decide | exact cpg6 | assumption) ?_)
  (try refine po_gP (by first | decide | exact cpg6 | assumption) ?_)
  refine po_then (fun M1 hM1 => ?_)
  have s1 : sm [19, 32] M M1 := by
    rw [hM1]
    (repeat' first | exact sm.rf | refine sm.wi ?_ (by simp))
  refine k M1 s1 ⟨⟨?_, ?_, ?_, ?_, ?_, ?_, ?_⟩, fun i hi => absurd (show i < 0 from hi) (by omega), fun i hi => absurd (show i < 0 from hi) (by omega), fun i hi => absurd (show i < 0 from hi) (by omega), fun i hi => absurd (show i < 0 from hi) (by omega), fun i hi => ?_⟩
  all_goals rw [hM1]
  all_goals (try simp (disch := decide) only [pz_wi_else, pz_wi_same, vu_eq, vu_ne])
  · rfl
  · rfl
  · rfl
  · rfl
  · rfl
  · rfl
  · rfl
  · unfold va_cpy
    rw [if_pos (by omega)]
    rw [show 0 + (i - 0) = i by omega]
    exact lwE i hi
theorem pm_mono {j : Nat} {vs : List Value} {Q' : Option Value × pz_M → Prop} (h : pm d j vs M Q) (hq : ∀ r, Q r → Q' r) : pm d j vs M Q' := by
  obtain ⟨a, n, r, e, q⟩ := h
  exact ⟨a, n, r, e, hq r q⟩
theorem rfl_13 : ∀ q ∈ RFL, ¬ (q.1 = 1 ∧ q.2.1 = 3) := by decide +kernel
def tk0 : Tk := (0, 0, [], 0, 0)
def cwr (M : pz_M) (v : Value) : pz_M := pz_wr M 1 (va_up (gr M 1) 3 v)
theorem cwr_gr {v : Value} {a b : Nat} (h : ¬ (a = 1 ∧ b = 3)) : gr (cwr M v) a b = gr M a b := by
  by_cases q : a = 1
  · subst q
    unfold cwr
    rw [pz_wr_same, vu_ne (fun z => h ⟨rfl, z⟩)]
  · unfold cwr gr pz_wr pz_row
    simp only [if_neg q]
theorem sh_cwr {v : Value} (h : SH M) (hv : v = .retAddr 4 ∨ v = .retAddr 6 ∨ v = .retAddr 7) : SH (cwr M v) := by
  obtain ⟨h1, h2, h3, h4⟩ := h
  refine ⟨h1, fun q hq => ?_, ?_, ?_⟩
  · rw [cwr_gr (rfl_13 q hq)]
    exact h2 q hq
  · rw [cwr_gr (by decide), cwr_gr (by decide)]
    exact h3
  · have e : gr (cwr M v) 1 3 = v := by
      unfold cwr
      rw [pz_wr_same, vu_eq]
    rw [e]
    exact hv
theorem sg_wr {v : Value} (hS : SH M) (hS' : SH (cwr M v)) : sg [] M (cwr M v) := ⟨rfl, rfl, hS', fun _ _ => ⟨rfl, rfl⟩⟩
theorem m_readAll (hd : 24 ≤ d) {T : Nat → Nat} {L : Nat} (hS : SH M) (eL : gi M 1 2 = nI L) (hL : L ≤ 1500) (hb : ∀ i, i < L → gi M 2 i = sb_b (T i) ∧ T i < 256) (hw : RWd M) (k : ∀ M', sg (1 :: scK) M M' → gi M' 1 2 = gi M 1 2 → cSt M' false T L (pS false T L 1500 (nxF false T L (.inr tk0)) scE).1 → (isG (pS false T L 1500 (nxF false T L (.inr tk0)) scE).1 = true → csc M' (pS false T L 1500 (nxF false T L (.inr tk0)) scE).2 ∧ okS (pS false T L 1500 (nxF false T L (.inr tk0)) scE).2) → Q (some (.int (bI (isG (pS false T L 1500 (nxF false T L (.inr tk0)) scE).1))), M')) : pm d 98 [.ref 18] M Q := by
  have fin : ∀ M' σ' c', sg (1 :: scK) M M' → gi M' 1 2 = gi M 1 2 → cSt M' false T L σ' → (isG σ' = true → csc M' c' ∧ okS c') → (σ', c') = pS false T L 1500 (nxF false T L (.inr tk0)) scE → pw d 98 (208, [some (.ref 18), none], [], M') Q := by
    intro M' σ' c' s' e' t' h' el
    rw [← el] at k
    have hS' := t'.1.1
    have kk := k M' s' e' t' h'
    cases zg : isG σ' with
    | true =>
      rw [show isG (σ', c').1 = true from zg] at kk
      refine pw_blk (mi := mz_98) (b := bz_98_208) rfl rfl ?_
      simp only [bz_98_208, pz_cut_t, pz_cut_f, pz_cut_n, pv_gt, pv_ts, pv_tn, ev_ald0, ev_eld0, ev_gf4_2, ev_cv0_10, pz_wi_gc, pz_wi_ga, pz_wi_gn, pz_wi_gl, pz_wi_gr, pz_wi_same, pz_wi_X, pz_wl_gc, pz_wl_ga, pz_wl_gn, pz_wl_gi, pz_wl_gr, pz_wl_same, pz_wl_X, pz_wr_gc, pz_wr_ga, pz_wr_gn, pz_wr_gi, pz_wr_gl, pz_wr_same, pz_wr_X, so_18 hS', sr_18_0 hS', so_1 hS']
      (try simp (disch := omega) only [nI_clamp, pz_in_nI2, pz_in_nI2L, pv_gt, nI_add, nI_addL, nI_Ladd, pk_mul, nI_mulL, nI_Lmul, pk_sub, nI_subL, nI_Lsub, nI_inc, nI_clampL, Nat.add_sub_cancel, pz_wi_else, pz_wl_else, vu_eq, vu_ne, pz_wi_gc, pz_wi_ga, pz_wi_gn, pz_wi_gl, pz_wi_gr, pz_wi_same, pz_wi_X, pz_wl_gc, pz_wl_ga, pz_wl_gn, pz_wl_gi, pz_wl_gr, pz_wl_same, pz_wl_X, pz_wr_gc, pz_wr_ga, pz_wr_gn, pz_wr_gi, pz_wr_gl, pz_wr_same, pz_wr_X])
      (try refine po_gP (Nat.le_of_ble_eq_true rfl) ?_)
      refine po_call (by omega) (m_isFine t' ?_)
      rw [zg]
      refine pw_blk (mi := mz_98) (b := bz_98_215) rfl rfl ?_
      simp only [bz_98_215, pz_cut_t, pz_cut_f, pz_cut_n, pv_gt, pv_ts, pv_tn, ev_iret1, pz_wi_gc, pz_wi_ga, pz_wi_gn, pz_wi_gl, pz_wi_gr, pz_wi_same, pz_wi_X, pz_wl_gc, pz_wl_ga, pz_wl_gn, pz_wl_gi, pz_wl_gr, pz_wl_same, pz_wl_X, pz_wr_gc, pz_wr_ga, pz_wr_gn, pz_wr_gi, pz_wr_gl, pz_wr_same, pz_wr_X, bI_t]
      (try simp (disch := omega) only [nI_clamp, pz_in_nI2, pz_in_nI2L, pv_gt, nI_add, nI_addL, nI_Ladd, pk_mul, nI_mulL, nI_Lmul, pk_sub, nI_subL, nI_Lsub, nI_inc, nI_clampL, Nat.add_sub_cancel, pz_wi_else, pz_wl_else, vu_eq, vu_ne, pz_wi_gc, pz_wi_ga, pz_wi_gn, pz_wi_gl, pz_wi_gr, pz_wi_same, pz_wi_X, pz_wl_gc, pz_wl_ga, pz_wl_gn, pz_wl_gi, pz_wl_gr, pz_wl_same, pz_wl_X, pz_wr_gc, pz_wr_ga, pz_wr_gn, pz_wr_gi, pz_wr_gl, pz_wr_same, pz_wr_X, bI_t])
      (try refine po_gP (by first | decide | assumption) ?_)
      exact po_ret kk
    | false =>
      rw [show isG (σ', c').1 = false from zg] at kk
      refine pw_blk (mi := mz_98) (b := bz_98_208) rfl rfl ?_
      simp only [bz_98_208, pz_cut_t, pz_cut_f, pz_cut_n, pv_gt, pv_ts, pv_tn, ev_ald0, ev_eld0, ev_gf4_2, ev_cv0_10, pz_wi_gc, pz_wi_ga, pz_wi_gn, pz_wi_gl, pz_wi_gr, pz_wi_same, pz_wi_X, pz_wl_gc, pz_wl_ga, pz_wl_gn, pz_wl_gi, pz_wl_gr, pz_wl_same, pz_wl_X, pz_wr_gc, pz_wr_ga, pz_wr_gn, pz_wr_gi, pz_wr_gl, pz_wr_same, pz_wr_X, so_18 hS', sr_18_0 hS', so_1 hS']
      (try simp (disch := omega) only [nI_clamp, pz_in_nI2, pz_in_nI2L, pv_gt, nI_add, nI_addL, nI_Ladd, pk_mul, nI_mulL, nI_Lmul, pk_sub, nI_subL, nI_Lsub, nI_inc, nI_clampL, Nat.add_sub_cancel, pz_wi_else, pz_wl_else, vu_eq, vu_ne, pz_wi_gc, pz_wi_ga, pz_wi_gn, pz_wi_gl, pz_wi_gr, pz_wi_same, pz_wi_X, pz_wl_gc, pz_wl_ga, pz_wl_gn, pz_wl_gi, pz_wl_gr, pz_wl_same, pz_wl_X, pz_wr_gc, pz_wr_ga, pz_wr_gn, pz_wr_gi, pz_wr_gl, pz_wr_same, pz_wr_X])
      (try refine po_gP (Nat.le_of_ble_eq_true rfl) ?_)
      refine po_call (by omega) (m_isFine t' ?_)
      rw [zg]
      refine pw_blk (mi := mz_98) (b := bz_98_215) rfl rfl ?_
      simp only [bz_98_215, pz_cut_t, pz_cut_f, pz_cut_n, pv_gt, pv_ts, pv_tn, ev_iret1, pz_wi_gc, pz_wi_ga, pz_wi_gn, pz_wi_gl, pz_wi_gr, pz_wi_same, pz_wi_X, pz_wl_gc, pz_wl_ga, pz_wl_gn, pz_wl_gi, pz_wl_gr, pz_wl_same, pz_wl_X, pz_wr_gc, pz_wr_ga, pz_wr_gn, pz_wr_gi, pz_wr_gl, pz_wr_same, pz_wr_X, bI_f]
      (try simp (disch := omega) only [nI_clamp, pz_in_nI2, pz_in_nI2L, pv_gt, nI_add, nI_addL, nI_Ladd, pk_mul, nI_mulL, nI_Lmul, pk_sub, nI_subL, nI_Lsub, nI_inc, nI_clampL, Nat.add_sub_cancel, pz_wi_else, pz_wl_else, vu_eq, vu_ne, pz_wi_gc, pz_wi_ga, pz_wi_gn, pz_wi_gl, pz_wi_gr, pz_wi_same, pz_wi_X, pz_wl_gc, pz_wl_ga, pz_wl_gn, pz_wl_gi, pz_wl_gr, pz_wl_same, pz_wl_X, pz_wr_gc, pz_wr_ga, pz_wr_gn, pz_wr_gi, pz_wr_gl, pz_wr_same, pz_wr_X, bI_f])
      (try refine po_gP (by first | decide | assumption) ?_)
      exact po_ret kk
  have loop : ∀ f i M' σ' c', i + f = 1500 → sg (1 :: scK) M M' → gi M' 1 2 = gi M 1 2 → cSt M' false T L σ' → (isG σ' = true → csc M' c' ∧ okS c') → pS false T L f σ' c' = pS false T L 1500 (nxF false T L (.inr tk0)) scE → pw d 98 (18, [some (.ref 18), some (.int (nI i))], [], M') Q := by
    intro f
    induction f with
    | zero =>
      intro i M' σ' c' hi s' e' t' h' el
      have hS' := t'.1.1
      refine pw_blk (mi := mz_98) (b := bz_98_18) rfl rfl ?_
      simp only [bz_98_18, pz_cut_t, pz_cut_f, pz_cut_n, pv_gt, pv_ts, pv_tn, ev_ild1, ev_sp1500, ev_ic_ge, pz_wi_gc, pz_wi_ga, pz_wi_gn, pz_wi_gl, pz_wi_gr, pz_wi_same, pz_wi_X, pz_wl_gc, pz_wl_ga, pz_wl_gn, pz_wl_gi, pz_wl_gr, pz_wl_same, pz_wl_X, pz_wr_gc, pz_wr_ga, pz_wr_gn, pz_wr_gi, pz_wr_gl, pz_wr_same, pz_wr_X]
      (try simp (disch := omega) only [nI_clamp, pz_in_nI2, pz_in_nI2L, pv_gt, nI_add, nI_addL, nI_Ladd, pk_mul, nI_mulL, nI_Lmul, pk_sub, nI_subL, nI_Lsub, nI_inc, nI_clampL, Nat.add_sub_cancel, pz_wi_else, pz_wl_else, vu_eq, vu_ne, pz_wi_gc, pz_wi_ga, pz_wi_gn, pz_wi_gl, pz_wi_gr, pz_wi_same, pz_wi_X, pz_wl_gc, pz_wl_ga, pz_wl_gn, pz_wl_gi, pz_wl_gr, pz_wl_same, pz_wl_X, pz_wr_gc, pz_wr_ga, pz_wr_gn, pz_wr_gi, pz_wr_gl, pz_wr_same, pz_wr_X])
      refine po_brP (fun q18 => ?_) (fun q18 => ?_)
      · skip
        (try simp (disch := omega) only [nI_ltI, nI_leI, nI_eq, nI_ltL, nI_leL, nI_eqL, nI_Llt, nI_Lle, nI_Leq, nI_eqm, nI_meq, nI_ltm, nI_lem, nI_mlt, nI_mle, lg0, lgl, lgg, lgle, lgge, Int32.not_lt, Int32.not_le, Int64.not_lt, Int64.not_le, not_false_eq_true, not_true_eq_false, Decidable.not_not, ge_iff_le, gt_iff_lt] at q18)
        exact pw_cut (mi := mz_98) (b := bz_98_208) rfl rfl (fin M' σ' c' s' e' t' h' el) rfl
      · first
        | exact absurd q18 (by decide)
        | exact absurd trivial q18
        | exact q18.elim
        | (exfalso; (try simp (disch := omega) only [nI_ltI, nI_leI, nI_eq, nI_ltL, nI_leL, nI_eqL, nI_Llt, nI_Lle, nI_Leq, nI_eqm, nI_meq, nI_ltm, nI_lem, nI_mlt, nI_mle, lg0, lgl, lgg, lgle, lgge, Int32.not_lt, Int32.not_le, Int64.not_lt, Int64.not_le, not_false_eq_true, not_true_eq_false, Decidable.not_not, ge_iff_le, gt_iff_lt] at q18) <;> omega)
        | exact absurd q18 (by with_reducible assumption)
        | exact absurd (by with_reducible assumption) q18
        | exact absurd (Decidable.not_not.mp q18) (by with_reducible assumption)
        | exact absurd (by with_reducible assumption) (Int32.not_le.mpr q18)
        | exact absurd (by with_reducible assumption) (Int32.not_lt.mpr q18)
    | succ f ih =>
      intro i M' σ' c' hi s' e' t' h' el
      have hS' := t'.1.1
      cases zg : isG σ' with
      | false =>
        have el2 : (σ', c') = pS false T L 1500 (nxF false T L (.inr tk0)) scE := by rw [← el, pS, if_neg (by rw [zg]; simp)]
        refine pw_blk (mi := mz_98) (b := bz_98_18) rfl rfl ?_
        simp only [bz_98_18, pz_cut_t, pz_cut_f, pz_cut_n, pv_gt, pv_ts, pv_tn, ev_ild1, ev_sp1500, ev_ic_ge, pz_wi_gc, pz_wi_ga, pz_wi_gn, pz_wi_gl, pz_wi_gr, pz_wi_same, pz_wi_X, pz_wl_gc, pz_wl_ga, pz_wl_gn, pz_wl_gi, pz_wl_gr, pz_wl_same, pz_wl_X, pz_wr_gc, pz_wr_ga, pz_wr_gn, pz_wr_gi, pz_wr_gl, pz_wr_same, pz_wr_X]
        (try simp (disch := omega) only [nI_clamp, pz_in_nI2, pz_in_nI2L, pv_gt, nI_add, nI_addL, nI_Ladd, pk_mul, nI_mulL, nI_Lmul, pk_sub, nI_subL, nI_Lsub, nI_inc, nI_clampL, Nat.add_sub_cancel, pz_wi_else, pz_wl_else, vu_eq, vu_ne, pz_wi_gc, pz_wi_ga, pz_wi_gn, pz_wi_gl, pz_wi_gr, pz_wi_same, pz_wi_X, pz_wl_gc, pz_wl_ga, pz_wl_gn, pz_wl_gi, pz_wl_gr, pz_wl_same, pz_wl_X, pz_wr_gc, pz_wr_ga, pz_wr_gn, pz_wr_gi, pz_wr_gl, pz_wr_same, pz_wr_X])
        refine po_brP (fun q18 => ?_) (fun q18 => ?_)
        · first
          | exact absurd q18 (by decide)
          | exact absurd trivial q18
          | exact q18.elim
          | (exfalso; (try simp (disch := omega) only [nI_ltI, nI_leI, nI_eq, nI_ltL, nI_leL, nI_eqL, nI_Llt, nI_Lle, nI_Leq, nI_eqm, nI_meq, nI_ltm, nI_lem, nI_mlt, nI_mle, lg0, lgl, lgg, lgle, lgge, Int32.not_lt, Int32.not_le, Int64.not_lt, Int64.not_le, not_false_eq_true, not_true_eq_false, Decidable.not_not, ge_iff_le, gt_iff_lt] at q18) <;> omega)
          | exact absurd q18 (by with_reducible assumption)
          | exact absurd (by with_reducible assumption) q18
          | exact absurd (Decidable.not_not.mp q18) (by with_reducible assumption)
          | exact absurd (by with_reducible assumption) (Int32.not_le.mpr q18)
          | exact absurd (by with_reducible assumption) (Int32.not_lt.mpr q18)
        · skip
          (try simp (disch := omega) only [nI_ltI, nI_leI, nI_eq, nI_ltL, nI_leL, nI_eqL, nI_Llt, nI_Lle, nI_Leq, nI_eqm, nI_meq, nI_ltm, nI_lem, nI_mlt, nI_mle, lg0, lgl, lgg, lgle, lgge, Int32.not_lt, Int32.not_le, Int64.not_lt, Int64.not_le, not_false_eq_true, not_true_eq_false, Decidable.not_not, ge_iff_le, gt_iff_lt] at q18)
          refine pw_blk (mi := mz_98) (b := bz_98_25) rfl rfl ?_
          simp only [bz_98_25, pz_cut_t, pz_cut_f, pz_cut_n, pv_gt, pv_ts, pv_tn, ev_ald0, ev_eld0, ev_gf4_2, ev_cv0_10, pz_wi_gc, pz_wi_ga, pz_wi_gn, pz_wi_gl, pz_wi_gr, pz_wi_same, pz_wi_X, pz_wl_gc, pz_wl_ga, pz_wl_gn, pz_wl_gi, pz_wl_gr, pz_wl_same, pz_wl_X, pz_wr_gc, pz_wr_ga, pz_wr_gn, pz_wr_gi, pz_wr_gl, pz_wr_same, pz_wr_X, so_18 hS', sr_18_0 hS', so_1 hS']
          (try simp (disch := omega) only [nI_clamp, pz_in_nI2, pz_in_nI2L, pv_gt, nI_add, nI_addL, nI_Ladd, pk_mul, nI_mulL, nI_Lmul, pk_sub, nI_subL, nI_Lsub, nI_inc, nI_clampL, Nat.add_sub_cancel, pz_wi_else, pz_wl_else, vu_eq, vu_ne, pz_wi_gc, pz_wi_ga, pz_wi_gn, pz_wi_gl, pz_wi_gr, pz_wi_same, pz_wi_X, pz_wl_gc, pz_wl_ga, pz_wl_gn, pz_wl_gi, pz_wl_gr, pz_wl_same, pz_wl_X, pz_wr_gc, pz_wr_ga, pz_wr_gn, pz_wr_gi, pz_wr_gl, pz_wr_same, pz_wr_X])
          (try refine po_gP (Nat.le_of_ble_eq_true rfl) ?_)
          refine po_call (by omega) (m_isFine t' ?_)
          rw [zg]
          refine pw_blk (mi := mz_98) (b := bz_98_32) rfl rfl ?_
          simp only [bz_98_32, pz_cut_t, pz_cut_f, pz_cut_n, pv_gt, pv_ts, pv_tn, ev_ifeq, pz_wi_gc, pz_wi_ga, pz_wi_gn, pz_wi_gl, pz_wi_gr, pz_wi_same, pz_wi_X, pz_wl_gc, pz_wl_ga, pz_wl_gn, pz_wl_gi, pz_wl_gr, pz_wl_same, pz_wl_X, pz_wr_gc, pz_wr_ga, pz_wr_gn, pz_wr_gi, pz_wr_gl, pz_wr_same, pz_wr_X, bI_f]
          (try simp (disch := omega) only [nI_clamp, pz_in_nI2, pz_in_nI2L, pv_gt, nI_add, nI_addL, nI_Ladd, pk_mul, nI_mulL, nI_Lmul, pk_sub, nI_subL, nI_Lsub, nI_inc, nI_clampL, Nat.add_sub_cancel, pz_wi_else, pz_wl_else, vu_eq, vu_ne, pz_wi_gc, pz_wi_ga, pz_wi_gn, pz_wi_gl, pz_wi_gr, pz_wi_same, pz_wi_X, pz_wl_gc, pz_wl_ga, pz_wl_gn, pz_wl_gi, pz_wl_gr, pz_wl_same, pz_wl_X, pz_wr_gc, pz_wr_ga, pz_wr_gn, pz_wr_gi, pz_wr_gl, pz_wr_same, pz_wr_X, bI_f])
          refine po_brP (fun q32 => ?_) (fun q32 => ?_)
          · skip
            (try simp (disch := omega) only [nI_ltI, nI_leI, nI_eq, nI_ltL, nI_leL, nI_eqL, nI_Llt, nI_Lle, nI_Leq, nI_eqm, nI_meq, nI_ltm, nI_lem, nI_mlt, nI_mle, lg0, lgl, lgg, lgle, lgge, Int32.not_lt, Int32.not_le, Int64.not_lt, Int64.not_le, not_false_eq_true, not_true_eq_false, Decidable.not_not, ge_iff_le, gt_iff_lt] at q32)
            exact pw_cut (mi := mz_98) (b := bz_98_208) rfl rfl (fin M' σ' c' s' e' t' h' el2) rfl
          · first
            | exact absurd q32 (by decide)
            | exact absurd trivial q32
            | exact q32.elim
            | (exfalso; (try simp (disch := omega) only [nI_ltI, nI_leI, nI_eq, nI_ltL, nI_leL, nI_eqL, nI_Llt, nI_Lle, nI_Leq, nI_eqm, nI_meq, nI_ltm, nI_lem, nI_mlt, nI_mle, lg0, lgl, lgg, lgle, lgge, Int32.not_lt, Int32.not_le, Int64.not_lt, Int64.not_le, not_false_eq_true, not_true_eq_false, Decidable.not_not, ge_iff_le, gt_iff_lt] at q32) <;> omega)
            | exact absurd q32 (by with_reducible assumption)
            | exact absurd (by with_reducible assumption) q32
            | exact absurd (Decidable.not_not.mp q32) (by with_reducible assumption)
            | exact absurd (by with_reducible assumption) (Int32.not_le.mpr q32)
            | exact absurd (by with_reducible assumption) (Int32.not_lt.mpr q32)
      | true =>
        obtain ⟨xc, oc⟩ := h' zg
        cases ze : isE σ' with
        | true =>
          have el2 : (σ', c') = pS false T L 1500 (nxF false T L (.inr tk0)) scE := by rw [← el, pS, if_neg (by rw [ze]; simp)]
          refine pw_blk (mi := mz_98) (b := bz_98_18) rfl rfl ?_
          simp only [bz_98_18, pz_cut_t, pz_cut_f, pz_cut_n, pv_gt, pv_ts, pv_tn, ev_ild1, ev_sp1500, ev_ic_ge, pz_wi_gc, pz_wi_ga, pz_wi_gn, pz_wi_gl, pz_wi_gr, pz_wi_same, pz_wi_X, pz_wl_gc, pz_wl_ga, pz_wl_gn, pz_wl_gi, pz_wl_gr, pz_wl_same, pz_wl_X, pz_wr_gc, pz_wr_ga, pz_wr_gn, pz_wr_gi, pz_wr_gl, pz_wr_same, pz_wr_X]
          (try simp (disch := omega) only [nI_clamp, pz_in_nI2, pz_in_nI2L, pv_gt, nI_add, nI_addL, nI_Ladd, pk_mul, nI_mulL, nI_Lmul, pk_sub, nI_subL, nI_Lsub, nI_inc, nI_clampL, Nat.add_sub_cancel, pz_wi_else, pz_wl_else, vu_eq, vu_ne, pz_wi_gc, pz_wi_ga, pz_wi_gn, pz_wi_gl, pz_wi_gr, pz_wi_same, pz_wi_X, pz_wl_gc, pz_wl_ga, pz_wl_gn, pz_wl_gi, pz_wl_gr, pz_wl_same, pz_wl_X, pz_wr_gc, pz_wr_ga, pz_wr_gn, pz_wr_gi, pz_wr_gl, pz_wr_same, pz_wr_X])
          refine po_brP (fun q18 => ?_) (fun q18 => ?_)
          · first
            | exact absurd q18 (by decide)
            | exact absurd trivial q18
            | exact q18.elim
            | (exfalso; (try simp (disch := omega) only [nI_ltI, nI_leI, nI_eq, nI_ltL, nI_leL, nI_eqL, nI_Llt, nI_Lle, nI_Leq, nI_eqm, nI_meq, nI_ltm, nI_lem, nI_mlt, nI_mle, lg0, lgl, lgg, lgle, lgge, Int32.not_lt, Int32.not_le, Int64.not_lt, Int64.not_le, not_false_eq_true, not_true_eq_false, Decidable.not_not, ge_iff_le, gt_iff_lt] at q18) <;> omega)
            | exact absurd q18 (by with_reducible assumption)
            | exact absurd (by with_reducible assumption) q18
            | exact absurd (Decidable.not_not.mp q18) (by with_reducible assumption)
            | exact absurd (by with_reducible assumption) (Int32.not_le.mpr q18)
            | exact absurd (by with_reducible assumption) (Int32.not_lt.mpr q18)
          · skip
            (try simp (disch := omega) only [nI_ltI, nI_leI, nI_eq, nI_ltL, nI_leL, nI_eqL, nI_Llt, nI_Lle, nI_Leq, nI_eqm, nI_meq, nI_ltm, nI_lem, nI_mlt, nI_mle, lg0, lgl, lgg, lgle, lgge, Int32.not_lt, Int32.not_le, Int64.not_lt, Int64.not_le, not_false_eq_true, not_true_eq_false, Decidable.not_not, ge_iff_le, gt_iff_lt] at q18)
            refine pw_blk (mi := mz_98) (b := bz_98_25) rfl rfl ?_
            simp only [bz_98_25, pz_cut_t, pz_cut_f, pz_cut_n, pv_gt, pv_ts, pv_tn, ev_ald0, ev_eld0, ev_gf4_2, ev_cv0_10, pz_wi_gc, pz_wi_ga, pz_wi_gn, pz_wi_gl, pz_wi_gr, pz_wi_same, pz_wi_X, pz_wl_gc, pz_wl_ga, pz_wl_gn, pz_wl_gi, pz_wl_gr, pz_wl_same, pz_wl_X, pz_wr_gc, pz_wr_ga, pz_wr_gn, pz_wr_gi, pz_wr_gl, pz_wr_same, pz_wr_X, so_18 hS', sr_18_0 hS', so_1 hS']
            (try simp (disch := omega) only [nI_clamp, pz_in_nI2, pz_in_nI2L, pv_gt, nI_add, nI_addL, nI_Ladd, pk_mul, nI_mulL, nI_Lmul, pk_sub, nI_subL, nI_Lsub, nI_inc, nI_clampL, Nat.add_sub_cancel, pz_wi_else, pz_wl_else, vu_eq, vu_ne, pz_wi_gc, pz_wi_ga, pz_wi_gn, pz_wi_gl, pz_wi_gr, pz_wi_same, pz_wi_X, pz_wl_gc, pz_wl_ga, pz_wl_gn, pz_wl_gi, pz_wl_gr, pz_wl_same, pz_wl_X, pz_wr_gc, pz_wr_ga, pz_wr_gn, pz_wr_gi, pz_wr_gl, pz_wr_same, pz_wr_X])
            (try refine po_gP (Nat.le_of_ble_eq_true rfl) ?_)
            refine po_call (by omega) (m_isFine t' ?_)
            rw [zg]
            refine pw_blk (mi := mz_98) (b := bz_98_32) rfl rfl ?_
            simp only [bz_98_32, pz_cut_t, pz_cut_f, pz_cut_n, pv_gt, pv_ts, pv_tn, ev_ifeq, pz_wi_gc, pz_wi_ga, pz_wi_gn, pz_wi_gl, pz_wi_gr, pz_wi_same, pz_wi_X, pz_wl_gc, pz_wl_ga, pz_wl_gn, pz_wl_gi, pz_wl_gr, pz_wl_same, pz_wl_X, pz_wr_gc, pz_wr_ga, pz_wr_gn, pz_wr_gi, pz_wr_gl, pz_wr_same, pz_wr_X, bI_t]
            (try simp (disch := omega) only [nI_clamp, pz_in_nI2, pz_in_nI2L, pv_gt, nI_add, nI_addL, nI_Ladd, pk_mul, nI_mulL, nI_Lmul, pk_sub, nI_subL, nI_Lsub, nI_inc, nI_clampL, Nat.add_sub_cancel, pz_wi_else, pz_wl_else, vu_eq, vu_ne, pz_wi_gc, pz_wi_ga, pz_wi_gn, pz_wi_gl, pz_wi_gr, pz_wi_same, pz_wi_X, pz_wl_gc, pz_wl_ga, pz_wl_gn, pz_wl_gi, pz_wl_gr, pz_wl_same, pz_wl_X, pz_wr_gc, pz_wr_ga, pz_wr_gn, pz_wr_gi, pz_wr_gl, pz_wr_same, pz_wr_X, bI_t])
            refine po_brP (fun q32 => ?_) (fun q32 => ?_)
            · first
              | exact absurd q32 (by decide)
              | exact absurd trivial q32
              | exact q32.elim
              | (exfalso; (try simp (disch := omega) only [nI_ltI, nI_leI, nI_eq, nI_ltL, nI_leL, nI_eqL, nI_Llt, nI_Lle, nI_Leq, nI_eqm, nI_meq, nI_ltm, nI_lem, nI_mlt, nI_mle, lg0, lgl, lgg, lgle, lgge, Int32.not_lt, Int32.not_le, Int64.not_lt, Int64.not_le, not_false_eq_true, not_true_eq_false, Decidable.not_not, ge_iff_le, gt_iff_lt] at q32) <;> omega)
              | exact absurd q32 (by with_reducible assumption)
              | exact absurd (by with_reducible assumption) q32
              | exact absurd (Decidable.not_not.mp q32) (by with_reducible assumption)
              | exact absurd (by with_reducible assumption) (Int32.not_le.mpr q32)
              | exact absurd (by with_reducible assumption) (Int32.not_lt.mpr q32)
            · skip
              (try simp (disch := omega) only [nI_ltI, nI_leI, nI_eq, nI_ltL, nI_leL, nI_eqL, nI_Llt, nI_Lle, nI_Leq, nI_eqm, nI_meq, nI_ltm, nI_lem, nI_mlt, nI_mle, lg0, lgl, lgg, lgle, lgge, Int32.not_lt, Int32.not_le, Int64.not_lt, Int64.not_le, not_false_eq_true, not_true_eq_false, Decidable.not_not, ge_iff_le, gt_iff_lt] at q32)
              refine pw_blk (mi := mz_98) (b := bz_98_35) rfl rfl ?_
              simp only [bz_98_35, pz_cut_t, pz_cut_f, pz_cut_n, pv_gt, pv_ts, pv_tn, ev_ald0, ev_eld0, ev_gf4_2, ev_cv0_10, pz_wi_gc, pz_wi_ga, pz_wi_gn, pz_wi_gl, pz_wi_gr, pz_wi_same, pz_wi_X, pz_wl_gc, pz_wl_ga, pz_wl_gn, pz_wl_gi, pz_wl_gr, pz_wl_same, pz_wl_X, pz_wr_gc, pz_wr_ga, pz_wr_gn, pz_wr_gi, pz_wr_gl, pz_wr_same, pz_wr_X, so_18 hS', sr_18_0 hS', so_1 hS']
              (try simp (disch := omega) only [nI_clamp, pz_in_nI2, pz_in_nI2L, pv_gt, nI_add, nI_addL, nI_Ladd, pk_mul, nI_mulL, nI_Lmul, pk_sub, nI_subL, nI_Lsub, nI_inc, nI_clampL, Nat.add_sub_cancel, pz_wi_else, pz_wl_else, vu_eq, vu_ne, pz_wi_gc, pz_wi_ga, pz_wi_gn, pz_wi_gl, pz_wi_gr, pz_wi_same, pz_wi_X, pz_wl_gc, pz_wl_ga, pz_wl_gn, pz_wl_gi, pz_wl_gr, pz_wl_same, pz_wl_X, pz_wr_gc, pz_wr_ga, pz_wr_gn, pz_wr_gi, pz_wr_gl, pz_wr_same, pz_wr_X])
              (try refine po_gP (Nat.le_of_ble_eq_true rfl) ?_)
              refine po_call (by omega) (m_isAtEnd t' ?_)
              rw [ze]
              refine pw_blk (mi := mz_98) (b := bz_98_42) rfl rfl ?_
              simp only [bz_98_42, pz_cut_t, pz_cut_f, pz_cut_n, pv_gt, pv_ts, pv_tn, ev_ifne, pz_wi_gc, pz_wi_ga, pz_wi_gn, pz_wi_gl, pz_wi_gr, pz_wi_same, pz_wi_X, pz_wl_gc, pz_wl_ga, pz_wl_gn, pz_wl_gi, pz_wl_gr, pz_wl_same, pz_wl_X, pz_wr_gc, pz_wr_ga, pz_wr_gn, pz_wr_gi, pz_wr_gl, pz_wr_same, pz_wr_X, bI_t]
              (try simp (disch := omega) only [nI_clamp, pz_in_nI2, pz_in_nI2L, pv_gt, nI_add, nI_addL, nI_Ladd, pk_mul, nI_mulL, nI_Lmul, pk_sub, nI_subL, nI_Lsub, nI_inc, nI_clampL, Nat.add_sub_cancel, pz_wi_else, pz_wl_else, vu_eq, vu_ne, pz_wi_gc, pz_wi_ga, pz_wi_gn, pz_wi_gl, pz_wi_gr, pz_wi_same, pz_wi_X, pz_wl_gc, pz_wl_ga, pz_wl_gn, pz_wl_gi, pz_wl_gr, pz_wl_same, pz_wl_X, pz_wr_gc, pz_wr_ga, pz_wr_gn, pz_wr_gi, pz_wr_gl, pz_wr_same, pz_wr_X, bI_t])
              refine po_brP (fun q42 => ?_) (fun q42 => ?_)
              · skip
                (try simp (disch := omega) only [nI_ltI, nI_leI, nI_eq, nI_ltL, nI_leL, nI_eqL, nI_Llt, nI_Lle, nI_Leq, nI_eqm, nI_meq, nI_ltm, nI_lem, nI_mlt, nI_mle, lg0, lgl, lgg, lgle, lgge, Int32.not_lt, Int32.not_le, Int64.not_lt, Int64.not_le, not_false_eq_true, not_true_eq_false, Decidable.not_not, ge_iff_le, gt_iff_lt] at q42)
                exact pw_cut (mi := mz_98) (b := bz_98_208) rfl rfl (fin M' σ' c' s' e' t' h' el2) rfl
              · first
                | exact absurd q42 (by decide)
                | exact absurd trivial q42
                | exact q42.elim
                | (exfalso; (try simp (disch := omega) only [nI_ltI, nI_leI, nI_eq, nI_ltL, nI_leL, nI_eqL, nI_Llt, nI_Lle, nI_Leq, nI_eqm, nI_meq, nI_ltm, nI_lem, nI_mlt, nI_mle, lg0, lgl, lgg, lgle, lgge, Int32.not_lt, Int32.not_le, Int64.not_lt, Int64.not_le, not_false_eq_true, not_true_eq_false, Decidable.not_not, ge_iff_le, gt_iff_lt] at q42) <;> omega)
                | exact absurd q42 (by with_reducible assumption)
                | exact absurd (by with_reducible assumption) q42
                | exact absurd (Decidable.not_not.mp q42) (by with_reducible assumption)
                | exact absurd (by with_reducible assumption) (Int32.not_le.mpr q42)
                | exact absurd (by with_reducible assumption) (Int32.not_lt.mpr q42)
        | false =>
          have el2 : pS false T L f (lineS false T L σ' c').1 (lineS false T L σ' c').2 = pS false T L 1500 (nxF false T L (.inr tk0)) scE := by rw [← el, pS, if_pos ⟨zg, ze⟩]
          have stp : ∀ M2, sm (1 :: scK) M' M2 → gi M2 1 2 = gi M' 1 2 → cSt M2 false T L (lineS false T L σ' c').1 → (isG (lineS false T L σ' c').1 = true → csc M2 (lineS false T L σ' c').2 ∧ okS (lineS false T L σ' c').2) → pw d 98 (202, [some (.ref 18), some (.int (nI i))], [], M2) Q := by
            intro M2 s2 f2 t2 h2
            refine pw_blk (mi := mz_98) (b := bz_98_202) rfl rfl ?_
            simp only [bz_98_202, pz_cut_t, pz_cut_f, pz_cut_n, pv_gt, pv_ts, pv_tn, ev_inc1n, ev_inc1i, ev_inc1r, ev_inc1e, ev_goto, pz_wi_gc, pz_wi_ga, pz_wi_gn, pz_wi_gl, pz_wi_gr, pz_wi_same, pz_wi_X, pz_wl_gc, pz_wl_ga, pz_wl_gn, pz_wl_gi, pz_wl_gr, pz_wl_same, pz_wl_X, pz_wr_gc, pz_wr_ga, pz_wr_gn, pz_wr_gi, pz_wr_gl, pz_wr_same, pz_wr_X]
            (try simp (disch := omega) only [nI_clamp, pz_in_nI2, pz_in_nI2L, pv_gt, nI_add, nI_addL, nI_Ladd, pk_mul, nI_mulL, nI_Lmul, pk_sub, nI_subL, nI_Lsub, nI_inc, nI_clampL, Nat.add_sub_cancel, pz_wi_else, pz_wl_else, vu_eq, vu_ne, pz_wi_gc, pz_wi_ga, pz_wi_gn, pz_wi_gl, pz_wi_gr, pz_wi_same, pz_wi_X, pz_wl_gc, pz_wl_ga, pz_wl_gn, pz_wl_gi, pz_wl_gr, pz_wl_same, pz_wl_X, pz_wr_gc, pz_wr_ga, pz_wr_gn, pz_wr_gi, pz_wr_gl, pz_wr_same, pz_wr_X])
            refine po_go ?_
            exact ih (i + 1) M2 _ _ (by omega) (s'.tr (s2.sg hS') (fun _ z => z)) (f2.trans e') t2 h2 el2
          refine pw_blk (mi := mz_98) (b := bz_98_18) rfl rfl ?_
          simp only [bz_98_18, pz_cut_t, pz_cut_f, pz_cut_n, pv_gt, pv_ts, pv_tn, ev_ild1, ev_sp1500, ev_ic_ge, pz_wi_gc, pz_wi_ga, pz_wi_gn, pz_wi_gl, pz_wi_gr, pz_wi_same, pz_wi_X, pz_wl_gc, pz_wl_ga, pz_wl_gn, pz_wl_gi, pz_wl_gr, pz_wl_same, pz_wl_X, pz_wr_gc, pz_wr_ga, pz_wr_gn, pz_wr_gi, pz_wr_gl, pz_wr_same, pz_wr_X]
          (try simp (disch := omega) only [nI_clamp, pz_in_nI2, pz_in_nI2L, pv_gt, nI_add, nI_addL, nI_Ladd, pk_mul, nI_mulL, nI_Lmul, pk_sub, nI_subL, nI_Lsub, nI_inc, nI_clampL, Nat.add_sub_cancel, pz_wi_else, pz_wl_else, vu_eq, vu_ne, pz_wi_gc, pz_wi_ga, pz_wi_gn, pz_wi_gl, pz_wi_gr, pz_wi_same, pz_wi_X, pz_wl_gc, pz_wl_ga, pz_wl_gn, pz_wl_gi, pz_wl_gr, pz_wl_same, pz_wl_X, pz_wr_gc, pz_wr_ga, pz_wr_gn, pz_wr_gi, pz_wr_gl, pz_wr_same, pz_wr_X])
          refine po_brP (fun q18 => ?_) (fun q18 => ?_)
          · first
            | exact absurd q18 (by decide)
            | exact absurd trivial q18
            | exact q18.elim
            | (exfalso; (try simp (disch := omega) only [nI_ltI, nI_leI, nI_eq, nI_ltL, nI_leL, nI_eqL, nI_Llt, nI_Lle, nI_Leq, nI_eqm, nI_meq, nI_ltm, nI_lem, nI_mlt, nI_mle, lg0, lgl, lgg, lgle, lgge, Int32.not_lt, Int32.not_le, Int64.not_lt, Int64.not_le, not_false_eq_true, not_true_eq_false, Decidable.not_not, ge_iff_le, gt_iff_lt] at q18) <;> omega)
            | exact absurd q18 (by with_reducible assumption)
            | exact absurd (by with_reducible assumption) q18
            | exact absurd (Decidable.not_not.mp q18) (by with_reducible assumption)
            | exact absurd (by with_reducible assumption) (Int32.not_le.mpr q18)
            | exact absurd (by with_reducible assumption) (Int32.not_lt.mpr q18)
          · skip
            (try simp (disch := omega) only [nI_ltI, nI_leI, nI_eq, nI_ltL, nI_leL, nI_eqL, nI_Llt, nI_Lle, nI_Leq, nI_eqm, nI_meq, nI_ltm, nI_lem, nI_mlt, nI_mle, lg0, lgl, lgg, lgle, lgge, Int32.not_lt, Int32.not_le, Int64.not_lt, Int64.not_le, not_false_eq_true, not_true_eq_false, Decidable.not_not, ge_iff_le, gt_iff_lt] at q18)
            refine pw_blk (mi := mz_98) (b := bz_98_25) rfl rfl ?_
            simp only [bz_98_25, pz_cut_t, pz_cut_f, pz_cut_n, pv_gt, pv_ts, pv_tn, ev_ald0, ev_eld0, ev_gf4_2, ev_cv0_10, pz_wi_gc, pz_wi_ga, pz_wi_gn, pz_wi_gl, pz_wi_gr, pz_wi_same, pz_wi_X, pz_wl_gc, pz_wl_ga, pz_wl_gn, pz_wl_gi, pz_wl_gr, pz_wl_same, pz_wl_X, pz_wr_gc, pz_wr_ga, pz_wr_gn, pz_wr_gi, pz_wr_gl, pz_wr_same, pz_wr_X, so_18 hS', sr_18_0 hS', so_1 hS']
            (try simp (disch := omega) only [nI_clamp, pz_in_nI2, pz_in_nI2L, pv_gt, nI_add, nI_addL, nI_Ladd, pk_mul, nI_mulL, nI_Lmul, pk_sub, nI_subL, nI_Lsub, nI_inc, nI_clampL, Nat.add_sub_cancel, pz_wi_else, pz_wl_else, vu_eq, vu_ne, pz_wi_gc, pz_wi_ga, pz_wi_gn, pz_wi_gl, pz_wi_gr, pz_wi_same, pz_wi_X, pz_wl_gc, pz_wl_ga, pz_wl_gn, pz_wl_gi, pz_wl_gr, pz_wl_same, pz_wl_X, pz_wr_gc, pz_wr_ga, pz_wr_gn, pz_wr_gi, pz_wr_gl, pz_wr_same, pz_wr_X])
            (try refine po_gP (Nat.le_of_ble_eq_true rfl) ?_)
            refine po_call (by omega) (m_isFine t' ?_)
            rw [zg]
            refine pw_blk (mi := mz_98) (b := bz_98_32) rfl rfl ?_
            simp only [bz_98_32, pz_cut_t, pz_cut_f, pz_cut_n, pv_gt, pv_ts, pv_tn, ev_ifeq, pz_wi_gc, pz_wi_ga, pz_wi_gn, pz_wi_gl, pz_wi_gr, pz_wi_same, pz_wi_X, pz_wl_gc, pz_wl_ga, pz_wl_gn, pz_wl_gi, pz_wl_gr, pz_wl_same, pz_wl_X, pz_wr_gc, pz_wr_ga, pz_wr_gn, pz_wr_gi, pz_wr_gl, pz_wr_same, pz_wr_X, bI_t]
            (try simp (disch := omega) only [nI_clamp, pz_in_nI2, pz_in_nI2L, pv_gt, nI_add, nI_addL, nI_Ladd, pk_mul, nI_mulL, nI_Lmul, pk_sub, nI_subL, nI_Lsub, nI_inc, nI_clampL, Nat.add_sub_cancel, pz_wi_else, pz_wl_else, vu_eq, vu_ne, pz_wi_gc, pz_wi_ga, pz_wi_gn, pz_wi_gl, pz_wi_gr, pz_wi_same, pz_wi_X, pz_wl_gc, pz_wl_ga, pz_wl_gn, pz_wl_gi, pz_wl_gr, pz_wl_same, pz_wl_X, pz_wr_gc, pz_wr_ga, pz_wr_gn, pz_wr_gi, pz_wr_gl, pz_wr_same, pz_wr_X, bI_t])
            refine po_brP (fun q32 => ?_) (fun q32 => ?_)
            · first
              | exact absurd q32 (by decide)
              | exact absurd trivial q32
              | exact q32.elim
              | (exfalso; (try simp (disch := omega) only [nI_ltI, nI_leI, nI_eq, nI_ltL, nI_leL, nI_eqL, nI_Llt, nI_Lle, nI_Leq, nI_eqm, nI_meq, nI_ltm, nI_lem, nI_mlt, nI_mle, lg0, lgl, lgg, lgle, lgge, Int32.not_lt, Int32.not_le, Int64.not_lt, Int64.not_le, not_false_eq_true, not_true_eq_false, Decidable.not_not, ge_iff_le, gt_iff_lt] at q32) <;> omega)
              | exact absurd q32 (by with_reducible assumption)
              | exact absurd (by with_reducible assumption) q32
              | exact absurd (Decidable.not_not.mp q32) (by with_reducible assumption)
              | exact absurd (by with_reducible assumption) (Int32.not_le.mpr q32)
              | exact absurd (by with_reducible assumption) (Int32.not_lt.mpr q32)
            · skip
              (try simp (disch := omega) only [nI_ltI, nI_leI, nI_eq, nI_ltL, nI_leL, nI_eqL, nI_Llt, nI_Lle, nI_Leq, nI_eqm, nI_meq, nI_ltm, nI_lem, nI_mlt, nI_mle, lg0, lgl, lgg, lgle, lgge, Int32.not_lt, Int32.not_le, Int64.not_lt, Int64.not_le, not_false_eq_true, not_true_eq_false, Decidable.not_not, ge_iff_le, gt_iff_lt] at q32)
              refine pw_blk (mi := mz_98) (b := bz_98_35) rfl rfl ?_
              simp only [bz_98_35, pz_cut_t, pz_cut_f, pz_cut_n, pv_gt, pv_ts, pv_tn, ev_ald0, ev_eld0, ev_gf4_2, ev_cv0_10, pz_wi_gc, pz_wi_ga, pz_wi_gn, pz_wi_gl, pz_wi_gr, pz_wi_same, pz_wi_X, pz_wl_gc, pz_wl_ga, pz_wl_gn, pz_wl_gi, pz_wl_gr, pz_wl_same, pz_wl_X, pz_wr_gc, pz_wr_ga, pz_wr_gn, pz_wr_gi, pz_wr_gl, pz_wr_same, pz_wr_X, so_18 hS', sr_18_0 hS', so_1 hS']
              (try simp (disch := omega) only [nI_clamp, pz_in_nI2, pz_in_nI2L, pv_gt, nI_add, nI_addL, nI_Ladd, pk_mul, nI_mulL, nI_Lmul, pk_sub, nI_subL, nI_Lsub, nI_inc, nI_clampL, Nat.add_sub_cancel, pz_wi_else, pz_wl_else, vu_eq, vu_ne, pz_wi_gc, pz_wi_ga, pz_wi_gn, pz_wi_gl, pz_wi_gr, pz_wi_same, pz_wi_X, pz_wl_gc, pz_wl_ga, pz_wl_gn, pz_wl_gi, pz_wl_gr, pz_wl_same, pz_wl_X, pz_wr_gc, pz_wr_ga, pz_wr_gn, pz_wr_gi, pz_wr_gl, pz_wr_same, pz_wr_X])
              (try refine po_gP (Nat.le_of_ble_eq_true rfl) ?_)
              refine po_call (by omega) (m_isAtEnd t' ?_)
              rw [ze]
              refine pw_blk (mi := mz_98) (b := bz_98_42) rfl rfl ?_
              simp only [bz_98_42, pz_cut_t, pz_cut_f, pz_cut_n, pv_gt, pv_ts, pv_tn, ev_ifne, pz_wi_gc, pz_wi_ga, pz_wi_gn, pz_wi_gl, pz_wi_gr, pz_wi_same, pz_wi_X, pz_wl_gc, pz_wl_ga, pz_wl_gn, pz_wl_gi, pz_wl_gr, pz_wl_same, pz_wl_X, pz_wr_gc, pz_wr_ga, pz_wr_gn, pz_wr_gi, pz_wr_gl, pz_wr_same, pz_wr_X, bI_f]
              (try simp (disch := omega) only [nI_clamp, pz_in_nI2, pz_in_nI2L, pv_gt, nI_add, nI_addL, nI_Ladd, pk_mul, nI_mulL, nI_Lmul, pk_sub, nI_subL, nI_Lsub, nI_inc, nI_clampL, Nat.add_sub_cancel, pz_wi_else, pz_wl_else, vu_eq, vu_ne, pz_wi_gc, pz_wi_ga, pz_wi_gn, pz_wi_gl, pz_wi_gr, pz_wi_same, pz_wi_X, pz_wl_gc, pz_wl_ga, pz_wl_gn, pz_wl_gi, pz_wl_gr, pz_wl_same, pz_wl_X, pz_wr_gc, pz_wr_ga, pz_wr_gn, pz_wr_gi, pz_wr_gl, pz_wr_same, pz_wr_X, bI_f])
              refine po_brP (fun q42 => ?_) (fun q42 => ?_)
              · first
                | exact absurd q42 (by decide)
                | exact absurd trivial q42
                | exact q42.elim
                | (exfalso; (try simp (disch := omega) only [nI_ltI, nI_leI, nI_eq, nI_ltL, nI_leL, nI_eqL, nI_Llt, nI_Lle, nI_Leq, nI_eqm, nI_meq, nI_ltm, nI_lem, nI_mlt, nI_mle, lg0, lgl, lgg, lgle, lgge, Int32.not_lt, Int32.not_le, Int64.not_lt, Int64.not_le, not_false_eq_true, not_true_eq_false, Decidable.not_not, ge_iff_le, gt_iff_lt] at q42) <;> omega)
                | exact absurd q42 (by with_reducible assumption)
                | exact absurd (by with_reducible assumption) q42
                | exact absurd (Decidable.not_not.mp q42) (by with_reducible assumption)
                | exact absurd (by with_reducible assumption) (Int32.not_le.mpr q42)
                | exact absurd (by with_reducible assumption) (Int32.not_lt.mpr q42)
              · skip
                (try simp (disch := omega) only [nI_ltI, nI_leI, nI_eq, nI_ltL, nI_leL, nI_eqL, nI_Llt, nI_Lle, nI_Leq, nI_eqm, nI_meq, nI_ltm, nI_lem, nI_mlt, nI_mle, lg0, lgl, lgg, lgle, lgge, Int32.not_lt, Int32.not_le, Int64.not_lt, Int64.not_le, not_false_eq_true, not_true_eq_false, Decidable.not_not, ge_iff_le, gt_iff_lt] at q42)
                exact m_line (by omega) t' oc xc stp
  have opn : ∀ (d' : Nat) (M1 : pz_M) (Q' : Option Value × pz_M → Prop), 14 ≤ d' → sm [19, 32] M M1 → (∀ M', sg [1] M1 M' → gi M' 1 2 = gi M1 1 2 → cSt M' false T L (nxF false T L (.inr tk0)) → Q' (none, M')) → pm d' 176 [.ref 1, .retAddr 6] M1 Q' := by
    intro d' M1 Q' hd' s1 k'
    have hS1 := hS.sm s1
    have hSw : SH (cwr M1 (.retAddr 6)) := sh_cwr hS1 (by simp)
    have sx : sm [1] (cwr M1 (.retAddr 6)) (pz_wi (pz_wi (pz_wi (cwr M1 (.retAddr 6)) 1 (va_up (gi M1 1) 4 0)) 1 (va_up (va_up (gi M1 1) 4 0) 11 0)) 1 (va_up (va_up (va_up (gi M1 1) 4 0) 11 0) 12 (-1))) := sm.wi (sm.wi (sm.wi sm.rf (by decide)) (by decide)) (by decide)
    have ex : gi (pz_wi (pz_wi (pz_wi (cwr M1 (.retAddr 6)) 1 (va_up (gi M1 1) 4 0)) 1 (va_up (va_up (gi M1 1) 4 0) 11 0)) 1 (va_up (va_up (va_up (gi M1 1) 4 0) 11 0) 12 (-1))) 1 = va_up (va_up (va_up (gi M1 1) 4 0) 11 0) 12 (-1) := pz_wi_same
    have hT : ∀ i, i < L → T i < 256 := fun i hi => (hb i hi).2
    have hx := nxS_ok (ru := false) (T := T) (L := L) (t := tk0) ⟨Nat.zero_le _, Nat.zero_le _, by decide, fun z => absurd z (by decide), fun z => absurd z (by decide), fun z => absurd z (by decide), fun z => absurd z (by decide)⟩ hT
    have e12 : gi M1 1 2 = nI L := by rw [s1.i (by decide)]; exact eL
    have xx : txC (pz_wi (pz_wi (pz_wi (cwr M1 (.retAddr 6)) 1 (va_up (gi M1 1) 4 0)) 1 (va_up (va_up (gi M1 1) 4 0) 11 0)) 1 (va_up (va_up (va_up (gi M1 1) 4 0) 11 0) 12 (-1))) false T L := by
      refine ⟨hSw.sm sx, ?_, hL, ?_, ?_, ?_⟩
      · rw [ex, vu_ne (by decide), vu_ne (by decide), vu_ne (by decide)]; exact e12
      · rw [sx.i (by decide)]
        show ∀ i, i < L → gi M1 2 i = _ ∧ _
        rw [s1.i (by decide)]
        exact hb
      · intro i hi
        rw [sx.l (by decide)]
        show gl M1 3 i = _
        rw [s1.l (by decide)]
        exact hw i hi
      · rw [sx.r]
        show va_up (gr M1 1) 3 _ 3 = _
        rw [vu_eq]
        rfl
    have gx : sg [1] M1 (cwr M1 (.retAddr 6)) := (sg_wr hS1 hSw).mono (fun _ z => by cases z)
    have body : pm (d' - 1) 232 [.ref 1] (pz_wi (pz_wi (pz_wi (cwr M1 (.retAddr 6)) 1 (va_up (gi M1 1) 4 0)) 1 (va_up (va_up (gi M1 1) 4 0) 11 0)) 1 (va_up (va_up (va_up (gi M1 1) 4 0) 11 0) 12 (-1))) (fun r => r.1 = none ∧ sg [1] M1 r.2 ∧ gi r.2 1 2 = gi M1 1 2 ∧ cSt r.2 false T L (nxF false T L (.inr tk0))) := by
      refine m_advance (p := 0) (by omega) xx (Nat.zero_le _) (by rw [ex, vu_ne (by decide), vu_ne (by decide), vu_eq]; rfl) (by rw [ex, vu_ne (by decide), vu_eq]) (by rw [ex, vu_eq]) (fun z M' s' e' t' => ⟨rfl, (gx.tr (sx.sg hSw) (fun _ z => z)).tr (s'.sg (hSw.sm sx)) (fun _ z => z), ?_, xx.fr s' e', hx, ?_⟩) (fun z M' s' e' f' => ⟨rfl, (gx.tr (sx.sg hSw) (fun _ z => z)).tr (s'.sg (hSw.sm sx)) (fun _ z => z), ?_, xx.fr s' e', hx, ?_⟩)
      · rw [e', ex, vu_ne (by decide), vu_ne (by decide), vu_ne (by decide)]
      · show (match nxS false T L tk0 with | .inl f => cF M' f.1 f.2 | .inr t => cTk M' t)
        rw [show nxS false T L tk0 = .inr (nxt false T L 0) from if_neg z]
        exact t'
      · rw [e', ex, vu_ne (by decide), vu_ne (by decide), vu_ne (by decide)]
      · show (match nxS false T L tk0 with | .inl f => cF M' f.1 f.2 | .inr t => cTk M' t)
        rw [show nxS false T L tk0 = .inl (1, (nxt false T L 0).2.2.2.1) from if_pos z]
        exact f'
    unfold cwr at body
    refine pm_ent (L := [some (.ref 1), some (.retAddr 6)]) rfl (Nat.le_of_ble_eq_true rfl) ?_
    refine pw_blk (mi := mz_176) (b := bz_176_0) rfl rfl ?_
    simp only [bz_176_0, pz_cut_t, pz_cut_f, pz_cut_n, pv_gt, pv_ts, pv_tn, ev_ald0, ev_eld0, ev_ald1, ev_eld1, ev_pf10_2r, ev_pf10_2e, ev_ic0, ev_pf10_0, ev_icm1, ev_cv0_10, pz_wi_gc, pz_wi_ga, pz_wi_gn, pz_wi_gl, pz_wi_gr, pz_wi_same, pz_wi_X, pz_wl_gc, pz_wl_ga, pz_wl_gn, pz_wl_gi, pz_wl_gr, pz_wl_same, pz_wl_X, pz_wr_gc, pz_wr_ga, pz_wr_gn, pz_wr_gi, pz_wr_gl, pz_wr_same, pz_wr_X, so_1 hS1]
    (try simp (disch := omega) only [nI_clamp, pz_in_nI2, pz_in_nI2L, pv_gt, nI_add, nI_addL, nI_Ladd, pk_mul, nI_mulL, nI_Lmul, pk_sub, nI_subL, nI_Lsub, nI_inc, nI_clampL, Nat.add_sub_cancel, pz_wi_else, pz_wl_else, vu_eq, vu_ne, pz_wi_gc, pz_wi_ga, pz_wi_gn, pz_wi_gl, pz_wi_gr, pz_wi_same, pz_wi_X, pz_wl_gc, pz_wl_ga, pz_wl_gn, pz_wl_gi, pz_wl_gr, pz_wl_same, pz_wl_X, pz_wr_gc, pz_wr_ga, pz_wr_gn, pz_wr_gi, pz_wr_gl, pz_wr_same, pz_wr_X])
    (try refine po_gP (Nat.le_of_ble_eq_true rfl) ?_)
    refine po_call (by omega) (pm_mono body (fun r hr => ?_))
    obtain ⟨v2, M2⟩ := r
    obtain ⟨h1, g2, e2, t2⟩ := hr
    simp only at h1 g2 e2 t2
    subst h1
    refine pw_blk (mi := mz_176) (b := bz_176_24) rfl rfl ?_
    simp only [bz_176_24, pz_cut_t, pz_cut_f, pz_cut_n, pv_gt, pv_ts, pv_tn, ev_ret, pz_wi_gc, pz_wi_ga, pz_wi_gn, pz_wi_gl, pz_wi_gr, pz_wi_same, pz_wi_X, pz_wl_gc, pz_wl_ga, pz_wl_gn, pz_wl_gi, pz_wl_gr, pz_wl_same, pz_wl_X, pz_wr_gc, pz_wr_ga, pz_wr_gn, pz_wr_gi, pz_wr_gl, pz_wr_same, pz_wr_X]
    (try simp (disch := omega) only [nI_clamp, pz_in_nI2, pz_in_nI2L, pv_gt, nI_add, nI_addL, nI_Ladd, pk_mul, nI_mulL, nI_Lmul, pk_sub, nI_subL, nI_Lsub, nI_inc, nI_clampL, Nat.add_sub_cancel, pz_wi_else, pz_wl_else, vu_eq, vu_ne, pz_wi_gc, pz_wi_ga, pz_wi_gn, pz_wi_gl, pz_wi_gr, pz_wi_same, pz_wi_X, pz_wl_gc, pz_wl_ga, pz_wl_gn, pz_wl_gi, pz_wl_gr, pz_wl_same, pz_wl_X, pz_wr_gc, pz_wr_ga, pz_wr_gn, pz_wr_gi, pz_wr_gl, pz_wr_same, pz_wr_X])
    exact po_ret (k' M2 g2 e2 t2)
  refine pm_ent (L := [some (.ref 18), none]) rfl (Nat.le_of_ble_eq_true rfl) ?_
  refine pw_blk (mi := mz_98) (b := bz_98_0) rfl rfl ?_
  simp only [bz_98_0, pz_cut_t, pz_cut_f, pz_cut_n, pv_gt, pv_ts, pv_tn, ev_ald0, ev_eld0, ev_gf4_2, ev_cv0_8, pz_wi_gc, pz_wi_ga, pz_wi_gn, pz_wi_gl, pz_wi_gr, pz_wi_same, pz_wi_X, pz_wl_gc, pz_wl_ga, pz_wl_gn, pz_wl_gi, pz_wl_gr, pz_wl_same, pz_wl_X, pz_wr_gc, pz_wr_ga, pz_wr_gn, pz_wr_gi, pz_wr_gl, pz_wr_same, pz_wr_X, so_18 hS, sr_18_1 hS, so_19 hS]
  (try simp (disch := omega) only [nI_clamp, pz_in_nI2, pz_in_nI2L, pv_gt, nI_add, nI_addL, nI_Ladd, pk_mul, nI_mulL, nI_Lmul, pk_sub, nI_subL, nI_Lsub, nI_inc, nI_clampL, Nat.add_sub_cancel, pz_wi_else, pz_wl_else, vu_eq, vu_ne, pz_wi_gc, pz_wi_ga, pz_wi_gn, pz_wi_gl, pz_wi_gr, pz_wi_same, pz_wi_X, pz_wl_gc, pz_wl_ga, pz_wl_gn, pz_wl_gi, pz_wl_gr, pz_wl_same, pz_wl_X, pz_wr_gc, pz_wr_ga, pz_wr_gn, pz_wr_gi, pz_wr_gl, pz_wr_same, pz_wr_X])
  (try refine po_gP (Nat.le_of_ble_eq_true rfl) ?_)
  refine po_call (by omega) (m_empty hS (fun M1 s1 x1 => ?_))
  have hS1 := hS.sm s1
  refine pw_blk (mi := mz_98) (b := bz_98_7) rfl rfl ?_
  simp only [bz_98_7, pz_cut_t, pz_cut_f, pz_cut_n, pv_gt, pv_ts, pv_tn, ev_ald0, ev_eld0, ev_gf4_2, ev_ldcs, ev_cv1_10, pz_wi_gc, pz_wi_ga, pz_wi_gn, pz_wi_gl, pz_wi_gr, pz_wi_same, pz_wi_X, pz_wl_gc, pz_wl_ga, pz_wl_gn, pz_wl_gi, pz_wl_gr, pz_wl_same, pz_wl_X, pz_wr_gc, pz_wr_ga, pz_wr_gn, pz_wr_gi, pz_wr_gl, pz_wr_same, pz_wr_X, so_18 hS, sr_18_0 hS, so_1 hS, so_18 hS1, sr_18_0 hS1, so_1 hS1]
  (try simp (disch := omega) only [nI_clamp, pz_in_nI2, pz_in_nI2L, pv_gt, nI_add, nI_addL, nI_Ladd, pk_mul, nI_mulL, nI_Lmul, pk_sub, nI_subL, nI_Lsub, nI_inc, nI_clampL, Nat.add_sub_cancel, pz_wi_else, pz_wl_else, vu_eq, vu_ne, pz_wi_gc, pz_wi_ga, pz_wi_gn, pz_wi_gl, pz_wi_gr, pz_wi_same, pz_wi_X, pz_wl_gc, pz_wl_ga, pz_wl_gn, pz_wl_gi, pz_wl_gr, pz_wl_same, pz_wl_X, pz_wr_gc, pz_wr_ga, pz_wr_gn, pz_wr_gi, pz_wr_gl, pz_wr_same, pz_wr_X, so_18 hS1, sr_18_0 hS1, so_1 hS1])
  (try refine po_gP (Nat.le_of_ble_eq_true rfl) ?_)
  refine po_call (by omega) (opn _ M1 _ (by omega) s1 (fun M2 g2 e2 t2 => ?_))
  refine pw_blk (mi := mz_98) (b := bz_98_16) rfl rfl ?_
  simp only [bz_98_16, pz_cut_t, pz_cut_f, pz_cut_n, pv_gt, pv_ts, pv_tn, ev_ic0, ev_ist1n, ev_ist1i, ev_ist1r, ev_ist1e, ev_ist1l, ev_nil, pz_wi_gc, pz_wi_ga, pz_wi_gn, pz_wi_gl, pz_wi_gr, pz_wi_same, pz_wi_X, pz_wl_gc, pz_wl_ga, pz_wl_gn, pz_wl_gi, pz_wl_gr, pz_wl_same, pz_wl_X, pz_wr_gc, pz_wr_ga, pz_wr_gn, pz_wr_gi, pz_wr_gl, pz_wr_same, pz_wr_X]
  (try simp (disch := omega) only [nI_clamp, pz_in_nI2, pz_in_nI2L, pv_gt, nI_add, nI_addL, nI_Ladd, pk_mul, nI_mulL, nI_Lmul, pk_sub, nI_subL, nI_Lsub, nI_inc, nI_clampL, Nat.add_sub_cancel, pz_wi_else, pz_wl_else, vu_eq, vu_ne, pz_wi_gc, pz_wi_ga, pz_wi_gn, pz_wi_gl, pz_wi_gr, pz_wi_same, pz_wi_X, pz_wl_gc, pz_wl_ga, pz_wl_gn, pz_wl_gi, pz_wl_gr, pz_wl_same, pz_wl_X, pz_wr_gc, pz_wr_ga, pz_wr_gn, pz_wr_gi, pz_wr_gl, pz_wr_same, pz_wr_X])
  refine po_go ?_
  refine loop 1500 0 M2 _ scE rfl (((s1.sg hS).mono (by decide)).tr g2 (by decide)) (by rw [e2, s1.i (by decide)]) t2 (fun _ => ⟨x1.fr (g2.ag (by decide)), scE_ok⟩) rfl
end LN
