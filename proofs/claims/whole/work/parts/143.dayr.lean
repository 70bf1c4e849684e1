/-! ===== days by the rules ===== -/
section DAYR
variable {d : Nat} {M M' : pz_M} {Q : Option Value × pz_M → Prop}
/-- what a day by the rules rests on -/
abbrev DyE : Type := (Int32) × (Int32) × (Nat) × (Nat) × (Nat → Int32) × (Nat → Int32) × (Nat → Int32) × (Nat → Nat) × (Nat → Nat) × (Nat → Nat) × (Nat → Nat) × (Nat → Nat)
def DyE.g (X : DyE) : Int32 := X.1
def DyE.f (X : DyE) : Int32 := X.2.1
def DyE.B (X : DyE) : Nat := X.2.2.1
def DyE.nr (X : DyE) : Nat := X.2.2.2.1
def DyE.cu (X : DyE) : Nat → Int32 := X.2.2.2.2.1
def DyE.st (X : DyE) : Nat → Int32 := X.2.2.2.2.2.1
def DyE.pl (X : DyE) : Nat → Int32 := X.2.2.2.2.2.2.1
def DyE.ed (X : DyE) : Nat → Nat := X.2.2.2.2.2.2.2.1
def DyE.pa (X : DyE) : Nat → Nat := X.2.2.2.2.2.2.2.2.1
def DyE.pb (X : DyE) : Nat → Nat := X.2.2.2.2.2.2.2.2.2.1
def DyE.pt (X : DyE) : Nat → Nat := X.2.2.2.2.2.2.2.2.2.2.1
def DyE.ps (X : DyE) : Nat → Nat := X.2.2.2.2.2.2.2.2.2.2.2
def DyE.p (X : DyE) (R : Nat → T3) (y : Int32) : Int32 := plF (uv (fun i => (R i).1) (fun i => (R i).2.1) y X.cu X.B) X.st X.pl X.ed X.nr 0
def DyE.pn (X : DyE) (q : Nat) (R : Nat → T3) (y : Int32) : Nat → T3 := fdT X.f 1 X.B (mapR (X.pa q) (X.pb q + 1) (plT X.g y (X.pt q) (X.ps q)) R)
def DyE.nx (X : DyE) (R : Nat → T3) (y : Int32) : Nat → T3 := if X.p R y = -1 then fdT X.f 1 X.B R else X.pn (X.p R y).toNatClampNeg R y
def DyE.at (X : DyE) (R : Nat → T3) (y : Nat) : Nat → Nat → T3
  | 0 => R
  | k + 1 => X.nx (X.at R y k) (nI (y + k))
def DyE.dn (X : DyE) (R : Nat → T3) (y : Nat) : Nat → Nat
  | 0 => 0
  | k + 1 => X.dn R y k + (if X.p (X.at R y k) (nI (y + k)) = -1 then 0 else 1)
def DyE.ok (X : DyE) (N : Nat) : Prop := X.B ≤ 24 ∧ X.nr ≤ 6 ∧ N ≤ 6 ∧ X.ed 0 = 0 ∧ (∀ p, p < N → X.pa p ≤ X.pb p ∧ X.pb p < X.B ∧ X.pt p ≤ 20 ∧ X.ps p ≤ 20) ∧ ∃ g f, g ≤ 1000 ∧ f ≤ 1000 ∧ X.g = nI g ∧ X.f = nI f
def clsE (M : pz_M) (X : DyE) (N : Nat) : Prop := SH M ∧ (gi M 17 0 = X.g ∧ gi M 17 1 = X.f ∧ gi M 4 0 = nI X.B ∧ gi M 93 0 = nI X.nr ∧ gi M 96 = X.st ∧ gi M 94 = X.pl) ∧ RRb M X.ed X.nr X.B N ∧ (∀ v, v < X.B → gi M 104 v = X.cu v) ∧ ∀ p, p < N → gi M 13 p = nI (X.pa p) ∧ gi M 14 p = nI (X.pb p) ∧ gi M 15 p = nI (X.pt p) ∧ gi M 16 p = nI (X.ps p)
def refE (M : pz_M) (X : DyE) (N r nd : Nat) : Prop := SH M ∧ (okB M ∧ bk M = r ∧ nb M = nI X.B) ∧ (gi M 127 r = X.g ∧ gi M 128 r = X.f ∧ gi M 120 77 = nI X.nr ∧ gi M 120 89 = nI nd ∧ nd ≤ 40 ∧ gi M 96 = X.st ∧ gi M 94 = X.pl) ∧ RRb M X.ed X.nr X.B N ∧ (∀ v, v < X.B → nI (cnt (dcut M (nI v) (gi M 120 91)) nd) = X.cu v) ∧ ∀ p, p < N → gi M 145 (6 * r + p) = nI (X.pa p) ∧ gi M 146 (6 * r + p) = nI (X.pb p) ∧ gi M 147 (6 * r + p) = nI (X.pt p) ∧ gi M 148 (6 * r + p) = nI (X.ps p)
theorem clsE.fr {X : DyE} {N : Nat} (h : clsE M X N) (hS : SH M') (e : ag [4, 13, 14, 15, 16, 17, 93, 94, 95, 96, 104, 159, 160, 164, 165, 166] M M') : clsE M' X N := by
  obtain ⟨-, h1, h2, h3, h4⟩ := h
  refine ⟨hS, ?_, h2.fr (e.sub (by decide)), ?_, ?_⟩
  · rw [(e 17 (by decide)).1, (e 4 (by decide)).1, (e 93 (by decide)).1, (e 96 (by decide)).1, (e 94 (by decide)).1]
    exact h1
  · rw [(e 104 (by decide)).1]
    exact h3
  · rw [(e 13 (by decide)).1, (e 14 (by decide)).1, (e 15 (by decide)).1, (e 16 (by decide)).1]
    exact h4
theorem refE.fr {X : DyE} {N r nd : Nat} (h : refE M X N r nd) (hS : SH M') (e : ag [94, 95, 96, 123, 127, 128, 145, 146, 147, 148, 159, 160, 164, 165, 166, 168, 169, 170] M M') (v : ∀ j, j = 38 ∨ j = 77 ∨ j = 89 ∨ j = 91 → gi M' 120 j = gi M 120 j) : refE M' X N r nd := by
  obtain ⟨-, ⟨a1, a2, a3⟩, h1, h2, h3, h4⟩ := h
  have eb : bank M' = bank M := v 38 (by simp)
  have ebk : bk M' = bk M := by unfold bk; rw [eb]
  refine ⟨hS, ⟨?_, ebk.trans a2, ?_⟩, ?_, h2.fr (e.sub (by decide)), ?_, ?_⟩
  · unfold okB
    rw [eb]
    exact a1
  · unfold nb
    rw [ebk, (e 123 (by decide)).1]
    exact a3
  · rw [(e 127 (by decide)).1, (e 128 (by decide)).1, (e 96 (by decide)).1, (e 94 (by decide)).1, v 77 (by simp), v 89 (by simp)]
    exact h1
  · intro w hw
    rw [dcut_fr (e 168 (by decide)).1 (e 169 (by decide)).1 (e 170 (by decide)).1, v 91 (by simp)]
    exact h3 w hw
  · rw [(e 145 (by decide)).1, (e 146 (by decide)).1, (e 147 (by decide)).1, (e 148 (by decide)).1]
    exact h4
theorem DyE.p_is {X : DyE} {N : Nat} (h : RRb M X.ed X.nr X.B N) (e1 : gi M 96 = X.st) (e2 : gi M 94 = X.pl) (R : Nat → T3) (y : Int32) : X.p R y = -1 ∨ ∃ q, q < N ∧ X.p R y = nI q := by
  have z := plF_is (u := uv (fun i => (R i).1) (fun i => (R i).2.1) y X.cu X.B) h X.nr 0 (by omega)
  rw [e1, e2] at z
  exact z
theorem DyE.nx0 {X : DyE} {R : Nat → T3} {y : Int32} (h : X.p R y = -1) : X.nx R y = fdT X.f 1 X.B R := if_pos h
theorem DyE.nx1 {X : DyE} {R : Nat → T3} {y : Int32} {q : Nat} (hq : q < 6) (h : X.p R y = nI q) : X.nx R y = X.pn q R y := by
  unfold DyE.nx
  rw [if_neg (fun z => by rw [h] at z; exact (nI_eqm (by omega)).mp z), h, nI_clamp (by omega)]
theorem m_dayByRules (hd : 6 ≤ d) {X : DyE} {N o : Nat} {R : Nat → T3} (hok : X.ok N) (hC : clsE M X N) (hM : isMind M o) (ho : 33 ≤ o) (ho2 : o + 4 < 93) (hT : isT M o R) (hr : ∀ i, rT (R i)) (K : ∀ M', sm [o, o + 1, o + 2, o + 3, o + 4, 97] M M' → gi M' o = va_up (gi M o) 6 (gi M o 6 + 1) → isT M' o (X.nx R (gi M o 6)) → gi M' (o + 3) = rowF (f_fade X.f) X.B (gi M (o + 3)) → Q (some (.int (if X.p R (gi M o 6) = -1 then 0 else 1)), M')) : pm d 149 [.ref 0, .ref o] M Q := by
  obtain ⟨hS, ⟨l0, l1, b1, xr1, e96, e94⟩, hR, hcu, hpl⟩ := id hC
  obtain ⟨hB, hn6, hN, h0, hpp, -⟩ := hok
  have pv : plF (uv (fun i => (R i).1) (fun i => (R i).2.1) (gi M o 6) X.cu X.B) (gi M 96) (gi M 94) X.ed X.nr 0 = X.p R (gi M o 6) := by
    rw [e96, e94]
    rfl
  rcases DyE.p_is hR e96 e94 R (gi M o 6) with hp | ⟨q, hq, hp⟩
  · skip
    refine pm_ent (L := [some (.ref 0), some (.ref o), none]) rfl (Nat.le_of_ble_eq_true rfl) ?_
    refine pw_blk (mi := mz_149) (b := bz_149_0) rfl rfl ?_
    simp only [bz_149_0, pz_cut_t, pz_cut_f, pz_cut_n, pv_gt, pv_ts, pv_tn, ev_ald0, ev_eld0, ev_gf0_2, ev_ald1, ev_eld1, ev_gf8_0, ev_cv3_6, pz_wi_gc, pz_wi_ga, pz_wi_gn, pz_wi_gl, pz_wi_gr, pz_wi_same, pz_wi_X, pz_wl_gc, pz_wl_ga, pz_wl_gn, pz_wl_gi, pz_wl_gr, pz_wl_same, pz_wl_X, pz_wr_gc, pz_wr_ga, pz_wr_gn, pz_wr_gi, pz_wr_gl, pz_wr_same, pz_wr_X, so_0 hS, sr_0_10 hS, so_93 hS, sr_0_12 hS, sa_104 hS, sn_104 hS, sr_0_1 hS, so_4 hS, b1]
    (try simp (disch := omega) only [nI_clamp, pz_in_nI2, pz_in_nI2L, pv_gt, nI_add, nI_addL, nI_Ladd, pk_mul, nI_mulL, nI_Lmul, pk_sub, nI_subL, nI_Lsub, nI_inc, nI_clampL, Nat.add_sub_cancel, pz_wi_else, pz_wl_else, vu_eq, vu_ne, pz_wi_gc, pz_wi_ga, pz_wi_gn, pz_wi_gl, pz_wi_gr, pz_wi_same, pz_wi_X, pz_wl_gc, pz_wl_ga, pz_wl_gn, pz_wl_gi, pz_wl_gr, pz_wl_same, pz_wl_X, pz_wr_gc, pz_wr_ga, pz_wr_gn, pz_wr_gi, pz_wr_gl, pz_wr_same, pz_wr_X, b1])
    (try refine po_gP (Nat.le_of_ble_eq_true rfl) ?_)
    refine po_call (by omega) (m_planFor (by omega) hS hM (by omega) hT.1 hT.2.1 rfl hcu (fun i => (hr i).1) hB xr1 hn6 h0 hR (fun M1 s1 => ?_))
    rw [pv, hp]
    have hS1 := hS.sm s1
    refine pw_blk (mi := mz_149) (b := bz_149_19) rfl rfl ?_
    simp only [bz_149_19, pz_cut_t, pz_cut_f, pz_cut_n, pv_gt, pv_ts, pv_tn, ev_ist2n, ev_ist2i, ev_ist2r, ev_ist2e, ev_ist2l, ev_ild2, ev_icm1, ev_ic_ne, pz_wi_gc, pz_wi_ga, pz_wi_gn, pz_wi_gl, pz_wi_gr, pz_wi_same, pz_wi_X, pz_wl_gc, pz_wl_ga, pz_wl_gn, pz_wl_gi, pz_wl_gr, pz_wl_same, pz_wl_X, pz_wr_gc, pz_wr_ga, pz_wr_gn, pz_wr_gi, pz_wr_gl, pz_wr_same, pz_wr_X, b1]
    (try simp (disch := omega) only [nI_clamp, pz_in_nI2, pz_in_nI2L, pv_gt, nI_add, nI_addL, nI_Ladd, pk_mul, nI_mulL, nI_Lmul, pk_sub, nI_subL, nI_Lsub, nI_inc, nI_clampL, Nat.add_sub_cancel, pz_wi_else, pz_wl_else, vu_eq, vu_ne, pz_wi_gc, pz_wi_ga, pz_wi_gn, pz_wi_gl, pz_wi_gr, pz_wi_same, pz_wi_X, pz_wl_gc, pz_wl_ga, pz_wl_gn, pz_wl_gi, pz_wl_gr, pz_wl_same, pz_wl_X, pz_wr_gc, pz_wr_ga, pz_wr_gn, pz_wr_gi, pz_wr_gl, pz_wr_same, pz_wr_X, b1])
    refine po_brP (fun q19 => ?_) (fun q19 => ?_)
    · first
      | exact absurd q19 (by decide)
      | exact absurd trivial q19
      | exact q19.elim
      | (exfalso; (try simp (disch := omega) only [nI_ltI, nI_leI, nI_eq, nI_ltL, nI_leL, nI_eqL, nI_Llt, nI_Lle, nI_Leq, nI_eqm, nI_meq, nI_ltm, nI_lem, nI_mlt, nI_mle, lg0, lgl, lgg, lgle, lgge, Int32.not_lt, Int32.not_le, Int64.not_lt, Int64.not_le, not_false_eq_true, not_true_eq_false, Decidable.not_not, ge_iff_le, gt_iff_lt] at q19) <;> omega)
      | exact absurd q19 (by with_reducible assumption)
      | exact absurd (by with_reducible assumption) q19
      | exact absurd (Decidable.not_not.mp q19) (by with_reducible assumption)
      | exact absurd (by with_reducible assumption) (Int32.not_le.mpr q19)
      | exact absurd (by with_reducible assumption) (Int32.not_lt.mpr q19)
    · skip
      (try simp (disch := omega) only [nI_ltI, nI_leI, nI_eq, nI_ltL, nI_leL, nI_eqL, nI_Llt, nI_Lle, nI_Leq, nI_eqm, nI_meq, nI_ltm, nI_lem, nI_mlt, nI_mle, lg0, lgl, lgg, lgle, lgge, Int32.not_lt, Int32.not_le, Int64.not_lt, Int64.not_le, not_false_eq_true, not_true_eq_false, Decidable.not_not, ge_iff_le, gt_iff_lt] at q19)
      refine pw_blk (mi := mz_149) (b := bz_149_25) rfl rfl ?_
      simp only [bz_149_25, pz_cut_t, pz_cut_f, pz_cut_n, pv_gt, pv_ts, pv_tn, ev_ald1, ev_eld1, ev_ic1, ev_ald0, ev_eld0, ev_gf0_2, ev_cv2_3, pz_wi_gc, pz_wi_ga, pz_wi_gn, pz_wi_gl, pz_wi_gr, pz_wi_same, pz_wi_X, pz_wl_gc, pz_wl_ga, pz_wl_gn, pz_wl_gi, pz_wl_gr, pz_wl_same, pz_wl_X, pz_wr_gc, pz_wr_ga, pz_wr_gn, pz_wr_gi, pz_wr_gl, pz_wr_same, pz_wr_X, so_0 hS, sr_0_1 hS, so_4 hS, b1, so_0 hS1, sr_0_1 hS1, (hM.sm s1).1]
      (try simp (disch := omega) only [nI_clamp, pz_in_nI2, pz_in_nI2L, pv_gt, nI_add, nI_addL, nI_Ladd, pk_mul, nI_mulL, nI_Lmul, pk_sub, nI_subL, nI_Lsub, nI_inc, nI_clampL, Nat.add_sub_cancel, pz_wi_else, pz_wl_else, vu_eq, vu_ne, pz_wi_gc, pz_wi_ga, pz_wi_gn, pz_wi_gl, pz_wi_gr, pz_wi_same, pz_wi_X, pz_wl_gc, pz_wl_ga, pz_wl_gn, pz_wl_gi, pz_wl_gr, pz_wl_same, pz_wl_X, pz_wr_gc, pz_wr_ga, pz_wr_gn, pz_wr_gi, pz_wr_gl, pz_wr_same, pz_wr_X, b1, so_0 hS1, sr_0_1 hS1, (hM.sm s1).1])
      (try refine po_gP (Nat.le_of_ble_eq_true rfl) ?_)
      refine po_call (by omega) (m_rest (f := X.f) (D := 1) (by omega) hS1 (hM.sm s1) ho (by rw [s1.i (by decide)]; exact b1) hB (by decide) (by rw [s1.i (by decide)]; exact l1) (fun M2 s2 a0 a1 a2 a3 => ?_))
      refine pw_blk (mi := mz_149) (b := bz_149_34) rfl rfl ?_
      simp only [bz_149_34, pz_cut_t, pz_cut_f, pz_cut_n, pv_gt, pv_ts, pv_tn, ev_ic0, ev_iret1, pz_wi_gc, pz_wi_ga, pz_wi_gn, pz_wi_gl, pz_wi_gr, pz_wi_same, pz_wi_X, pz_wl_gc, pz_wl_ga, pz_wl_gn, pz_wl_gi, pz_wl_gr, pz_wl_same, pz_wl_X, pz_wr_gc, pz_wr_ga, pz_wr_gn, pz_wr_gi, pz_wr_gl, pz_wr_same, pz_wr_X, b1]
      (try simp (disch := omega) only [nI_clamp, pz_in_nI2, pz_in_nI2L, pv_gt, nI_add, nI_addL, nI_Ladd, pk_mul, nI_mulL, nI_Lmul, pk_sub, nI_subL, nI_Lsub, nI_inc, nI_clampL, Nat.add_sub_cancel, pz_wi_else, pz_wl_else, vu_eq, vu_ne, pz_wi_gc, pz_wi_ga, pz_wi_gn, pz_wi_gl, pz_wi_gr, pz_wi_same, pz_wi_X, pz_wl_gc, pz_wl_ga, pz_wl_gn, pz_wl_gi, pz_wl_gr, pz_wl_same, pz_wl_X, pz_wr_gc, pz_wr_ga, pz_wr_gn, pz_wr_gi, pz_wr_gl, pz_wr_same, pz_wr_X, b1])
      (try refine po_gP (by first | decide | assumption) ?_)
      refine po_ret ?_
      rw [if_pos hp] at K
      refine K M2 ((s1.mono (by simp)).tr s2 (by simp)) ?_ ?_ ?_
      · rw [a0, s1.i (by simp; omega)]
        rfl
      · rw [DyE.nx0 hp]
        unfold isT
        rw [fdT_1, fdT_2, fdT_3, a1, a2, s2.i (by simp), s1.i (by simp; omega), s1.i (by simp; omega), s1.i (by simp; omega), hT.1, hT.2.1, hT.2.2]
        exact ⟨rfl, rfl, rfl⟩
      · rw [a3, s1.i (by simp; omega)]
        rfl
  · obtain ⟨v1, v2, v3, v4⟩ := hpl q hq
    obtain ⟨w1, w2, w3, w4⟩ := hpp q hq
    refine pm_ent (L := [some (.ref 0), some (.ref o), none]) rfl (Nat.le_of_ble_eq_true rfl) ?_
    refine pw_blk (mi := mz_149) (b := bz_149_0) rfl rfl ?_
    simp only [bz_149_0, pz_cut_t, pz_cut_f, pz_cut_n, pv_gt, pv_ts, pv_tn, ev_ald0, ev_eld0, ev_gf0_2, ev_ald1, ev_eld1, ev_gf8_0, ev_cv3_6, pz_wi_gc, pz_wi_ga, pz_wi_gn, pz_wi_gl, pz_wi_gr, pz_wi_same, pz_wi_X, pz_wl_gc, pz_wl_ga, pz_wl_gn, pz_wl_gi, pz_wl_gr, pz_wl_same, pz_wl_X, pz_wr_gc, pz_wr_ga, pz_wr_gn, pz_wr_gi, pz_wr_gl, pz_wr_same, pz_wr_X, so_0 hS, sr_0_10 hS, so_93 hS, sr_0_12 hS, sa_104 hS, sn_104 hS, sr_0_1 hS, so_4 hS, b1]
    (try simp (disch := omega) only [nI_clamp, pz_in_nI2, pz_in_nI2L, pv_gt, nI_add, nI_addL, nI_Ladd, pk_mul, nI_mulL, nI_Lmul, pk_sub, nI_subL, nI_Lsub, nI_inc, nI_clampL, Nat.add_sub_cancel, pz_wi_else, pz_wl_else, vu_eq, vu_ne, pz_wi_gc, pz_wi_ga, pz_wi_gn, pz_wi_gl, pz_wi_gr, pz_wi_same, pz_wi_X, pz_wl_gc, pz_wl_ga, pz_wl_gn, pz_wl_gi, pz_wl_gr, pz_wl_same, pz_wl_X, pz_wr_gc, pz_wr_ga, pz_wr_gn, pz_wr_gi, pz_wr_gl, pz_wr_same, pz_wr_X, b1])
    (try refine po_gP (Nat.le_of_ble_eq_true rfl) ?_)
    refine po_call (by omega) (m_planFor (by omega) hS hM (by omega) hT.1 hT.2.1 rfl hcu (fun i => (hr i).1) hB xr1 hn6 h0 hR (fun M1 s1 => ?_))
    rw [pv, hp]
    have hS1 := hS.sm s1
    refine pw_blk (mi := mz_149) (b := bz_149_19) rfl rfl ?_
    simp only [bz_149_19, pz_cut_t, pz_cut_f, pz_cut_n, pv_gt, pv_ts, pv_tn, ev_ist2n, ev_ist2i, ev_ist2r, ev_ist2e, ev_ist2l, ev_ild2, ev_icm1, ev_ic_ne, pz_wi_gc, pz_wi_ga, pz_wi_gn, pz_wi_gl, pz_wi_gr, pz_wi_same, pz_wi_X, pz_wl_gc, pz_wl_ga, pz_wl_gn, pz_wl_gi, pz_wl_gr, pz_wl_same, pz_wl_X, pz_wr_gc, pz_wr_ga, pz_wr_gn, pz_wr_gi, pz_wr_gl, pz_wr_same, pz_wr_X, b1]
    (try simp (disch := omega) only [nI_clamp, pz_in_nI2, pz_in_nI2L, pv_gt, nI_add, nI_addL, nI_Ladd, pk_mul, nI_mulL, nI_Lmul, pk_sub, nI_subL, nI_Lsub, nI_inc, nI_clampL, Nat.add_sub_cancel, pz_wi_else, pz_wl_else, vu_eq, vu_ne, pz_wi_gc, pz_wi_ga, pz_wi_gn, pz_wi_gl, pz_wi_gr, pz_wi_same, pz_wi_X, pz_wl_gc, pz_wl_ga, pz_wl_gn, pz_wl_gi, pz_wl_gr, pz_wl_same, pz_wl_X, pz_wr_gc, pz_wr_ga, pz_wr_gn, pz_wr_gi, pz_wr_gl, pz_wr_same, pz_wr_X, b1])
    refine po_brP (fun q19 => ?_) (fun q19 => ?_)
    · skip
      (try simp (disch := omega) only [nI_ltI, nI_leI, nI_eq, nI_ltL, nI_leL, nI_eqL, nI_Llt, nI_Lle, nI_Leq, nI_eqm, nI_meq, nI_ltm, nI_lem, nI_mlt, nI_mle, lg0, lgl, lgg, lgle, lgge, Int32.not_lt, Int32.not_le, Int64.not_lt, Int64.not_le, not_false_eq_true, not_true_eq_false, Decidable.not_not, ge_iff_le, gt_iff_lt] at q19)
      refine pw_blk (mi := mz_149) (b := bz_149_36) rfl rfl ?_
      simp only [bz_149_36, pz_cut_t, pz_cut_f, pz_cut_n, pv_gt, pv_ts, pv_tn, ev_ald1, ev_eld1, ev_ald0, ev_eld0, ev_gf0_2, ev_ild2, ev_cv2_3, pz_wi_gc, pz_wi_ga, pz_wi_gn, pz_wi_gl, pz_wi_gr, pz_wi_same, pz_wi_X, pz_wl_gc, pz_wl_ga, pz_wl_gn, pz_wl_gi, pz_wl_gr, pz_wl_same, pz_wl_X, pz_wr_gc, pz_wr_ga, pz_wr_gn, pz_wr_gi, pz_wr_gl, pz_wr_same, pz_wr_X, so_0 hS, sr_0_1 hS, so_4 hS, b1, so_0 hS1, sr_0_1 hS1, (hM.sm s1).1]
      (try simp (disch := omega) only [nI_clamp, pz_in_nI2, pz_in_nI2L, pv_gt, nI_add, nI_addL, nI_Ladd, pk_mul, nI_mulL, nI_Lmul, pk_sub, nI_subL, nI_Lsub, nI_inc, nI_clampL, Nat.add_sub_cancel, pz_wi_else, pz_wl_else, vu_eq, vu_ne, pz_wi_gc, pz_wi_ga, pz_wi_gn, pz_wi_gl, pz_wi_gr, pz_wi_same, pz_wi_X, pz_wl_gc, pz_wl_ga, pz_wl_gn, pz_wl_gi, pz_wl_gr, pz_wl_same, pz_wl_X, pz_wr_gc, pz_wr_ga, pz_wr_gn, pz_wr_gi, pz_wr_gl, pz_wr_same, pz_wr_X, b1, so_0 hS1, sr_0_1 hS1, (hM.sm s1).1])
      (try refine po_gP (Nat.le_of_ble_eq_true rfl) ?_)
      refine po_call (by omega) (m_follow (g := X.g) (f := X.f) (N := X.B) (R := R) (by omega) hS1 (hM.sm s1) ho (hT.sm s1 (by simp; omega) (by simp; omega) (by simp; omega)) (by omega) (by rw [s1.i (by decide)]; exact v1) (by rw [s1.i (by decide)]; exact v2) (by rw [s1.i (by decide)]; exact v3) (by rw [s1.i (by decide)]; exact v4) (by omega) w3 w4 w1 (by rw [s1.i (by decide)]; exact l0) (by rw [s1.i (by decide)]; exact l1) (by rw [s1.i (by decide)]; exact b1) hB (fun M2 s2 a0 t2 a3 => ?_))
      refine pw_blk (mi := mz_149) (b := bz_149_45) rfl rfl ?_
      simp only [bz_149_45, pz_cut_t, pz_cut_f, pz_cut_n, pv_gt, pv_ts, pv_tn, ev_ic1, ev_iret1, pz_wi_gc, pz_wi_ga, pz_wi_gn, pz_wi_gl, pz_wi_gr, pz_wi_same, pz_wi_X, pz_wl_gc, pz_wl_ga, pz_wl_gn, pz_wl_gi, pz_wl_gr, pz_wl_same, pz_wl_X, pz_wr_gc, pz_wr_ga, pz_wr_gn, pz_wr_gi, pz_wr_gl, pz_wr_same, pz_wr_X, b1]
      (try simp (disch := omega) only [nI_clamp, pz_in_nI2, pz_in_nI2L, pv_gt, nI_add, nI_addL, nI_Ladd, pk_mul, nI_mulL, nI_Lmul, pk_sub, nI_subL, nI_Lsub, nI_inc, nI_clampL, Nat.add_sub_cancel, pz_wi_else, pz_wl_else, vu_eq, vu_ne, pz_wi_gc, pz_wi_ga, pz_wi_gn, pz_wi_gl, pz_wi_gr, pz_wi_same, pz_wi_X, pz_wl_gc, pz_wl_ga, pz_wl_gn, pz_wl_gi, pz_wl_gr, pz_wl_same, pz_wl_X, pz_wr_gc, pz_wr_ga, pz_wr_gn, pz_wr_gi, pz_wr_gl, pz_wr_same, pz_wr_X, b1])
      (try refine po_gP (by first | decide | assumption) ?_)
      refine po_ret ?_
      rw [if_neg (fun z => by rw [hp] at z; exact (nI_eqm (by omega)).mp z)] at K
      have eo : gi M1 o = gi M o := s1.i (by simp; omega)
      refine K M2 ((s1.mono (by simp)).tr s2 (by simp)) ?_ ?_ ?_
      · rw [a0, eo]
      · rw [DyE.nx1 (by omega) hp, ← eo]
        exact t2
      · rw [a3, s1.i (by simp; omega)]
    · first
      | exact absurd q19 (by decide)
      | exact absurd trivial q19
      | exact q19.elim
      | (exfalso; (try simp (disch := omega) only [nI_ltI, nI_leI, nI_eq, nI_ltL, nI_leL, nI_eqL, nI_Llt, nI_Lle, nI_Leq, nI_eqm, nI_meq, nI_ltm, nI_lem, nI_mlt, nI_mle, lg0, lgl, lgg, lgle, lgge, Int32.not_lt, Int32.not_le, Int64.not_lt, Int64.not_le, not_false_eq_true, not_true_eq_false, Decidable.not_not, ge_iff_le, gt_iff_lt] at q19) <;> omega)
      | exact absurd q19 (by with_reducible assumption)
      | exact absurd (by with_reducible assumption) q19
      | exact absurd (Decidable.not_not.mp q19) (by with_reducible assumption)
      | exact absurd (by with_reducible assumption) (Int32.not_le.mpr q19)
      | exact absurd (by with_reducible assumption) (Int32.not_lt.mpr q19)
theorem r_byRules (hd : 7 ≤ d) {X : DyE} {N r nd y : Nat} {R : Nat → T3} (hok : X.ok N) (hC : refE M X N r nd) (hT : isTR M R) (hu : 0 < X.B → okT R) (hy : gi M 120 46 = nI y) (hy2 : y < 2 ^ 31) (K : ∀ M', sm [120, 149, 150, 151, 152, 163] M M' → gi M' 120 = va_up (gi M 120) 46 (nI (y + 1)) → isTR M' (X.nx R (nI y)) → gi M' 151 = rowF (f_fade X.f) X.B (gi M 151) → Q (some (.int (if X.p R (nI y) = -1 then 0 else 1)), M')) : pm d 150 [.ref 120] M Q := by
  obtain ⟨hS, ⟨hO, hbk, hnb⟩, ⟨l0, l1, xr2, xd2, xd3, e96, e94⟩, hR, hcu, hpl⟩ := id hC
  obtain ⟨hB, hn6, hN, h0, hpp, -⟩ := hok
  have pv : plF (uv (fun i => (R i).1) (fun i => (R i).2.1) (nI y) X.cu X.B) (gi M 96) (gi M 94) X.ed X.nr 0 = X.p R (nI y) := by
    rw [e96, e94]
    rfl
  have fr1 : ∀ M1, sm [163] M M1 → SH M1 ∧ okB M1 ∧ bk M1 = r ∧ nb M1 = nI X.B ∧ gi M1 120 = gi M 120 := fun M1 s1 => by
    have e : gi M1 120 = gi M 120 := s1.i (by decide)
    have z := hC.fr (hS.sm s1) ((s1.sg hS).ag (by decide +kernel)) (fun j _ => by rw [e])
    exact ⟨z.1, z.2.1.1, z.2.1.2.1, z.2.1.2.2, e⟩
  rcases DyE.p_is hR e96 e94 R (nI y) with hp | ⟨q, hq, hp⟩
  · skip
    refine pm_ent (L := [some (.ref 120), none]) rfl (Nat.le_of_ble_eq_true rfl) ?_
    refine pw_blk (mi := mz_150) (b := bz_150_0) rfl rfl ?_
    simp only [bz_150_0, pz_cut_t, pz_cut_f, pz_cut_n, pv_gt, pv_ts, pv_tn, ev_ald0, ev_eld0, ev_cv0_11, pz_wi_gc, pz_wi_ga, pz_wi_gn, pz_wi_gl, pz_wi_gr, pz_wi_same, pz_wi_X, pz_wl_gc, pz_wl_ga, pz_wl_gn, pz_wl_gi, pz_wl_gr, pz_wl_same, pz_wl_X, pz_wr_gc, pz_wr_ga, pz_wr_gn, pz_wr_gi, pz_wr_gl, pz_wr_same, pz_wr_X, so_120 hS]
    (try simp (disch := omega) only [nI_clamp, pz_in_nI2, pz_in_nI2L, pv_gt, nI_add, nI_addL, nI_Ladd, pk_mul, nI_mulL, nI_Lmul, pk_sub, nI_subL, nI_Lsub, nI_inc, nI_clampL, Nat.add_sub_cancel, pz_wi_else, pz_wl_else, vu_eq, vu_ne, pz_wi_gc, pz_wi_ga, pz_wi_gn, pz_wi_gl, pz_wi_gr, pz_wi_same, pz_wi_X, pz_wl_gc, pz_wl_ga, pz_wl_gn, pz_wl_gi, pz_wl_gr, pz_wl_same, pz_wl_X, pz_wr_gc, pz_wr_ga, pz_wr_gn, pz_wr_gi, pz_wr_gl, pz_wr_same, pz_wr_X])
    (try refine po_gP (Nat.le_of_ble_eq_true rfl) ?_)
    refine po_call (by omega) (r_rule (by omega) hS hO hnb hT.1 hT.2.1 hy xd2 xd3 hcu hB xr2 hn6 hR (fun M1 s1 => ?_))
    rw [pv, hp]
    obtain ⟨hS1, hO1, hbk1, hnb1, e1⟩ := fr1 M1 s1
    refine pw_blk (mi := mz_150) (b := bz_150_4) rfl rfl ?_
    simp only [bz_150_4, pz_cut_t, pz_cut_f, pz_cut_n, pv_gt, pv_ts, pv_tn, ev_ist1n, ev_ist1i, ev_ist1r, ev_ist1e, ev_ist1l, ev_ild1, ev_ifge, pz_wi_gc, pz_wi_ga, pz_wi_gn, pz_wi_gl, pz_wi_gr, pz_wi_same, pz_wi_X, pz_wl_gc, pz_wl_ga, pz_wl_gn, pz_wl_gi, pz_wl_gr, pz_wl_same, pz_wl_X, pz_wr_gc, pz_wr_ga, pz_wr_gn, pz_wr_gi, pz_wr_gl, pz_wr_same, pz_wr_X]
    (try simp (disch := omega) only [nI_clamp, pz_in_nI2, pz_in_nI2L, pv_gt, nI_add, nI_addL, nI_Ladd, pk_mul, nI_mulL, nI_Lmul, pk_sub, nI_subL, nI_Lsub, nI_inc, nI_clampL, Nat.add_sub_cancel, pz_wi_else, pz_wl_else, vu_eq, vu_ne, pz_wi_gc, pz_wi_ga, pz_wi_gn, pz_wi_gl, pz_wi_gr, pz_wi_same, pz_wi_X, pz_wl_gc, pz_wl_ga, pz_wl_gn, pz_wl_gi, pz_wl_gr, pz_wl_same, pz_wl_X, pz_wr_gc, pz_wr_ga, pz_wr_gn, pz_wr_gi, pz_wr_gl, pz_wr_same, pz_wr_X])
    refine po_brP (fun q4 => ?_) (fun q4 => ?_)
    · first
      | exact absurd q4 (by decide)
      | exact absurd trivial q4
      | exact q4.elim
      | (exfalso; (try simp (disch := omega) only [nI_ltI, nI_leI, nI_eq, nI_ltL, nI_leL, nI_eqL, nI_Llt, nI_Lle, nI_Leq, nI_eqm, nI_meq, nI_ltm, nI_lem, nI_mlt, nI_mle, lg0, lgl, lgg, lgle, lgge, Int32.not_lt, Int32.not_le, Int64.not_lt, Int64.not_le, not_false_eq_true, not_true_eq_false, Decidable.not_not, ge_iff_le, gt_iff_lt] at q4) <;> omega)
      | exact absurd q4 (by with_reducible assumption)
      | exact absurd (by with_reducible assumption) q4
      | exact absurd (Decidable.not_not.mp q4) (by with_reducible assumption)
      | exact absurd (by with_reducible assumption) (Int32.not_le.mpr q4)
      | exact absurd (by with_reducible assumption) (Int32.not_lt.mpr q4)
    · skip
      (try simp (disch := omega) only [nI_ltI, nI_leI, nI_eq, nI_ltL, nI_leL, nI_eqL, nI_Llt, nI_Lle, nI_Leq, nI_eqm, nI_meq, nI_ltm, nI_lem, nI_mlt, nI_mle, lg0, lgl, lgg, lgle, lgge, Int32.not_lt, Int32.not_le, Int64.not_lt, Int64.not_le, not_false_eq_true, not_true_eq_false, Decidable.not_not, ge_iff_le, gt_iff_lt] at q4)
      refine pw_blk (mi := mz_150) (b := bz_150_9) rfl rfl ?_
      simp only [bz_150_9, pz_cut_t, pz_cut_f, pz_cut_n, pv_gt, pv_ts, pv_tn, ev_ald0, ev_eld0, ev_cv0_11, pz_wi_gc, pz_wi_ga, pz_wi_gn, pz_wi_gl, pz_wi_gr, pz_wi_same, pz_wi_X, pz_wl_gc, pz_wl_ga, pz_wl_gn, pz_wl_gi, pz_wl_gr, pz_wl_same, pz_wl_X, pz_wr_gc, pz_wr_ga, pz_wr_gn, pz_wr_gi, pz_wr_gl, pz_wr_same, pz_wr_X, so_120 hS, so_120 hS1]
      (try simp (disch := omega) only [nI_clamp, pz_in_nI2, pz_in_nI2L, pv_gt, nI_add, nI_addL, nI_Ladd, pk_mul, nI_mulL, nI_Lmul, pk_sub, nI_subL, nI_Lsub, nI_inc, nI_clampL, Nat.add_sub_cancel, pz_wi_else, pz_wl_else, vu_eq, vu_ne, pz_wi_gc, pz_wi_ga, pz_wi_gn, pz_wi_gl, pz_wi_gr, pz_wi_same, pz_wi_X, pz_wl_gc, pz_wl_ga, pz_wl_gn, pz_wl_gi, pz_wl_gr, pz_wl_same, pz_wl_X, pz_wr_gc, pz_wr_ga, pz_wr_gn, pz_wr_gi, pz_wr_gl, pz_wr_same, pz_wr_X, so_120 hS1])
      (try refine po_gP (Nat.le_of_ble_eq_true rfl) ?_)
      refine po_call (by omega) (r_passDay (f := X.f) (by omega) hS1 hO1 hbk1 hnb1 hB (by rw [s1.i (by decide)]; exact l1) (fun M2 s2 g0 g1 g2 g3 => ?_))
      refine pw_blk (mi := mz_150) (b := bz_150_13) rfl rfl ?_
      simp only [bz_150_13, pz_cut_t, pz_cut_f, pz_cut_n, pv_gt, pv_ts, pv_tn, ev_goto, pz_wi_gc, pz_wi_ga, pz_wi_gn, pz_wi_gl, pz_wi_gr, pz_wi_same, pz_wi_X, pz_wl_gc, pz_wl_ga, pz_wl_gn, pz_wl_gi, pz_wl_gr, pz_wl_same, pz_wl_X, pz_wr_gc, pz_wr_ga, pz_wr_gn, pz_wr_gi, pz_wr_gl, pz_wr_same, pz_wr_X]
      (try simp (disch := omega) only [nI_clamp, pz_in_nI2, pz_in_nI2L, pv_gt, nI_add, nI_addL, nI_Ladd, pk_mul, nI_mulL, nI_Lmul, pk_sub, nI_subL, nI_Lsub, nI_inc, nI_clampL, Nat.add_sub_cancel, pz_wi_else, pz_wl_else, vu_eq, vu_ne, pz_wi_gc, pz_wi_ga, pz_wi_gn, pz_wi_gl, pz_wi_gr, pz_wi_same, pz_wi_X, pz_wl_gc, pz_wl_ga, pz_wl_gn, pz_wl_gi, pz_wl_gr, pz_wl_same, pz_wl_X, pz_wr_gc, pz_wr_ga, pz_wr_gn, pz_wr_gi, pz_wr_gl, pz_wr_same, pz_wr_X])
      refine po_go ?_
      refine pw_blk (mi := mz_150) (b := bz_150_21) rfl rfl ?_
      simp only [bz_150_21, pz_cut_t, pz_cut_f, pz_cut_n, pv_gt, pv_ts, pv_tn, ev_ild1, ev_ifge, pz_wi_gc, pz_wi_ga, pz_wi_gn, pz_wi_gl, pz_wi_gr, pz_wi_same, pz_wi_X, pz_wl_gc, pz_wl_ga, pz_wl_gn, pz_wl_gi, pz_wl_gr, pz_wl_same, pz_wl_X, pz_wr_gc, pz_wr_ga, pz_wr_gn, pz_wr_gi, pz_wr_gl, pz_wr_same, pz_wr_X]
      (try simp (disch := omega) only [nI_clamp, pz_in_nI2, pz_in_nI2L, pv_gt, nI_add, nI_addL, nI_Ladd, pk_mul, nI_mulL, nI_Lmul, pk_sub, nI_subL, nI_Lsub, nI_inc, nI_clampL, Nat.add_sub_cancel, pz_wi_else, pz_wl_else, vu_eq, vu_ne, pz_wi_gc, pz_wi_ga, pz_wi_gn, pz_wi_gl, pz_wi_gr, pz_wi_same, pz_wi_X, pz_wl_gc, pz_wl_ga, pz_wl_gn, pz_wl_gi, pz_wl_gr, pz_wl_same, pz_wl_X, pz_wr_gc, pz_wr_ga, pz_wr_gn, pz_wr_gi, pz_wr_gl, pz_wr_same, pz_wr_X])
      refine po_brP (fun q21 => ?_) (fun q21 => ?_)
      · first
        | exact absurd q21 (by decide)
        | exact absurd trivial q21
        | exact q21.elim
        | (exfalso; (try simp (disch := omega) only [nI_ltI, nI_leI, nI_eq, nI_ltL, nI_leL, nI_eqL, nI_Llt, nI_Lle, nI_Leq, nI_eqm, nI_meq, nI_ltm, nI_lem, nI_mlt, nI_mle, lg0, lgl, lgg, lgle, lgge, Int32.not_lt, Int32.not_le, Int64.not_lt, Int64.not_le, not_false_eq_true, not_true_eq_false, Decidable.not_not, ge_iff_le, gt_iff_lt] at q21) <;> omega)
        | exact absurd q21 (by with_reducible assumption)
        | exact absurd (by with_reducible assumption) q21
        | exact absurd (Decidable.not_not.mp q21) (by with_reducible assumption)
        | exact absurd (by with_reducible assumption) (Int32.not_le.mpr q21)
        | exact absurd (by with_reducible assumption) (Int32.not_lt.mpr q21)
      · skip
        (try simp (disch := omega) only [nI_ltI, nI_leI, nI_eq, nI_ltL, nI_leL, nI_eqL, nI_Llt, nI_Lle, nI_Leq, nI_eqm, nI_meq, nI_ltm, nI_lem, nI_mlt, nI_mle, lg0, lgl, lgg, lgle, lgge, Int32.not_lt, Int32.not_le, Int64.not_lt, Int64.not_le, not_false_eq_true, not_true_eq_false, Decidable.not_not, ge_iff_le, gt_iff_lt] at q21)
        refine pw_blk (mi := mz_150) (b := bz_150_25) rfl rfl ?_
        simp only [bz_150_25, pz_cut_t, pz_cut_f, pz_cut_n, pv_gt, pv_ts, pv_tn, ev_ic0, ev_goto, pz_wi_gc, pz_wi_ga, pz_wi_gn, pz_wi_gl, pz_wi_gr, pz_wi_same, pz_wi_X, pz_wl_gc, pz_wl_ga, pz_wl_gn, pz_wl_gi, pz_wl_gr, pz_wl_same, pz_wl_X, pz_wr_gc, pz_wr_ga, pz_wr_gn, pz_wr_gi, pz_wr_gl, pz_wr_same, pz_wr_X]
        (try simp (disch := omega) only [nI_clamp, pz_in_nI2, pz_in_nI2L, pv_gt, nI_add, nI_addL, nI_Ladd, pk_mul, nI_mulL, nI_Lmul, pk_sub, nI_subL, nI_Lsub, nI_inc, nI_clampL, Nat.add_sub_cancel, pz_wi_else, pz_wl_else, vu_eq, vu_ne, pz_wi_gc, pz_wi_ga, pz_wi_gn, pz_wi_gl, pz_wi_gr, pz_wi_same, pz_wi_X, pz_wl_gc, pz_wl_ga, pz_wl_gn, pz_wl_gi, pz_wl_gr, pz_wl_same, pz_wl_X, pz_wr_gc, pz_wr_ga, pz_wr_gn, pz_wr_gi, pz_wr_gl, pz_wr_same, pz_wr_X])
        refine po_go ?_
        refine pw_blk (mi := mz_150) (b := bz_150_30) rfl rfl ?_
        simp only [bz_150_30, pz_cut_t, pz_cut_f, pz_cut_n, pv_gt, pv_ts, pv_tn, ev_iret0, pz_wi_gc, pz_wi_ga, pz_wi_gn, pz_wi_gl, pz_wi_gr, pz_wi_same, pz_wi_X, pz_wl_gc, pz_wl_ga, pz_wl_gn, pz_wl_gi, pz_wl_gr, pz_wl_same, pz_wl_X, pz_wr_gc, pz_wr_ga, pz_wr_gn, pz_wr_gi, pz_wr_gl, pz_wr_same, pz_wr_X]
        (try simp (disch := omega) only [nI_clamp, pz_in_nI2, pz_in_nI2L, pv_gt, nI_add, nI_addL, nI_Ladd, pk_mul, nI_mulL, nI_Lmul, pk_sub, nI_subL, nI_Lsub, nI_inc, nI_clampL, Nat.add_sub_cancel, pz_wi_else, pz_wl_else, vu_eq, vu_ne, pz_wi_gc, pz_wi_ga, pz_wi_gn, pz_wi_gl, pz_wi_gr, pz_wi_same, pz_wi_X, pz_wl_gc, pz_wl_ga, pz_wl_gn, pz_wl_gi, pz_wl_gr, pz_wl_same, pz_wl_X, pz_wr_gc, pz_wr_ga, pz_wr_gn, pz_wr_gi, pz_wr_gl, pz_wr_same, pz_wr_X])
        refine po_ret ?_
        rw [if_pos hp] at K
        refine K M2 ((s1.mono (by simp)).tr s2 (by simp)) ?_ ?_ ?_
        · rw [g0, e1, hy, nI_1]
        · rw [DyE.nx0 hp]
          unfold isTR
          rw [fdT_1, fdT_2, fdT_3, g1, g2, s2.i (by simp), s1.i (by simp), s1.i (by simp), s1.i (by simp), hT.1, hT.2.1, hT.2.2]
          exact ⟨rfl, rfl, rfl⟩
        · rw [g3, s1.i (by simp)]
  · obtain ⟨v1, v2, v3, v4⟩ := hpl q hq
    obtain ⟨w1, w2, w3, w4⟩ := hpp q hq
    refine pm_ent (L := [some (.ref 120), none]) rfl (Nat.le_of_ble_eq_true rfl) ?_
    refine pw_blk (mi := mz_150) (b := bz_150_0) rfl rfl ?_
    simp only [bz_150_0, pz_cut_t, pz_cut_f, pz_cut_n, pv_gt, pv_ts, pv_tn, ev_ald0, ev_eld0, ev_cv0_11, pz_wi_gc, pz_wi_ga, pz_wi_gn, pz_wi_gl, pz_wi_gr, pz_wi_same, pz_wi_X, pz_wl_gc, pz_wl_ga, pz_wl_gn, pz_wl_gi, pz_wl_gr, pz_wl_same, pz_wl_X, pz_wr_gc, pz_wr_ga, pz_wr_gn, pz_wr_gi, pz_wr_gl, pz_wr_same, pz_wr_X, so_120 hS]
    (try simp (disch := omega) only [nI_clamp, pz_in_nI2, pz_in_nI2L, pv_gt, nI_add, nI_addL, nI_Ladd, pk_mul, nI_mulL, nI_Lmul, pk_sub, nI_subL, nI_Lsub, nI_inc, nI_clampL, Nat.add_sub_cancel, pz_wi_else, pz_wl_else, vu_eq, vu_ne, pz_wi_gc, pz_wi_ga, pz_wi_gn, pz_wi_gl, pz_wi_gr, pz_wi_same, pz_wi_X, pz_wl_gc, pz_wl_ga, pz_wl_gn, pz_wl_gi, pz_wl_gr, pz_wl_same, pz_wl_X, pz_wr_gc, pz_wr_ga, pz_wr_gn, pz_wr_gi, pz_wr_gl, pz_wr_same, pz_wr_X])
    (try refine po_gP (Nat.le_of_ble_eq_true rfl) ?_)
    refine po_call (by omega) (r_rule (by omega) hS hO hnb hT.1 hT.2.1 hy xd2 xd3 hcu hB xr2 hn6 hR (fun M1 s1 => ?_))
    rw [pv, hp]
    obtain ⟨hS1, hO1, hbk1, hnb1, e1⟩ := fr1 M1 s1
    refine pw_blk (mi := mz_150) (b := bz_150_4) rfl rfl ?_
    simp only [bz_150_4, pz_cut_t, pz_cut_f, pz_cut_n, pv_gt, pv_ts, pv_tn, ev_ist1n, ev_ist1i, ev_ist1r, ev_ist1e, ev_ist1l, ev_ild1, ev_ifge, pz_wi_gc, pz_wi_ga, pz_wi_gn, pz_wi_gl, pz_wi_gr, pz_wi_same, pz_wi_X, pz_wl_gc, pz_wl_ga, pz_wl_gn, pz_wl_gi, pz_wl_gr, pz_wl_same, pz_wl_X, pz_wr_gc, pz_wr_ga, pz_wr_gn, pz_wr_gi, pz_wr_gl, pz_wr_same, pz_wr_X]
    (try simp (disch := omega) only [nI_clamp, pz_in_nI2, pz_in_nI2L, pv_gt, nI_add, nI_addL, nI_Ladd, pk_mul, nI_mulL, nI_Lmul, pk_sub, nI_subL, nI_Lsub, nI_inc, nI_clampL, Nat.add_sub_cancel, pz_wi_else, pz_wl_else, vu_eq, vu_ne, pz_wi_gc, pz_wi_ga, pz_wi_gn, pz_wi_gl, pz_wi_gr, pz_wi_same, pz_wi_X, pz_wl_gc, pz_wl_ga, pz_wl_gn, pz_wl_gi, pz_wl_gr, pz_wl_same, pz_wl_X, pz_wr_gc, pz_wr_ga, pz_wr_gn, pz_wr_gi, pz_wr_gl, pz_wr_same, pz_wr_X])
    refine po_brP (fun q4 => ?_) (fun q4 => ?_)
    · skip
      (try simp (disch := omega) only [nI_ltI, nI_leI, nI_eq, nI_ltL, nI_leL, nI_eqL, nI_Llt, nI_Lle, nI_Leq, nI_eqm, nI_meq, nI_ltm, nI_lem, nI_mlt, nI_mle, lg0, lgl, lgg, lgle, lgge, Int32.not_lt, Int32.not_le, Int64.not_lt, Int64.not_le, not_false_eq_true, not_true_eq_false, Decidable.not_not, ge_iff_le, gt_iff_lt] at q4)
      refine pw_blk (mi := mz_150) (b := bz_150_16) rfl rfl ?_
      simp only [bz_150_16, pz_cut_t, pz_cut_f, pz_cut_n, pv_gt, pv_ts, pv_tn, ev_ald0, ev_eld0, ev_ild1, ev_cv1_11, pz_wi_gc, pz_wi_ga, pz_wi_gn, pz_wi_gl, pz_wi_gr, pz_wi_same, pz_wi_X, pz_wl_gc, pz_wl_ga, pz_wl_gn, pz_wl_gi, pz_wl_gr, pz_wl_same, pz_wl_X, pz_wr_gc, pz_wr_ga, pz_wr_gn, pz_wr_gi, pz_wr_gl, pz_wr_same, pz_wr_X, so_120 hS, so_120 hS1]
      (try simp (disch := omega) only [nI_clamp, pz_in_nI2, pz_in_nI2L, pv_gt, nI_add, nI_addL, nI_Ladd, pk_mul, nI_mulL, nI_Lmul, pk_sub, nI_subL, nI_Lsub, nI_inc, nI_clampL, Nat.add_sub_cancel, pz_wi_else, pz_wl_else, vu_eq, vu_ne, pz_wi_gc, pz_wi_ga, pz_wi_gn, pz_wi_gl, pz_wi_gr, pz_wi_same, pz_wi_X, pz_wl_gc, pz_wl_ga, pz_wl_gn, pz_wl_gi, pz_wl_gr, pz_wl_same, pz_wl_X, pz_wr_gc, pz_wr_ga, pz_wr_gn, pz_wr_gi, pz_wr_gl, pz_wr_same, pz_wr_X, so_120 hS1])
      (try refine po_gP (Nat.le_of_ble_eq_true rfl) ?_)
      refine po_call (by omega) (r_doPlan (by omega) hS1 hO1 hbk1 hnb1 hB (hT.sm s1 (by decide) (by decide) (by decide)) (hu (by omega)) (by rw [e1]; exact hy) hy2 (by omega) (by rw [s1.i (by decide)]; exact v1) (by rw [s1.i (by decide)]; exact v2) (by rw [s1.i (by decide)]; exact v3) (by rw [s1.i (by decide)]; exact v4) (by omega) w3 w4 w1 (g := X.g) (f := X.f) (by rw [s1.i (by decide)]; exact l0) (by rw [s1.i (by decide)]; exact l1) (fun M2 s2 f0 t2 f3 => ?_))
      refine pw_blk (mi := mz_150) (b := bz_150_21) rfl rfl ?_
      simp only [bz_150_21, pz_cut_t, pz_cut_f, pz_cut_n, pv_gt, pv_ts, pv_tn, ev_ild1, ev_ifge, pz_wi_gc, pz_wi_ga, pz_wi_gn, pz_wi_gl, pz_wi_gr, pz_wi_same, pz_wi_X, pz_wl_gc, pz_wl_ga, pz_wl_gn, pz_wl_gi, pz_wl_gr, pz_wl_same, pz_wl_X, pz_wr_gc, pz_wr_ga, pz_wr_gn, pz_wr_gi, pz_wr_gl, pz_wr_same, pz_wr_X]
      (try simp (disch := omega) only [nI_clamp, pz_in_nI2, pz_in_nI2L, pv_gt, nI_add, nI_addL, nI_Ladd, pk_mul, nI_mulL, nI_Lmul, pk_sub, nI_subL, nI_Lsub, nI_inc, nI_clampL, Nat.add_sub_cancel, pz_wi_else, pz_wl_else, vu_eq, vu_ne, pz_wi_gc, pz_wi_ga, pz_wi_gn, pz_wi_gl, pz_wi_gr, pz_wi_same, pz_wi_X, pz_wl_gc, pz_wl_ga, pz_wl_gn, pz_wl_gi, pz_wl_gr, pz_wl_same, pz_wl_X, pz_wr_gc, pz_wr_ga, pz_wr_gn, pz_wr_gi, pz_wr_gl, pz_wr_same, pz_wr_X])
      refine po_brP (fun q21 => ?_) (fun q21 => ?_)
      · skip
        (try simp (disch := omega) only [nI_ltI, nI_leI, nI_eq, nI_ltL, nI_leL, nI_eqL, nI_Llt, nI_Lle, nI_Leq, nI_eqm, nI_meq, nI_ltm, nI_lem, nI_mlt, nI_mle, lg0, lgl, lgg, lgle, lgge, Int32.not_lt, Int32.not_le, Int64.not_lt, Int64.not_le, not_false_eq_true, not_true_eq_false, Decidable.not_not, ge_iff_le, gt_iff_lt] at q21)
        refine pw_blk (mi := mz_150) (b := bz_150_29) rfl rfl ?_
        simp only [bz_150_29, pz_cut_t, pz_cut_f, pz_cut_n, pv_gt, pv_ts, pv_tn, ev_ic1, ev_nil, pz_wi_gc, pz_wi_ga, pz_wi_gn, pz_wi_gl, pz_wi_gr, pz_wi_same, pz_wi_X, pz_wl_gc, pz_wl_ga, pz_wl_gn, pz_wl_gi, pz_wl_gr, pz_wl_same, pz_wl_X, pz_wr_gc, pz_wr_ga, pz_wr_gn, pz_wr_gi, pz_wr_gl, pz_wr_same, pz_wr_X]
        (try simp (disch := omega) only [nI_clamp, pz_in_nI2, pz_in_nI2L, pv_gt, nI_add, nI_addL, nI_Ladd, pk_mul, nI_mulL, nI_Lmul, pk_sub, nI_subL, nI_Lsub, nI_inc, nI_clampL, Nat.add_sub_cancel, pz_wi_else, pz_wl_else, vu_eq, vu_ne, pz_wi_gc, pz_wi_ga, pz_wi_gn, pz_wi_gl, pz_wi_gr, pz_wi_same, pz_wi_X, pz_wl_gc, pz_wl_ga, pz_wl_gn, pz_wl_gi, pz_wl_gr, pz_wl_same, pz_wl_X, pz_wr_gc, pz_wr_ga, pz_wr_gn, pz_wr_gi, pz_wr_gl, pz_wr_same, pz_wr_X])
        refine po_go ?_
        refine pw_blk (mi := mz_150) (b := bz_150_30) rfl rfl ?_
        simp only [bz_150_30, pz_cut_t, pz_cut_f, pz_cut_n, pv_gt, pv_ts, pv_tn, ev_iret0, pz_wi_gc, pz_wi_ga, pz_wi_gn, pz_wi_gl, pz_wi_gr, pz_wi_same, pz_wi_X, pz_wl_gc, pz_wl_ga, pz_wl_gn, pz_wl_gi, pz_wl_gr, pz_wl_same, pz_wl_X, pz_wr_gc, pz_wr_ga, pz_wr_gn, pz_wr_gi, pz_wr_gl, pz_wr_same, pz_wr_X]
        (try simp (disch := omega) only [nI_clamp, pz_in_nI2, pz_in_nI2L, pv_gt, nI_add, nI_addL, nI_Ladd, pk_mul, nI_mulL, nI_Lmul, pk_sub, nI_subL, nI_Lsub, nI_inc, nI_clampL, Nat.add_sub_cancel, pz_wi_else, pz_wl_else, vu_eq, vu_ne, pz_wi_gc, pz_wi_ga, pz_wi_gn, pz_wi_gl, pz_wi_gr, pz_wi_same, pz_wi_X, pz_wl_gc, pz_wl_ga, pz_wl_gn, pz_wl_gi, pz_wl_gr, pz_wl_same, pz_wl_X, pz_wr_gc, pz_wr_ga, pz_wr_gn, pz_wr_gi, pz_wr_gl, pz_wr_same, pz_wr_X])
        refine po_ret ?_
        rw [if_neg (fun z => by rw [hp] at z; exact (nI_eqm (by omega)).mp z)] at K
        refine K M2 ((s1.mono (by simp)).tr s2 (by simp)) ?_ ?_ ?_
        · rw [f0, e1]
        · rw [DyE.nx1 (by omega) hp]
          exact t2
        · rw [f3, s1.i (by simp)]
      · first
        | exact absurd q21 (by decide)
        | exact absurd trivial q21
        | exact q21.elim
        | (exfalso; (try simp (disch := omega) only [nI_ltI, nI_leI, nI_eq, nI_ltL, nI_leL, nI_eqL, nI_Llt, nI_Lle, nI_Leq, nI_eqm, nI_meq, nI_ltm, nI_lem, nI_mlt, nI_mle, lg0, lgl, lgg, lgle, lgge, Int32.not_lt, Int32.not_le, Int64.not_lt, Int64.not_le, not_false_eq_true, not_true_eq_false, Decidable.not_not, ge_iff_le, gt_iff_lt] at q21) <;> omega)
        | exact absurd q21 (by with_reducible assumption)
        | exact absurd (by with_reducible assumption) q21
        | exact absurd (Decidable.not_not.mp q21) (by with_reducible assumption)
        | exact absurd (by with_reducible assumption) (Int32.not_le.mpr q21)
        | exact absurd (by with_reducible assumption) (Int32.not_lt.mpr q21)
    · first
      | exact absurd q4 (by decide)
      | exact absurd trivial q4
      | exact q4.elim
      | (exfalso; (try simp (disch := omega) only [nI_ltI, nI_leI, nI_eq, nI_ltL, nI_leL, nI_eqL, nI_Llt, nI_Lle, nI_Leq, nI_eqm, nI_meq, nI_ltm, nI_lem, nI_mlt, nI_mle, lg0, lgl, lgg, lgle, lgge, Int32.not_lt, Int32.not_le, Int64.not_lt, Int64.not_le, not_false_eq_true, not_true_eq_false, Decidable.not_not, ge_iff_le, gt_iff_lt] at q4) <;> omega)
      | exact absurd q4 (by with_reducible assumption)
      | exact absurd (by with_reducible assumption) q4
      | exact absurd (Decidable.not_not.mp q4) (by with_reducible assumption)
      | exact absurd (by with_reducible assumption) (Int32.not_le.mpr q4)
      | exact absurd (by with_reducible assumption) (Int32.not_lt.mpr q4)
theorem DyE.nx_r {X : DyE} {N : Nat} (hok : X.ok N) {R : Nat → T3} {y : Int32} (h : ∀ i, rT (R i)) : ∀ i, rT (X.nx R y i) := by
  obtain ⟨-, -, -, -, -, g, f, hg, hf, eg, ef⟩ := hok
  unfold DyE.nx DyE.pn
  rw [eg, ef]
  split
  · exact rT.fd h hf
  · exact rT.fd (rT.map h (fun x hx => plT_rT hg x hx)) hf
theorem DyE.nx_u {X : DyE} {R : Nat → T3} {y : Int32} (hy : 0 ≤ y) (h : okT R) : okT (X.nx R y) := by
  unfold DyE.nx DyE.pn
  split
  · exact okT.fd h
  · exact okT.fd (h.map (fun x hx => plT_un hy x hx))
theorem DyE.nx_hi {X : DyE} {N : Nat} (hok : X.ok N) {R : Nat → T3} {y : Int32} (hp : X.p R y = -1 ∨ ∃ q, q < N ∧ X.p R y = nI q) {i : Nat} (hi : 24 ≤ i) : X.nx R y i = R i := by
  have hB := hok.1
  rcases hp with hp | ⟨q, hq, hp⟩
  · rw [DyE.nx0 hp, fdT_hi (by omega)]
  · have := (hok.2.2.2.2.1 q hq).2.1
    have := hok.2.2.1
    rw [DyE.nx1 (by omega) hp]
    unfold DyE.pn
    rw [fdT_hi (by omega), mapR_hi (by omega)]
def eq12 (R R' : Nat → T3) : Prop := (fun i => (R i).1) = (fun i => (R' i).1) ∧ (fun i => (R i).2.1) = (fun i => (R' i).2.1)
theorem eq12.at {R R' : Nat → T3} (h : eq12 R R') (i : Nat) : (R i).1 = (R' i).1 ∧ (R i).2.1 = (R' i).2.1 := ⟨congrFun h.1 i, congrFun h.2 i⟩
theorem eq12.of {R R' : Nat → T3} (h : ∀ i, (R i).1 = (R' i).1 ∧ (R i).2.1 = (R' i).2.1) : eq12 R R' := ⟨funext fun i => (h i).1, funext fun i => (h i).2⟩
theorem eq12.fd {R R' : Nat → T3} {f : Int32} {n N : Nat} (h : eq12 R R') : eq12 (fdT f n N R) (fdT f n N R') := eq12.of fun i => by
  unfold fdT
  split
  · exact ⟨by rw [(h.at i).1], by rw [(h.at i).2]⟩
  · exact h.at i
theorem itT_12 {φ : T3 → T3} (hf : ∀ x x' : T3, x.1 = x'.1 → x.2.1 = x'.2.1 → (φ x).1 = (φ x').1 ∧ (φ x).2.1 = (φ x').2.1) : ∀ n (x x' : T3), x.1 = x'.1 → x.2.1 = x'.2.1 → (itT φ n x).1 = (itT φ n x').1 ∧ (itT φ n x).2.1 = (itT φ n x').2.1
  | 0, _, _, h1, h2 => ⟨h1, h2⟩
  | n + 1, x, x', h1, h2 => by
    have z := itT_12 hf n x x' h1 h2
    exact hf _ _ z.1 z.2
theorem plT_12 {g y : Int32} {t s : Nat} (x x' : T3) (h1 : x.1 = x'.1) (h2 : x.2.1 = x'.2.1) : (plT g y t s x).1 = (plT g y t s x').1 ∧ (plT g y t s x).2.1 = (plT g y t s x').2.1 := by
  have z := itT_12 (φ := gT g y) (fun x x' h1 h2 => ⟨by unfold gT; rw [h1], by unfold gT; exact h2⟩) t x x' h1 h2
  exact itT_12 (φ := sT g y) (fun x x' h1 h2 => ⟨by unfold sT gT; rw [h1], by unfold sT; rw [h2]⟩) s _ _ z.1 z.2
theorem eq12.nx {X : DyE} {R R' : Nat → T3} {y : Int32} (h : eq12 R R') : X.p R y = X.p R' y ∧ eq12 (X.nx R y) (X.nx R' y) := by
  have e : X.p R y = X.p R' y := by
    unfold DyE.p
    rw [h.1, h.2]
  refine ⟨e, ?_⟩
  unfold DyE.nx
  rw [e]
  split
  · exact h.fd
  · unfold DyE.pn
    refine eq12.fd (eq12.of fun i => ?_)
    unfold mapR
    split
    · exact plT_12 _ _ (h.at i).1 (h.at i).2
    · exact h.at i
theorem eq12.ats {X : DyE} {R R' : Nat → T3} {y : Nat} (h : eq12 R R') : ∀ k, eq12 (X.at R y k) (X.at R' y k) ∧ X.dn R y k = X.dn R' y k
  | 0 => ⟨h, rfl⟩
  | k + 1 => by
    obtain ⟨z1, z2⟩ := eq12.ats h k
    have z3 := z1.nx (X := X) (y := nI (y + k))
    refine ⟨z3.2, ?_⟩
    show X.dn R y k + _ = X.dn R' y k + _
    rw [z2, z3.1]
end DAYR
