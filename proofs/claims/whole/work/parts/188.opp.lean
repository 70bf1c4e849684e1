/-! ===== piece ===== -/
section OPP
variable {d : Nat} {M M' : pz_M} {Q : Option Value × pz_M → Prop} {T : Nat → Nat} {L : Nat} {b : Nat}
def pfK : List Nat := [120, 122, 123, 124, 125, 126, 127, 128, 129, 130, 131, 132, 133, 134, 135, 136, 137, 138, 139, 140, 141, 142, 143, 144, 145, 146, 147, 148]
/-- what reading leaves alone, from the call on -/
def pfr (M M' : pz_M) (b : Nat) : Prop := sm pfK M M' ∧ (∀ j, j ≠ 2 → j ≠ 3 → j ≠ 4 → j ≠ 5 → j ≠ 6 → j ≠ 7 → j ≠ 8 → j ≠ 9 → j ≠ 11 → j ≠ 39 → gi M' 120 j = gi M 120 j) ∧ ∀ q, q ∈ WL → ∀ i, i / q.2 ≠ b → gi M' q.1 i = gi M q.1 i ∧ gl M' q.1 i = gl M q.1 i
theorem pfr.bf {M'' : pz_M} (a : pfr M M' b) (e : bfr M' M'' b) : pfr M M'' b := ⟨a.1.tr e.1 (by decide), fun j h2 h3 h4 h5 h6 h7 h8 h9 h11 h39 => (e.2.1 j h4 h5 h6 h7 h8 h9).trans (a.2.1 j h2 h3 h4 h5 h6 h7 h8 h9 h11 h39), fun q hq i hi => ⟨(e.2.2 q hq i hi).1.trans (a.2.2 q hq i hi).1, (e.2.2 q hq i hi).2.trans (a.2.2 q hq i hi).2⟩⟩
theorem WL_122 : ∀ q, q ∈ WL → q.1 ≠ 122 := by decide
theorem pfr.tp (s : sm [120, 122] M M') (h : ∀ j, j ≠ 2 → j ≠ 3 → j ≠ 4 → j ≠ 5 → j ≠ 7 → j ≠ 11 → gi M' 120 j = gi M 120 j) : pfr M M' b := ⟨s.mono (by decide), fun j h2 h3 h4 h5 _ h7 _ _ h11 _ => h j h2 h3 h4 h5 h7 h11, fun q hq i _ => ⟨by rw [s.i (by simp; exact ⟨(WL_ne q hq).1, WL_122 q hq⟩)], by rw [s.l (by simp; exact ⟨(WL_ne q hq).1, WL_122 q hq⟩)]⟩⟩
theorem pfr.w39 {v : Int32} (a : pfr M M' b) : pfr M (pz_wi M' 120 (va_up (gi M' 120) 39 v)) b := ⟨sm.wi a.1 (by decide), fun j h2 h3 h4 h5 h6 h7 h8 h9 h11 h39 => by rw [pz_wi_same, vu_ne h39]; exact a.2.1 j h2 h3 h4 h5 h6 h7 h8 h9 h11 h39, fun q hq i hi => ⟨by rw [pz_wi_else (WL_ne q hq).1]; exact (a.2.2 q hq i hi).1, by rw [pz_wi_gl]; exact (a.2.2 q hq i hi).2⟩⟩
theorem r_piece {r : Nat} (hd : 40 ≤ d) (hS : SH M) (hr : r ≤ 1) (e38 : gi M 120 38 = nI r) (eL : gi M 120 2 = nI L) (hL : L ≤ 1500) (hb : ∀ i, i < L → gi M 121 i = sb_b (T i) ∧ T i < 256) (hx : ∃ Mx, txC Mx false T L) (k0 : ∀ f, (pS false T L 1500 (nxF false T L (.inr tk0)) scE).1 = .inl f → ∀ M', pfr M M' (1 - r) → SH M' → gi M' 120 2 = 0 → gi M' 120 4 = nI f.1 → gi M' 120 5 = nI f.2 → Q (some (.int (-1)), M')) (k1 : ∀ t, (pS false T L 1500 (nxF false T L (.inr tk0)) scE).1 = .inr t → ∀ M2 M', pfr M M2 (1 - r) → SH M2 → gi M2 120 2 = 0 → gi M2 120 4 = 0 → gi M2 120 5 = -1 → rsc M2 (1 - r) (pS false T L 1500 (nxF false T L (.inr tk0)) scE).2 → sm prK M2 M' → prN M2 M' (1 - r) (pS false T L 1500 (nxF false T L (.inr tk0)) scE).2 → Q (some (.int (nI (pS false T L 1500 (nxF false T L (.inr tk0)) scE).2.B)), M')) : pm d 8 [.ref 120] M Q := by
  have hT : ∀ i, i < L → T i < 256 := fun i hi => (hb i hi).2
  have hO := nxS_ok (ru := false) (T := T) (L := L) (t := tk0) ⟨Nat.zero_le _, Nat.zero_le _, by decide, fun z => absurd z (by decide), fun z => absurd z (by decide), fun z => absurd z (by decide), fun z => absurd z (by decide)⟩ hT
  have hen := nxt_en (ru := false) (T := T) (L := L) (p := 0)
  have hP := nxt_P (ru := false) (T := T) (L := L) (p := 0)
  have body : ∀ M3, SH M3 → pfr M M3 (1 - r) → gi M3 120 2 = 0 → txR M3 false T L → gi M3 120 4 = 0 → gi M3 120 5 = -1 → gi M3 120 39 = nI (1 - r) → rsc M3 (1 - r) scE → rTk M3 (nxt false T L 0) → pw d 8 (23, [some (.ref 120), none], [], M3) Q := by
    intro M3 hS3 f3 g2 x3 g4 g5 g39 sc3 tk
    have st : rSt M3 false T L (nxF false T L (.inr tk0)) := by
      refine ⟨x3, hO, ?_⟩
      show (match nxS false T L tk0 with | .inl f => (gi M3 120 4 = nI f.1 ∧ gi M3 120 5 = nI f.2 ∧ ∃ p, p ≤ L ∧ gi M3 120 6 = nI p) ∨ (f.1 = 1 ∧ gi M3 120 4 = 0 ∧ gi M3 120 5 = -1 ∧ gi M3 120 8 = 1 ∧ gi M3 120 6 = nI f.2) | .inr t => gi M3 120 4 = 0 ∧ gi M3 120 5 = -1 ∧ rTk M3 t ∧ tkP T L t)
      by_cases z : (nxt false T L 0).1 = 1
      · rw [show nxS false T L tk0 = .inl (1, (nxt false T L 0).2.2.2.1) from if_pos z]
        refine Or.inr ⟨rfl, g4, g5, ?_, tk.1⟩
        rw [tk.2.2.1, z]
        rfl
      · rw [show nxS false T L tk0 = .inr (nxt false T L 0) from if_neg z]
        exact ⟨g4, g5, tk, hP⟩
    refine r_lines (R := pS false T L 1500 (nxF false T L (.inr tk0)) scE) (b := 1 - r) (by omega) (by omega) hS3 hL hx g39 (fun f ef M4 f4 hS4 h4 h5 => ?_) (fun t ef o M4 f4 hS4 h4 h5 x4 => ?_) 1500 0 M3 _ scE rfl bfr.rf st (fun _ => ⟨sc3, scE_ok⟩) (fun t et => ?_) rfl
    · exact k0 f ef M4 (f3.bf f4) hS4 (by rw [f4.2.1 2 (by decide) (by decide) (by decide) (by decide) (by decide) (by decide)]; exact g2) h4 h5
    · have g39' : gi M4 120 39 = nI (1 - r) := by rw [f4.2.1 39 (by decide) (by decide) (by decide) (by decide) (by decide) (by decide)]; exact g39
      have g2' : gi M4 120 2 = 0 := by rw [f4.2.1 2 (by decide) (by decide) (by decide) (by decide) (by decide) (by decide)]; exact g2
      exact l_pieceRest (by omega) hS4 (by omega) g39' x4 (fun M5 s5 n5 => k1 t ef M4 M5 (f3.bf f4) hS4 g2' h4 h5 x4 s5 n5)
    · have et2 : nxS false T L tk0 = .inr t := et
      unfold nxS at et2
      split at et2
      · cases et2
      · injection et2 with et2
        subst et2
        rcases hen.2 with z | z
        · exact Or.inl z
        · exact Or.inr (by show 0 + 1 ≤ (nxt false T L 0).2.2.2.2; omega)
  have tak : pm (d - 1) 103 [.ref 120, .int 0] M (fun r1 => r1.1 = none ∧ sm [120, 122] M r1.2 ∧ (∀ j, j ≠ 2 → j ≠ 3 → j ≠ 4 → j ≠ 5 → j ≠ 7 → j ≠ 11 → gi r1.2 120 j = gi M 120 j) ∧ gi r1.2 120 2 = 0 ∧ txR r1.2 false T L ∧ gi r1.2 120 4 = 0 ∧ gi r1.2 120 5 = -1 ∧ gi r1.2 120 7 = 0) := r_takeTape (ru := false) hS eL hL hb (fun M' a1 a2 a3 a4 a5 a6 a7 => ⟨rfl, a1, a2, a3, a4, a5, a6, a7⟩)
  refine pm_ent (L := [some (.ref 120), none]) rfl (Nat.le_of_ble_eq_true rfl) ?_
  refine pw_blk (mi := mz_8) (b := bz_8_0) rfl rfl ?_
  simp only [bz_8_0, pz_cut_t, pz_cut_f, pz_cut_n, pv_gt, pv_ts, pv_tn, ev_ald0, ev_eld0, ev_ic0, ev_cv1_11, pz_wi_gc, pz_wi_ga, pz_wi_gn, pz_wi_gl, pz_wi_gr, pz_wi_same, pz_wi_X, pz_wl_gc, pz_wl_ga, pz_wl_gn, pz_wl_gi, pz_wl_gr, pz_wl_same, pz_wl_X, pz_wr_gc, pz_wr_ga, pz_wr_gn, pz_wr_gi, pz_wr_gl, pz_wr_same, pz_wr_X, so_120 hS]
  (try simp (disch := omega) only [nI_clamp, pz_in_nI2, pz_in_nI2L, pv_gt, nI_add, nI_addL, nI_Ladd, pk_mul, nI_mulL, nI_Lmul, pk_sub, nI_subL, nI_Lsub, nI_inc, nI_clampL, Nat.add_sub_cancel, pz_wi_else, pz_wl_else, vu_eq, vu_ne, pz_wi_gc, pz_wi_ga, pz_wi_gn, pz_wi_gl, pz_wi_gr, pz_wi_same, pz_wi_X, pz_wl_gc, pz_wl_ga, pz_wl_gn, pz_wl_gi, pz_wl_gr, pz_wl_same, pz_wl_X, pz_wr_gc, pz_wr_ga, pz_wr_gn, pz_wr_gi, pz_wr_gl, pz_wr_same, pz_wr_X])
  (try refine po_gP (Nat.le_of_ble_eq_true rfl) ?_)
  refine po_call (by omega) (pm_mono tak (fun r1 hr1 => ?_))
  obtain ⟨v1, M1⟩ := r1
  obtain ⟨h1, s1, h2, h3, x1, h4, h5, h7⟩ := hr1
  simp only at h1 s1 h2 h3 x1 h4 h5 h7
  subst h1
  have hS1 := hS.sm s1
  have e38' : gi M1 120 38 = nI r := by rw [h2 38 (by decide) (by decide) (by decide) (by decide) (by decide) (by decide)]; exact e38
  obtain ⟨Ma, hMa⟩ : ∃ Ma, Ma = pz_wi M1 120 (va_up (gi M1 120) 39 (nI (1 - r))) := ⟨_, rfl⟩
  have fa : pfr M Ma (1 - r) := by rw [hMa]; exact (pfr.tp s1 h2).w39
  have sa : sm [120] M1 Ma := by rw [hMa]; exact sm.wi sm.rf (by decide)
  have ea : gi Ma 120 = va_up (gi M1 120) 39 (nI (1 - r)) := by rw [hMa, pz_wi_same]
  have hSa := hS1.sm sa
  refine pw_blk (mi := mz_8) (b := bz_8_5) rfl rfl ?_
  simp only [bz_8_5, pz_cut_t, pz_cut_f, pz_cut_n, pv_gt, pv_ts, pv_tn, ev_ald0, ev_eld0, ev_ic1, ev_gf11_0, ev_isub, ev_pf11_0, ev_cv0_11, pz_wi_gc, pz_wi_ga, pz_wi_gn, pz_wi_gl, pz_wi_gr, pz_wi_same, pz_wi_X, pz_wl_gc, pz_wl_ga, pz_wl_gn, pz_wl_gi, pz_wl_gr, pz_wl_same, pz_wl_X, pz_wr_gc, pz_wr_ga, pz_wr_gn, pz_wr_gi, pz_wr_gl, pz_wr_same, pz_wr_X, so_120 hS, so_120 hS1, e38']
  (try simp (disch := omega) only [nI_clamp, pz_in_nI2, pz_in_nI2L, pv_gt, nI_add, nI_addL, nI_Ladd, pk_mul, nI_mulL, nI_Lmul, pk_sub, nI_subL, nI_Lsub, nI_inc, nI_clampL, Nat.add_sub_cancel, pz_wi_else, pz_wl_else, vu_eq, vu_ne, pz_wi_gc, pz_wi_ga, pz_wi_gn, pz_wi_gl, pz_wi_gr, pz_wi_same, pz_wi_X, pz_wl_gc, pz_wl_ga, pz_wl_gn, pz_wl_gi, pz_wl_gr, pz_wl_same, pz_wl_X, pz_wr_gc, pz_wr_ga, pz_wr_gn, pz_wr_gi, pz_wr_gl, pz_wr_same, pz_wr_X, so_120 hS1, e38'])
  (try refine po_gP (Nat.le_of_ble_eq_true rfl) ?_)
  rw [← hMa]
  refine po_call (by omega) (r_clearBank (b := 1 - r) hSa (by omega) (by rw [ea, vu_eq]) (fun M2 f2 s2 x2 => ?_))
  have hS2 := hSa.sm s2
  have e2 : gi M2 120 = va_up (gi M1 120) 39 (nI (1 - r)) := by rw [s2.i (by decide), ea]
  have y2 : txR M2 false T L := (x1.fr sa (by decide) (by rw [ea, vu_ne (by decide)]) (by rw [ea, vu_ne (by decide)])).fr s2 (by decide) (by rw [s2.i (by decide)]) (by rw [s2.i (by decide)])
  refine pw_blk (mi := mz_8) (b := bz_8_19) rfl rfl ?_
  simp only [bz_8_19, pz_cut_t, pz_cut_f, pz_cut_n, pv_gt, pv_ts, pv_tn, ev_ald0, ev_eld0, ev_cv0_11, pz_wi_gc, pz_wi_ga, pz_wi_gn, pz_wi_gl, pz_wi_gr, pz_wi_same, pz_wi_X, pz_wl_gc, pz_wl_ga, pz_wl_gn, pz_wl_gi, pz_wl_gr, pz_wl_same, pz_wl_X, pz_wr_gc, pz_wr_ga, pz_wr_gn, pz_wr_gi, pz_wr_gl, pz_wr_same, pz_wr_X, so_120 hS, so_120 hS2]
  (try simp (disch := omega) only [nI_clamp, pz_in_nI2, pz_in_nI2L, pv_gt, nI_add, nI_addL, nI_Ladd, pk_mul, nI_mulL, nI_Lmul, pk_sub, nI_subL, nI_Lsub, nI_inc, nI_clampL, Nat.add_sub_cancel, pz_wi_else, pz_wl_else, vu_eq, vu_ne, pz_wi_gc, pz_wi_ga, pz_wi_gn, pz_wi_gl, pz_wi_gr, pz_wi_same, pz_wi_X, pz_wl_gc, pz_wl_ga, pz_wl_gn, pz_wl_gi, pz_wl_gr, pz_wl_same, pz_wl_X, pz_wr_gc, pz_wr_ga, pz_wr_gn, pz_wr_gi, pz_wr_gl, pz_wr_same, pz_wr_X, so_120 hS2])
  (try refine po_gP (Nat.le_of_ble_eq_true rfl) ?_)
  refine po_call (by omega) (r_goOn (p := 0) (by omega) y2 (Nat.zero_le _) (by rw [e2, vu_ne (by decide)]; exact h7) (fun M3 g3 t3 => ?_))
  refine body M3 (hS2.sm g3.1) ((fa.bf f2).bf (bfr.of g3.r)) ?_ (y2.go g3) ?_ ?_ ?_ (x2.r g3.r) t3
  · rw [g3.2 2 (by decide) (by decide) (by decide) (by decide), e2, vu_ne (by decide)]; exact h3
  · rw [g3.2 4 (by decide) (by decide) (by decide) (by decide), e2, vu_ne (by decide)]; exact h4
  · rw [g3.2 5 (by decide) (by decide) (by decide) (by decide), e2, vu_ne (by decide)]; exact h5
  · rw [g3.2 39 (by decide) (by decide) (by decide) (by decide), e2, vu_eq]
end OPP
