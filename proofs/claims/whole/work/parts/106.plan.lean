/-! ===== numbers that grow and fade ===== -/
section GROW
theorem nI_lit (n : Nat) : (OfNat.ofNat n : Int32) = nI (OfNat.ofNat n) := rfl
theorem f_grown_nI {a c : Nat} (ha : a ≤ 1000) (hc : c ≤ 1000) : f_grown (nI a) (nI c) = nI (a + (1000 - a) * c / 1000) := by
  have h1 : (1000 - a) * c ≤ 1000 * 1000 := Nat.mul_le_mul (by omega) hc
  unfold f_grown
  rw [show (1000 : Int32) = nI 1000 from rfl, pk_sub (by omega), pk_mul, pk_div (by omega) (by decide) (by decide), nI_add]
theorem f_grown_le {a c : Nat} (ha : a ≤ 1000) (hc : c ≤ 1000) : a + (1000 - a) * c / 1000 ≤ 1000 := by
  have h1 : (1000 - a) * c ≤ (1000 - a) * 1000 := Nat.mul_le_mul_left _ hc
  have h2 : (1000 - a) * c / 1000 ≤ 1000 - a := Nat.div_le_of_le_mul (by omega)
  omega
theorem f_fade_nI {a c : Nat} (ha : a ≤ 1000) (hc : c ≤ 1000) : f_fade (nI c) (nI a) = nI (a - a * c / 1000) := by
  have h1 : a * c ≤ 1000 * 1000 := Nat.mul_le_mul ha hc
  have h2 : a * c / 1000 ≤ a := Nat.div_le_of_le_mul (by have := Nat.mul_le_mul_left a hc; omega)
  unfold f_fade
  rw [show (1000 : Int32) = nI 1000 from rfl, pk_mul, pk_div (by omega) (by decide) (by decide), pk_sub h2]
def r1k (x : Int32) : Prop := ∃ a, a ≤ 1000 ∧ x = nI a
theorem r1k.grown {x : Int32} {c : Nat} (h : r1k x) (hc : c ≤ 1000) : r1k (f_grown x (nI c)) := by
  obtain ⟨a, ha, e⟩ := h
  exact ⟨_, f_grown_le ha hc, by rw [e, f_grown_nI ha hc]⟩
theorem r1k.fade {x : Int32} {c : Nat} (h : r1k x) (hc : c ≤ 1000) : r1k (f_fade (nI c) x) := by
  obtain ⟨a, ha, e⟩ := h
  exact ⟨a - a * c / 1000, by omega, by rw [e, f_fade_nI ha hc]⟩
theorem r1k.it {f : Int32 → Int32} (hf : ∀ x, r1k x → r1k (f x)) : ∀ n x, r1k x → r1k (it f n x)
  | 0, _, h => h
  | n + 1, x, h => r1k.it hf n _ (hf x h)
theorem it_s {f : Int32 → Int32} : ∀ n x, it f (n + 1) x = f (it f n x)
  | 0, _ => rfl
  | n + 1, x => it_s n (f x)
theorem half_nI {g : Nat} (h : g < 2 ^ 31) : nI g / 2 = nI (g / 2) := pk_div (d := 2) h (by decide) (by decide)
end GROW
section PLAN
variable {d : Nat} {M M' : pz_M} {Q : Option Value × pz_M → Prop}
def itT (φ : T3 → T3) : Nat → T3 → T3
  | 0, x => x
  | n + 1, x => φ (itT φ n x)
def plT (g y : Int32) (t s : Nat) (x : T3) : T3 := itT (sT g y) s (itT (gT g y) t x)
def fdT (f : Int32) (n N : Nat) (R : Nat → T3) : Nat → T3 := fun i => if i < N then (it (f_fade f) n (R i).1, it (f_fade f) n (R i).2.1, (R i).2.2) else R i
theorem fdT_1 {f : Int32} {n N : Nat} {R : Nat → T3} : (fun i => (fdT f n N R i).1) = rowF (it (f_fade f) n) N (fun i => (R i).1) := by
  funext i
  unfold fdT rowF
  split <;> rfl
theorem fdT_2 {f : Int32} {n N : Nat} {R : Nat → T3} : (fun i => (fdT f n N R i).2.1) = rowF (it (f_fade f) n) N (fun i => (R i).2.1) := by
  funext i
  unfold fdT rowF
  split <;> rfl
theorem fdT_3 {f : Int32} {n N : Nat} {R : Nat → T3} : (fun i => (fdT f n N R i).2.2) = (fun i => (R i).2.2) := by
  funext i
  unfold fdT
  split <;> rfl
theorem m_rest (hd : 1 ≤ d) {o N D : Nat} {f : Int32} (hS : SH M) (hM : isMind M o) (ho : 33 ≤ o) (hn : gi M 4 0 = nI N) (hN : N ≤ 24) (hD : D < 2 ^ 31) (hf : gi M 17 1 = f) (h : ∀ M', sm [o, o + 1, o + 2, o + 3] M M' → gi M' o = va_up (gi M o) 6 (gi M o 6 + nI D) → gi M' (o + 1) = rowF (it (f_fade f) D) N (gi M (o + 1)) → gi M' (o + 2) = rowF (it (f_fade f) D) N (gi M (o + 2)) → gi M' (o + 3) = rowF (it (f_fade f) D) N (gi M (o + 3)) → Q (none, M')) : pm d 126 [.ref o, .int (nI D), .ref 4] M Q := by
  obtain ⟨c1, ⟨r0, r1, r2, r3⟩, ⟨a1, a2, a3, a4⟩, ⟨n1, n2, n3, n4⟩⟩ := id hM
  refine pm_ent (L := [some (.ref o), some (.int (nI D)), some (.ref 4), none, none]) rfl (Nat.le_of_ble_eq_true rfl) ?_
  refine pw_blk (mi := mz_126) (b := bz_126_0) rfl rfl ?_
  simp only [bz_126_0, pz_cut_t, pz_cut_f, pz_cut_n, pv_gt, pv_ts, pv_tn, ev_ald2, ev_eld2, ev_gf8_2, ev_ic1, ea_iald, ev_ist3n, ev_ist3i, ev_ist3r, ev_ist3e, ev_ist3l, ev_ic0, ev_ist4n, ev_ist4i, ev_ist4r, ev_ist4e, ev_ist4l, ev_nil, pz_wi_gc, pz_wi_ga, pz_wi_gn, pz_wi_gl, pz_wi_gr, pz_wi_same, pz_wi_X, pz_wl_gc, pz_wl_ga, pz_wl_gn, pz_wl_gi, pz_wl_gr, pz_wl_same, pz_wl_X, pz_wr_gc, pz_wr_ga, pz_wr_gn, pz_wr_gi, pz_wr_gl, pz_wr_same, pz_wr_X, so_4 hS, sr_4_19 hS, sa_17 hS, sn_17 hS, c1, r0, r1, r2, r3, a1, a2, a3, a4, n1, n2, n3, n4, hf]
  (try simp (disch := omega) only [nI_clamp, pz_in_nI2, pz_in_nI2L, pv_gt, nI_add, nI_addL, nI_Ladd, pk_mul, nI_mulL, nI_Lmul, pk_sub, nI_subL, nI_Lsub, nI_inc, nI_clampL, Nat.add_sub_cancel, pz_wi_else, pz_wl_else, vu_eq, vu_ne, pz_wi_gc, pz_wi_ga, pz_wi_gn, pz_wi_gl, pz_wi_gr, pz_wi_same, pz_wi_X, pz_wl_gc, pz_wl_ga, pz_wl_gn, pz_wl_gi, pz_wl_gr, pz_wl_same, pz_wl_X, pz_wr_gc, pz_wr_ga, pz_wr_gn, pz_wr_gi, pz_wr_gl, pz_wr_same, pz_wr_X, c1, r0, r1, r2, r3, a1, a2, a3, a4, n1, n2, n3, n4, hf])
  (try refine po_gI (by first | exact pz_in_nI (by omega) (by decide) | decide | assumption) ?_)
  refine po_go ?_
  refine l_rest (o := 0) (k := 0) (fd := 0) hd hN hD N 0 M (by omega) hS hM (by intro j hj; simp at hj; omega) hn sm.rf rowF_0.symm rowF_0.symm rowF_0.symm (fun M2 s2 hS2 hM2 e1 e2 e3 => ?_)
  have c2 := hM2.1
  have e0 : gi M2 o = gi M o := s2.i (by simp)
  refine pw_blk (mi := mz_126) (b := bz_126_82) rfl rfl ?_
  simp only [bz_126_82, pz_cut_t, pz_cut_f, pz_cut_n, pv_gt, pv_ts, pv_tn, ev_ald0, ev_dupr, ev_gf3_0, ev_ild1, ev_iadd, ev_pf3_0, ev_ret, c2]
  refine po_ret (h _ ((s2.mono (by simp)).wi (by simp)) ?_ ?_ ?_ ?_)
  · rw [pz_wi_same, e0]
  · rw [pz_wi_else (by omega)]; exact e1
  · rw [pz_wi_else (by omega)]; exact e2
  · rw [pz_wi_else (by omega)]; exact e3
theorem rowF_ss {f : Int32 → Int32} {n N : Nat} {r : Nat → Int32} : rowF f N (rowF (it f n) N r) = rowF (it f (n + 1)) N r := by
  funext i
  unfold rowF
  split
  · rw [it_s]
  · rfl
theorem r_passDay (hd : 1 ≤ d) {B r : Nat} {f : Int32} (hS : SH M) (hO : okB M) (hbk : bk M = r) (hn : nb M = nI B) (hB : B ≤ 24) (hf : gi M 128 r = f) (h : ∀ M', sm [120, 149, 150, 151] M M' → gi M' 120 = va_up (gi M 120) 46 (gi M 120 46 + 1) → gi M' 149 = rowF (f_fade f) B (gi M 149) → gi M' 150 = rowF (f_fade f) B (gi M 150) → gi M' 151 = rowF (f_fade f) B (gi M 151) → Q (none, M')) : pm d 127 [.ref 120] M Q := by
  have hr2 := hO.nI
  have hbank : gi M 120 38 = nI r := by rw [← hbk]; exact hr2.1
  have hr : r < 2 := by rw [← hbk]; exact hr2.2
  have key : ∀ i, i ≤ B → ∀ M', sm [149, 150, 151] M M' → gi M' 149 = rowF (f_fade f) i (gi M 149) → gi M' 150 = rowF (f_fade f) i (gi M 150) → gi M' 151 = rowF (f_fade f) i (gi M 151) → pw d 127 (12, [some (.ref 120), some (.int f), some (.int (nI i))], [], M') Q := by
    refine upto (fun i hi ih => ?_)
    intro M' s e1 e2 e3
    obtain ⟨hS', hO', hnb'⟩ : SH M' ∧ okB M' ∧ nb M' = nI B := by
      have e : gi M' 120 = gi M 120 := s.i (by decide)
      have e' : gi M' 123 = gi M 123 := s.i (by decide)
      refine ⟨hS.sm s, ?_, ?_⟩
      · unfold okB bank
        rw [e]
        exact hO
      · unfold nb bk bank
        rw [e, e']
        exact hn
    refine pw_blk (mi := mz_127) (b := bz_127_12) rfl rfl ?_
    simp only [bz_127_12, pz_cut_t, pz_cut_f, pz_cut_n, pv_gt, pv_ts, pv_tn, ev_ild2, ev_ald0, ev_eld0, ev_cv0_11, pz_wi_gc, pz_wi_ga, pz_wi_gn, pz_wi_gl, pz_wi_gr, pz_wi_same, pz_wi_X, pz_wl_gc, pz_wl_ga, pz_wl_gn, pz_wl_gi, pz_wl_gr, pz_wl_same, pz_wl_X, pz_wr_gc, pz_wr_ga, pz_wr_gn, pz_wr_gi, pz_wr_gl, pz_wr_same, pz_wr_X, so_120 hS', hnb']
    (try simp (disch := omega) only [nI_clamp, pz_in_nI2, pz_in_nI2L, pv_gt, nI_add, nI_addL, nI_Ladd, pk_mul, nI_mulL, nI_Lmul, pk_sub, nI_subL, nI_Lsub, nI_inc, nI_clampL, Nat.add_sub_cancel, pz_wi_else, pz_wl_else, vu_eq, vu_ne, pz_wi_gc, pz_wi_ga, pz_wi_gn, pz_wi_gl, pz_wi_gr, pz_wi_same, pz_wi_X, pz_wl_gc, pz_wl_ga, pz_wl_gn, pz_wl_gi, pz_wl_gr, pz_wl_same, pz_wl_X, pz_wr_gc, pz_wr_ga, pz_wr_gn, pz_wr_gi, pz_wr_gl, pz_wr_same, pz_wr_X, hnb'])
    (try refine po_gP (Nat.le_of_ble_eq_true rfl) ?_)
    refine po_call (by omega) (r_many hS' hO' ?_)
    refine pw_blk (mi := mz_127) (b := bz_127_17) rfl rfl ?_
    simp only [bz_127_17, pz_cut_t, pz_cut_f, pz_cut_n, pv_gt, pv_ts, pv_tn, ev_ic_ge, pz_wi_gc, pz_wi_ga, pz_wi_gn, pz_wi_gl, pz_wi_gr, pz_wi_same, pz_wi_X, pz_wl_gc, pz_wl_ga, pz_wl_gn, pz_wl_gi, pz_wl_gr, pz_wl_same, pz_wl_X, pz_wr_gc, pz_wr_ga, pz_wr_gn, pz_wr_gi, pz_wr_gl, pz_wr_same, pz_wr_X, hnb']
    (try simp (disch := omega) only [nI_clamp, pz_in_nI2, pz_in_nI2L, pv_gt, nI_add, nI_addL, nI_Ladd, pk_mul, nI_mulL, nI_Lmul, pk_sub, nI_subL, nI_Lsub, nI_inc, nI_clampL, Nat.add_sub_cancel, pz_wi_else, pz_wl_else, vu_eq, vu_ne, pz_wi_gc, pz_wi_ga, pz_wi_gn, pz_wi_gl, pz_wi_gr, pz_wi_same, pz_wi_X, pz_wl_gc, pz_wl_ga, pz_wl_gn, pz_wl_gi, pz_wl_gr, pz_wl_same, pz_wl_X, pz_wr_gc, pz_wr_ga, pz_wr_gn, pz_wr_gi, pz_wr_gl, pz_wr_same, pz_wr_X, hnb'])
    refine po_brP (fun q17 => ?_) (fun q17 => ?_)
    · first
      | exact absurd q17 (by decide)
      | exact absurd trivial q17
      | exact q17.elim
      | (exfalso; (try simp (disch := omega) only [nI_ltI, nI_leI, nI_eq, nI_ltL, nI_leL, nI_eqL, nI_Llt, nI_Lle, nI_Leq, nI_eqm, nI_meq, nI_ltm, nI_lem, nI_mlt, nI_mle, lg0, lgl, lgg, lgle, lgge, Int32.not_lt, Int32.not_le, Int64.not_lt, Int64.not_le, not_false_eq_true, not_true_eq_false, Decidable.not_not, ge_iff_le, gt_iff_lt] at q17) <;> omega)
      | exact absurd q17 (by with_reducible assumption)
      | exact absurd (by with_reducible assumption) q17
      | exact absurd (Decidable.not_not.mp q17) (by with_reducible assumption)
      | exact absurd (by with_reducible assumption) (Int32.not_le.mpr q17)
      | exact absurd (by with_reducible assumption) (Int32.not_lt.mpr q17)
      | skip
        (try simp (disch := omega) only [nI_ltI, nI_leI, nI_eq, nI_ltL, nI_leL, nI_eqL, nI_Llt, nI_Lle, nI_Leq, nI_eqm, nI_meq, nI_ltm, nI_lem, nI_mlt, nI_mle, lg0, lgl, lgg, lgle, lgge, Int32.not_lt, Int32.not_le, Int64.not_lt, Int64.not_le, not_false_eq_true, not_true_eq_false, Decidable.not_not, ge_iff_le, gt_iff_lt] at q17)
        refine pw_blk (mi := mz_127) (b := bz_127_89) rfl rfl ?_
        simp only [bz_127_89, pz_cut_t, pz_cut_f, pz_cut_n, pv_gt, pv_ts, pv_tn, ev_ald0, ev_eld0, ev_dupi, ev_dupr, ev_dupe, ev_gf11_0, ev_ic1, ev_iadd, ev_pf11_0, ev_ret, pz_wi_gc, pz_wi_ga, pz_wi_gn, pz_wi_gl, pz_wi_gr, pz_wi_same, pz_wi_X, pz_wl_gc, pz_wl_ga, pz_wl_gn, pz_wl_gi, pz_wl_gr, pz_wl_same, pz_wl_X, pz_wr_gc, pz_wr_ga, pz_wr_gn, pz_wr_gi, pz_wr_gl, pz_wr_same, pz_wr_X, so_120 hS', hnb']
        (try simp (disch := omega) only [nI_clamp, pz_in_nI2, pz_in_nI2L, pv_gt, nI_add, nI_addL, nI_Ladd, pk_mul, nI_mulL, nI_Lmul, pk_sub, nI_subL, nI_Lsub, nI_inc, nI_clampL, Nat.add_sub_cancel, pz_wi_else, pz_wl_else, vu_eq, vu_ne, pz_wi_gc, pz_wi_ga, pz_wi_gn, pz_wi_gl, pz_wi_gr, pz_wi_same, pz_wi_X, pz_wl_gc, pz_wl_ga, pz_wl_gn, pz_wl_gi, pz_wl_gr, pz_wl_same, pz_wl_X, pz_wr_gc, pz_wr_ga, pz_wr_gn, pz_wr_gi, pz_wr_gl, pz_wr_same, pz_wr_X, hnb'])
        have hi2 : i = B := by omega
        subst hi2
        refine po_ret (h _ ((s.mono (by decide)).wi (by simp)) ?_ ?_ ?_ ?_)
        · rw [pz_wi_same, s.i (k := 120) (by decide)]
        · rw [pz_wi_else (by decide)]; exact e1
        · rw [pz_wi_else (by decide)]; exact e2
        · rw [pz_wi_else (by decide)]; exact e3
    · first
      | exact absurd q17 (by decide)
      | exact absurd trivial q17
      | exact q17.elim
      | (exfalso; (try simp (disch := omega) only [nI_ltI, nI_leI, nI_eq, nI_ltL, nI_leL, nI_eqL, nI_Llt, nI_Lle, nI_Leq, nI_eqm, nI_meq, nI_ltm, nI_lem, nI_mlt, nI_mle, lg0, lgl, lgg, lgle, lgge, Int32.not_lt, Int32.not_le, Int64.not_lt, Int64.not_le, not_false_eq_true, not_true_eq_false, Decidable.not_not, ge_iff_le, gt_iff_lt] at q17) <;> omega)
      | exact absurd q17 (by with_reducible assumption)
      | exact absurd (by with_reducible assumption) q17
      | exact absurd (Decidable.not_not.mp q17) (by with_reducible assumption)
      | exact absurd (by with_reducible assumption) (Int32.not_le.mpr q17)
      | exact absurd (by with_reducible assumption) (Int32.not_lt.mpr q17)
      | skip
        (try simp (disch := omega) only [nI_ltI, nI_leI, nI_eq, nI_ltL, nI_leL, nI_eqL, nI_Llt, nI_Lle, nI_Leq, nI_eqm, nI_meq, nI_ltm, nI_lem, nI_mlt, nI_mle, lg0, lgl, lgg, lgle, lgge, Int32.not_lt, Int32.not_le, Int64.not_lt, Int64.not_le, not_false_eq_true, not_true_eq_false, Decidable.not_not, ge_iff_le, gt_iff_lt] at q17)
        refine pw_blk (mi := mz_127) (b := bz_127_20) rfl rfl ?_
        simp only [bz_127_20, pz_cut_t, pz_cut_f, pz_cut_n, pv_gt, pv_ts, pv_tn, ev_ald0, ev_eld0, ev_gf11_2, ev_ild2, ev_dup2, ea_iald, ev_ild1, ev_imul, ev_sp1000, ev_idiv, ev_isub, ea_iast, ev_inc2n, ev_inc2i, ev_inc2r, ev_inc2e, ev_goto, pz_wi_gc, pz_wi_ga, pz_wi_gn, pz_wi_gl, pz_wi_gr, pz_wi_same, pz_wi_X, pz_wl_gc, pz_wl_ga, pz_wl_gn, pz_wl_gi, pz_wl_gr, pz_wl_same, pz_wl_X, pz_wr_gc, pz_wr_ga, pz_wr_gn, pz_wr_gi, pz_wr_gl, pz_wr_same, pz_wr_X, so_120 hS', sr_120_40 hS', sa_149 hS', sn_149 hS', sr_120_41 hS', sa_150 hS', sn_150 hS', sr_120_42 hS', sa_151 hS', sn_151 hS', hnb', sa_128 hS', sn_128 hS']
        (try simp (disch := omega) only [nI_clamp, pz_in_nI2, pz_in_nI2L, pv_gt, nI_add, nI_addL, nI_Ladd, pk_mul, nI_mulL, nI_Lmul, pk_sub, nI_subL, nI_Lsub, nI_inc, nI_clampL, Nat.add_sub_cancel, pz_wi_else, pz_wl_else, vu_eq, vu_ne, pz_wi_gc, pz_wi_ga, pz_wi_gn, pz_wi_gl, pz_wi_gr, pz_wi_same, pz_wi_X, pz_wl_gc, pz_wl_ga, pz_wl_gn, pz_wl_gi, pz_wl_gr, pz_wl_same, pz_wl_X, pz_wr_gc, pz_wr_ga, pz_wr_gn, pz_wr_gi, pz_wr_gl, pz_wr_same, pz_wr_X, hnb'])
        (try refine po_gI (by first | exact pz_in_nI (by omega) (by decide) | decide | assumption) ?_)
        (try refine po_gI (by first | exact pz_in_nI (by omega) (by decide) | decide | assumption) ?_)
        (try refine po_gP (by first | decide | assumption) ?_)
        (try refine po_gI (by first | exact pz_in_nI (by omega) (by decide) | decide | assumption) ?_)
        (try refine po_gI (by first | exact pz_in_nI (by omega) (by decide) | decide | assumption) ?_)
        (try refine po_gI (by first | exact pz_in_nI (by omega) (by decide) | decide | assumption) ?_)
        (try refine po_gP (by first | decide | assumption) ?_)
        (try refine po_gI (by first | exact pz_in_nI (by omega) (by decide) | decide | assumption) ?_)
        (try refine po_gI (by first | exact pz_in_nI (by omega) (by decide) | decide | assumption) ?_)
        (try refine po_gI (by first | exact pz_in_nI (by omega) (by decide) | decide | assumption) ?_)
        (try refine po_gP (by first | decide | assumption) ?_)
        (try refine po_gI (by first | exact pz_in_nI (by omega) (by decide) | decide | assumption) ?_)
        refine po_go ?_
        refine ih (i + 1) (by omega) (by omega) _ (((s.wi (by simp)).wi (by simp)).wi (by simp)) ?_ ?_ ?_
        · simp (disch := omega) only [pz_wi_same, pz_wi_else]
          rw [← rowF_s, e1]
          rfl
        · simp (disch := omega) only [pz_wi_same, pz_wi_else]
          rw [← rowF_s, e2]
          rfl
        · simp (disch := omega) only [pz_wi_same, pz_wi_else]
          rw [← rowF_s, e3]
          rfl
  refine pm_ent (L := [some (.ref 120), none, none]) rfl (Nat.le_of_ble_eq_true rfl) ?_
  refine pw_blk (mi := mz_127) (b := bz_127_0) rfl rfl ?_
  simp only [bz_127_0, pz_cut_t, pz_cut_f, pz_cut_n, pv_gt, pv_ts, pv_tn, ev_ald0, ev_eld0, ev_gf11_2, ev_gf11_0, ea_iald, ev_ist1n, ev_ist1i, ev_ist1r, ev_ist1e, ev_ist1l, ev_ic0, ev_ist2n, ev_ist2i, ev_ist2r, ev_ist2e, ev_ist2l, ev_nil, pz_wi_gc, pz_wi_ga, pz_wi_gn, pz_wi_gl, pz_wi_gr, pz_wi_same, pz_wi_X, pz_wl_gc, pz_wl_ga, pz_wl_gn, pz_wl_gi, pz_wl_gr, pz_wl_same, pz_wl_X, pz_wr_gc, pz_wr_ga, pz_wr_gn, pz_wr_gi, pz_wr_gl, pz_wr_same, pz_wr_X, so_120 hS, sr_120_17 hS, sa_128 hS, sn_128 hS, hbank, hf, sa_149 hS, sn_149 hS, sa_150 hS, sn_150 hS, sa_151 hS, sn_151 hS]
  (try simp (disch := omega) only [nI_clamp, pz_in_nI2, pz_in_nI2L, pv_gt, nI_add, nI_addL, nI_Ladd, pk_mul, nI_mulL, nI_Lmul, pk_sub, nI_subL, nI_Lsub, nI_inc, nI_clampL, Nat.add_sub_cancel, pz_wi_else, pz_wl_else, vu_eq, vu_ne, pz_wi_gc, pz_wi_ga, pz_wi_gn, pz_wi_gl, pz_wi_gr, pz_wi_same, pz_wi_X, pz_wl_gc, pz_wl_ga, pz_wl_gn, pz_wl_gi, pz_wl_gr, pz_wl_same, pz_wl_X, pz_wr_gc, pz_wr_ga, pz_wr_gn, pz_wr_gi, pz_wr_gl, pz_wr_same, pz_wr_X, hbank, hf])
  (try refine po_gI (by first | exact pz_in_nI (by omega) (by decide) | decide | assumption) ?_)
  refine po_go ?_
  exact key 0 (by omega) M sm.rf rowF_0.symm rowF_0.symm rowF_0.symm
end PLAN
