section SEND2
variable {d : Nat} {M M' : pz_M} {Q : Option Value × pz_M → Prop}
theorem RFL_39 : ∀ q ∈ RFL, ¬ (q.1 = 39 ∧ (q.2.1 = 9 ∨ q.2.1 = 10)) := by decide +kernel
theorem SH.swap {nw nx : Nat} (hS : SH M) (nn : isNN M nw nx) (h1 : M'.2.1 = M.2.1) (h2 : ∀ k, k ≠ 39 → gr M' k = gr M k) (h3 : gr M' 39 = va_up (va_up (gr M 39) 9 (.ref nx)) 10 (.ref nw)) : SH M' ∧ isNN M' nx nw := by
  obtain ⟨a1, a2, a3, a4⟩ := hS
  obtain ⟨n1, n2, n3⟩ := nn
  have e9 : gr M' 39 9 = .ref nx := by rw [h3, vu_ne (by decide), vu_eq]
  have e10 : gr M' 39 10 = .ref nw := by rw [h3, vu_eq]
  refine ⟨⟨h1.trans a1, fun q hq => ?_, ?_, ?_⟩, e9, e10, ?_⟩
  · by_cases h : q.1 = 39
    · have hn := RFL_39 q hq
      rw [h, h3, vu_ne (fun z => hn ⟨h, Or.inr z⟩), vu_ne (fun z => hn ⟨h, Or.inl z⟩), ← h]
      exact a2 q hq
    · rw [h2 _ h]
      exact a2 q hq
  · rw [e9, e10]
    rcases n3 with ⟨rfl, rfl⟩ | ⟨rfl, rfl⟩
    · exact Or.inr ⟨rfl, rfl⟩
    · exact Or.inl ⟨rfl, rfl⟩
  · rw [h2 1 (by decide)]
    exact a4
  · rcases n3 with ⟨rfl, rfl⟩ | ⟨rfl, rfl⟩
    · exact Or.inr ⟨rfl, rfl⟩
    · exact Or.inl ⟨rfl, rfl⟩
section
variable (al : Nat → Nat → Nat) (cr wk er B : Nat) (h : Nat → Int32) (dr : Nat → Option Nat) (mk : Nat → Bool) (J o : Int32)
theorem stS_0 {m : LL} {q : LL × LL} : ∀ i, (∀ j, j < i → m j = 0) → stS al cr wk er B h dr mk J o m q i = q
  | 0, _ => rfl
  | i + 1, hz => by rw [stS, if_pos (hz i (by omega)), stS_0 i (fun j hj => hz j (by omega))]
theorem thS_stop {m0 : LL} {n : Nat} (hz : ∀ j, j < B → (thS al cr wk er B h dr mk J o m0 n).1 j = 0) : ∀ k, (thS al cr wk er B h dr mk J o m0 (n + k)).2 = (thS al cr wk er B h dr mk J o m0 n).2 ∧ ∀ j, j < B → (thS al cr wk er B h dr mk J o m0 (n + k)).1 j = 0
  | 0 => ⟨rfl, hz⟩
  | k + 1 => by
    obtain ⟨h1, h2⟩ := thS_stop hz k
    have e : thS al cr wk er B h dr mk J o m0 (n + (k + 1)) = (fun _ => 0, (thS al cr wk er B h dr mk J o m0 (n + k)).2) := by
      show stS al cr wk er B h dr mk J o _ _ B = _
      exact stS_0 al cr wk er B h dr mk J o B h2
    rw [e]
    exact ⟨h1, fun _ _ => rfl⟩
end
def mvf (m : LL) : Nat → Bool
  | 0 => false
  | i + 1 => mvf m i || decide (¬ m i = 0)
theorem mvf_f {m : LL} : ∀ i, mvf m i = false → ∀ j, j < i → m j = 0
  | 0, _, j, hj => by omega
  | i + 1, h, j, hj => by
    rw [mvf, Bool.or_eq_false_iff] at h
    by_cases q : j = i
    · subst q
      exact Decidable.not_not.mp (of_decide_eq_false h.2)
    · exact mvf_f i h.1 j (by omega)
theorem m_send (hd : 4 ≤ d) {al : Nat → Nat → Nat} {cr wk er sv B f D E : Nat} {h : Nat → Int32} {J o : Int32} (hS : SH M) (hF : RFa M al B) (hW : allW M al cr wk B h) (b1 : gi M 4 0 = nI B) (hB : B ≤ 24) (hf : f < B) (hsv : gi M 17 4 = nI sv) (sv2 : sv ≤ 24) (her : gi M 17 5 = nI er) (he : er ≤ 24) (hD : D < 2 ^ 24) (hE : E < 2 ^ 24) (k : ∀ M', sg [46, 47, 48, 49] M M' → agN 5 (gl M' 47) (thS al cr wk er B h (fun i => dor D.testBit sv i (B - (i + 1)) (i + 1)) E.testBit J o (va_up (fun _ => 0) f 1000000000) 120).2 → Q (none, M')) : pm d 130 [.ref 39, .int (nI f), .int J, .int o, .int (nI D), .int (nI E)] M Q := by
  have hdr : ∀ i, i < B → ∀ d, dor D.testBit sv i (B - (i + 1)) (i + 1) = some d → i ≤ d ∧ d < 24 := fun i hi d hd => by
    have := dor_lt _ _ _ hd
    omega
  have hp : ∀ i, i < B → dbt (nI D) i = bI (D.testBit i) := fun i hi => dbt_nI hD (by omega)
  generalize hdrE : (fun i => dor D.testBit sv i (B - (i + 1)) (i + 1)) = dr at k
  have hdrv : ∀ i, dor D.testBit sv i (B - (i + 1)) (i + 1) = dr i := fun i => congrFun hdrE i
  have fr : ∀ M', sg [46, 47, 48, 49] M M' → RFa M' al B ∧ allW M' al cr wk B h ∧ gi M' 4 0 = nI B ∧ gi M' 17 4 = nI sv ∧ gi M' 17 5 = nI er := by
    intro M' s
    refine ⟨hF.fr (s.i (by decide)) (s.i (by decide)) (s.i (by decide)), fun i hi => (hW i hi).fr (s.i (by decide)) (s.i (by decide)) (s.i (by decide)), ?_, ?_, ?_⟩
    · rw [s.i (k := 4) (by decide)]; exact b1
    · rw [s.i (k := 17) (by decide)]; exact hsv
    · rw [s.i (k := 17) (by decide)]; exact her
  generalize hm0 : (va_up (fun _ => 0) f 1000000000 : LL) = m0 at k
  have key : ∀ n, n ≤ 120 → ∀ M' nw nx mv, sg [46, 47, 48, 49] M M' → isNN M' nw nx → (∀ i, i < B → gi M' 46 i = oI (dr i)) → agN 24 (gl M' nw) (thS al cr wk er B h dr E.testBit J o m0 n).1 → agN 5 (gl M' 47) (thS al cr wk er B h dr E.testBit J o m0 n).2 → (mv = false → ∀ i, i < B → (thS al cr wk er B h dr E.testBit J o m0 n).1 i = 0) → pw d 130 (70, [some (.ref 39), none, some (.int J), some (.int o), none, some (.int (nI E)), some (.int (bI mv)), some (.int (nI n)), none, none, none], [], M') Q := by
    refine upto (fun n hn ih => ?_)
    intro M' nw nx mv s nn hdo hT hs hmv
    have hS' := s.S
    by_cases hn120 : n = 120
    · subst hn120
      refine pw_blk (mi := mz_130) (b := bz_130_70) rfl rfl ?_
      simp only [bz_130_70, pz_cut_t, pz_cut_f, pz_cut_n, pv_gt, pv_ts, pv_tn, ev_ild7, ev_bp120, ev_ic_ge, pz_wi_gc, pz_wi_ga, pz_wi_gn, pz_wi_gl, pz_wi_gr, pz_wi_same, pz_wi_X, pz_wl_gc, pz_wl_ga, pz_wl_gn, pz_wl_gi, pz_wl_gr, pz_wl_same, pz_wl_X, pz_wr_gc, pz_wr_ga, pz_wr_gn, pz_wr_gi, pz_wr_gl, pz_wr_same, pz_wr_X]
      (try simp (disch := omega) only [nI_clamp, pz_in_nI2, pz_in_nI2L, pv_gt, nI_add, nI_addL, nI_Ladd, pk_mul, nI_mulL, nI_Lmul, pk_sub, nI_subL, nI_Lsub, nI_inc, nI_clampL, Nat.add_sub_cancel, pz_wi_else, pz_wl_else, vu_eq, vu_ne, pz_wi_gc, pz_wi_ga, pz_wi_gn, pz_wi_gl, pz_wi_gr, pz_wi_same, pz_wi_X, pz_wl_gc, pz_wl_ga, pz_wl_gn, pz_wl_gi, pz_wl_gr, pz_wl_same, pz_wl_X, pz_wr_gc, pz_wr_ga, pz_wr_gn, pz_wr_gi, pz_wr_gl, pz_wr_same, pz_wr_X])
      refine po_brP (fun q70 => ?_) (fun q70 => ?_)
      · skip
        (try simp (disch := omega) only [nI_ltI, nI_leI, nI_eq, nI_ltL, nI_leL, nI_eqL, nI_Llt, nI_Lle, nI_Leq, nI_eqm, nI_meq, nI_ltm, nI_lem, nI_mlt, nI_mle, lg0, lgl, lgg, lgle, lgge, Int32.not_lt, Int32.not_le, Int64.not_lt, Int64.not_le, not_false_eq_true, not_true_eq_false, Decidable.not_not, ge_iff_le, gt_iff_lt] at q70)
        refine pw_blk (mi := mz_130) (b := bz_130_204) rfl rfl ?_
        simp only [bz_130_204, pz_cut_t, pz_cut_f, pz_cut_n, pv_gt, pv_ts, pv_tn, ev_ret, pz_wi_gc, pz_wi_ga, pz_wi_gn, pz_wi_gl, pz_wi_gr, pz_wi_same, pz_wi_X, pz_wl_gc, pz_wl_ga, pz_wl_gn, pz_wl_gi, pz_wl_gr, pz_wl_same, pz_wl_X, pz_wr_gc, pz_wr_ga, pz_wr_gn, pz_wr_gi, pz_wr_gl, pz_wr_same, pz_wr_X]
        (try simp (disch := omega) only [nI_clamp, pz_in_nI2, pz_in_nI2L, pv_gt, nI_add, nI_addL, nI_Ladd, pk_mul, nI_mulL, nI_Lmul, pk_sub, nI_subL, nI_Lsub, nI_inc, nI_clampL, Nat.add_sub_cancel, pz_wi_else, pz_wl_else, vu_eq, vu_ne, pz_wi_gc, pz_wi_ga, pz_wi_gn, pz_wi_gl, pz_wi_gr, pz_wi_same, pz_wi_X, pz_wl_gc, pz_wl_ga, pz_wl_gn, pz_wl_gi, pz_wl_gr, pz_wl_same, pz_wl_X, pz_wr_gc, pz_wr_ga, pz_wr_gn, pz_wr_gi, pz_wr_gl, pz_wr_same, pz_wr_X])
        exact po_ret (k M' s hs)
      · first
        | exact absurd q70 (by decide)
        | exact absurd trivial q70
        | exact q70.elim
        | (exfalso; (try simp (disch := omega) only [nI_ltI, nI_leI, nI_eq, nI_ltL, nI_leL, nI_eqL, nI_Llt, nI_Lle, nI_Leq, nI_eqm, nI_meq, nI_ltm, nI_lem, nI_mlt, nI_mle, lg0, lgl, lgg, lgle, lgge, Int32.not_lt, Int32.not_le, Int64.not_lt, Int64.not_le, not_false_eq_true, not_true_eq_false, Decidable.not_not, ge_iff_le, gt_iff_lt] at q70) <;> omega)
        | exact absurd q70 (by with_reducible assumption)
        | exact absurd (by with_reducible assumption) q70
        | exact absurd (Decidable.not_not.mp q70) (by with_reducible assumption)
        | exact absurd (by with_reducible assumption) (Int32.not_le.mpr q70)
        | exact absurd (by with_reducible assumption) (Int32.not_lt.mpr q70)
    · cases mv with
      | false =>
        have hst := (thS_stop al cr wk er B h dr E.testBit J o (m0 := m0) (n := n) (hmv rfl) (120 - n)).1
        rw [show n + (120 - n) = 120 by omega] at hst
        refine pw_blk (mi := mz_130) (b := bz_130_70) rfl rfl ?_
        simp only [bz_130_70, pz_cut_t, pz_cut_f, pz_cut_n, pv_gt, pv_ts, pv_tn, ev_ild7, ev_bp120, ev_ic_ge, pz_wi_gc, pz_wi_ga, pz_wi_gn, pz_wi_gl, pz_wi_gr, pz_wi_same, pz_wi_X, pz_wl_gc, pz_wl_ga, pz_wl_gn, pz_wl_gi, pz_wl_gr, pz_wl_same, pz_wl_X, pz_wr_gc, pz_wr_ga, pz_wr_gn, pz_wr_gi, pz_wr_gl, pz_wr_same, pz_wr_X, bI_f]
        (try simp (disch := omega) only [nI_clamp, pz_in_nI2, pz_in_nI2L, pv_gt, nI_add, nI_addL, nI_Ladd, pk_mul, nI_mulL, nI_Lmul, pk_sub, nI_subL, nI_Lsub, nI_inc, nI_clampL, Nat.add_sub_cancel, pz_wi_else, pz_wl_else, vu_eq, vu_ne, pz_wi_gc, pz_wi_ga, pz_wi_gn, pz_wi_gl, pz_wi_gr, pz_wi_same, pz_wi_X, pz_wl_gc, pz_wl_ga, pz_wl_gn, pz_wl_gi, pz_wl_gr, pz_wl_same, pz_wl_X, pz_wr_gc, pz_wr_ga, pz_wr_gn, pz_wr_gi, pz_wr_gl, pz_wr_same, pz_wr_X, bI_f])
        refine po_brP (fun q70 => ?_) (fun q70 => ?_)
        · first
          | exact absurd q70 (by decide)
          | exact absurd trivial q70
          | exact q70.elim
          | (exfalso; (try simp (disch := omega) only [nI_ltI, nI_leI, nI_eq, nI_ltL, nI_leL, nI_eqL, nI_Llt, nI_Lle, nI_Leq, nI_eqm, nI_meq, nI_ltm, nI_lem, nI_mlt, nI_mle, lg0, lgl, lgg, lgle, lgge, Int32.not_lt, Int32.not_le, Int64.not_lt, Int64.not_le, not_false_eq_true, not_true_eq_false, Decidable.not_not, ge_iff_le, gt_iff_lt] at q70) <;> omega)
          | exact absurd q70 (by with_reducible assumption)
          | exact absurd (by with_reducible assumption) q70
          | exact absurd (Decidable.not_not.mp q70) (by with_reducible assumption)
          | exact absurd (by with_reducible assumption) (Int32.not_le.mpr q70)
          | exact absurd (by with_reducible assumption) (Int32.not_lt.mpr q70)
        · skip
          (try simp (disch := omega) only [nI_ltI, nI_leI, nI_eq, nI_ltL, nI_leL, nI_eqL, nI_Llt, nI_Lle, nI_Leq, nI_eqm, nI_meq, nI_ltm, nI_lem, nI_mlt, nI_mle, lg0, lgl, lgg, lgle, lgge, Int32.not_lt, Int32.not_le, Int64.not_lt, Int64.not_le, not_false_eq_true, not_true_eq_false, Decidable.not_not, ge_iff_le, gt_iff_lt] at q70)
          refine pw_blk (mi := mz_130) (b := bz_130_77) rfl rfl ?_
          simp only [bz_130_77, pz_cut_t, pz_cut_f, pz_cut_n, pv_gt, pv_ts, pv_tn, ev_ild6, ev_ifeq, pz_wi_gc, pz_wi_ga, pz_wi_gn, pz_wi_gl, pz_wi_gr, pz_wi_same, pz_wi_X, pz_wl_gc, pz_wl_ga, pz_wl_gn, pz_wl_gi, pz_wl_gr, pz_wl_same, pz_wl_X, pz_wr_gc, pz_wr_ga, pz_wr_gn, pz_wr_gi, pz_wr_gl, pz_wr_same, pz_wr_X, bI_f]
          (try simp (disch := omega) only [nI_clamp, pz_in_nI2, pz_in_nI2L, pv_gt, nI_add, nI_addL, nI_Ladd, pk_mul, nI_mulL, nI_Lmul, pk_sub, nI_subL, nI_Lsub, nI_inc, nI_clampL, Nat.add_sub_cancel, pz_wi_else, pz_wl_else, vu_eq, vu_ne, pz_wi_gc, pz_wi_ga, pz_wi_gn, pz_wi_gl, pz_wi_gr, pz_wi_same, pz_wi_X, pz_wl_gc, pz_wl_ga, pz_wl_gn, pz_wl_gi, pz_wl_gr, pz_wl_same, pz_wl_X, pz_wr_gc, pz_wr_ga, pz_wr_gn, pz_wr_gi, pz_wr_gl, pz_wr_same, pz_wr_X, bI_f])
          refine po_brP (fun q77 => ?_) (fun q77 => ?_)
          · skip
            (try simp (disch := omega) only [nI_ltI, nI_leI, nI_eq, nI_ltL, nI_leL, nI_eqL, nI_Llt, nI_Lle, nI_Leq, nI_eqm, nI_meq, nI_ltm, nI_lem, nI_mlt, nI_mle, lg0, lgl, lgg, lgle, lgge, Int32.not_lt, Int32.not_le, Int64.not_lt, Int64.not_le, not_false_eq_true, not_true_eq_false, Decidable.not_not, ge_iff_le, gt_iff_lt] at q77)
            refine pw_blk (mi := mz_130) (b := bz_130_204) rfl rfl ?_
            simp only [bz_130_204, pz_cut_t, pz_cut_f, pz_cut_n, pv_gt, pv_ts, pv_tn, ev_ret, pz_wi_gc, pz_wi_ga, pz_wi_gn, pz_wi_gl, pz_wi_gr, pz_wi_same, pz_wi_X, pz_wl_gc, pz_wl_ga, pz_wl_gn, pz_wl_gi, pz_wl_gr, pz_wl_same, pz_wl_X, pz_wr_gc, pz_wr_ga, pz_wr_gn, pz_wr_gi, pz_wr_gl, pz_wr_same, pz_wr_X, bI_f]
            (try simp (disch := omega) only [nI_clamp, pz_in_nI2, pz_in_nI2L, pv_gt, nI_add, nI_addL, nI_Ladd, pk_mul, nI_mulL, nI_Lmul, pk_sub, nI_subL, nI_Lsub, nI_inc, nI_clampL, Nat.add_sub_cancel, pz_wi_else, pz_wl_else, vu_eq, vu_ne, pz_wi_gc, pz_wi_ga, pz_wi_gn, pz_wi_gl, pz_wi_gr, pz_wi_same, pz_wi_X, pz_wl_gc, pz_wl_ga, pz_wl_gn, pz_wl_gi, pz_wl_gr, pz_wl_same, pz_wl_X, pz_wr_gc, pz_wr_ga, pz_wr_gn, pz_wr_gi, pz_wr_gl, pz_wr_same, pz_wr_X, bI_f])
            exact po_ret (k M' s (by rw [hst]; exact hs))
          · first
            | exact absurd q77 (by decide)
            | exact absurd trivial q77
            | exact q77.elim
            | (exfalso; (try simp (disch := omega) only [nI_ltI, nI_leI, nI_eq, nI_ltL, nI_leL, nI_eqL, nI_Llt, nI_Lle, nI_Leq, nI_eqm, nI_meq, nI_ltm, nI_lem, nI_mlt, nI_mle, lg0, lgl, lgg, lgle, lgge, Int32.not_lt, Int32.not_le, Int64.not_lt, Int64.not_le, not_false_eq_true, not_true_eq_false, Decidable.not_not, ge_iff_le, gt_iff_lt] at q77) <;> omega)
            | exact absurd q77 (by with_reducible assumption)
            | exact absurd (by with_reducible assumption) q77
            | exact absurd (Decidable.not_not.mp q77) (by with_reducible assumption)
            | exact absurd (by with_reducible assumption) (Int32.not_le.mpr q77)
            | exact absurd (by with_reducible assumption) (Int32.not_lt.mpr q77)
      | true =>
        obtain ⟨n1, n2, n3⟩ := id nn
        obtain ⟨⟨na, nn24⟩, fa, fn⟩ := nn.f hS'
        have hxw : (nw = 48 ∨ nw = 49) ∧ (nx = 48 ∨ nx = 49) ∧ nw ≠ nx := by rcases n3 with ⟨e1, e2⟩ | ⟨e1, e2⟩ <;> omega
        have key2 : ∀ M1, sm [nx] M' M1 → (∀ i, i < 24 → gl M1 nx i = 0) → ∀ i, i ≤ B → ∀ M2, sm [nx, 47] M1 M2 → agN 24 (gl M2 nx) (stS al cr wk er B h dr E.testBit J o (thS al cr wk er B h dr E.testBit J o m0 n).1 (fun _ => 0, (thS al cr wk er B h dr E.testBit J o m0 n).2) i).1 → agN 5 (gl M2 47) (stS al cr wk er B h dr E.testBit J o (thS al cr wk er B h dr E.testBit J o m0 n).1 (fun _ => 0, (thS al cr wk er B h dr E.testBit J o m0 n).2) i).2 → pw d 130 (96, [some (.ref 39), none, some (.int J), some (.int o), none, some (.int (nI E)), some (.int (bI (mvf (thS al cr wk er B h dr E.testBit J o m0 n).1 i))), some (.int (nI n)), some (.int (nI i)), none, none], [], M2) Q := by
          intro M1 s1 z1
          refine upto (fun i hi ih2 => ?_)
          intro M2 s2 hT2 hs2
          have s12 : sm [nx, 47] M' M2 := (s1.mono (by simp)).tr s2 (by simp)
          have sg2 : sg [46, 47, 48, 49] M M2 := s.tr ((s12.sg hS').mono (by intro k hk; simp at hk; simp; omega)) (fun _ h => h)
          have hS2 := sg2.S
          have nn2 := nn.sm s12
          obtain ⟨m1, m2, m3⟩ := id nn2
          obtain ⟨⟨ma, mn24⟩, mfa, mfn⟩ := nn2.f hS2
          obtain ⟨hF2, hW2, b12, hsv2, her2⟩ := fr M2 sg2
          have hnw2 : ∀ i, i < 24 → gl M2 nw i = (thS al cr wk er B h dr E.testBit J o m0 n).1 i := fun i hi => by
            rw [s12.l (by simp; omega)]
            exact hT i hi
          have hdo2 : ∀ i, i < B → gi M2 46 i = oI (dr i) := fun i hi => by
            rw [s12.i (by simp; omega)]
            exact hdo i hi
          by_cases hiB : i = B
          · subst hiB
            refine pw_blk (mi := mz_130) (b := bz_130_96) rfl rfl ?_
            simp only [bz_130_96, pz_cut_t, pz_cut_f, pz_cut_n, pv_gt, pv_ts, pv_tn, ev_ild8, ev_ald0, ev_eld0, ev_gf1_2, ev_gf8_0, ev_ic_ge, pz_wi_gc, pz_wi_ga, pz_wi_gn, pz_wi_gl, pz_wi_gr, pz_wi_same, pz_wi_X, pz_wl_gc, pz_wl_ga, pz_wl_gn, pz_wl_gi, pz_wl_gr, pz_wl_same, pz_wl_X, pz_wr_gc, pz_wr_ga, pz_wr_gn, pz_wr_gi, pz_wr_gl, pz_wr_same, pz_wr_X, so_39 hS2, sr_39_0 hS2, so_4 hS2, b12, m1, m2]
            (try simp (disch := omega) only [nI_clamp, pz_in_nI2, pz_in_nI2L, pv_gt, nI_add, nI_addL, nI_Ladd, pk_mul, nI_mulL, nI_Lmul, pk_sub, nI_subL, nI_Lsub, nI_inc, nI_clampL, Nat.add_sub_cancel, pz_wi_else, pz_wl_else, vu_eq, vu_ne, pz_wi_gc, pz_wi_ga, pz_wi_gn, pz_wi_gl, pz_wi_gr, pz_wi_same, pz_wi_X, pz_wl_gc, pz_wl_ga, pz_wl_gn, pz_wl_gi, pz_wl_gr, pz_wl_same, pz_wl_X, pz_wr_gc, pz_wr_ga, pz_wr_gn, pz_wr_gi, pz_wr_gl, pz_wr_same, pz_wr_X, b12, m1, m2])
            refine po_brP (fun q96 => ?_) (fun q96 => ?_)
            · skip
              (try simp (disch := omega) only [nI_ltI, nI_leI, nI_eq, nI_ltL, nI_leL, nI_eqL, nI_Llt, nI_Lle, nI_Leq, nI_eqm, nI_meq, nI_ltm, nI_lem, nI_mlt, nI_mle, lg0, lgl, lgg, lgle, lgge, Int32.not_lt, Int32.not_le, Int64.not_lt, Int64.not_le, not_false_eq_true, not_true_eq_false, Decidable.not_not, ge_iff_le, gt_iff_lt] at q96)
              refine pw_blk (mi := mz_130) (b := bz_130_178) rfl rfl ?_
              simp only [bz_130_178, pz_cut_t, pz_cut_f, pz_cut_n, pv_gt, pv_ts, pv_tn, ev_ald0, ev_eld0, ev_gf1_2, ev_ast8n, ev_ast8i, ev_ast8r, ev_ast8e, ev_ast8l, ev_est8n, ev_est8i, ev_est8r, ev_est8e, ev_est8l, ev_pf1_2r, ev_pf1_2e, ev_ald8, ev_eld8, ev_inc7n, ev_inc7i, ev_inc7r, ev_inc7e, ev_goto, pz_wi_gc, pz_wi_ga, pz_wi_gn, pz_wi_gl, pz_wi_gr, pz_wi_same, pz_wi_X, pz_wl_gc, pz_wl_ga, pz_wl_gn, pz_wl_gi, pz_wl_gr, pz_wl_same, pz_wl_X, pz_wr_gc, pz_wr_ga, pz_wr_gn, pz_wr_gi, pz_wr_gl, pz_wr_same, pz_wr_X, so_39 hS2, b12, m1, m2]
              (try simp (disch := omega) only [nI_clamp, pz_in_nI2, pz_in_nI2L, pv_gt, nI_add, nI_addL, nI_Ladd, pk_mul, nI_mulL, nI_Lmul, pk_sub, nI_subL, nI_Lsub, nI_inc, nI_clampL, Nat.add_sub_cancel, pz_wi_else, pz_wl_else, vu_eq, vu_ne, pz_wi_gc, pz_wi_ga, pz_wi_gn, pz_wi_gl, pz_wi_gr, pz_wi_same, pz_wi_X, pz_wl_gc, pz_wl_ga, pz_wl_gn, pz_wl_gi, pz_wl_gr, pz_wl_same, pz_wl_X, pz_wr_gc, pz_wr_ga, pz_wr_gn, pz_wr_gi, pz_wr_gl, pz_wr_same, pz_wr_X, b12, m1, m2])
              refine po_go ?_
              have hsw := hS2.swap nn2 (M' := pz_wr (pz_wr M2 39 (va_up (gr M2 39) 9 (.ref nx))) 39 (va_up (va_up (gr M2 39) 9 (.ref nx)) 10 (.ref nw))) rfl (fun k hk => by rw [pz_wr_else hk, pz_wr_else hk]) (by rw [pz_wr_same])
              refine pw_cut (mi := mz_130) (b := bz_130_70) rfl rfl (ih (n + 1) (by omega) (by omega) _ nx nw (mvf (thS al cr wk er i h dr E.testBit J o m0 n).1 i) ?_ hsw.2 hdo2 hT2 hs2 (fun hmf j hj => ?_)) rfl
              · exact ⟨sg2.1, sg2.2.1, hsw.1, fun k hk => sg2.2.2.2 k hk⟩
              · have hz := mvf_f i hmf
                show (stS al cr wk er i h dr E.testBit J o _ _ i).1 j = 0
                rw [stS_0 al cr wk er i h dr E.testBit J o i hz]
            · first
              | exact absurd q96 (by decide)
              | exact absurd trivial q96
              | exact q96.elim
              | (exfalso; (try simp (disch := omega) only [nI_ltI, nI_leI, nI_eq, nI_ltL, nI_leL, nI_eqL, nI_Llt, nI_Lle, nI_Leq, nI_eqm, nI_meq, nI_ltm, nI_lem, nI_mlt, nI_mle, lg0, lgl, lgg, lgle, lgge, Int32.not_lt, Int32.not_le, Int64.not_lt, Int64.not_le, not_false_eq_true, not_true_eq_false, Decidable.not_not, ge_iff_le, gt_iff_lt] at q96) <;> omega)
              | exact absurd q96 (by with_reducible assumption)
              | exact absurd (by with_reducible assumption) q96
              | exact absurd (Decidable.not_not.mp q96) (by with_reducible assumption)
              | exact absurd (by with_reducible assumption) (Int32.not_le.mpr q96)
              | exact absurd (by with_reducible assumption) (Int32.not_lt.mpr q96)
          · have hmi := hnw2 i (by omega)
            have e0 : ∀ v : LL, v i = 0 → (v i = 0) := fun _ z => z
            by_cases hz : (thS al cr wk er B h dr E.testBit J o m0 n).1 i = 0
            · have hst : stS al cr wk er B h dr E.testBit J o (thS al cr wk er B h dr E.testBit J o m0 n).1 (fun _ => 0, (thS al cr wk er B h dr E.testBit J o m0 n).2) (i + 1) = stS al cr wk er B h dr E.testBit J o (thS al cr wk er B h dr E.testBit J o m0 n).1 (fun _ => 0, (thS al cr wk er B h dr E.testBit J o m0 n).2) i := by rw [stS, if_pos hz]
              have hmf : mvf (thS al cr wk er B h dr E.testBit J o m0 n).1 (i + 1) = mvf (thS al cr wk er B h dr E.testBit J o m0 n).1 i := by rw [mvf, decide_eq_false (Decidable.not_not.mpr hz), Bool.or_false]
              have hmi0 : gl M2 nw i = 0 := hmi.trans hz
              have := ih2 (i + 1) (by omega) (by omega) M2 s2 (by rw [hst]; exact hT2) (by rw [hst]; exact hs2)
              rw [hmf] at this
              refine pw_blk (mi := mz_130) (b := bz_130_96) rfl rfl ?_
              simp only [bz_130_96, pz_cut_t, pz_cut_f, pz_cut_n, pv_gt, pv_ts, pv_tn, ev_ild8, ev_ald0, ev_eld0, ev_gf1_2, ev_gf8_0, ev_ic_ge, pz_wi_gc, pz_wi_ga, pz_wi_gn, pz_wi_gl, pz_wi_gr, pz_wi_same, pz_wi_X, pz_wl_gc, pz_wl_ga, pz_wl_gn, pz_wl_gi, pz_wl_gr, pz_wl_same, pz_wl_X, pz_wr_gc, pz_wr_ga, pz_wr_gn, pz_wr_gi, pz_wr_gl, pz_wr_same, pz_wr_X, so_39 hS2, sr_39_0 hS2, so_4 hS2, b12, m1, ma, mn24, hmi0]
              (try simp (disch := omega) only [nI_clamp, pz_in_nI2, pz_in_nI2L, pv_gt, nI_add, nI_addL, nI_Ladd, pk_mul, nI_mulL, nI_Lmul, pk_sub, nI_subL, nI_Lsub, nI_inc, nI_clampL, Nat.add_sub_cancel, pz_wi_else, pz_wl_else, vu_eq, vu_ne, pz_wi_gc, pz_wi_ga, pz_wi_gn, pz_wi_gl, pz_wi_gr, pz_wi_same, pz_wi_X, pz_wl_gc, pz_wl_ga, pz_wl_gn, pz_wl_gi, pz_wl_gr, pz_wl_same, pz_wl_X, pz_wr_gc, pz_wr_ga, pz_wr_gn, pz_wr_gi, pz_wr_gl, pz_wr_same, pz_wr_X, b12, m1, ma, mn24, hmi0])
              refine po_brP (fun q96 => ?_) (fun q96 => ?_)
              · first
                | exact absurd q96 (by decide)
                | exact absurd trivial q96
                | exact q96.elim
                | (exfalso; (try simp (disch := omega) only [nI_ltI, nI_leI, nI_eq, nI_ltL, nI_leL, nI_eqL, nI_Llt, nI_Lle, nI_Leq, nI_eqm, nI_meq, nI_ltm, nI_lem, nI_mlt, nI_mle, lg0, lgl, lgg, lgle, lgge, Int32.not_lt, Int32.not_le, Int64.not_lt, Int64.not_le, not_false_eq_true, not_true_eq_false, Decidable.not_not, ge_iff_le, gt_iff_lt] at q96) <;> omega)
                | exact absurd q96 (by with_reducible assumption)
                | exact absurd (by with_reducible assumption) q96
                | exact absurd (Decidable.not_not.mp q96) (by with_reducible assumption)
                | exact absurd (by with_reducible assumption) (Int32.not_le.mpr q96)
                | exact absurd (by with_reducible assumption) (Int32.not_lt.mpr q96)
              · skip
                (try simp (disch := omega) only [nI_ltI, nI_leI, nI_eq, nI_ltL, nI_leL, nI_eqL, nI_Llt, nI_Lle, nI_Leq, nI_eqm, nI_meq, nI_ltm, nI_lem, nI_mlt, nI_mle, lg0, lgl, lgg, lgle, lgge, Int32.not_lt, Int32.not_le, Int64.not_lt, Int64.not_le, not_false_eq_true, not_true_eq_false, Decidable.not_not, ge_iff_le, gt_iff_lt] at q96)
                refine pw_blk (mi := mz_130) (b := bz_130_108) rfl rfl ?_
                simp only [bz_130_108, pz_cut_t, pz_cut_f, pz_cut_n, pv_gt, pv_ts, pv_tn, ev_ald0, ev_eld0, ev_gf1_2, ev_ild8, ea_lald, ev_lc0, ev_lcmp, ev_ifeq, pz_wi_gc, pz_wi_ga, pz_wi_gn, pz_wi_gl, pz_wi_gr, pz_wi_same, pz_wi_X, pz_wl_gc, pz_wl_ga, pz_wl_gn, pz_wl_gi, pz_wl_gr, pz_wl_same, pz_wl_X, pz_wr_gc, pz_wr_ga, pz_wr_gn, pz_wr_gi, pz_wr_gl, pz_wr_same, pz_wr_X, so_39 hS2, b12, m1, ma, mn24, hmi0, sa_47 hS2, sn_47 hS2, sa_46 hS2, sn_46 hS2]
                (try simp (disch := omega) only [nI_clamp, pz_in_nI2, pz_in_nI2L, pv_gt, nI_add, nI_addL, nI_Ladd, pk_mul, nI_mulL, nI_Lmul, pk_sub, nI_subL, nI_Lsub, nI_inc, nI_clampL, Nat.add_sub_cancel, pz_wi_else, pz_wl_else, vu_eq, vu_ne, pz_wi_gc, pz_wi_ga, pz_wi_gn, pz_wi_gl, pz_wi_gr, pz_wi_same, pz_wi_X, pz_wl_gc, pz_wl_ga, pz_wl_gn, pz_wl_gi, pz_wl_gr, pz_wl_same, pz_wl_X, pz_wr_gc, pz_wr_ga, pz_wr_gn, pz_wr_gi, pz_wr_gl, pz_wr_same, pz_wr_X, b12, m1, ma, mn24, hmi0])
                (try refine po_gI (by first | exact pz_in_nI (by omega) (by decide) | decide | assumption) ?_)
                refine po_brP (fun q108 => ?_) (fun q108 => ?_)
                · first
                  | exact absurd q108 (by decide)
                  | exact absurd trivial q108
                  | exact q108.elim
                  | (exfalso; (try simp (disch := omega) only [nI_ltI, nI_leI, nI_eq, nI_ltL, nI_leL, nI_eqL, nI_Llt, nI_Lle, nI_Leq, nI_eqm, nI_meq, nI_ltm, nI_lem, nI_mlt, nI_mle, lg0, lgl, lgg, lgle, lgge, Int32.not_lt, Int32.not_le, Int64.not_lt, Int64.not_le, not_false_eq_true, not_true_eq_false, Decidable.not_not, ge_iff_le, gt_iff_lt] at q108) <;> omega)
                  | exact absurd q108 (by with_reducible assumption)
                  | exact absurd (by with_reducible assumption) q108
                  | exact absurd (Decidable.not_not.mp q108) (by with_reducible assumption)
                  | exact absurd (by with_reducible assumption) (Int32.not_le.mpr q108)
                  | exact absurd (by with_reducible assumption) (Int32.not_lt.mpr q108)
                  | skip
                    (try simp (disch := omega) only [nI_ltI, nI_leI, nI_eq, nI_ltL, nI_leL, nI_eqL, nI_Llt, nI_Lle, nI_Leq, nI_eqm, nI_meq, nI_ltm, nI_lem, nI_mlt, nI_mle, lg0, lgl, lgg, lgle, lgge, Int32.not_lt, Int32.not_le, Int64.not_lt, Int64.not_le, not_false_eq_true, not_true_eq_false, Decidable.not_not, ge_iff_le, gt_iff_lt] at q108)
                    refine pw_blk (mi := mz_130) (b := bz_130_172) rfl rfl ?_
                    simp only [bz_130_172, pz_cut_t, pz_cut_f, pz_cut_n, pv_gt, pv_ts, pv_tn, ev_inc8n, ev_inc8i, ev_inc8r, ev_inc8e, ev_goto, pz_wi_gc, pz_wi_ga, pz_wi_gn, pz_wi_gl, pz_wi_gr, pz_wi_same, pz_wi_X, pz_wl_gc, pz_wl_ga, pz_wl_gn, pz_wl_gi, pz_wl_gr, pz_wl_same, pz_wl_X, pz_wr_gc, pz_wr_ga, pz_wr_gn, pz_wr_gi, pz_wr_gl, pz_wr_same, pz_wr_X, b12, m1, ma, mn24, hmi0]
                    (try simp (disch := omega) only [nI_clamp, pz_in_nI2, pz_in_nI2L, pv_gt, nI_add, nI_addL, nI_Ladd, pk_mul, nI_mulL, nI_Lmul, pk_sub, nI_subL, nI_Lsub, nI_inc, nI_clampL, Nat.add_sub_cancel, pz_wi_else, pz_wl_else, vu_eq, vu_ne, pz_wi_gc, pz_wi_ga, pz_wi_gn, pz_wi_gl, pz_wi_gr, pz_wi_same, pz_wi_X, pz_wl_gc, pz_wl_ga, pz_wl_gn, pz_wl_gi, pz_wl_gr, pz_wl_same, pz_wl_X, pz_wr_gc, pz_wr_ga, pz_wr_gn, pz_wr_gi, pz_wr_gl, pz_wr_same, pz_wr_X, b12, m1, ma, mn24, hmi0])
                    refine po_go ?_
                    exact this
                · exact absurd ((lg0 _ _).mpr rfl) q108
            · have hst : stS al cr wk er B h dr E.testBit J o (thS al cr wk er B h dr E.testBit J o m0 n).1 (fun _ => 0, (thS al cr wk er B h dr E.testBit J o m0 n).2) (i + 1) = baS al cr wk er B h dr E.testBit J o i ((thS al cr wk er B h dr E.testBit J o m0 n).1 i) (stS al cr wk er B h dr E.testBit J o (thS al cr wk er B h dr E.testBit J o m0 n).1 (fun _ => 0, (thS al cr wk er B h dr E.testBit J o m0 n).2) i) := by rw [stS, if_neg hz]
              have hmf : mvf (thS al cr wk er B h dr E.testBit J o m0 n).1 (i + 1) = true := by rw [mvf, decide_eq_true hz, Bool.or_true]
              have this : ∀ M3, sm [nx, 47] M1 M3 → agN 24 (gl M3 nx) (baS al cr wk er B h dr E.testBit J o i ((thS al cr wk er B h dr E.testBit J o m0 n).1 i) (stS al cr wk er B h dr E.testBit J o (thS al cr wk er B h dr E.testBit J o m0 n).1 (fun _ => 0, (thS al cr wk er B h dr E.testBit J o m0 n).2) i)).1 → agN 5 (gl M3 47) (baS al cr wk er B h dr E.testBit J o i ((thS al cr wk er B h dr E.testBit J o m0 n).1 i) (stS al cr wk er B h dr E.testBit J o (thS al cr wk er B h dr E.testBit J o m0 n).1 (fun _ => 0, (thS al cr wk er B h dr E.testBit J o m0 n).2) i)).2 → pw d 130 (96, [some (.ref 39), none, some (.int J), some (.int o), none, some (.int (nI E)), some (.int 1), some (.int (nI n)), some (.int (nI (i + 1))), none, none], [], M3) Q := by
                intro M3 s3 hT3 hs3
                have := ih2 (i + 1) (by omega) (by omega) M3 s3 (by rw [hst]; exact hT3) (by rw [hst]; exact hs3)
                rw [hmf] at this
                exact this
              generalize (stS al cr wk er B h dr E.testBit J o (thS al cr wk er B h dr E.testBit J o m0 n).1 (fun _ => 0, (thS al cr wk er B h dr E.testBit J o m0 n).2) i) = qq at hT2 hs2 this
              generalize (thS al cr wk er B h dr E.testBit J o m0 n).1 i = all at hmi hz this
              unfold baS at this
              have i24 : i < 24 := by omega
              by_cases hJ : nI i = J
              · have hit : itS J o i all = all * o.toInt64 / 1000 := if_pos hJ
                rw [hit] at this
                cases hbt : E.testBit i with
                | true =>
                  have hsp := fun k => m_spread (d := d - 1) (mk := E.testBit) (its := all * o.toInt64 / 1000) (Q := fun v => pw d 130 (169 + 3, [some (.ref 39), none, some (.int J), some (.int o), none, some (.int (nI E)), some (.int 1), some (.int (nI n)), some (.int (nI i)), none, none], v.1.toList ++ [], v.2) Q) (by omega) hS2 nn2 hF2 (hW2 i (by omega)) b12 hB (by omega) (hdo2 i (by omega)) her2 he (by rw [← hdrv]; exact hdr i (by omega)) hmi hT2 hs2 k
                  rw [hbt] at hsp
                  refine pw_blk (mi := mz_130) (b := bz_130_96) rfl rfl ?_
                  simp only [bz_130_96, pz_cut_t, pz_cut_f, pz_cut_n, pv_gt, pv_ts, pv_tn, ev_ild8, ev_ald0, ev_eld0, ev_gf1_2, ev_gf8_0, ev_ic_ge, pz_wi_gc, pz_wi_ga, pz_wi_gn, pz_wi_gl, pz_wi_gr, pz_wi_same, pz_wi_X, pz_wl_gc, pz_wl_ga, pz_wl_gn, pz_wl_gi, pz_wl_gr, pz_wl_same, pz_wl_X, pz_wr_gc, pz_wr_ga, pz_wr_gn, pz_wr_gi, pz_wr_gl, pz_wr_same, pz_wr_X, so_39 hS2, sr_39_0 hS2, so_4 hS2, b12, m1, ma, mn24, hmi, dbt_raw hE i24, hbt, bI_t]
                  (try simp (disch := omega) only [nI_clamp, pz_in_nI2, pz_in_nI2L, pv_gt, nI_add, nI_addL, nI_Ladd, pk_mul, nI_mulL, nI_Lmul, pk_sub, nI_subL, nI_Lsub, nI_inc, nI_clampL, Nat.add_sub_cancel, pz_wi_else, pz_wl_else, vu_eq, vu_ne, pz_wi_gc, pz_wi_ga, pz_wi_gn, pz_wi_gl, pz_wi_gr, pz_wi_same, pz_wi_X, pz_wl_gc, pz_wl_ga, pz_wl_gn, pz_wl_gi, pz_wl_gr, pz_wl_same, pz_wl_X, pz_wr_gc, pz_wr_ga, pz_wr_gn, pz_wr_gi, pz_wr_gl, pz_wr_same, pz_wr_X, b12, m1, ma, mn24, hmi, dbt_raw hE i24, hbt, bI_t])
                  refine po_brP (fun q96 => ?_) (fun q96 => ?_)
                  · first
                    | exact absurd q96 (by decide)
                    | exact absurd trivial q96
                    | exact q96.elim
                    | (exfalso; (try simp (disch := omega) only [nI_ltI, nI_leI, nI_eq, nI_ltL, nI_leL, nI_eqL, nI_Llt, nI_Lle, nI_Leq, nI_eqm, nI_meq, nI_ltm, nI_lem, nI_mlt, nI_mle, lg0, lgl, lgg, lgle, lgge, Int32.not_lt, Int32.not_le, Int64.not_lt, Int64.not_le, not_false_eq_true, not_true_eq_false, Decidable.not_not, ge_iff_le, gt_iff_lt] at q96) <;> omega)
                    | exact absurd q96 (by with_reducible assumption)
                    | exact absurd (by with_reducible assumption) q96
                    | exact absurd (Decidable.not_not.mp q96) (by with_reducible assumption)
                    | exact absurd (by with_reducible assumption) (Int32.not_le.mpr q96)
                    | exact absurd (by with_reducible assumption) (Int32.not_lt.mpr q96)
                  · skip
                    (try simp (disch := omega) only [nI_ltI, nI_leI, nI_eq, nI_ltL, nI_leL, nI_eqL, nI_Llt, nI_Lle, nI_Leq, nI_eqm, nI_meq, nI_ltm, nI_lem, nI_mlt, nI_mle, lg0, lgl, lgg, lgle, lgge, Int32.not_lt, Int32.not_le, Int64.not_lt, Int64.not_le, not_false_eq_true, not_true_eq_false, Decidable.not_not, ge_iff_le, gt_iff_lt] at q96)
                    refine pw_blk (mi := mz_130) (b := bz_130_108) rfl rfl ?_
                    simp only [bz_130_108, pz_cut_t, pz_cut_f, pz_cut_n, pv_gt, pv_ts, pv_tn, ev_ald0, ev_eld0, ev_gf1_2, ev_ild8, ea_lald, ev_lc0, ev_lcmp, ev_ifeq, pz_wi_gc, pz_wi_ga, pz_wi_gn, pz_wi_gl, pz_wi_gr, pz_wi_same, pz_wi_X, pz_wl_gc, pz_wl_ga, pz_wl_gn, pz_wl_gi, pz_wl_gr, pz_wl_same, pz_wl_X, pz_wr_gc, pz_wr_ga, pz_wr_gn, pz_wr_gi, pz_wr_gl, pz_wr_same, pz_wr_X, so_39 hS2, b12, m1, ma, mn24, hmi, dbt_raw hE i24, hbt, bI_t, sa_47 hS2, sn_47 hS2, sa_46 hS2, sn_46 hS2]
                    (try simp (disch := omega) only [nI_clamp, pz_in_nI2, pz_in_nI2L, pv_gt, nI_add, nI_addL, nI_Ladd, pk_mul, nI_mulL, nI_Lmul, pk_sub, nI_subL, nI_Lsub, nI_inc, nI_clampL, Nat.add_sub_cancel, pz_wi_else, pz_wl_else, vu_eq, vu_ne, pz_wi_gc, pz_wi_ga, pz_wi_gn, pz_wi_gl, pz_wi_gr, pz_wi_same, pz_wi_X, pz_wl_gc, pz_wl_ga, pz_wl_gn, pz_wl_gi, pz_wl_gr, pz_wl_same, pz_wl_X, pz_wr_gc, pz_wr_ga, pz_wr_gn, pz_wr_gi, pz_wr_gl, pz_wr_same, pz_wr_X, b12, m1, ma, mn24, hmi, dbt_raw hE i24, hbt, bI_t])
                    (try refine po_gI (by first | exact pz_in_nI (by omega) (by decide) | decide | assumption) ?_)
                    refine po_brP (fun q108 => ?_) (fun q108 => ?_)
                    · exact absurd ((lg0 _ _).mp q108) hz
                    · first
                      | exact absurd q108 (by decide)
                      | exact absurd trivial q108
                      | exact q108.elim
                      | (exfalso; (try simp (disch := omega) only [nI_ltI, nI_leI, nI_eq, nI_ltL, nI_leL, nI_eqL, nI_Llt, nI_Lle, nI_Leq, nI_eqm, nI_meq, nI_ltm, nI_lem, nI_mlt, nI_mle, lg0, lgl, lgg, lgle, lgge, Int32.not_lt, Int32.not_le, Int64.not_lt, Int64.not_le, not_false_eq_true, not_true_eq_false, Decidable.not_not, ge_iff_le, gt_iff_lt] at q108) <;> omega)
                      | exact absurd q108 (by with_reducible assumption)
                      | exact absurd (by with_reducible assumption) q108
                      | exact absurd (Decidable.not_not.mp q108) (by with_reducible assumption)
                      | exact absurd (by with_reducible assumption) (Int32.not_le.mpr q108)
                      | exact absurd (by with_reducible assumption) (Int32.not_lt.mpr q108)
                      | skip
                        (try simp (disch := omega) only [nI_ltI, nI_leI, nI_eq, nI_ltL, nI_leL, nI_eqL, nI_Llt, nI_Lle, nI_Leq, nI_eqm, nI_meq, nI_ltm, nI_lem, nI_mlt, nI_mle, lg0, lgl, lgg, lgle, lgge, Int32.not_lt, Int32.not_le, Int64.not_lt, Int64.not_le, not_false_eq_true, not_true_eq_false, Decidable.not_not, ge_iff_le, gt_iff_lt] at q108)
                        refine pw_blk (mi := mz_130) (b := bz_130_120) rfl rfl ?_
                        simp only [bz_130_120, pz_cut_t, pz_cut_f, pz_cut_n, pv_gt, pv_ts, pv_tn, ev_ic1, ev_ist6n, ev_ist6i, ev_ist6r, ev_ist6e, ev_ist6l, ev_ild8, ev_ild2, ev_ic_ne, pz_wi_gc, pz_wi_ga, pz_wi_gn, pz_wi_gl, pz_wi_gr, pz_wi_same, pz_wi_X, pz_wl_gc, pz_wl_ga, pz_wl_gn, pz_wl_gi, pz_wl_gr, pz_wl_same, pz_wl_X, pz_wr_gc, pz_wr_ga, pz_wr_gn, pz_wr_gi, pz_wr_gl, pz_wr_same, pz_wr_X, b12, m1, ma, mn24, hmi, dbt_raw hE i24, hbt, bI_t]
                        (try simp (disch := omega) only [nI_clamp, pz_in_nI2, pz_in_nI2L, pv_gt, nI_add, nI_addL, nI_Ladd, pk_mul, nI_mulL, nI_Lmul, pk_sub, nI_subL, nI_Lsub, nI_inc, nI_clampL, Nat.add_sub_cancel, pz_wi_else, pz_wl_else, vu_eq, vu_ne, pz_wi_gc, pz_wi_ga, pz_wi_gn, pz_wi_gl, pz_wi_gr, pz_wi_same, pz_wi_X, pz_wl_gc, pz_wl_ga, pz_wl_gn, pz_wl_gi, pz_wl_gr, pz_wl_same, pz_wl_X, pz_wr_gc, pz_wr_ga, pz_wr_gn, pz_wr_gi, pz_wr_gl, pz_wr_same, pz_wr_X, b12, m1, ma, mn24, hmi, dbt_raw hE i24, hbt, bI_t])
                        refine po_brP (fun q120 => ?_) (fun q120 => ?_)
                        · first
                          | exact absurd q120 (by decide)
                          | exact absurd trivial q120
                          | exact q120.elim
                          | (exfalso; (try simp (disch := omega) only [nI_ltI, nI_leI, nI_eq, nI_ltL, nI_leL, nI_eqL, nI_Llt, nI_Lle, nI_Leq, nI_eqm, nI_meq, nI_ltm, nI_lem, nI_mlt, nI_mle, lg0, lgl, lgg, lgle, lgge, Int32.not_lt, Int32.not_le, Int64.not_lt, Int64.not_le, not_false_eq_true, not_true_eq_false, Decidable.not_not, ge_iff_le, gt_iff_lt] at q120) <;> omega)
                          | exact absurd q120 (by with_reducible assumption)
                          | exact absurd (by with_reducible assumption) q120
                          | exact absurd (Decidable.not_not.mp q120) (by with_reducible assumption)
                          | exact absurd (by with_reducible assumption) (Int32.not_le.mpr q120)
                          | exact absurd (by with_reducible assumption) (Int32.not_lt.mpr q120)
                        · skip
                          (try simp (disch := omega) only [nI_ltI, nI_leI, nI_eq, nI_ltL, nI_leL, nI_eqL, nI_Llt, nI_Lle, nI_Leq, nI_eqm, nI_meq, nI_ltm, nI_lem, nI_mlt, nI_mle, lg0, lgl, lgg, lgle, lgge, Int32.not_lt, Int32.not_le, Int64.not_lt, Int64.not_le, not_false_eq_true, not_true_eq_false, Decidable.not_not, ge_iff_le, gt_iff_lt] at q120)
                          refine pw_blk (mi := mz_130) (b := bz_130_129) rfl rfl ?_
                          simp only [bz_130_129, pz_cut_t, pz_cut_f, pz_cut_n, pv_gt, pv_ts, pv_tn, ev_ald0, ev_eld0, ev_gf1_2, ev_ild8, ea_lald, ev_ild3, ev_i2l, ev_lmul, ev_ldl1000, ev_ldiv, ev_goto, pz_wi_gc, pz_wi_ga, pz_wi_gn, pz_wi_gl, pz_wi_gr, pz_wi_same, pz_wi_X, pz_wl_gc, pz_wl_ga, pz_wl_gn, pz_wl_gi, pz_wl_gr, pz_wl_same, pz_wl_X, pz_wr_gc, pz_wr_ga, pz_wr_gn, pz_wr_gi, pz_wr_gl, pz_wr_same, pz_wr_X, so_39 hS2, b12, m1, ma, mn24, hmi, dbt_raw hE i24, hbt, bI_t, sa_47 hS2, sn_47 hS2, sa_46 hS2, sn_46 hS2]
                          (try simp (disch := omega) only [nI_clamp, pz_in_nI2, pz_in_nI2L, pv_gt, nI_add, nI_addL, nI_Ladd, pk_mul, nI_mulL, nI_Lmul, pk_sub, nI_subL, nI_Lsub, nI_inc, nI_clampL, Nat.add_sub_cancel, pz_wi_else, pz_wl_else, vu_eq, vu_ne, pz_wi_gc, pz_wi_ga, pz_wi_gn, pz_wi_gl, pz_wi_gr, pz_wi_same, pz_wi_X, pz_wl_gc, pz_wl_ga, pz_wl_gn, pz_wl_gi, pz_wl_gr, pz_wl_same, pz_wl_X, pz_wr_gc, pz_wr_ga, pz_wr_gn, pz_wr_gi, pz_wr_gl, pz_wr_same, pz_wr_X, b12, m1, ma, mn24, hmi, dbt_raw hE i24, hbt, bI_t])
                          (try refine po_gI (by first | exact pz_in_nI (by omega) (by decide) | decide | assumption) ?_)
                          (try refine po_gP (by first | decide | assumption) ?_)
                          refine po_go ?_
                          refine pw_blk (mi := mz_130) (b := bz_130_147) rfl rfl ?_
                          simp only [bz_130_147, pz_cut_t, pz_cut_f, pz_cut_n, pv_gt, pv_ts, pv_tn, ev_lst9n, ev_lst9i, ev_lst9r, ev_lst9e, ev_lst9l, ev_ald0, ev_eld0, ev_ild8, ev_lld9, ev_ild5, ev_ishr, ev_ic1, ev_iand, ev_ifeq, pz_wi_gc, pz_wi_ga, pz_wi_gn, pz_wi_gl, pz_wi_gr, pz_wi_same, pz_wi_X, pz_wl_gc, pz_wl_ga, pz_wl_gn, pz_wl_gi, pz_wl_gr, pz_wl_same, pz_wl_X, pz_wr_gc, pz_wr_ga, pz_wr_gn, pz_wr_gi, pz_wr_gl, pz_wr_same, pz_wr_X, b12, m1, ma, mn24, hmi, dbt_raw hE i24, hbt, bI_t]
                          (try simp (disch := omega) only [nI_clamp, pz_in_nI2, pz_in_nI2L, pv_gt, nI_add, nI_addL, nI_Ladd, pk_mul, nI_mulL, nI_Lmul, pk_sub, nI_subL, nI_Lsub, nI_inc, nI_clampL, Nat.add_sub_cancel, pz_wi_else, pz_wl_else, vu_eq, vu_ne, pz_wi_gc, pz_wi_ga, pz_wi_gn, pz_wi_gl, pz_wi_gr, pz_wi_same, pz_wi_X, pz_wl_gc, pz_wl_ga, pz_wl_gn, pz_wl_gi, pz_wl_gr, pz_wl_same, pz_wl_X, pz_wr_gc, pz_wr_ga, pz_wr_gn, pz_wr_gi, pz_wr_gl, pz_wr_same, pz_wr_X, b12, m1, ma, mn24, hmi, dbt_raw hE i24, hbt, bI_t])
                          refine po_brP (fun q147 => ?_) (fun q147 => ?_)
                          · first
                            | exact absurd q147 (by decide)
                            | exact absurd trivial q147
                            | exact q147.elim
                            | (exfalso; (try simp (disch := omega) only [nI_ltI, nI_leI, nI_eq, nI_ltL, nI_leL, nI_eqL, nI_Llt, nI_Lle, nI_Leq, nI_eqm, nI_meq, nI_ltm, nI_lem, nI_mlt, nI_mle, lg0, lgl, lgg, lgle, lgge, Int32.not_lt, Int32.not_le, Int64.not_lt, Int64.not_le, not_false_eq_true, not_true_eq_false, Decidable.not_not, ge_iff_le, gt_iff_lt] at q147) <;> omega)
                            | exact absurd q147 (by with_reducible assumption)
                            | exact absurd (by with_reducible assumption) q147
                            | exact absurd (Decidable.not_not.mp q147) (by with_reducible assumption)
                            | exact absurd (by with_reducible assumption) (Int32.not_le.mpr q147)
                            | exact absurd (by with_reducible assumption) (Int32.not_lt.mpr q147)
                          · skip
                            (try simp (disch := omega) only [nI_ltI, nI_leI, nI_eq, nI_ltL, nI_leL, nI_eqL, nI_Llt, nI_Lle, nI_Leq, nI_eqm, nI_meq, nI_ltm, nI_lem, nI_mlt, nI_mle, lg0, lgl, lgg, lgle, lgge, Int32.not_lt, Int32.not_le, Int64.not_lt, Int64.not_le, not_false_eq_true, not_true_eq_false, Decidable.not_not, ge_iff_le, gt_iff_lt] at q147)
                            refine pw_blk (mi := mz_130) (b := bz_130_164) rfl rfl ?_
                            simp only [bz_130_164, pz_cut_t, pz_cut_f, pz_cut_n, pv_gt, pv_ts, pv_tn, ev_ic1, ev_goto, pz_wi_gc, pz_wi_ga, pz_wi_gn, pz_wi_gl, pz_wi_gr, pz_wi_same, pz_wi_X, pz_wl_gc, pz_wl_ga, pz_wl_gn, pz_wl_gi, pz_wl_gr, pz_wl_same, pz_wl_X, pz_wr_gc, pz_wr_ga, pz_wr_gn, pz_wr_gi, pz_wr_gl, pz_wr_same, pz_wr_X, b12, m1, ma, mn24, hmi, dbt_raw hE i24, hbt, bI_t]
                            (try simp (disch := omega) only [nI_clamp, pz_in_nI2, pz_in_nI2L, pv_gt, nI_add, nI_addL, nI_Ladd, pk_mul, nI_mulL, nI_Lmul, pk_sub, nI_subL, nI_Lsub, nI_inc, nI_clampL, Nat.add_sub_cancel, pz_wi_else, pz_wl_else, vu_eq, vu_ne, pz_wi_gc, pz_wi_ga, pz_wi_gn, pz_wi_gl, pz_wi_gr, pz_wi_same, pz_wi_X, pz_wl_gc, pz_wl_ga, pz_wl_gn, pz_wl_gi, pz_wl_gr, pz_wl_same, pz_wl_X, pz_wr_gc, pz_wr_ga, pz_wr_gn, pz_wr_gi, pz_wr_gl, pz_wr_same, pz_wr_X, b12, m1, ma, mn24, hmi, dbt_raw hE i24, hbt, bI_t])
                            refine po_go ?_
                            refine pw_blk (mi := mz_130) (b := bz_130_169) rfl rfl ?_
                            simp only [bz_130_169, pz_cut_t, pz_cut_f, pz_cut_n, pv_gt, pv_ts, pv_tn, ev_cv3_1, pz_wi_gc, pz_wi_ga, pz_wi_gn, pz_wi_gl, pz_wi_gr, pz_wi_same, pz_wi_X, pz_wl_gc, pz_wl_ga, pz_wl_gn, pz_wl_gi, pz_wl_gr, pz_wl_same, pz_wl_X, pz_wr_gc, pz_wr_ga, pz_wr_gn, pz_wr_gi, pz_wr_gl, pz_wr_same, pz_wr_X, so_39 hS2, b12, m1, ma, mn24, hmi, dbt_raw hE i24, hbt, bI_t]
                            (try simp (disch := omega) only [nI_clamp, pz_in_nI2, pz_in_nI2L, pv_gt, nI_add, nI_addL, nI_Ladd, pk_mul, nI_mulL, nI_Lmul, pk_sub, nI_subL, nI_Lsub, nI_inc, nI_clampL, Nat.add_sub_cancel, pz_wi_else, pz_wl_else, vu_eq, vu_ne, pz_wi_gc, pz_wi_ga, pz_wi_gn, pz_wi_gl, pz_wi_gr, pz_wi_same, pz_wi_X, pz_wl_gc, pz_wl_ga, pz_wl_gn, pz_wl_gi, pz_wl_gr, pz_wl_same, pz_wl_X, pz_wr_gc, pz_wr_ga, pz_wr_gn, pz_wr_gi, pz_wr_gl, pz_wr_same, pz_wr_X, b12, m1, ma, mn24, hmi, dbt_raw hE i24, hbt, bI_t])
                            (try refine po_gP (Nat.le_of_ble_eq_true rfl) ?_)
                            refine po_call (by omega) (hsp (fun M3 s3 t3 u3 => ?_))
                            refine pw_blk (mi := mz_130) (b := bz_130_172) rfl rfl ?_
                            simp only [bz_130_172, pz_cut_t, pz_cut_f, pz_cut_n, pv_gt, pv_ts, pv_tn, ev_inc8n, ev_inc8i, ev_inc8r, ev_inc8e, ev_goto, pz_wi_gc, pz_wi_ga, pz_wi_gn, pz_wi_gl, pz_wi_gr, pz_wi_same, pz_wi_X, pz_wl_gc, pz_wl_ga, pz_wl_gn, pz_wl_gi, pz_wl_gr, pz_wl_same, pz_wl_X, pz_wr_gc, pz_wr_ga, pz_wr_gn, pz_wr_gi, pz_wr_gl, pz_wr_same, pz_wr_X, b12, m1, ma, mn24, hmi, dbt_raw hE i24, hbt, bI_t]
                            (try simp (disch := omega) only [nI_clamp, pz_in_nI2, pz_in_nI2L, pv_gt, nI_add, nI_addL, nI_Ladd, pk_mul, nI_mulL, nI_Lmul, pk_sub, nI_subL, nI_Lsub, nI_inc, nI_clampL, Nat.add_sub_cancel, pz_wi_else, pz_wl_else, vu_eq, vu_ne, pz_wi_gc, pz_wi_ga, pz_wi_gn, pz_wi_gl, pz_wi_gr, pz_wi_same, pz_wi_X, pz_wl_gc, pz_wl_ga, pz_wl_gn, pz_wl_gi, pz_wl_gr, pz_wl_same, pz_wl_X, pz_wr_gc, pz_wr_ga, pz_wr_gn, pz_wr_gi, pz_wr_gl, pz_wr_same, pz_wr_X, b12, m1, ma, mn24, hmi, dbt_raw hE i24, hbt, bI_t])
                            refine po_go ?_
                            exact this M3 (s2.tr s3 (fun _ h => h)) t3 u3
                | false =>
                  have hsp := fun k => m_spread (d := d - 1) (mk := E.testBit) (its := all * o.toInt64 / 1000) (Q := fun v => pw d 130 (169 + 3, [some (.ref 39), none, some (.int J), some (.int o), none, some (.int (nI E)), some (.int 1), some (.int (nI n)), some (.int (nI i)), none, none], v.1.toList ++ [], v.2) Q) (by omega) hS2 nn2 hF2 (hW2 i (by omega)) b12 hB (by omega) (hdo2 i (by omega)) her2 he (by rw [← hdrv]; exact hdr i (by omega)) hmi hT2 hs2 k
                  rw [hbt] at hsp
                  refine pw_blk (mi := mz_130) (b := bz_130_96) rfl rfl ?_
                  simp only [bz_130_96, pz_cut_t, pz_cut_f, pz_cut_n, pv_gt, pv_ts, pv_tn, ev_ild8, ev_ald0, ev_eld0, ev_gf1_2, ev_gf8_0, ev_ic_ge, pz_wi_gc, pz_wi_ga, pz_wi_gn, pz_wi_gl, pz_wi_gr, pz_wi_same, pz_wi_X, pz_wl_gc, pz_wl_ga, pz_wl_gn, pz_wl_gi, pz_wl_gr, pz_wl_same, pz_wl_X, pz_wr_gc, pz_wr_ga, pz_wr_gn, pz_wr_gi, pz_wr_gl, pz_wr_same, pz_wr_X, so_39 hS2, sr_39_0 hS2, so_4 hS2, b12, m1, ma, mn24, hmi, dbt_raw hE i24, hbt, bI_f]
                  (try simp (disch := omega) only [nI_clamp, pz_in_nI2, pz_in_nI2L, pv_gt, nI_add, nI_addL, nI_Ladd, pk_mul, nI_mulL, nI_Lmul, pk_sub, nI_subL, nI_Lsub, nI_inc, nI_clampL, Nat.add_sub_cancel, pz_wi_else, pz_wl_else, vu_eq, vu_ne, pz_wi_gc, pz_wi_ga, pz_wi_gn, pz_wi_gl, pz_wi_gr, pz_wi_same, pz_wi_X, pz_wl_gc, pz_wl_ga, pz_wl_gn, pz_wl_gi, pz_wl_gr, pz_wl_same, pz_wl_X, pz_wr_gc, pz_wr_ga, pz_wr_gn, pz_wr_gi, pz_wr_gl, pz_wr_same, pz_wr_X, b12, m1, ma, mn24, hmi, dbt_raw hE i24, hbt, bI_f])
                  refine po_brP (fun q96 => ?_) (fun q96 => ?_)
                  · first
                    | exact absurd q96 (by decide)
                    | exact absurd trivial q96
                    | exact q96.elim
                    | (exfalso; (try simp (disch := omega) only [nI_ltI, nI_leI, nI_eq, nI_ltL, nI_leL, nI_eqL, nI_Llt, nI_Lle, nI_Leq, nI_eqm, nI_meq, nI_ltm, nI_lem, nI_mlt, nI_mle, lg0, lgl, lgg, lgle, lgge, Int32.not_lt, Int32.not_le, Int64.not_lt, Int64.not_le, not_false_eq_true, not_true_eq_false, Decidable.not_not, ge_iff_le, gt_iff_lt] at q96) <;> omega)
                    | exact absurd q96 (by with_reducible assumption)
                    | exact absurd (by with_reducible assumption) q96
                    | exact absurd (Decidable.not_not.mp q96) (by with_reducible assumption)
                    | exact absurd (by with_reducible assumption) (Int32.not_le.mpr q96)
                    | exact absurd (by with_reducible assumption) (Int32.not_lt.mpr q96)
                  · skip
                    (try simp (disch := omega) only [nI_ltI, nI_leI, nI_eq, nI_ltL, nI_leL, nI_eqL, nI_Llt, nI_Lle, nI_Leq, nI_eqm, nI_meq, nI_ltm, nI_lem, nI_mlt, nI_mle, lg0, lgl, lgg, lgle, lgge, Int32.not_lt, Int32.not_le, Int64.not_lt, Int64.not_le, not_false_eq_true, not_true_eq_false, Decidable.not_not, ge_iff_le, gt_iff_lt] at q96)
                    refine pw_blk (mi := mz_130) (b := bz_130_108) rfl rfl ?_
                    simp only [bz_130_108, pz_cut_t, pz_cut_f, pz_cut_n, pv_gt, pv_ts, pv_tn, ev_ald0, ev_eld0, ev_gf1_2, ev_ild8, ea_lald, ev_lc0, ev_lcmp, ev_ifeq, pz_wi_gc, pz_wi_ga, pz_wi_gn, pz_wi_gl, pz_wi_gr, pz_wi_same, pz_wi_X, pz_wl_gc, pz_wl_ga, pz_wl_gn, pz_wl_gi, pz_wl_gr, pz_wl_same, pz_wl_X, pz_wr_gc, pz_wr_ga, pz_wr_gn, pz_wr_gi, pz_wr_gl, pz_wr_same, pz_wr_X, so_39 hS2, b12, m1, ma, mn24, hmi, dbt_raw hE i24, hbt, bI_f, sa_47 hS2, sn_47 hS2, sa_46 hS2, sn_46 hS2]
                    (try simp (disch := omega) only [nI_clamp, pz_in_nI2, pz_in_nI2L, pv_gt, nI_add, nI_addL, nI_Ladd, pk_mul, nI_mulL, nI_Lmul, pk_sub, nI_subL, nI_Lsub, nI_inc, nI_clampL, Nat.add_sub_cancel, pz_wi_else, pz_wl_else, vu_eq, vu_ne, pz_wi_gc, pz_wi_ga, pz_wi_gn, pz_wi_gl, pz_wi_gr, pz_wi_same, pz_wi_X, pz_wl_gc, pz_wl_ga, pz_wl_gn, pz_wl_gi, pz_wl_gr, pz_wl_same, pz_wl_X, pz_wr_gc, pz_wr_ga, pz_wr_gn, pz_wr_gi, pz_wr_gl, pz_wr_same, pz_wr_X, b12, m1, ma, mn24, hmi, dbt_raw hE i24, hbt, bI_f])
                    (try refine po_gI (by first | exact pz_in_nI (by omega) (by decide) | decide | assumption) ?_)
                    refine po_brP (fun q108 => ?_) (fun q108 => ?_)
                    · exact absurd ((lg0 _ _).mp q108) hz
                    · first
                      | exact absurd q108 (by decide)
                      | exact absurd trivial q108
                      | exact q108.elim
                      | (exfalso; (try simp (disch := omega) only [nI_ltI, nI_leI, nI_eq, nI_ltL, nI_leL, nI_eqL, nI_Llt, nI_Lle, nI_Leq, nI_eqm, nI_meq, nI_ltm, nI_lem, nI_mlt, nI_mle, lg0, lgl, lgg, lgle, lgge, Int32.not_lt, Int32.not_le, Int64.not_lt, Int64.not_le, not_false_eq_true, not_true_eq_false, Decidable.not_not, ge_iff_le, gt_iff_lt] at q108) <;> omega)
                      | exact absurd q108 (by with_reducible assumption)
                      | exact absurd (by with_reducible assumption) q108
                      | exact absurd (Decidable.not_not.mp q108) (by with_reducible assumption)
                      | exact absurd (by with_reducible assumption) (Int32.not_le.mpr q108)
                      | exact absurd (by with_reducible assumption) (Int32.not_lt.mpr q108)
                      | skip
                        (try simp (disch := omega) only [nI_ltI, nI_leI, nI_eq, nI_ltL, nI_leL, nI_eqL, nI_Llt, nI_Lle, nI_Leq, nI_eqm, nI_meq, nI_ltm, nI_lem, nI_mlt, nI_mle, lg0, lgl, lgg, lgle, lgge, Int32.not_lt, Int32.not_le, Int64.not_lt, Int64.not_le, not_false_eq_true, not_true_eq_false, Decidable.not_not, ge_iff_le, gt_iff_lt] at q108)
                        refine pw_blk (mi := mz_130) (b := bz_130_120) rfl rfl ?_
                        simp only [bz_130_120, pz_cut_t, pz_cut_f, pz_cut_n, pv_gt, pv_ts, pv_tn, ev_ic1, ev_ist6n, ev_ist6i, ev_ist6r, ev_ist6e, ev_ist6l, ev_ild8, ev_ild2, ev_ic_ne, pz_wi_gc, pz_wi_ga, pz_wi_gn, pz_wi_gl, pz_wi_gr, pz_wi_same, pz_wi_X, pz_wl_gc, pz_wl_ga, pz_wl_gn, pz_wl_gi, pz_wl_gr, pz_wl_same, pz_wl_X, pz_wr_gc, pz_wr_ga, pz_wr_gn, pz_wr_gi, pz_wr_gl, pz_wr_same, pz_wr_X, b12, m1, ma, mn24, hmi, dbt_raw hE i24, hbt, bI_f]
                        (try simp (disch := omega) only [nI_clamp, pz_in_nI2, pz_in_nI2L, pv_gt, nI_add, nI_addL, nI_Ladd, pk_mul, nI_mulL, nI_Lmul, pk_sub, nI_subL, nI_Lsub, nI_inc, nI_clampL, Nat.add_sub_cancel, pz_wi_else, pz_wl_else, vu_eq, vu_ne, pz_wi_gc, pz_wi_ga, pz_wi_gn, pz_wi_gl, pz_wi_gr, pz_wi_same, pz_wi_X, pz_wl_gc, pz_wl_ga, pz_wl_gn, pz_wl_gi, pz_wl_gr, pz_wl_same, pz_wl_X, pz_wr_gc, pz_wr_ga, pz_wr_gn, pz_wr_gi, pz_wr_gl, pz_wr_same, pz_wr_X, b12, m1, ma, mn24, hmi, dbt_raw hE i24, hbt, bI_f])
                        refine po_brP (fun q120 => ?_) (fun q120 => ?_)
                        · first
                          | exact absurd q120 (by decide)
                          | exact absurd trivial q120
                          | exact q120.elim
                          | (exfalso; (try simp (disch := omega) only [nI_ltI, nI_leI, nI_eq, nI_ltL, nI_leL, nI_eqL, nI_Llt, nI_Lle, nI_Leq, nI_eqm, nI_meq, nI_ltm, nI_lem, nI_mlt, nI_mle, lg0, lgl, lgg, lgle, lgge, Int32.not_lt, Int32.not_le, Int64.not_lt, Int64.not_le, not_false_eq_true, not_true_eq_false, Decidable.not_not, ge_iff_le, gt_iff_lt] at q120) <;> omega)
                          | exact absurd q120 (by with_reducible assumption)
                          | exact absurd (by with_reducible assumption) q120
                          | exact absurd (Decidable.not_not.mp q120) (by with_reducible assumption)
                          | exact absurd (by with_reducible assumption) (Int32.not_le.mpr q120)
                          | exact absurd (by with_reducible assumption) (Int32.not_lt.mpr q120)
                        · skip
                          (try simp (disch := omega) only [nI_ltI, nI_leI, nI_eq, nI_ltL, nI_leL, nI_eqL, nI_Llt, nI_Lle, nI_Leq, nI_eqm, nI_meq, nI_ltm, nI_lem, nI_mlt, nI_mle, lg0, lgl, lgg, lgle, lgge, Int32.not_lt, Int32.not_le, Int64.not_lt, Int64.not_le, not_false_eq_true, not_true_eq_false, Decidable.not_not, ge_iff_le, gt_iff_lt] at q120)
                          refine pw_blk (mi := mz_130) (b := bz_130_129) rfl rfl ?_
                          simp only [bz_130_129, pz_cut_t, pz_cut_f, pz_cut_n, pv_gt, pv_ts, pv_tn, ev_ald0, ev_eld0, ev_gf1_2, ev_ild8, ea_lald, ev_ild3, ev_i2l, ev_lmul, ev_ldl1000, ev_ldiv, ev_goto, pz_wi_gc, pz_wi_ga, pz_wi_gn, pz_wi_gl, pz_wi_gr, pz_wi_same, pz_wi_X, pz_wl_gc, pz_wl_ga, pz_wl_gn, pz_wl_gi, pz_wl_gr, pz_wl_same, pz_wl_X, pz_wr_gc, pz_wr_ga, pz_wr_gn, pz_wr_gi, pz_wr_gl, pz_wr_same, pz_wr_X, so_39 hS2, b12, m1, ma, mn24, hmi, dbt_raw hE i24, hbt, bI_f, sa_47 hS2, sn_47 hS2, sa_46 hS2, sn_46 hS2]
                          (try simp (disch := omega) only [nI_clamp, pz_in_nI2, pz_in_nI2L, pv_gt, nI_add, nI_addL, nI_Ladd, pk_mul, nI_mulL, nI_Lmul, pk_sub, nI_subL, nI_Lsub, nI_inc, nI_clampL, Nat.add_sub_cancel, pz_wi_else, pz_wl_else, vu_eq, vu_ne, pz_wi_gc, pz_wi_ga, pz_wi_gn, pz_wi_gl, pz_wi_gr, pz_wi_same, pz_wi_X, pz_wl_gc, pz_wl_ga, pz_wl_gn, pz_wl_gi, pz_wl_gr, pz_wl_same, pz_wl_X, pz_wr_gc, pz_wr_ga, pz_wr_gn, pz_wr_gi, pz_wr_gl, pz_wr_same, pz_wr_X, b12, m1, ma, mn24, hmi, dbt_raw hE i24, hbt, bI_f])
                          (try refine po_gI (by first | exact pz_in_nI (by omega) (by decide) | decide | assumption) ?_)
                          (try refine po_gP (by first | decide | assumption) ?_)
                          refine po_go ?_
                          refine pw_blk (mi := mz_130) (b := bz_130_147) rfl rfl ?_
                          simp only [bz_130_147, pz_cut_t, pz_cut_f, pz_cut_n, pv_gt, pv_ts, pv_tn, ev_lst9n, ev_lst9i, ev_lst9r, ev_lst9e, ev_lst9l, ev_ald0, ev_eld0, ev_ild8, ev_lld9, ev_ild5, ev_ishr, ev_ic1, ev_iand, ev_ifeq, pz_wi_gc, pz_wi_ga, pz_wi_gn, pz_wi_gl, pz_wi_gr, pz_wi_same, pz_wi_X, pz_wl_gc, pz_wl_ga, pz_wl_gn, pz_wl_gi, pz_wl_gr, pz_wl_same, pz_wl_X, pz_wr_gc, pz_wr_ga, pz_wr_gn, pz_wr_gi, pz_wr_gl, pz_wr_same, pz_wr_X, b12, m1, ma, mn24, hmi, dbt_raw hE i24, hbt, bI_f]
                          (try simp (disch := omega) only [nI_clamp, pz_in_nI2, pz_in_nI2L, pv_gt, nI_add, nI_addL, nI_Ladd, pk_mul, nI_mulL, nI_Lmul, pk_sub, nI_subL, nI_Lsub, nI_inc, nI_clampL, Nat.add_sub_cancel, pz_wi_else, pz_wl_else, vu_eq, vu_ne, pz_wi_gc, pz_wi_ga, pz_wi_gn, pz_wi_gl, pz_wi_gr, pz_wi_same, pz_wi_X, pz_wl_gc, pz_wl_ga, pz_wl_gn, pz_wl_gi, pz_wl_gr, pz_wl_same, pz_wl_X, pz_wr_gc, pz_wr_ga, pz_wr_gn, pz_wr_gi, pz_wr_gl, pz_wr_same, pz_wr_X, b12, m1, ma, mn24, hmi, dbt_raw hE i24, hbt, bI_f])
                          refine po_brP (fun q147 => ?_) (fun q147 => ?_)
                          · skip
                            (try simp (disch := omega) only [nI_ltI, nI_leI, nI_eq, nI_ltL, nI_leL, nI_eqL, nI_Llt, nI_Lle, nI_Leq, nI_eqm, nI_meq, nI_ltm, nI_lem, nI_mlt, nI_mle, lg0, lgl, lgg, lgle, lgge, Int32.not_lt, Int32.not_le, Int64.not_lt, Int64.not_le, not_false_eq_true, not_true_eq_false, Decidable.not_not, ge_iff_le, gt_iff_lt] at q147)
                            refine pw_blk (mi := mz_130) (b := bz_130_168) rfl rfl ?_
                            simp only [bz_130_168, pz_cut_t, pz_cut_f, pz_cut_n, pv_gt, pv_ts, pv_tn, ev_ic0, ev_nil, pz_wi_gc, pz_wi_ga, pz_wi_gn, pz_wi_gl, pz_wi_gr, pz_wi_same, pz_wi_X, pz_wl_gc, pz_wl_ga, pz_wl_gn, pz_wl_gi, pz_wl_gr, pz_wl_same, pz_wl_X, pz_wr_gc, pz_wr_ga, pz_wr_gn, pz_wr_gi, pz_wr_gl, pz_wr_same, pz_wr_X, b12, m1, ma, mn24, hmi, dbt_raw hE i24, hbt, bI_f]
                            (try simp (disch := omega) only [nI_clamp, pz_in_nI2, pz_in_nI2L, pv_gt, nI_add, nI_addL, nI_Ladd, pk_mul, nI_mulL, nI_Lmul, pk_sub, nI_subL, nI_Lsub, nI_inc, nI_clampL, Nat.add_sub_cancel, pz_wi_else, pz_wl_else, vu_eq, vu_ne, pz_wi_gc, pz_wi_ga, pz_wi_gn, pz_wi_gl, pz_wi_gr, pz_wi_same, pz_wi_X, pz_wl_gc, pz_wl_ga, pz_wl_gn, pz_wl_gi, pz_wl_gr, pz_wl_same, pz_wl_X, pz_wr_gc, pz_wr_ga, pz_wr_gn, pz_wr_gi, pz_wr_gl, pz_wr_same, pz_wr_X, b12, m1, ma, mn24, hmi, dbt_raw hE i24, hbt, bI_f])
                            refine po_go ?_
                            refine pw_blk (mi := mz_130) (b := bz_130_169) rfl rfl ?_
                            simp only [bz_130_169, pz_cut_t, pz_cut_f, pz_cut_n, pv_gt, pv_ts, pv_tn, ev_cv3_1, pz_wi_gc, pz_wi_ga, pz_wi_gn, pz_wi_gl, pz_wi_gr, pz_wi_same, pz_wi_X, pz_wl_gc, pz_wl_ga, pz_wl_gn, pz_wl_gi, pz_wl_gr, pz_wl_same, pz_wl_X, pz_wr_gc, pz_wr_ga, pz_wr_gn, pz_wr_gi, pz_wr_gl, pz_wr_same, pz_wr_X, so_39 hS2, b12, m1, ma, mn24, hmi, dbt_raw hE i24, hbt, bI_f]
                            (try simp (disch := omega) only [nI_clamp, pz_in_nI2, pz_in_nI2L, pv_gt, nI_add, nI_addL, nI_Ladd, pk_mul, nI_mulL, nI_Lmul, pk_sub, nI_subL, nI_Lsub, nI_inc, nI_clampL, Nat.add_sub_cancel, pz_wi_else, pz_wl_else, vu_eq, vu_ne, pz_wi_gc, pz_wi_ga, pz_wi_gn, pz_wi_gl, pz_wi_gr, pz_wi_same, pz_wi_X, pz_wl_gc, pz_wl_ga, pz_wl_gn, pz_wl_gi, pz_wl_gr, pz_wl_same, pz_wl_X, pz_wr_gc, pz_wr_ga, pz_wr_gn, pz_wr_gi, pz_wr_gl, pz_wr_same, pz_wr_X, b12, m1, ma, mn24, hmi, dbt_raw hE i24, hbt, bI_f])
                            (try refine po_gP (Nat.le_of_ble_eq_true rfl) ?_)
                            refine po_call (by omega) (hsp (fun M3 s3 t3 u3 => ?_))
                            refine pw_blk (mi := mz_130) (b := bz_130_172) rfl rfl ?_
                            simp only [bz_130_172, pz_cut_t, pz_cut_f, pz_cut_n, pv_gt, pv_ts, pv_tn, ev_inc8n, ev_inc8i, ev_inc8r, ev_inc8e, ev_goto, pz_wi_gc, pz_wi_ga, pz_wi_gn, pz_wi_gl, pz_wi_gr, pz_wi_same, pz_wi_X, pz_wl_gc, pz_wl_ga, pz_wl_gn, pz_wl_gi, pz_wl_gr, pz_wl_same, pz_wl_X, pz_wr_gc, pz_wr_ga, pz_wr_gn, pz_wr_gi, pz_wr_gl, pz_wr_same, pz_wr_X, b12, m1, ma, mn24, hmi, dbt_raw hE i24, hbt, bI_f]
                            (try simp (disch := omega) only [nI_clamp, pz_in_nI2, pz_in_nI2L, pv_gt, nI_add, nI_addL, nI_Ladd, pk_mul, nI_mulL, nI_Lmul, pk_sub, nI_subL, nI_Lsub, nI_inc, nI_clampL, Nat.add_sub_cancel, pz_wi_else, pz_wl_else, vu_eq, vu_ne, pz_wi_gc, pz_wi_ga, pz_wi_gn, pz_wi_gl, pz_wi_gr, pz_wi_same, pz_wi_X, pz_wl_gc, pz_wl_ga, pz_wl_gn, pz_wl_gi, pz_wl_gr, pz_wl_same, pz_wl_X, pz_wr_gc, pz_wr_ga, pz_wr_gn, pz_wr_gi, pz_wr_gl, pz_wr_same, pz_wr_X, b12, m1, ma, mn24, hmi, dbt_raw hE i24, hbt, bI_f])
                            refine po_go ?_
                            exact this M3 (s2.tr s3 (fun _ h => h)) t3 u3
                          · first
                            | exact absurd q147 (by decide)
                            | exact absurd trivial q147
                            | exact q147.elim
                            | (exfalso; (try simp (disch := omega) only [nI_ltI, nI_leI, nI_eq, nI_ltL, nI_leL, nI_eqL, nI_Llt, nI_Lle, nI_Leq, nI_eqm, nI_meq, nI_ltm, nI_lem, nI_mlt, nI_mle, lg0, lgl, lgg, lgle, lgge, Int32.not_lt, Int32.not_le, Int64.not_lt, Int64.not_le, not_false_eq_true, not_true_eq_false, Decidable.not_not, ge_iff_le, gt_iff_lt] at q147) <;> omega)
                            | exact absurd q147 (by with_reducible assumption)
                            | exact absurd (by with_reducible assumption) q147
                            | exact absurd (Decidable.not_not.mp q147) (by with_reducible assumption)
                            | exact absurd (by with_reducible assumption) (Int32.not_le.mpr q147)
                            | exact absurd (by with_reducible assumption) (Int32.not_lt.mpr q147)
              · have hit : itS J o i all = 0 := if_neg hJ
                rw [hit] at this
                cases hbt : E.testBit i with
                | true =>
                  have hsp := fun k => m_spread (d := d - 1) (mk := E.testBit) (its := 0) (Q := fun v => pw d 130 (169 + 3, [some (.ref 39), none, some (.int J), some (.int o), none, some (.int (nI E)), some (.int 1), some (.int (nI n)), some (.int (nI i)), none, none], v.1.toList ++ [], v.2) Q) (by omega) hS2 nn2 hF2 (hW2 i (by omega)) b12 hB (by omega) (hdo2 i (by omega)) her2 he (by rw [← hdrv]; exact hdr i (by omega)) hmi hT2 hs2 k
                  rw [hbt] at hsp
                  refine pw_blk (mi := mz_130) (b := bz_130_96) rfl rfl ?_
                  simp only [bz_130_96, pz_cut_t, pz_cut_f, pz_cut_n, pv_gt, pv_ts, pv_tn, ev_ild8, ev_ald0, ev_eld0, ev_gf1_2, ev_gf8_0, ev_ic_ge, pz_wi_gc, pz_wi_ga, pz_wi_gn, pz_wi_gl, pz_wi_gr, pz_wi_same, pz_wi_X, pz_wl_gc, pz_wl_ga, pz_wl_gn, pz_wl_gi, pz_wl_gr, pz_wl_same, pz_wl_X, pz_wr_gc, pz_wr_ga, pz_wr_gn, pz_wr_gi, pz_wr_gl, pz_wr_same, pz_wr_X, so_39 hS2, sr_39_0 hS2, so_4 hS2, b12, m1, ma, mn24, hmi, dbt_raw hE i24, hbt, bI_t]
                  (try simp (disch := omega) only [nI_clamp, pz_in_nI2, pz_in_nI2L, pv_gt, nI_add, nI_addL, nI_Ladd, pk_mul, nI_mulL, nI_Lmul, pk_sub, nI_subL, nI_Lsub, nI_inc, nI_clampL, Nat.add_sub_cancel, pz_wi_else, pz_wl_else, vu_eq, vu_ne, pz_wi_gc, pz_wi_ga, pz_wi_gn, pz_wi_gl, pz_wi_gr, pz_wi_same, pz_wi_X, pz_wl_gc, pz_wl_ga, pz_wl_gn, pz_wl_gi, pz_wl_gr, pz_wl_same, pz_wl_X, pz_wr_gc, pz_wr_ga, pz_wr_gn, pz_wr_gi, pz_wr_gl, pz_wr_same, pz_wr_X, b12, m1, ma, mn24, hmi, dbt_raw hE i24, hbt, bI_t])
                  refine po_brP (fun q96 => ?_) (fun q96 => ?_)
                  · first
                    | exact absurd q96 (by decide)
                    | exact absurd trivial q96
                    | exact q96.elim
                    | (exfalso; (try simp (disch := omega) only [nI_ltI, nI_leI, nI_eq, nI_ltL, nI_leL, nI_eqL, nI_Llt, nI_Lle, nI_Leq, nI_eqm, nI_meq, nI_ltm, nI_lem, nI_mlt, nI_mle, lg0, lgl, lgg, lgle, lgge, Int32.not_lt, Int32.not_le, Int64.not_lt, Int64.not_le, not_false_eq_true, not_true_eq_false, Decidable.not_not, ge_iff_le, gt_iff_lt] at q96) <;> omega)
                    | exact absurd q96 (by with_reducible assumption)
                    | exact absurd (by with_reducible assumption) q96
                    | exact absurd (Decidable.not_not.mp q96) (by with_reducible assumption)
                    | exact absurd (by with_reducible assumption) (Int32.not_le.mpr q96)
                    | exact absurd (by with_reducible assumption) (Int32.not_lt.mpr q96)
                  · skip
                    (try simp (disch := omega) only [nI_ltI, nI_leI, nI_eq, nI_ltL, nI_leL, nI_eqL, nI_Llt, nI_Lle, nI_Leq, nI_eqm, nI_meq, nI_ltm, nI_lem, nI_mlt, nI_mle, lg0, lgl, lgg, lgle, lgge, Int32.not_lt, Int32.not_le, Int64.not_lt, Int64.not_le, not_false_eq_true, not_true_eq_false, Decidable.not_not, ge_iff_le, gt_iff_lt] at q96)
                    refine pw_blk (mi := mz_130) (b := bz_130_108) rfl rfl ?_
                    simp only [bz_130_108, pz_cut_t, pz_cut_f, pz_cut_n, pv_gt, pv_ts, pv_tn, ev_ald0, ev_eld0, ev_gf1_2, ev_ild8, ea_lald, ev_lc0, ev_lcmp, ev_ifeq, pz_wi_gc, pz_wi_ga, pz_wi_gn, pz_wi_gl, pz_wi_gr, pz_wi_same, pz_wi_X, pz_wl_gc, pz_wl_ga, pz_wl_gn, pz_wl_gi, pz_wl_gr, pz_wl_same, pz_wl_X, pz_wr_gc, pz_wr_ga, pz_wr_gn, pz_wr_gi, pz_wr_gl, pz_wr_same, pz_wr_X, so_39 hS2, b12, m1, ma, mn24, hmi, dbt_raw hE i24, hbt, bI_t, sa_47 hS2, sn_47 hS2, sa_46 hS2, sn_46 hS2]
                    (try simp (disch := omega) only [nI_clamp, pz_in_nI2, pz_in_nI2L, pv_gt, nI_add, nI_addL, nI_Ladd, pk_mul, nI_mulL, nI_Lmul, pk_sub, nI_subL, nI_Lsub, nI_inc, nI_clampL, Nat.add_sub_cancel, pz_wi_else, pz_wl_else, vu_eq, vu_ne, pz_wi_gc, pz_wi_ga, pz_wi_gn, pz_wi_gl, pz_wi_gr, pz_wi_same, pz_wi_X, pz_wl_gc, pz_wl_ga, pz_wl_gn, pz_wl_gi, pz_wl_gr, pz_wl_same, pz_wl_X, pz_wr_gc, pz_wr_ga, pz_wr_gn, pz_wr_gi, pz_wr_gl, pz_wr_same, pz_wr_X, b12, m1, ma, mn24, hmi, dbt_raw hE i24, hbt, bI_t])
                    (try refine po_gI (by first | exact pz_in_nI (by omega) (by decide) | decide | assumption) ?_)
                    refine po_brP (fun q108 => ?_) (fun q108 => ?_)
                    · exact absurd ((lg0 _ _).mp q108) hz
                    · first
                      | exact absurd q108 (by decide)
                      | exact absurd trivial q108
                      | exact q108.elim
                      | (exfalso; (try simp (disch := omega) only [nI_ltI, nI_leI, nI_eq, nI_ltL, nI_leL, nI_eqL, nI_Llt, nI_Lle, nI_Leq, nI_eqm, nI_meq, nI_ltm, nI_lem, nI_mlt, nI_mle, lg0, lgl, lgg, lgle, lgge, Int32.not_lt, Int32.not_le, Int64.not_lt, Int64.not_le, not_false_eq_true, not_true_eq_false, Decidable.not_not, ge_iff_le, gt_iff_lt] at q108) <;> omega)
                      | exact absurd q108 (by with_reducible assumption)
                      | exact absurd (by with_reducible assumption) q108
                      | exact absurd (Decidable.not_not.mp q108) (by with_reducible assumption)
                      | exact absurd (by with_reducible assumption) (Int32.not_le.mpr q108)
                      | exact absurd (by with_reducible assumption) (Int32.not_lt.mpr q108)
                      | skip
                        (try simp (disch := omega) only [nI_ltI, nI_leI, nI_eq, nI_ltL, nI_leL, nI_eqL, nI_Llt, nI_Lle, nI_Leq, nI_eqm, nI_meq, nI_ltm, nI_lem, nI_mlt, nI_mle, lg0, lgl, lgg, lgle, lgge, Int32.not_lt, Int32.not_le, Int64.not_lt, Int64.not_le, not_false_eq_true, not_true_eq_false, Decidable.not_not, ge_iff_le, gt_iff_lt] at q108)
                        refine pw_blk (mi := mz_130) (b := bz_130_120) rfl rfl ?_
                        simp only [bz_130_120, pz_cut_t, pz_cut_f, pz_cut_n, pv_gt, pv_ts, pv_tn, ev_ic1, ev_ist6n, ev_ist6i, ev_ist6r, ev_ist6e, ev_ist6l, ev_ild8, ev_ild2, ev_ic_ne, pz_wi_gc, pz_wi_ga, pz_wi_gn, pz_wi_gl, pz_wi_gr, pz_wi_same, pz_wi_X, pz_wl_gc, pz_wl_ga, pz_wl_gn, pz_wl_gi, pz_wl_gr, pz_wl_same, pz_wl_X, pz_wr_gc, pz_wr_ga, pz_wr_gn, pz_wr_gi, pz_wr_gl, pz_wr_same, pz_wr_X, b12, m1, ma, mn24, hmi, dbt_raw hE i24, hbt, bI_t]
                        (try simp (disch := omega) only [nI_clamp, pz_in_nI2, pz_in_nI2L, pv_gt, nI_add, nI_addL, nI_Ladd, pk_mul, nI_mulL, nI_Lmul, pk_sub, nI_subL, nI_Lsub, nI_inc, nI_clampL, Nat.add_sub_cancel, pz_wi_else, pz_wl_else, vu_eq, vu_ne, pz_wi_gc, pz_wi_ga, pz_wi_gn, pz_wi_gl, pz_wi_gr, pz_wi_same, pz_wi_X, pz_wl_gc, pz_wl_ga, pz_wl_gn, pz_wl_gi, pz_wl_gr, pz_wl_same, pz_wl_X, pz_wr_gc, pz_wr_ga, pz_wr_gn, pz_wr_gi, pz_wr_gl, pz_wr_same, pz_wr_X, b12, m1, ma, mn24, hmi, dbt_raw hE i24, hbt, bI_t])
                        refine po_brP (fun q120 => ?_) (fun q120 => ?_)
                        · skip
                          (try simp (disch := omega) only [nI_ltI, nI_leI, nI_eq, nI_ltL, nI_leL, nI_eqL, nI_Llt, nI_Lle, nI_Leq, nI_eqm, nI_meq, nI_ltm, nI_lem, nI_mlt, nI_mle, lg0, lgl, lgg, lgle, lgge, Int32.not_lt, Int32.not_le, Int64.not_lt, Int64.not_le, not_false_eq_true, not_true_eq_false, Decidable.not_not, ge_iff_le, gt_iff_lt] at q120)
                          refine pw_blk (mi := mz_130) (b := bz_130_146) rfl rfl ?_
                          simp only [bz_130_146, pz_cut_t, pz_cut_f, pz_cut_n, pv_gt, pv_ts, pv_tn, ev_lc0, ev_nil, pz_wi_gc, pz_wi_ga, pz_wi_gn, pz_wi_gl, pz_wi_gr, pz_wi_same, pz_wi_X, pz_wl_gc, pz_wl_ga, pz_wl_gn, pz_wl_gi, pz_wl_gr, pz_wl_same, pz_wl_X, pz_wr_gc, pz_wr_ga, pz_wr_gn, pz_wr_gi, pz_wr_gl, pz_wr_same, pz_wr_X, b12, m1, ma, mn24, hmi, dbt_raw hE i24, hbt, bI_t]
                          (try simp (disch := omega) only [nI_clamp, pz_in_nI2, pz_in_nI2L, pv_gt, nI_add, nI_addL, nI_Ladd, pk_mul, nI_mulL, nI_Lmul, pk_sub, nI_subL, nI_Lsub, nI_inc, nI_clampL, Nat.add_sub_cancel, pz_wi_else, pz_wl_else, vu_eq, vu_ne, pz_wi_gc, pz_wi_ga, pz_wi_gn, pz_wi_gl, pz_wi_gr, pz_wi_same, pz_wi_X, pz_wl_gc, pz_wl_ga, pz_wl_gn, pz_wl_gi, pz_wl_gr, pz_wl_same, pz_wl_X, pz_wr_gc, pz_wr_ga, pz_wr_gn, pz_wr_gi, pz_wr_gl, pz_wr_same, pz_wr_X, b12, m1, ma, mn24, hmi, dbt_raw hE i24, hbt, bI_t])
                          refine po_go ?_
                          refine pw_blk (mi := mz_130) (b := bz_130_147) rfl rfl ?_
                          simp only [bz_130_147, pz_cut_t, pz_cut_f, pz_cut_n, pv_gt, pv_ts, pv_tn, ev_lst9n, ev_lst9i, ev_lst9r, ev_lst9e, ev_lst9l, ev_ald0, ev_eld0, ev_ild8, ev_lld9, ev_ild5, ev_ishr, ev_ic1, ev_iand, ev_ifeq, pz_wi_gc, pz_wi_ga, pz_wi_gn, pz_wi_gl, pz_wi_gr, pz_wi_same, pz_wi_X, pz_wl_gc, pz_wl_ga, pz_wl_gn, pz_wl_gi, pz_wl_gr, pz_wl_same, pz_wl_X, pz_wr_gc, pz_wr_ga, pz_wr_gn, pz_wr_gi, pz_wr_gl, pz_wr_same, pz_wr_X, b12, m1, ma, mn24, hmi, dbt_raw hE i24, hbt, bI_t]
                          (try simp (disch := omega) only [nI_clamp, pz_in_nI2, pz_in_nI2L, pv_gt, nI_add, nI_addL, nI_Ladd, pk_mul, nI_mulL, nI_Lmul, pk_sub, nI_subL, nI_Lsub, nI_inc, nI_clampL, Nat.add_sub_cancel, pz_wi_else, pz_wl_else, vu_eq, vu_ne, pz_wi_gc, pz_wi_ga, pz_wi_gn, pz_wi_gl, pz_wi_gr, pz_wi_same, pz_wi_X, pz_wl_gc, pz_wl_ga, pz_wl_gn, pz_wl_gi, pz_wl_gr, pz_wl_same, pz_wl_X, pz_wr_gc, pz_wr_ga, pz_wr_gn, pz_wr_gi, pz_wr_gl, pz_wr_same, pz_wr_X, b12, m1, ma, mn24, hmi, dbt_raw hE i24, hbt, bI_t])
                          refine po_brP (fun q147 => ?_) (fun q147 => ?_)
                          · first
                            | exact absurd q147 (by decide)
                            | exact absurd trivial q147
                            | exact q147.elim
                            | (exfalso; (try simp (disch := omega) only [nI_ltI, nI_leI, nI_eq, nI_ltL, nI_leL, nI_eqL, nI_Llt, nI_Lle, nI_Leq, nI_eqm, nI_meq, nI_ltm, nI_lem, nI_mlt, nI_mle, lg0, lgl, lgg, lgle, lgge, Int32.not_lt, Int32.not_le, Int64.not_lt, Int64.not_le, not_false_eq_true, not_true_eq_false, Decidable.not_not, ge_iff_le, gt_iff_lt] at q147) <;> omega)
                            | exact absurd q147 (by with_reducible assumption)
                            | exact absurd (by with_reducible assumption) q147
                            | exact absurd (Decidable.not_not.mp q147) (by with_reducible assumption)
                            | exact absurd (by with_reducible assumption) (Int32.not_le.mpr q147)
                            | exact absurd (by with_reducible assumption) (Int32.not_lt.mpr q147)
                          · skip
                            (try simp (disch := omega) only [nI_ltI, nI_leI, nI_eq, nI_ltL, nI_leL, nI_eqL, nI_Llt, nI_Lle, nI_Leq, nI_eqm, nI_meq, nI_ltm, nI_lem, nI_mlt, nI_mle, lg0, lgl, lgg, lgle, lgge, Int32.not_lt, Int32.not_le, Int64.not_lt, Int64.not_le, not_false_eq_true, not_true_eq_false, Decidable.not_not, ge_iff_le, gt_iff_lt] at q147)
                            refine pw_blk (mi := mz_130) (b := bz_130_164) rfl rfl ?_
                            simp only [bz_130_164, pz_cut_t, pz_cut_f, pz_cut_n, pv_gt, pv_ts, pv_tn, ev_ic1, ev_goto, pz_wi_gc, pz_wi_ga, pz_wi_gn, pz_wi_gl, pz_wi_gr, pz_wi_same, pz_wi_X, pz_wl_gc, pz_wl_ga, pz_wl_gn, pz_wl_gi, pz_wl_gr, pz_wl_same, pz_wl_X, pz_wr_gc, pz_wr_ga, pz_wr_gn, pz_wr_gi, pz_wr_gl, pz_wr_same, pz_wr_X, b12, m1, ma, mn24, hmi, dbt_raw hE i24, hbt, bI_t]
                            (try simp (disch := omega) only [nI_clamp, pz_in_nI2, pz_in_nI2L, pv_gt, nI_add, nI_addL, nI_Ladd, pk_mul, nI_mulL, nI_Lmul, pk_sub, nI_subL, nI_Lsub, nI_inc, nI_clampL, Nat.add_sub_cancel, pz_wi_else, pz_wl_else, vu_eq, vu_ne, pz_wi_gc, pz_wi_ga, pz_wi_gn, pz_wi_gl, pz_wi_gr, pz_wi_same, pz_wi_X, pz_wl_gc, pz_wl_ga, pz_wl_gn, pz_wl_gi, pz_wl_gr, pz_wl_same, pz_wl_X, pz_wr_gc, pz_wr_ga, pz_wr_gn, pz_wr_gi, pz_wr_gl, pz_wr_same, pz_wr_X, b12, m1, ma, mn24, hmi, dbt_raw hE i24, hbt, bI_t])
                            refine po_go ?_
                            refine pw_blk (mi := mz_130) (b := bz_130_169) rfl rfl ?_
                            simp only [bz_130_169, pz_cut_t, pz_cut_f, pz_cut_n, pv_gt, pv_ts, pv_tn, ev_cv3_1, pz_wi_gc, pz_wi_ga, pz_wi_gn, pz_wi_gl, pz_wi_gr, pz_wi_same, pz_wi_X, pz_wl_gc, pz_wl_ga, pz_wl_gn, pz_wl_gi, pz_wl_gr, pz_wl_same, pz_wl_X, pz_wr_gc, pz_wr_ga, pz_wr_gn, pz_wr_gi, pz_wr_gl, pz_wr_same, pz_wr_X, so_39 hS2, b12, m1, ma, mn24, hmi, dbt_raw hE i24, hbt, bI_t]
                            (try simp (disch := omega) only [nI_clamp, pz_in_nI2, pz_in_nI2L, pv_gt, nI_add, nI_addL, nI_Ladd, pk_mul, nI_mulL, nI_Lmul, pk_sub, nI_subL, nI_Lsub, nI_inc, nI_clampL, Nat.add_sub_cancel, pz_wi_else, pz_wl_else, vu_eq, vu_ne, pz_wi_gc, pz_wi_ga, pz_wi_gn, pz_wi_gl, pz_wi_gr, pz_wi_same, pz_wi_X, pz_wl_gc, pz_wl_ga, pz_wl_gn, pz_wl_gi, pz_wl_gr, pz_wl_same, pz_wl_X, pz_wr_gc, pz_wr_ga, pz_wr_gn, pz_wr_gi, pz_wr_gl, pz_wr_same, pz_wr_X, b12, m1, ma, mn24, hmi, dbt_raw hE i24, hbt, bI_t])
                            (try refine po_gP (Nat.le_of_ble_eq_true rfl) ?_)
                            refine po_call (by omega) (hsp (fun M3 s3 t3 u3 => ?_))
                            refine pw_blk (mi := mz_130) (b := bz_130_172) rfl rfl ?_
                            simp only [bz_130_172, pz_cut_t, pz_cut_f, pz_cut_n, pv_gt, pv_ts, pv_tn, ev_inc8n, ev_inc8i, ev_inc8r, ev_inc8e, ev_goto, pz_wi_gc, pz_wi_ga, pz_wi_gn, pz_wi_gl, pz_wi_gr, pz_wi_same, pz_wi_X, pz_wl_gc, pz_wl_ga, pz_wl_gn, pz_wl_gi, pz_wl_gr, pz_wl_same, pz_wl_X, pz_wr_gc, pz_wr_ga, pz_wr_gn, pz_wr_gi, pz_wr_gl, pz_wr_same, pz_wr_X, b12, m1, ma, mn24, hmi, dbt_raw hE i24, hbt, bI_t]
                            (try simp (disch := omega) only [nI_clamp, pz_in_nI2, pz_in_nI2L, pv_gt, nI_add, nI_addL, nI_Ladd, pk_mul, nI_mulL, nI_Lmul, pk_sub, nI_subL, nI_Lsub, nI_inc, nI_clampL, Nat.add_sub_cancel, pz_wi_else, pz_wl_else, vu_eq, vu_ne, pz_wi_gc, pz_wi_ga, pz_wi_gn, pz_wi_gl, pz_wi_gr, pz_wi_same, pz_wi_X, pz_wl_gc, pz_wl_ga, pz_wl_gn, pz_wl_gi, pz_wl_gr, pz_wl_same, pz_wl_X, pz_wr_gc, pz_wr_ga, pz_wr_gn, pz_wr_gi, pz_wr_gl, pz_wr_same, pz_wr_X, b12, m1, ma, mn24, hmi, dbt_raw hE i24, hbt, bI_t])
                            refine po_go ?_
                            exact this M3 (s2.tr s3 (fun _ h => h)) t3 u3
                        · first
                          | exact absurd q120 (by decide)
                          | exact absurd trivial q120
                          | exact q120.elim
                          | (exfalso; (try simp (disch := omega) only [nI_ltI, nI_leI, nI_eq, nI_ltL, nI_leL, nI_eqL, nI_Llt, nI_Lle, nI_Leq, nI_eqm, nI_meq, nI_ltm, nI_lem, nI_mlt, nI_mle, lg0, lgl, lgg, lgle, lgge, Int32.not_lt, Int32.not_le, Int64.not_lt, Int64.not_le, not_false_eq_true, not_true_eq_false, Decidable.not_not, ge_iff_le, gt_iff_lt] at q120) <;> omega)
                          | exact absurd q120 (by with_reducible assumption)
                          | exact absurd (by with_reducible assumption) q120
                          | exact absurd (Decidable.not_not.mp q120) (by with_reducible assumption)
                          | exact absurd (by with_reducible assumption) (Int32.not_le.mpr q120)
                          | exact absurd (by with_reducible assumption) (Int32.not_lt.mpr q120)
                | false =>
                  have hsp := fun k => m_spread (d := d - 1) (mk := E.testBit) (its := 0) (Q := fun v => pw d 130 (169 + 3, [some (.ref 39), none, some (.int J), some (.int o), none, some (.int (nI E)), some (.int 1), some (.int (nI n)), some (.int (nI i)), none, none], v.1.toList ++ [], v.2) Q) (by omega) hS2 nn2 hF2 (hW2 i (by omega)) b12 hB (by omega) (hdo2 i (by omega)) her2 he (by rw [← hdrv]; exact hdr i (by omega)) hmi hT2 hs2 k
                  rw [hbt] at hsp
                  refine pw_blk (mi := mz_130) (b := bz_130_96) rfl rfl ?_
                  simp only [bz_130_96, pz_cut_t, pz_cut_f, pz_cut_n, pv_gt, pv_ts, pv_tn, ev_ild8, ev_ald0, ev_eld0, ev_gf1_2, ev_gf8_0, ev_ic_ge, pz_wi_gc, pz_wi_ga, pz_wi_gn, pz_wi_gl, pz_wi_gr, pz_wi_same, pz_wi_X, pz_wl_gc, pz_wl_ga, pz_wl_gn, pz_wl_gi, pz_wl_gr, pz_wl_same, pz_wl_X, pz_wr_gc, pz_wr_ga, pz_wr_gn, pz_wr_gi, pz_wr_gl, pz_wr_same, pz_wr_X, so_39 hS2, sr_39_0 hS2, so_4 hS2, b12, m1, ma, mn24, hmi, dbt_raw hE i24, hbt, bI_f]
                  (try simp (disch := omega) only [nI_clamp, pz_in_nI2, pz_in_nI2L, pv_gt, nI_add, nI_addL, nI_Ladd, pk_mul, nI_mulL, nI_Lmul, pk_sub, nI_subL, nI_Lsub, nI_inc, nI_clampL, Nat.add_sub_cancel, pz_wi_else, pz_wl_else, vu_eq, vu_ne, pz_wi_gc, pz_wi_ga, pz_wi_gn, pz_wi_gl, pz_wi_gr, pz_wi_same, pz_wi_X, pz_wl_gc, pz_wl_ga, pz_wl_gn, pz_wl_gi, pz_wl_gr, pz_wl_same, pz_wl_X, pz_wr_gc, pz_wr_ga, pz_wr_gn, pz_wr_gi, pz_wr_gl, pz_wr_same, pz_wr_X, b12, m1, ma, mn24, hmi, dbt_raw hE i24, hbt, bI_f])
                  refine po_brP (fun q96 => ?_) (fun q96 => ?_)
                  · first
                    | exact absurd q96 (by decide)
                    | exact absurd trivial q96
                    | exact q96.elim
                    | (exfalso; (try simp (disch := omega) only [nI_ltI, nI_leI, nI_eq, nI_ltL, nI_leL, nI_eqL, nI_Llt, nI_Lle, nI_Leq, nI_eqm, nI_meq, nI_ltm, nI_lem, nI_mlt, nI_mle, lg0, lgl, lgg, lgle, lgge, Int32.not_lt, Int32.not_le, Int64.not_lt, Int64.not_le, not_false_eq_true, not_true_eq_false, Decidable.not_not, ge_iff_le, gt_iff_lt] at q96) <;> omega)
                    | exact absurd q96 (by with_reducible assumption)
                    | exact absurd (by with_reducible assumption) q96
                    | exact absurd (Decidable.not_not.mp q96) (by with_reducible assumption)
                    | exact absurd (by with_reducible assumption) (Int32.not_le.mpr q96)
                    | exact absurd (by with_reducible assumption) (Int32.not_lt.mpr q96)
                  · skip
                    (try simp (disch := omega) only [nI_ltI, nI_leI, nI_eq, nI_ltL, nI_leL, nI_eqL, nI_Llt, nI_Lle, nI_Leq, nI_eqm, nI_meq, nI_ltm, nI_lem, nI_mlt, nI_mle, lg0, lgl, lgg, lgle, lgge, Int32.not_lt, Int32.not_le, Int64.not_lt, Int64.not_le, not_false_eq_true, not_true_eq_false, Decidable.not_not, ge_iff_le, gt_iff_lt] at q96)
                    refine pw_blk (mi := mz_130) (b := bz_130_108) rfl rfl ?_
                    simp only [bz_130_108, pz_cut_t, pz_cut_f, pz_cut_n, pv_gt, pv_ts, pv_tn, ev_ald0, ev_eld0, ev_gf1_2, ev_ild8, ea_lald, ev_lc0, ev_lcmp, ev_ifeq, pz_wi_gc, pz_wi_ga, pz_wi_gn, pz_wi_gl, pz_wi_gr, pz_wi_same, pz_wi_X, pz_wl_gc, pz_wl_ga, pz_wl_gn, pz_wl_gi, pz_wl_gr, pz_wl_same, pz_wl_X, pz_wr_gc, pz_wr_ga, pz_wr_gn, pz_wr_gi, pz_wr_gl, pz_wr_same, pz_wr_X, so_39 hS2, b12, m1, ma, mn24, hmi, dbt_raw hE i24, hbt, bI_f, sa_47 hS2, sn_47 hS2, sa_46 hS2, sn_46 hS2]
                    (try simp (disch := omega) only [nI_clamp, pz_in_nI2, pz_in_nI2L, pv_gt, nI_add, nI_addL, nI_Ladd, pk_mul, nI_mulL, nI_Lmul, pk_sub, nI_subL, nI_Lsub, nI_inc, nI_clampL, Nat.add_sub_cancel, pz_wi_else, pz_wl_else, vu_eq, vu_ne, pz_wi_gc, pz_wi_ga, pz_wi_gn, pz_wi_gl, pz_wi_gr, pz_wi_same, pz_wi_X, pz_wl_gc, pz_wl_ga, pz_wl_gn, pz_wl_gi, pz_wl_gr, pz_wl_same, pz_wl_X, pz_wr_gc, pz_wr_ga, pz_wr_gn, pz_wr_gi, pz_wr_gl, pz_wr_same, pz_wr_X, b12, m1, ma, mn24, hmi, dbt_raw hE i24, hbt, bI_f])
                    (try refine po_gI (by first | exact pz_in_nI (by omega) (by decide) | decide | assumption) ?_)
                    refine po_brP (fun q108 => ?_) (fun q108 => ?_)
                    · exact absurd ((lg0 _ _).mp q108) hz
                    · first
                      | exact absurd q108 (by decide)
                      | exact absurd trivial q108
                      | exact q108.elim
                      | (exfalso; (try simp (disch := omega) only [nI_ltI, nI_leI, nI_eq, nI_ltL, nI_leL, nI_eqL, nI_Llt, nI_Lle, nI_Leq, nI_eqm, nI_meq, nI_ltm, nI_lem, nI_mlt, nI_mle, lg0, lgl, lgg, lgle, lgge, Int32.not_lt, Int32.not_le, Int64.not_lt, Int64.not_le, not_false_eq_true, not_true_eq_false, Decidable.not_not, ge_iff_le, gt_iff_lt] at q108) <;> omega)
                      | exact absurd q108 (by with_reducible assumption)
                      | exact absurd (by with_reducible assumption) q108
                      | exact absurd (Decidable.not_not.mp q108) (by with_reducible assumption)
                      | exact absurd (by with_reducible assumption) (Int32.not_le.mpr q108)
                      | exact absurd (by with_reducible assumption) (Int32.not_lt.mpr q108)
                      | skip
                        (try simp (disch := omega) only [nI_ltI, nI_leI, nI_eq, nI_ltL, nI_leL, nI_eqL, nI_Llt, nI_Lle, nI_Leq, nI_eqm, nI_meq, nI_ltm, nI_lem, nI_mlt, nI_mle, lg0, lgl, lgg, lgle, lgge, Int32.not_lt, Int32.not_le, Int64.not_lt, Int64.not_le, not_false_eq_true, not_true_eq_false, Decidable.not_not, ge_iff_le, gt_iff_lt] at q108)
                        refine pw_blk (mi := mz_130) (b := bz_130_120) rfl rfl ?_
                        simp only [bz_130_120, pz_cut_t, pz_cut_f, pz_cut_n, pv_gt, pv_ts, pv_tn, ev_ic1, ev_ist6n, ev_ist6i, ev_ist6r, ev_ist6e, ev_ist6l, ev_ild8, ev_ild2, ev_ic_ne, pz_wi_gc, pz_wi_ga, pz_wi_gn, pz_wi_gl, pz_wi_gr, pz_wi_same, pz_wi_X, pz_wl_gc, pz_wl_ga, pz_wl_gn, pz_wl_gi, pz_wl_gr, pz_wl_same, pz_wl_X, pz_wr_gc, pz_wr_ga, pz_wr_gn, pz_wr_gi, pz_wr_gl, pz_wr_same, pz_wr_X, b12, m1, ma, mn24, hmi, dbt_raw hE i24, hbt, bI_f]
                        (try simp (disch := omega) only [nI_clamp, pz_in_nI2, pz_in_nI2L, pv_gt, nI_add, nI_addL, nI_Ladd, pk_mul, nI_mulL, nI_Lmul, pk_sub, nI_subL, nI_Lsub, nI_inc, nI_clampL, Nat.add_sub_cancel, pz_wi_else, pz_wl_else, vu_eq, vu_ne, pz_wi_gc, pz_wi_ga, pz_wi_gn, pz_wi_gl, pz_wi_gr, pz_wi_same, pz_wi_X, pz_wl_gc, pz_wl_ga, pz_wl_gn, pz_wl_gi, pz_wl_gr, pz_wl_same, pz_wl_X, pz_wr_gc, pz_wr_ga, pz_wr_gn, pz_wr_gi, pz_wr_gl, pz_wr_same, pz_wr_X, b12, m1, ma, mn24, hmi, dbt_raw hE i24, hbt, bI_f])
                        refine po_brP (fun q120 => ?_) (fun q120 => ?_)
                        · skip
                          (try simp (disch := omega) only [nI_ltI, nI_leI, nI_eq, nI_ltL, nI_leL, nI_eqL, nI_Llt, nI_Lle, nI_Leq, nI_eqm, nI_meq, nI_ltm, nI_lem, nI_mlt, nI_mle, lg0, lgl, lgg, lgle, lgge, Int32.not_lt, Int32.not_le, Int64.not_lt, Int64.not_le, not_false_eq_true, not_true_eq_false, Decidable.not_not, ge_iff_le, gt_iff_lt] at q120)
                          refine pw_blk (mi := mz_130) (b := bz_130_146) rfl rfl ?_
                          simp only [bz_130_146, pz_cut_t, pz_cut_f, pz_cut_n, pv_gt, pv_ts, pv_tn, ev_lc0, ev_nil, pz_wi_gc, pz_wi_ga, pz_wi_gn, pz_wi_gl, pz_wi_gr, pz_wi_same, pz_wi_X, pz_wl_gc, pz_wl_ga, pz_wl_gn, pz_wl_gi, pz_wl_gr, pz_wl_same, pz_wl_X, pz_wr_gc, pz_wr_ga, pz_wr_gn, pz_wr_gi, pz_wr_gl, pz_wr_same, pz_wr_X, b12, m1, ma, mn24, hmi, dbt_raw hE i24, hbt, bI_f]
                          (try simp (disch := omega) only [nI_clamp, pz_in_nI2, pz_in_nI2L, pv_gt, nI_add, nI_addL, nI_Ladd, pk_mul, nI_mulL, nI_Lmul, pk_sub, nI_subL, nI_Lsub, nI_inc, nI_clampL, Nat.add_sub_cancel, pz_wi_else, pz_wl_else, vu_eq, vu_ne, pz_wi_gc, pz_wi_ga, pz_wi_gn, pz_wi_gl, pz_wi_gr, pz_wi_same, pz_wi_X, pz_wl_gc, pz_wl_ga, pz_wl_gn, pz_wl_gi, pz_wl_gr, pz_wl_same, pz_wl_X, pz_wr_gc, pz_wr_ga, pz_wr_gn, pz_wr_gi, pz_wr_gl, pz_wr_same, pz_wr_X, b12, m1, ma, mn24, hmi, dbt_raw hE i24, hbt, bI_f])
                          refine po_go ?_
                          refine pw_blk (mi := mz_130) (b := bz_130_147) rfl rfl ?_
                          simp only [bz_130_147, pz_cut_t, pz_cut_f, pz_cut_n, pv_gt, pv_ts, pv_tn, ev_lst9n, ev_lst9i, ev_lst9r, ev_lst9e, ev_lst9l, ev_ald0, ev_eld0, ev_ild8, ev_lld9, ev_ild5, ev_ishr, ev_ic1, ev_iand, ev_ifeq, pz_wi_gc, pz_wi_ga, pz_wi_gn, pz_wi_gl, pz_wi_gr, pz_wi_same, pz_wi_X, pz_wl_gc, pz_wl_ga, pz_wl_gn, pz_wl_gi, pz_wl_gr, pz_wl_same, pz_wl_X, pz_wr_gc, pz_wr_ga, pz_wr_gn, pz_wr_gi, pz_wr_gl, pz_wr_same, pz_wr_X, b12, m1, ma, mn24, hmi, dbt_raw hE i24, hbt, bI_f]
                          (try simp (disch := omega) only [nI_clamp, pz_in_nI2, pz_in_nI2L, pv_gt, nI_add, nI_addL, nI_Ladd, pk_mul, nI_mulL, nI_Lmul, pk_sub, nI_subL, nI_Lsub, nI_inc, nI_clampL, Nat.add_sub_cancel, pz_wi_else, pz_wl_else, vu_eq, vu_ne, pz_wi_gc, pz_wi_ga, pz_wi_gn, pz_wi_gl, pz_wi_gr, pz_wi_same, pz_wi_X, pz_wl_gc, pz_wl_ga, pz_wl_gn, pz_wl_gi, pz_wl_gr, pz_wl_same, pz_wl_X, pz_wr_gc, pz_wr_ga, pz_wr_gn, pz_wr_gi, pz_wr_gl, pz_wr_same, pz_wr_X, b12, m1, ma, mn24, hmi, dbt_raw hE i24, hbt, bI_f])
                          refine po_brP (fun q147 => ?_) (fun q147 => ?_)
                          · skip
                            (try simp (disch := omega) only [nI_ltI, nI_leI, nI_eq, nI_ltL, nI_leL, nI_eqL, nI_Llt, nI_Lle, nI_Leq, nI_eqm, nI_meq, nI_ltm, nI_lem, nI_mlt, nI_mle, lg0, lgl, lgg, lgle, lgge, Int32.not_lt, Int32.not_le, Int64.not_lt, Int64.not_le, not_false_eq_true, not_true_eq_false, Decidable.not_not, ge_iff_le, gt_iff_lt] at q147)
                            refine pw_blk (mi := mz_130) (b := bz_130_168) rfl rfl ?_
                            simp only [bz_130_168, pz_cut_t, pz_cut_f, pz_cut_n, pv_gt, pv_ts, pv_tn, ev_ic0, ev_nil, pz_wi_gc, pz_wi_ga, pz_wi_gn, pz_wi_gl, pz_wi_gr, pz_wi_same, pz_wi_X, pz_wl_gc, pz_wl_ga, pz_wl_gn, pz_wl_gi, pz_wl_gr, pz_wl_same, pz_wl_X, pz_wr_gc, pz_wr_ga, pz_wr_gn, pz_wr_gi, pz_wr_gl, pz_wr_same, pz_wr_X, b12, m1, ma, mn24, hmi, dbt_raw hE i24, hbt, bI_f]
                            (try simp (disch := omega) only [nI_clamp, pz_in_nI2, pz_in_nI2L, pv_gt, nI_add, nI_addL, nI_Ladd, pk_mul, nI_mulL, nI_Lmul, pk_sub, nI_subL, nI_Lsub, nI_inc, nI_clampL, Nat.add_sub_cancel, pz_wi_else, pz_wl_else, vu_eq, vu_ne, pz_wi_gc, pz_wi_ga, pz_wi_gn, pz_wi_gl, pz_wi_gr, pz_wi_same, pz_wi_X, pz_wl_gc, pz_wl_ga, pz_wl_gn, pz_wl_gi, pz_wl_gr, pz_wl_same, pz_wl_X, pz_wr_gc, pz_wr_ga, pz_wr_gn, pz_wr_gi, pz_wr_gl, pz_wr_same, pz_wr_X, b12, m1, ma, mn24, hmi, dbt_raw hE i24, hbt, bI_f])
                            refine po_go ?_
                            refine pw_blk (mi := mz_130) (b := bz_130_169) rfl rfl ?_
                            simp only [bz_130_169, pz_cut_t, pz_cut_f, pz_cut_n, pv_gt, pv_ts, pv_tn, ev_cv3_1, pz_wi_gc, pz_wi_ga, pz_wi_gn, pz_wi_gl, pz_wi_gr, pz_wi_same, pz_wi_X, pz_wl_gc, pz_wl_ga, pz_wl_gn, pz_wl_gi, pz_wl_gr, pz_wl_same, pz_wl_X, pz_wr_gc, pz_wr_ga, pz_wr_gn, pz_wr_gi, pz_wr_gl, pz_wr_same, pz_wr_X, so_39 hS2, b12, m1, ma, mn24, hmi, dbt_raw hE i24, hbt, bI_f]
                            (try simp (disch := omega) only [nI_clamp, pz_in_nI2, pz_in_nI2L, pv_gt, nI_add, nI_addL, nI_Ladd, pk_mul, nI_mulL, nI_Lmul, pk_sub, nI_subL, nI_Lsub, nI_inc, nI_clampL, Nat.add_sub_cancel, pz_wi_else, pz_wl_else, vu_eq, vu_ne, pz_wi_gc, pz_wi_ga, pz_wi_gn, pz_wi_gl, pz_wi_gr, pz_wi_same, pz_wi_X, pz_wl_gc, pz_wl_ga, pz_wl_gn, pz_wl_gi, pz_wl_gr, pz_wl_same, pz_wl_X, pz_wr_gc, pz_wr_ga, pz_wr_gn, pz_wr_gi, pz_wr_gl, pz_wr_same, pz_wr_X, b12, m1, ma, mn24, hmi, dbt_raw hE i24, hbt, bI_f])
                            (try refine po_gP (Nat.le_of_ble_eq_true rfl) ?_)
                            refine po_call (by omega) (hsp (fun M3 s3 t3 u3 => ?_))
                            refine pw_blk (mi := mz_130) (b := bz_130_172) rfl rfl ?_
                            simp only [bz_130_172, pz_cut_t, pz_cut_f, pz_cut_n, pv_gt, pv_ts, pv_tn, ev_inc8n, ev_inc8i, ev_inc8r, ev_inc8e, ev_goto, pz_wi_gc, pz_wi_ga, pz_wi_gn, pz_wi_gl, pz_wi_gr, pz_wi_same, pz_wi_X, pz_wl_gc, pz_wl_ga, pz_wl_gn, pz_wl_gi, pz_wl_gr, pz_wl_same, pz_wl_X, pz_wr_gc, pz_wr_ga, pz_wr_gn, pz_wr_gi, pz_wr_gl, pz_wr_same, pz_wr_X, b12, m1, ma, mn24, hmi, dbt_raw hE i24, hbt, bI_f]
                            (try simp (disch := omega) only [nI_clamp, pz_in_nI2, pz_in_nI2L, pv_gt, nI_add, nI_addL, nI_Ladd, pk_mul, nI_mulL, nI_Lmul, pk_sub, nI_subL, nI_Lsub, nI_inc, nI_clampL, Nat.add_sub_cancel, pz_wi_else, pz_wl_else, vu_eq, vu_ne, pz_wi_gc, pz_wi_ga, pz_wi_gn, pz_wi_gl, pz_wi_gr, pz_wi_same, pz_wi_X, pz_wl_gc, pz_wl_ga, pz_wl_gn, pz_wl_gi, pz_wl_gr, pz_wl_same, pz_wl_X, pz_wr_gc, pz_wr_ga, pz_wr_gn, pz_wr_gi, pz_wr_gl, pz_wr_same, pz_wr_X, b12, m1, ma, mn24, hmi, dbt_raw hE i24, hbt, bI_f])
                            refine po_go ?_
                            exact this M3 (s2.tr s3 (fun _ h => h)) t3 u3
                          · first
                            | exact absurd q147 (by decide)
                            | exact absurd trivial q147
                            | exact q147.elim
                            | (exfalso; (try simp (disch := omega) only [nI_ltI, nI_leI, nI_eq, nI_ltL, nI_leL, nI_eqL, nI_Llt, nI_Lle, nI_Leq, nI_eqm, nI_meq, nI_ltm, nI_lem, nI_mlt, nI_mle, lg0, lgl, lgg, lgle, lgge, Int32.not_lt, Int32.not_le, Int64.not_lt, Int64.not_le, not_false_eq_true, not_true_eq_false, Decidable.not_not, ge_iff_le, gt_iff_lt] at q147) <;> omega)
                            | exact absurd q147 (by with_reducible assumption)
                            | exact absurd (by with_reducible assumption) q147
                            | exact absurd (Decidable.not_not.mp q147) (by with_reducible assumption)
                            | exact absurd (by with_reducible assumption) (Int32.not_le.mpr q147)
                            | exact absurd (by with_reducible assumption) (Int32.not_lt.mpr q147)
                        · first
                          | exact absurd q120 (by decide)
                          | exact absurd trivial q120
                          | exact q120.elim
                          | (exfalso; (try simp (disch := omega) only [nI_ltI, nI_leI, nI_eq, nI_ltL, nI_leL, nI_eqL, nI_Llt, nI_Lle, nI_Leq, nI_eqm, nI_meq, nI_ltm, nI_lem, nI_mlt, nI_mle, lg0, lgl, lgg, lgle, lgge, Int32.not_lt, Int32.not_le, Int64.not_lt, Int64.not_le, not_false_eq_true, not_true_eq_false, Decidable.not_not, ge_iff_le, gt_iff_lt] at q120) <;> omega)
                          | exact absurd q120 (by with_reducible assumption)
                          | exact absurd (by with_reducible assumption) q120
                          | exact absurd (Decidable.not_not.mp q120) (by with_reducible assumption)
                          | exact absurd (by with_reducible assumption) (Int32.not_le.mpr q120)
                          | exact absurd (by with_reducible assumption) (Int32.not_lt.mpr q120)
        refine pw_blk (mi := mz_130) (b := bz_130_70) rfl rfl ?_
        simp only [bz_130_70, pz_cut_t, pz_cut_f, pz_cut_n, pv_gt, pv_ts, pv_tn, ev_ild7, ev_bp120, ev_ic_ge, pz_wi_gc, pz_wi_ga, pz_wi_gn, pz_wi_gl, pz_wi_gr, pz_wi_same, pz_wi_X, pz_wl_gc, pz_wl_ga, pz_wl_gn, pz_wl_gi, pz_wl_gr, pz_wl_same, pz_wl_X, pz_wr_gc, pz_wr_ga, pz_wr_gn, pz_wr_gi, pz_wr_gl, pz_wr_same, pz_wr_X, bI_t, n2, fa]
        (try simp (disch := omega) only [nI_clamp, pz_in_nI2, pz_in_nI2L, pv_gt, nI_add, nI_addL, nI_Ladd, pk_mul, nI_mulL, nI_Lmul, pk_sub, nI_subL, nI_Lsub, nI_inc, nI_clampL, Nat.add_sub_cancel, pz_wi_else, pz_wl_else, vu_eq, vu_ne, pz_wi_gc, pz_wi_ga, pz_wi_gn, pz_wi_gl, pz_wi_gr, pz_wi_same, pz_wi_X, pz_wl_gc, pz_wl_ga, pz_wl_gn, pz_wl_gi, pz_wl_gr, pz_wl_same, pz_wl_X, pz_wr_gc, pz_wr_ga, pz_wr_gn, pz_wr_gi, pz_wr_gl, pz_wr_same, pz_wr_X, bI_t, n2, fa])
        refine po_brP (fun q70 => ?_) (fun q70 => ?_)
        · first
          | exact absurd q70 (by decide)
          | exact absurd trivial q70
          | exact q70.elim
          | (exfalso; (try simp (disch := omega) only [nI_ltI, nI_leI, nI_eq, nI_ltL, nI_leL, nI_eqL, nI_Llt, nI_Lle, nI_Leq, nI_eqm, nI_meq, nI_ltm, nI_lem, nI_mlt, nI_mle, lg0, lgl, lgg, lgle, lgge, Int32.not_lt, Int32.not_le, Int64.not_lt, Int64.not_le, not_false_eq_true, not_true_eq_false, Decidable.not_not, ge_iff_le, gt_iff_lt] at q70) <;> omega)
          | exact absurd q70 (by with_reducible assumption)
          | exact absurd (by with_reducible assumption) q70
          | exact absurd (Decidable.not_not.mp q70) (by with_reducible assumption)
          | exact absurd (by with_reducible assumption) (Int32.not_le.mpr q70)
          | exact absurd (by with_reducible assumption) (Int32.not_lt.mpr q70)
        · skip
          (try simp (disch := omega) only [nI_ltI, nI_leI, nI_eq, nI_ltL, nI_leL, nI_eqL, nI_Llt, nI_Lle, nI_Leq, nI_eqm, nI_meq, nI_ltm, nI_lem, nI_mlt, nI_mle, lg0, lgl, lgg, lgle, lgge, Int32.not_lt, Int32.not_le, Int64.not_lt, Int64.not_le, not_false_eq_true, not_true_eq_false, Decidable.not_not, ge_iff_le, gt_iff_lt] at q70)
          refine pw_blk (mi := mz_130) (b := bz_130_77) rfl rfl ?_
          simp only [bz_130_77, pz_cut_t, pz_cut_f, pz_cut_n, pv_gt, pv_ts, pv_tn, ev_ild6, ev_ifeq, pz_wi_gc, pz_wi_ga, pz_wi_gn, pz_wi_gl, pz_wi_gr, pz_wi_same, pz_wi_X, pz_wl_gc, pz_wl_ga, pz_wl_gn, pz_wl_gi, pz_wl_gr, pz_wl_same, pz_wl_X, pz_wr_gc, pz_wr_ga, pz_wr_gn, pz_wr_gi, pz_wr_gl, pz_wr_same, pz_wr_X, bI_t, n2, fa]
          (try simp (disch := omega) only [nI_clamp, pz_in_nI2, pz_in_nI2L, pv_gt, nI_add, nI_addL, nI_Ladd, pk_mul, nI_mulL, nI_Lmul, pk_sub, nI_subL, nI_Lsub, nI_inc, nI_clampL, Nat.add_sub_cancel, pz_wi_else, pz_wl_else, vu_eq, vu_ne, pz_wi_gc, pz_wi_ga, pz_wi_gn, pz_wi_gl, pz_wi_gr, pz_wi_same, pz_wi_X, pz_wl_gc, pz_wl_ga, pz_wl_gn, pz_wl_gi, pz_wl_gr, pz_wl_same, pz_wl_X, pz_wr_gc, pz_wr_ga, pz_wr_gn, pz_wr_gi, pz_wr_gl, pz_wr_same, pz_wr_X, bI_t, n2, fa])
          refine po_brP (fun q77 => ?_) (fun q77 => ?_)
          · first
            | exact absurd q77 (by decide)
            | exact absurd trivial q77
            | exact q77.elim
            | (exfalso; (try simp (disch := omega) only [nI_ltI, nI_leI, nI_eq, nI_ltL, nI_leL, nI_eqL, nI_Llt, nI_Lle, nI_Leq, nI_eqm, nI_meq, nI_ltm, nI_lem, nI_mlt, nI_mle, lg0, lgl, lgg, lgle, lgge, Int32.not_lt, Int32.not_le, Int64.not_lt, Int64.not_le, not_false_eq_true, not_true_eq_false, Decidable.not_not, ge_iff_le, gt_iff_lt] at q77) <;> omega)
            | exact absurd q77 (by with_reducible assumption)
            | exact absurd (by with_reducible assumption) q77
            | exact absurd (Decidable.not_not.mp q77) (by with_reducible assumption)
            | exact absurd (by with_reducible assumption) (Int32.not_le.mpr q77)
            | exact absurd (by with_reducible assumption) (Int32.not_lt.mpr q77)
          · skip
            (try simp (disch := omega) only [nI_ltI, nI_leI, nI_eq, nI_ltL, nI_leL, nI_eqL, nI_Llt, nI_Lle, nI_Leq, nI_eqm, nI_meq, nI_ltm, nI_lem, nI_mlt, nI_mle, lg0, lgl, lgg, lgle, lgge, Int32.not_lt, Int32.not_le, Int64.not_lt, Int64.not_le, not_false_eq_true, not_true_eq_false, Decidable.not_not, ge_iff_le, gt_iff_lt] at q77)
            refine pw_blk (mi := mz_130) (b := bz_130_82) rfl rfl ?_
            simp only [bz_130_82, pz_cut_t, pz_cut_f, pz_cut_n, pv_gt, pv_ts, pv_tn, ev_ald0, ev_eld0, ev_gf1_2, ev_lc0, ev_cs2, pz_wi_gc, pz_wi_ga, pz_wi_gn, pz_wi_gl, pz_wi_gr, pz_wi_same, pz_wi_X, pz_wl_gc, pz_wl_ga, pz_wl_gn, pz_wl_gi, pz_wl_gr, pz_wl_same, pz_wl_X, pz_wr_gc, pz_wr_ga, pz_wr_gn, pz_wr_gi, pz_wr_gl, pz_wr_same, pz_wr_X, so_39 hS', bI_t, n2, fa]
            (try simp (disch := omega) only [nI_clamp, pz_in_nI2, pz_in_nI2L, pv_gt, nI_add, nI_addL, nI_Ladd, pk_mul, nI_mulL, nI_Lmul, pk_sub, nI_subL, nI_Lsub, nI_inc, nI_clampL, Nat.add_sub_cancel, pz_wi_else, pz_wl_else, vu_eq, vu_ne, pz_wi_gc, pz_wi_ga, pz_wi_gn, pz_wi_gl, pz_wi_gr, pz_wi_same, pz_wi_X, pz_wl_gc, pz_wl_ga, pz_wl_gn, pz_wl_gi, pz_wl_gr, pz_wl_same, pz_wl_X, pz_wr_gc, pz_wr_ga, pz_wr_gn, pz_wr_gi, pz_wr_gl, pz_wr_same, pz_wr_X, bI_t, n2, fa])
            (try refine po_gP (Nat.le_of_ble_eq_true rfl) ?_)
            refine po_call (by omega) (m_fillL fa fn (by decide) (fun M1 s1 z1 => ?_))
            refine pw_blk (mi := mz_130) (b := bz_130_90) rfl rfl ?_
            simp only [bz_130_90, pz_cut_t, pz_cut_f, pz_cut_n, pv_gt, pv_ts, pv_tn, ev_ic0, ev_ist6n, ev_ist6i, ev_ist6r, ev_ist6e, ev_ist6l, ev_ist8n, ev_ist8i, ev_ist8r, ev_ist8e, ev_ist8l, ev_nil, pz_wi_gc, pz_wi_ga, pz_wi_gn, pz_wi_gl, pz_wi_gr, pz_wi_same, pz_wi_X, pz_wl_gc, pz_wl_ga, pz_wl_gn, pz_wl_gi, pz_wl_gr, pz_wl_same, pz_wl_X, pz_wr_gc, pz_wr_ga, pz_wr_gn, pz_wr_gi, pz_wr_gl, pz_wr_same, pz_wr_X, bI_t, n2, fa]
            (try simp (disch := omega) only [nI_clamp, pz_in_nI2, pz_in_nI2L, pv_gt, nI_add, nI_addL, nI_Ladd, pk_mul, nI_mulL, nI_Lmul, pk_sub, nI_subL, nI_Lsub, nI_inc, nI_clampL, Nat.add_sub_cancel, pz_wi_else, pz_wl_else, vu_eq, vu_ne, pz_wi_gc, pz_wi_ga, pz_wi_gn, pz_wi_gl, pz_wi_gr, pz_wi_same, pz_wi_X, pz_wl_gc, pz_wl_ga, pz_wl_gn, pz_wl_gi, pz_wl_gr, pz_wl_same, pz_wl_X, pz_wr_gc, pz_wr_ga, pz_wr_gn, pz_wr_gi, pz_wr_gl, pz_wr_same, pz_wr_X, bI_t, n2, fa])
            refine po_go ?_
            refine pw_cut (mi := mz_130) (b := bz_130_96) rfl rfl (key2 M1 s1 z1 0 (by omega) M1 sm.rf ?_ ?_) rfl
            · exact z1
            · show agN 5 (gl M1 47) (thS al cr wk er B h dr E.testBit J o m0 n).2
              rw [s1.l (by simp; omega)]
              exact hs
  obtain ⟨nw, nx, nn⟩ : ∃ nw nx, isNN M nw nx := by
    rcases hS.2.2.1 with ⟨e1, e2⟩ | ⟨e1, e2⟩
    · exact ⟨48, 49, e1, e2, Or.inl ⟨rfl, rfl⟩⟩
    · exact ⟨49, 48, e1, e2, Or.inr ⟨rfl, rfl⟩⟩
  have n3 := nn.2.2
  have hxw : (nw = 48 ∨ nw = 49) := by rcases n3 with ⟨e1, e2⟩ | ⟨e1, e2⟩ <;> omega
  have key3 : ∀ i, i ≤ B → ∀ M', sm [46, 47, nw] M M' → (∀ j, j < 5 → gl M' 47 j = 0) → (∀ j, j < 24 → gl M' nw j = 0) → (∀ j, j < i → gi M' 46 j = oI (dr j)) → pw d 130 (19, [some (.ref 39), some (.int (nI f)), some (.int J), some (.int o), some (.int (nI D)), some (.int (nI E)), some (.int (nI i)), none, none, none, none], [], M') Q := by
    refine upto (fun i hi ih => ?_)
    intro M' s z1 z2 hdo
    have hS' := hS.sm s
    have nn' := nn.sm s
    obtain ⟨n1, n2, -⟩ := id nn'
    obtain ⟨⟨na, nn24⟩, fa, fn⟩ := nn'.f hS'
    have b1' : gi M' 4 0 = nI B := by rw [s.i (k := 4) (by simp; omega)]; exact b1
    have hsv' : gi M' 17 4 = nI sv := by rw [s.i (k := 17) (by simp; omega)]; exact hsv
    have sg' : sg [46, 47, 48, 49] M M' := (s.sg hS).mono (by intro k hk; simp at hk; simp; omega)
    by_cases hiB : i = B
    · subst hiB
      refine pw_blk (mi := mz_130) (b := bz_130_19) rfl rfl ?_
      simp only [bz_130_19, pz_cut_t, pz_cut_f, pz_cut_n, pv_gt, pv_ts, pv_tn, ev_ild6, ev_ald0, ev_eld0, ev_gf1_2, ev_gf8_0, ev_ic_ge, pz_wi_gc, pz_wi_ga, pz_wi_gn, pz_wi_gl, pz_wi_gr, pz_wi_same, pz_wi_X, pz_wl_gc, pz_wl_ga, pz_wl_gn, pz_wl_gi, pz_wl_gr, pz_wl_same, pz_wl_X, pz_wr_gc, pz_wr_ga, pz_wr_gn, pz_wr_gi, pz_wr_gl, pz_wr_same, pz_wr_X, so_39 hS', sr_39_0 hS', so_4 hS', b1', n1, na, nn24]
      (try simp (disch := omega) only [nI_clamp, pz_in_nI2, pz_in_nI2L, pv_gt, nI_add, nI_addL, nI_Ladd, pk_mul, nI_mulL, nI_Lmul, pk_sub, nI_subL, nI_Lsub, nI_inc, nI_clampL, Nat.add_sub_cancel, pz_wi_else, pz_wl_else, vu_eq, vu_ne, pz_wi_gc, pz_wi_ga, pz_wi_gn, pz_wi_gl, pz_wi_gr, pz_wi_same, pz_wi_X, pz_wl_gc, pz_wl_ga, pz_wl_gn, pz_wl_gi, pz_wl_gr, pz_wl_same, pz_wl_X, pz_wr_gc, pz_wr_ga, pz_wr_gn, pz_wr_gi, pz_wr_gl, pz_wr_same, pz_wr_X, b1', n1, na, nn24])
      refine po_brP (fun q19 => ?_) (fun q19 => ?_)
      · skip
        (try simp (disch := omega) only [nI_ltI, nI_leI, nI_eq, nI_ltL, nI_leL, nI_eqL, nI_Llt, nI_Lle, nI_Leq, nI_eqm, nI_meq, nI_ltm, nI_lem, nI_mlt, nI_mle, lg0, lgl, lgg, lgle, lgge, Int32.not_lt, Int32.not_le, Int64.not_lt, Int64.not_le, not_false_eq_true, not_true_eq_false, Decidable.not_not, ge_iff_le, gt_iff_lt] at q19)
        refine pw_blk (mi := mz_130) (b := bz_130_55) rfl rfl ?_
        simp only [bz_130_55, pz_cut_t, pz_cut_f, pz_cut_n, pv_gt, pv_ts, pv_tn, ev_ald0, ev_eld0, ev_gf1_2, ev_ild1, ev_ldl1000000000, ea_last, ev_ic1, ev_ist6n, ev_ist6i, ev_ist6r, ev_ist6e, ev_ist6l, ev_ic0, ev_ist7n, ev_ist7i, ev_ist7r, ev_ist7e, ev_ist7l, ev_nil, pz_wi_gc, pz_wi_ga, pz_wi_gn, pz_wi_gl, pz_wi_gr, pz_wi_same, pz_wi_X, pz_wl_gc, pz_wl_ga, pz_wl_gn, pz_wl_gi, pz_wl_gr, pz_wl_same, pz_wl_X, pz_wr_gc, pz_wr_ga, pz_wr_gn, pz_wr_gi, pz_wr_gl, pz_wr_same, pz_wr_X, so_39 hS', b1', n1, na, nn24, sa_47 hS', sn_47 hS', sa_46 hS', sn_46 hS']
        (try simp (disch := omega) only [nI_clamp, pz_in_nI2, pz_in_nI2L, pv_gt, nI_add, nI_addL, nI_Ladd, pk_mul, nI_mulL, nI_Lmul, pk_sub, nI_subL, nI_Lsub, nI_inc, nI_clampL, Nat.add_sub_cancel, pz_wi_else, pz_wl_else, vu_eq, vu_ne, pz_wi_gc, pz_wi_ga, pz_wi_gn, pz_wi_gl, pz_wi_gr, pz_wi_same, pz_wi_X, pz_wl_gc, pz_wl_ga, pz_wl_gn, pz_wl_gi, pz_wl_gr, pz_wl_same, pz_wl_X, pz_wr_gc, pz_wr_ga, pz_wr_gn, pz_wr_gi, pz_wr_gl, pz_wr_same, pz_wr_X, b1', n1, na, nn24])
        (try refine po_gI (by first | exact pz_in_nI (by omega) (by decide) | decide | assumption) ?_)
        refine po_go ?_
        refine pw_cut (mi := mz_130) (b := bz_130_70) rfl rfl (key 0 (by omega) (pz_wl M' nw (va_up (gl M' nw) f 1000000000)) nw nx true ?_ (nn'.sm (K := [nw]) (sm.wl sm.rf (by simp))) hdo ?_ ?_ (fun z => by cases z)) rfl
        · exact sg'.tr (((sm.rf (K := [nw])).wl (by simp) |>.sg hS').mono (by intro k hk; simp at hk; simp; omega)) (fun _ h => h)
        · intro j hj
          rw [pz_wl_same]
          show _ = m0 j
          rw [← hm0]
          unfold va_up
          rw [z2 j hj]
        · intro j hj
          rw [pz_wl_else (by omega)]
          exact z1 j hj
      · first
        | exact absurd q19 (by decide)
        | exact absurd trivial q19
        | exact q19.elim
        | (exfalso; (try simp (disch := omega) only [nI_ltI, nI_leI, nI_eq, nI_ltL, nI_leL, nI_eqL, nI_Llt, nI_Lle, nI_Leq, nI_eqm, nI_meq, nI_ltm, nI_lem, nI_mlt, nI_mle, lg0, lgl, lgg, lgle, lgge, Int32.not_lt, Int32.not_le, Int64.not_lt, Int64.not_le, not_false_eq_true, not_true_eq_false, Decidable.not_not, ge_iff_le, gt_iff_lt] at q19) <;> omega)
        | exact absurd q19 (by with_reducible assumption)
        | exact absurd (by with_reducible assumption) q19
        | exact absurd (Decidable.not_not.mp q19) (by with_reducible assumption)
        | exact absurd (by with_reducible assumption) (Int32.not_le.mpr q19)
        | exact absurd (by with_reducible assumption) (Int32.not_lt.mpr q19)
    · have hv := hdrv i
      refine pw_blk (mi := mz_130) (b := bz_130_19) rfl rfl ?_
      simp only [bz_130_19, pz_cut_t, pz_cut_f, pz_cut_n, pv_gt, pv_ts, pv_tn, ev_ild6, ev_ald0, ev_eld0, ev_gf1_2, ev_gf8_0, ev_ic_ge, pz_wi_gc, pz_wi_ga, pz_wi_gn, pz_wi_gl, pz_wi_gr, pz_wi_same, pz_wi_X, pz_wl_gc, pz_wl_ga, pz_wl_gn, pz_wl_gi, pz_wl_gr, pz_wl_same, pz_wl_X, pz_wr_gc, pz_wr_ga, pz_wr_gn, pz_wr_gi, pz_wr_gl, pz_wr_same, pz_wr_X, so_39 hS', sr_39_0 hS', so_4 hS', b1']
      (try simp (disch := omega) only [nI_clamp, pz_in_nI2, pz_in_nI2L, pv_gt, nI_add, nI_addL, nI_Ladd, pk_mul, nI_mulL, nI_Lmul, pk_sub, nI_subL, nI_Lsub, nI_inc, nI_clampL, Nat.add_sub_cancel, pz_wi_else, pz_wl_else, vu_eq, vu_ne, pz_wi_gc, pz_wi_ga, pz_wi_gn, pz_wi_gl, pz_wi_gr, pz_wi_same, pz_wi_X, pz_wl_gc, pz_wl_ga, pz_wl_gn, pz_wl_gi, pz_wl_gr, pz_wl_same, pz_wl_X, pz_wr_gc, pz_wr_ga, pz_wr_gn, pz_wr_gi, pz_wr_gl, pz_wr_same, pz_wr_X, b1'])
      refine po_brP (fun q19 => ?_) (fun q19 => ?_)
      · first
        | exact absurd q19 (by decide)
        | exact absurd trivial q19
        | exact q19.elim
        | (exfalso; (try simp (disch := omega) only [nI_ltI, nI_leI, nI_eq, nI_ltL, nI_leL, nI_eqL, nI_Llt, nI_Lle, nI_Leq, nI_eqm, nI_meq, nI_ltm, nI_lem, nI_mlt, nI_mle, lg0, lgl, lgg, lgle, lgge, Int32.not_lt, Int32.not_le, Int64.not_lt, Int64.not_le, not_false_eq_true, not_true_eq_false, Decidable.not_not, ge_iff_le, gt_iff_lt] at q19) <;> omega)
        | exact absurd q19 (by with_reducible assumption)
        | exact absurd (by with_reducible assumption) q19
        | exact absurd (Decidable.not_not.mp q19) (by with_reducible assumption)
        | exact absurd (by with_reducible assumption) (Int32.not_le.mpr q19)
        | exact absurd (by with_reducible assumption) (Int32.not_lt.mpr q19)
      · skip
        (try simp (disch := omega) only [nI_ltI, nI_leI, nI_eq, nI_ltL, nI_leL, nI_eqL, nI_Llt, nI_Lle, nI_Leq, nI_eqm, nI_meq, nI_ltm, nI_lem, nI_mlt, nI_mle, lg0, lgl, lgg, lgle, lgge, Int32.not_lt, Int32.not_le, Int64.not_lt, Int64.not_le, not_false_eq_true, not_true_eq_false, Decidable.not_not, ge_iff_le, gt_iff_lt] at q19)
        refine pw_blk (mi := mz_130) (b := bz_130_31) rfl rfl ?_
        simp only [bz_130_31, pz_cut_t, pz_cut_f, pz_cut_n, pv_gt, pv_ts, pv_tn, ev_ald0, ev_eld0, ev_gf1_2, ev_ild6, ev_ild4, ev_cv2_8, pz_wi_gc, pz_wi_ga, pz_wi_gn, pz_wi_gl, pz_wi_gr, pz_wi_same, pz_wi_X, pz_wl_gc, pz_wl_ga, pz_wl_gn, pz_wl_gi, pz_wl_gr, pz_wl_same, pz_wl_X, pz_wr_gc, pz_wr_ga, pz_wr_gn, pz_wr_gi, pz_wr_gl, pz_wr_same, pz_wr_X, so_39 hS', sr_39_7 hS', sa_46 hS', sn_46 hS', sr_39_0 hS', so_4 hS', b1']
        (try simp (disch := omega) only [nI_clamp, pz_in_nI2, pz_in_nI2L, pv_gt, nI_add, nI_addL, nI_Ladd, pk_mul, nI_mulL, nI_Lmul, pk_sub, nI_subL, nI_Lsub, nI_inc, nI_clampL, Nat.add_sub_cancel, pz_wi_else, pz_wl_else, vu_eq, vu_ne, pz_wi_gc, pz_wi_ga, pz_wi_gn, pz_wi_gl, pz_wi_gr, pz_wi_same, pz_wi_X, pz_wl_gc, pz_wl_ga, pz_wl_gn, pz_wl_gi, pz_wl_gr, pz_wl_same, pz_wl_X, pz_wr_gc, pz_wr_ga, pz_wr_gn, pz_wr_gi, pz_wr_gl, pz_wr_same, pz_wr_X, b1'])
        (try refine po_gP (Nat.le_of_ble_eq_true rfl) ?_)
        refine po_call (by omega) (m_doorFor hS' b1' hB hsv' sv2 (by omega) hp ?_)
        refine pw_blk (mi := mz_130) (b := bz_130_48) rfl rfl ?_
        simp only [bz_130_48, pz_cut_t, pz_cut_f, pz_cut_n, pv_gt, pv_ts, pv_tn, ea_iast, ev_inc6n, ev_inc6i, ev_inc6r, ev_inc6e, ev_goto, pz_wi_gc, pz_wi_ga, pz_wi_gn, pz_wi_gl, pz_wi_gr, pz_wi_same, pz_wi_X, pz_wl_gc, pz_wl_ga, pz_wl_gn, pz_wl_gi, pz_wl_gr, pz_wl_same, pz_wl_X, pz_wr_gc, pz_wr_ga, pz_wr_gn, pz_wr_gi, pz_wr_gl, pz_wr_same, pz_wr_X, b1', sa_47 hS', sn_47 hS', sa_46 hS', sn_46 hS']
        (try simp (disch := omega) only [nI_clamp, pz_in_nI2, pz_in_nI2L, pv_gt, nI_add, nI_addL, nI_Ladd, pk_mul, nI_mulL, nI_Lmul, pk_sub, nI_subL, nI_Lsub, nI_inc, nI_clampL, Nat.add_sub_cancel, pz_wi_else, pz_wl_else, vu_eq, vu_ne, pz_wi_gc, pz_wi_ga, pz_wi_gn, pz_wi_gl, pz_wi_gr, pz_wi_same, pz_wi_X, pz_wl_gc, pz_wl_ga, pz_wl_gn, pz_wl_gi, pz_wl_gr, pz_wl_same, pz_wl_X, pz_wr_gc, pz_wr_ga, pz_wr_gn, pz_wr_gi, pz_wr_gl, pz_wr_same, pz_wr_X, b1'])
        (try refine po_gI (by first | exact pz_in_nI (by omega) (by decide) | decide | assumption) ?_)
        refine po_go ?_
        refine pw_cut (mi := mz_130) (b := bz_130_19) rfl rfl (ih (i + 1) (by omega) (by omega) _ (s.wi (by simp)) z1 z2 (fun j hj => ?_)) rfl
        rw [pz_wi_same]
        by_cases e : j = i
        · rw [e, vu_eq, hv]
        · rw [vu_ne e]; exact hdo j (by omega)
  obtain ⟨n1, n2, -⟩ := id nn
  obtain ⟨⟨na, nn24⟩, fa, fn⟩ := nn.f hS
  refine pm_ent (L := [some (.ref 39), some (.int (nI f)), some (.int J), some (.int o), some (.int (nI D)), some (.int (nI E)), none, none, none, none, none]) rfl (Nat.le_of_ble_eq_true rfl) ?_
  refine pw_blk (mi := mz_130) (b := bz_130_0) rfl rfl ?_
  simp only [bz_130_0, pz_cut_t, pz_cut_f, pz_cut_n, pv_gt, pv_ts, pv_tn, ev_ald0, ev_eld0, ev_gf1_2, ev_lc0, ev_cs2, pz_wi_gc, pz_wi_ga, pz_wi_gn, pz_wi_gl, pz_wi_gr, pz_wi_same, pz_wi_X, pz_wl_gc, pz_wl_ga, pz_wl_gn, pz_wl_gi, pz_wl_gr, pz_wl_same, pz_wl_X, pz_wr_gc, pz_wr_ga, pz_wr_gn, pz_wr_gi, pz_wr_gl, pz_wr_same, pz_wr_X, so_39 hS, sr_39_8 hS, sa_47 hS, sn_47 hS]
  (try simp (disch := omega) only [nI_clamp, pz_in_nI2, pz_in_nI2L, pv_gt, nI_add, nI_addL, nI_Ladd, pk_mul, nI_mulL, nI_Lmul, pk_sub, nI_subL, nI_Lsub, nI_inc, nI_clampL, Nat.add_sub_cancel, pz_wi_else, pz_wl_else, vu_eq, vu_ne, pz_wi_gc, pz_wi_ga, pz_wi_gn, pz_wi_gl, pz_wi_gr, pz_wi_same, pz_wi_X, pz_wl_gc, pz_wl_ga, pz_wl_gn, pz_wl_gi, pz_wl_gr, pz_wl_same, pz_wl_X, pz_wr_gc, pz_wr_ga, pz_wr_gn, pz_wr_gi, pz_wr_gl, pz_wr_same, pz_wr_X])
  (try refine po_gP (Nat.le_of_ble_eq_true rfl) ?_)
  refine po_call (by omega) (m_fillL (sa_47 hS) (sn_47 hS) (by decide) (fun M1 s1 z1 => ?_))
  have hS1 := hS.sm s1
  have nn1 := nn.sm s1
  obtain ⟨m1, m2, -⟩ := id nn1
  obtain ⟨⟨ma, mn24⟩, mfa, mfn⟩ := nn1.f hS1
  refine pw_blk (mi := mz_130) (b := bz_130_8) rfl rfl ?_
  simp only [bz_130_8, pz_cut_t, pz_cut_f, pz_cut_n, pv_gt, pv_ts, pv_tn, ev_ald0, ev_eld0, ev_gf1_2, ev_lc0, ev_cs2, pz_wi_gc, pz_wi_ga, pz_wi_gn, pz_wi_gl, pz_wi_gr, pz_wi_same, pz_wi_X, pz_wl_gc, pz_wl_ga, pz_wl_gn, pz_wl_gi, pz_wl_gr, pz_wl_same, pz_wl_X, pz_wr_gc, pz_wr_ga, pz_wr_gn, pz_wr_gi, pz_wr_gl, pz_wr_same, pz_wr_X, so_39 hS, so_39 hS1, m1]
  (try simp (disch := omega) only [nI_clamp, pz_in_nI2, pz_in_nI2L, pv_gt, nI_add, nI_addL, nI_Ladd, pk_mul, nI_mulL, nI_Lmul, pk_sub, nI_subL, nI_Lsub, nI_inc, nI_clampL, Nat.add_sub_cancel, pz_wi_else, pz_wl_else, vu_eq, vu_ne, pz_wi_gc, pz_wi_ga, pz_wi_gn, pz_wi_gl, pz_wi_gr, pz_wi_same, pz_wi_X, pz_wl_gc, pz_wl_ga, pz_wl_gn, pz_wl_gi, pz_wl_gr, pz_wl_same, pz_wl_X, pz_wr_gc, pz_wr_ga, pz_wr_gn, pz_wr_gi, pz_wr_gl, pz_wr_same, pz_wr_X, so_39 hS1, m1])
  (try refine po_gP (Nat.le_of_ble_eq_true rfl) ?_)
  refine po_call (by omega) (m_fillL ma mn24 (by decide) (fun M2 s2 z2 => ?_))
  refine pw_blk (mi := mz_130) (b := bz_130_16) rfl rfl ?_
  simp only [bz_130_16, pz_cut_t, pz_cut_f, pz_cut_n, pv_gt, pv_ts, pv_tn, ev_ic0, ev_ist6n, ev_ist6i, ev_ist6r, ev_ist6e, ev_ist6l, ev_nil, pz_wi_gc, pz_wi_ga, pz_wi_gn, pz_wi_gl, pz_wi_gr, pz_wi_same, pz_wi_X, pz_wl_gc, pz_wl_ga, pz_wl_gn, pz_wl_gi, pz_wl_gr, pz_wl_same, pz_wl_X, pz_wr_gc, pz_wr_ga, pz_wr_gn, pz_wr_gi, pz_wr_gl, pz_wr_same, pz_wr_X]
  (try simp (disch := omega) only [nI_clamp, pz_in_nI2, pz_in_nI2L, pv_gt, nI_add, nI_addL, nI_Ladd, pk_mul, nI_mulL, nI_Lmul, pk_sub, nI_subL, nI_Lsub, nI_inc, nI_clampL, Nat.add_sub_cancel, pz_wi_else, pz_wl_else, vu_eq, vu_ne, pz_wi_gc, pz_wi_ga, pz_wi_gn, pz_wi_gl, pz_wi_gr, pz_wi_same, pz_wi_X, pz_wl_gc, pz_wl_ga, pz_wl_gn, pz_wl_gi, pz_wl_gr, pz_wl_same, pz_wl_X, pz_wr_gc, pz_wr_ga, pz_wr_gn, pz_wr_gi, pz_wr_gl, pz_wr_same, pz_wr_X])
  refine po_go ?_
  refine key3 0 (by omega) M2 ((s1.mono (by simp)).tr s2 (by simp)) ?_ z2 (fun j hj => absurd hj (by omega))
  intro j hj
  rw [s2.l (by simp; omega)]
  exact z1 j hj
end SEND2
