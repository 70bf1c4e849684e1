/-! ===== put: when there is room ===== -/
section PUT5
variable {d : Nat} {M M' : pz_M} {Q : Option Value × pz_M → Prop}
variable {al : Nat → Nat → Nat} {r cr wk sv er B D E : Nat} {h : Nat → Int32} {J o : Int32} {V : Nat → Nat → Nat}
theorem tr_is {S : Bst} {v a b : Nat} : (tr S v a b).isSome = true := by
  unfold tr
  cases S with
  | none => rfl
  | some s =>
    simp only
    split <;> rfl
theorem inS_is {k1 k2 : Bool} {a : Nat} : ∀ c j S, (inS V D E k1 k2 a c j S).isSome = true ↔ S.isSome = true ∨ ∃ b, j ≤ b ∧ b < j + c ∧ fre k2 D E b = true
  | 0, j, S => ⟨fun z => Or.inl z, fun z => by
    rcases z with z | ⟨b, h1, h2, -⟩
    · exact z
    · omega⟩
  | c + 1, j, S => by
    rw [inS, inS_is c (j + 1)]
    by_cases q : fre k2 D E j = true
    · rw [if_pos q]
      exact ⟨fun _ => Or.inr ⟨j, Nat.le_refl _, by omega, q⟩, fun _ => Or.inl tr_is⟩
    · rw [if_neg q]
      constructor
      · rintro (z | ⟨b, h1, h2, h3⟩)
        · exact Or.inl z
        · exact Or.inr ⟨b, by omega, by omega, h3⟩
      · rintro (z | ⟨b, h1, h2, h3⟩)
        · exact Or.inl z
        · have : b ≠ j := fun w => q (by rw [← w]; exact h3)
          exact Or.inr ⟨b, by omega, by omega, h3⟩
theorem ouS_is1 {k1 k2 : Bool} : ∀ c i S, (ouS V D E k1 k2 false B c i S).isSome = true ↔ S.isSome = true ∨ ∃ b, i ≤ b ∧ b < i + c ∧ fre k1 D E b = true
  | 0, j, S => ⟨fun z => Or.inl z, fun z => by
    rcases z with z | ⟨b, h1, h2, -⟩
    · exact z
    · omega⟩
  | c + 1, j, S => by
    rw [ouS, ouS_is1 c (j + 1)]
    by_cases q : fre k1 D E j = true
    · rw [if_pos q, if_neg (by decide)]
      exact ⟨fun _ => Or.inr ⟨j, Nat.le_refl _, by omega, q⟩, fun _ => Or.inl tr_is⟩
    · rw [if_neg q]
      constructor
      · rintro (z | ⟨b, h1, h2, h3⟩)
        · exact Or.inl z
        · exact Or.inr ⟨b, by omega, by omega, h3⟩
      · rintro (z | ⟨b, h1, h2, h3⟩)
        · exact Or.inl z
        · have : b ≠ j := fun w => q (by rw [← w]; exact h3)
          exact Or.inr ⟨b, by omega, by omega, h3⟩
theorem ouS_is2 {k1 k2 : Bool} : ∀ c i S, i + c = B → ((ouS V D E k1 k2 true B c i S).isSome = true ↔ S.isSome = true ∨ ∃ a, i ≤ a ∧ a < B ∧ fre k1 D E a = true ∧ ∃ b, frm k1 k2 a ≤ b ∧ b < B ∧ fre k2 D E b = true)
  | 0, j, S, hj => ⟨fun z => Or.inl z, fun z => by
    rcases z with z | ⟨b, h1, h2, -⟩
    · exact z
    · omega⟩
  | c + 1, j, S, hj => by
    rw [ouS, ouS_is2 c (j + 1) _ (by omega)]
    by_cases q : fre k1 D E j = true
    · rw [if_pos q, if_pos rfl, inS_is]
      have hf : frm k1 k2 j ≤ B := by
        unfold frm
        split <;> omega
      constructor
      · rintro ((z | ⟨b, h1, h2, h3⟩) | ⟨a, h1, h2, h3⟩)
        · exact Or.inl z
        · exact Or.inr ⟨j, Nat.le_refl _, by omega, q, b, h1, by omega, h3⟩
        · exact Or.inr ⟨a, by omega, h2, h3⟩
      · rintro (z | ⟨a, h1, h2, h3, b, h4, h5, h6⟩)
        · exact Or.inl (Or.inl z)
        · by_cases w : a = j
          · subst w
            exact Or.inl (Or.inr ⟨b, h4, by omega, h6⟩)
          · exact Or.inr ⟨a, by omega, h2, h3, b, h4, h5, h6⟩
    · rw [if_neg q]
      constructor
      · rintro (z | ⟨a, h1, h2, h3⟩)
        · exact Or.inl z
        · exact Or.inr ⟨a, by omega, h2, h3⟩
      · rintro (z | ⟨a, h1, h2, h3, h4⟩)
        · exact Or.inl z
        · have : a ≠ j := fun w => q (by rw [← w]; exact h3)
          exact Or.inr ⟨a, by omega, h2, h3, h4⟩
theorem cnt_pos {p : Nat → Bool} : ∀ n, 1 ≤ cnt p n ↔ ∃ b, b < n ∧ p b = true
  | 0 => ⟨fun z => absurd (show 1 ≤ 0 from z) (by decide), fun ⟨b, hb, _⟩ => absurd hb (by omega)⟩
  | n + 1 => by
    rw [cnt]
    have ih := cnt_pos (p := p) n
    by_cases q : p n = true
    · rw [if_pos q]
      exact ⟨fun _ => ⟨n, by omega, q⟩, fun _ => by omega⟩
    · rw [if_neg q, Nat.add_zero, ih]
      constructor
      · rintro ⟨b, h1, h2⟩
        exact ⟨b, by omega, h2⟩
      · rintro ⟨b, h1, h2⟩
        have : b ≠ n := fun w => q (by rw [← w]; exact h2)
        exact ⟨b, by omega, h2⟩
theorem cnt_two {p : Nat → Bool} : ∀ n, 2 ≤ cnt p n ↔ ∃ a b, a < b ∧ b < n ∧ p a = true ∧ p b = true
  | 0 => ⟨fun z => absurd (show 2 ≤ 0 from z) (by decide), fun ⟨a, b, _, hb, _⟩ => absurd hb (by omega)⟩
  | n + 1 => by
    rw [cnt]
    have ih := cnt_two (p := p) n
    by_cases q : p n = true
    · rw [if_pos q]
      constructor
      · intro z
        obtain ⟨a, h1, h2⟩ := (cnt_pos (p := p) n).mp (by omega)
        exact ⟨a, n, h1, by omega, h2, q⟩
      · rintro ⟨a, b, h1, h2, h3, h4⟩
        have := (cnt_pos (p := p) n).mpr ⟨a, by omega, h3⟩
        omega
    · rw [if_neg q, Nat.add_zero, ih]
      constructor
      · rintro ⟨a, b, h1, h2, h3⟩
        exact ⟨a, b, h1, by omega, h3⟩
      · rintro ⟨a, b, h1, h2, h3, h4⟩
        have : b ≠ n := fun w => q (by rw [← w]; exact h4)
        exact ⟨a, b, h1, by omega, h3, h4⟩
theorem cnt_not {p : Nat → Bool} : ∀ n, cnt (fun i => !p i) n + cnt p n = n
  | 0 => rfl
  | n + 1 => by
    have ih := cnt_not (p := p) n
    rw [cnt, cnt]
    cases p n <;> simp <;> omega
theorem cnt_24 {D B : Nat} (hD : D < 2 ^ B) (hB : B ≤ 24) : cnt D.testBit 24 = cnt D.testBit B := by
  obtain ⟨m, hm⟩ : ∃ m, 24 = B + m := ⟨24 - B, by omega⟩
  rw [hm, cnt_add]
  have : cnt (fun i => D.testBit (B + i)) m = cnt (fun _ => false) m := cnt_cong m (fun i _ => Nat.testBit_lt_two_pow (Nat.lt_of_lt_of_le hD (Nat.pow_le_pow_right (by decide) (by omega))))
  rw [this]
  have z : ∀ n, cnt (fun _ => false) n = 0 := by
    intro n
    induction n with
    | zero => rfl
    | succ n ih => rw [cnt, ih]; rfl
  rw [z, Nat.add_zero]
/-- there is room for so many -/
def room (p q D E B : Nat) : Prop := p ≤ cnt (fre true D E) B ∧ q ≤ cnt (fre false D E) B
theorem room_is {p q : Nat} (hs : 1 ≤ p + q) (hs2 : p + q ≤ 2) : room p q D E B ↔ (ouS V D E (decide (0 < p)) (decide (1 < p)) (decide (p + q = 2)) B B 0 none).isSome = true := by
  unfold room
  have hc : (p = 1 ∧ q = 0) ∨ (p = 0 ∧ q = 1) ∨ (p = 2 ∧ q = 0) ∨ (p = 1 ∧ q = 1) ∨ (p = 0 ∧ q = 2) := by omega
  have n0 : ((none : Bst).isSome = true) ↔ False := ⟨fun z => (by cases z), False.elim⟩
  rcases hc with ⟨rfl, rfl⟩ | ⟨rfl, rfl⟩ | ⟨rfl, rfl⟩ | ⟨rfl, rfl⟩ | ⟨rfl, rfl⟩
  · show _ ↔ (ouS V D E true false false B B 0 none).isSome = true
    rw [ouS_is1, n0, false_or, cnt_pos]
    exact ⟨fun ⟨⟨b, h1, h2⟩, _⟩ => ⟨b, by omega, by omega, h2⟩, fun ⟨b, h1, h2, h3⟩ => ⟨⟨b, by omega, h3⟩, by omega⟩⟩
  · show _ ↔ (ouS V D E false false false B B 0 none).isSome = true
    rw [ouS_is1, n0, false_or, cnt_pos]
    exact ⟨fun ⟨_, b, h1, h2⟩ => ⟨b, by omega, by omega, h2⟩, fun ⟨b, h1, h2, h3⟩ => ⟨by omega, b, by omega, h3⟩⟩
  · show _ ↔ (ouS V D E true true true B B 0 none).isSome = true
    rw [ouS_is2 B 0 none (by omega), n0, false_or, cnt_two]
    exact ⟨fun ⟨⟨a, b, h1, h2, h3, h4⟩, _⟩ => ⟨a, by omega, by omega, h3, b, h1, h2, h4⟩, fun ⟨a, h1, h2, h3, b, h4, h5, h6⟩ => ⟨⟨a, b, h4, h5, h3, h6⟩, by omega⟩⟩
  · show _ ↔ (ouS V D E true false true B B 0 none).isSome = true
    rw [ouS_is2 B 0 none (by omega), n0, false_or, cnt_pos, cnt_pos]
    exact ⟨fun ⟨⟨a, h1, h2⟩, b, h3, h4⟩ => ⟨a, by omega, h1, h2, b, Nat.zero_le _, h3, h4⟩, fun ⟨a, h1, h2, h3, b, h4, h5, h6⟩ => ⟨⟨a, h2, h3⟩, b, h5, h6⟩⟩
  · show _ ↔ (ouS V D E false false true B B 0 none).isSome = true
    rw [ouS_is2 B 0 none (by omega), n0, false_or, cnt_two]
    exact ⟨fun ⟨_, a, b, h1, h2, h3, h4⟩ => ⟨a, by omega, by omega, h3, b, h1, h2, h4⟩, fun ⟨a, h1, h2, h3, b, h4, h5, h6⟩ => ⟨by omega, a, b, h4, h5, h3, h6⟩⟩
theorem m_putBest (hd : 14 ≤ d) {p q : Nat} (hs : 1 ≤ p + q) (hs2 : p + q ≤ 2) (hS : SH M) (hF : RFa M al B) (b1 : gi M 4 0 = nI B) (hB : B ≤ 24) (h0 : 0 < B) (l2 : gi M 17 2 = nI cr) (l3 : gi M 17 3 = nI wk) (l4 : gi M 17 4 = nI sv) (sv2 : sv ≤ 24) (l5 : gi M 17 5 = nI er) (er2 : er ≤ 24) (hD : D < 2 ^ 24) (hE : E < 2 ^ 24) (xD : gi M 33 4 = nI D) (xE : gi M 33 5 = nI E) (hh : gi M 34 = h) (hV : ∀ D' E', endJ al cr wk sv er B D' E' h J o = nI (V D' E') ∧ V D' E' ≤ 1000000) (K : ∀ M', sg [43, 44, 45, 46, 47, 48, 49, 52, 54, 55] M M' → bst M' (decide (p + q = 2)) (ouS V D E (decide (0 < p)) (decide (1 < p)) (decide (p + q = 2)) B B 0 none) → Q (none, M')) : pm d 134 [.ref 52, .ref 33, .int (nI p), .int (nI q), .int J, .int o] M Q := by
  have hc : (p = 1 ∧ q = 0) ∨ (p = 0 ∧ q = 1) ∨ (p = 2 ∧ q = 0) ∨ (p = 1 ∧ q = 1) ∨ (p = 0 ∧ q = 2) := by omega
  rcases hc with ⟨rfl, rfl⟩ | ⟨rfl, rfl⟩ | ⟨rfl, rfl⟩ | ⟨rfl, rfl⟩ | ⟨rfl, rfl⟩
  · skip
    refine pm_ent (L := [some (.ref 52), some (.ref 33), some (.int (nI 1)), some (.int (nI 0)), some (.int J), some (.int o), none, none, none, none]) rfl (Nat.le_of_ble_eq_true rfl) ?_
    refine pw_blk (mi := mz_134) (b := bz_134_0) rfl rfl ?_
    simp only [bz_134_0, pz_cut_t, pz_cut_f, pz_cut_n, pv_gt, pv_ts, pv_tn, ev_ald0, ev_eld0, ev_icm1, ev_pf9_0, ev_ild4, ev_ild5, ev_gf9_2, ev_ald1, ev_eld1, ev_gf3_2, ev_cv1_1, pz_wi_gc, pz_wi_ga, pz_wi_gn, pz_wi_gl, pz_wi_gr, pz_wi_same, pz_wi_X, pz_wl_gc, pz_wl_ga, pz_wl_gn, pz_wl_gi, pz_wl_gr, pz_wl_same, pz_wl_X, pz_wr_gc, pz_wr_ga, pz_wr_gn, pz_wr_gi, pz_wr_gl, pz_wr_same, pz_wr_X, so_52 hS, sr_52_1 hS, so_39 hS, so_33 hS, sr_33_0 hS, sa_34 hS, sn_34 hS]
    (try simp (disch := omega) only [nI_clamp, pz_in_nI2, pz_in_nI2L, pv_gt, nI_add, nI_addL, nI_Ladd, pk_mul, nI_mulL, nI_Lmul, pk_sub, nI_subL, nI_Lsub, nI_inc, nI_clampL, Nat.add_sub_cancel, pz_wi_else, pz_wl_else, vu_eq, vu_ne, pz_wi_gc, pz_wi_ga, pz_wi_gn, pz_wi_gl, pz_wi_gr, pz_wi_same, pz_wi_X, pz_wl_gc, pz_wl_ga, pz_wl_gn, pz_wl_gi, pz_wl_gr, pz_wl_same, pz_wl_X, pz_wr_gc, pz_wr_ga, pz_wr_gn, pz_wr_gi, pz_wr_gl, pz_wr_same, pz_wr_X])
    (try refine po_gP (Nat.le_of_ble_eq_true rfl) ?_)
    have s0 : sm [52] M (pz_wi (pz_wi (pz_wi M 52 (va_up (gi M 52) 5 (-1))) 52 (va_up (va_up (gi M 52) 5 (-1)) 6 J)) 52 (va_up (va_up (va_up (gi M 52) 5 (-1)) 6 J) 7 o)) := sm.wi (sm.wi (sm.wi sm.rf (by decide)) (by decide)) (by decide)
    refine po_call (by omega) (m_weighAll (cr := cr) (wk := wk) (h := h) (by omega) (hS.sm s0) (hF.fr (s0.i (by decide)) (s0.i (by decide)) (s0.i (by decide))) (by rw [s0.i (by decide)]; exact b1) hB (by rw [s0.i (by decide)]; exact l2) (by rw [s0.i (by decide)]; exact l3) (by rw [s0.i (by decide)]; exact hh) (sa_34 (hS.sm s0)) (sn_34 (hS.sm s0)) (by omega) (fun M1 s1 w1 => ?_))
    refine pw_blk (mi := mz_134) (b := bz_134_28) rfl rfl ?_
    simp only [bz_134_28, pz_cut_t, pz_cut_f, pz_cut_n, pv_gt, pv_ts, pv_tn, ev_ild2, ev_ifle, pz_wi_gc, pz_wi_ga, pz_wi_gn, pz_wi_gl, pz_wi_gr, pz_wi_same, pz_wi_X, pz_wl_gc, pz_wl_ga, pz_wl_gn, pz_wl_gi, pz_wl_gr, pz_wl_same, pz_wl_X, pz_wr_gc, pz_wr_ga, pz_wr_gn, pz_wr_gi, pz_wr_gl, pz_wr_same, pz_wr_X]
    (try simp (disch := omega) only [nI_clamp, pz_in_nI2, pz_in_nI2L, pv_gt, nI_add, nI_addL, nI_Ladd, pk_mul, nI_mulL, nI_Lmul, pk_sub, nI_subL, nI_Lsub, nI_inc, nI_clampL, Nat.add_sub_cancel, pz_wi_else, pz_wl_else, vu_eq, vu_ne, pz_wi_gc, pz_wi_ga, pz_wi_gn, pz_wi_gl, pz_wi_gr, pz_wi_same, pz_wi_X, pz_wl_gc, pz_wl_ga, pz_wl_gn, pz_wl_gi, pz_wl_gr, pz_wl_same, pz_wl_X, pz_wr_gc, pz_wr_ga, pz_wr_gn, pz_wr_gi, pz_wr_gl, pz_wr_same, pz_wr_X])
    refine po_brP (fun q28 => ?_) (fun q28 => ?_)
    · first
      | exact absurd q28 (by decide)
      | exact absurd trivial q28
      | exact q28.elim
      | (exfalso; (try simp (disch := omega) only [nI_ltI, nI_leI, nI_eq, nI_ltL, nI_leL, nI_eqL, nI_Llt, nI_Lle, nI_Leq, nI_eqm, nI_meq, nI_ltm, nI_lem, nI_mlt, nI_mle, lg0, lgl, lgg, lgle, lgge, Int32.not_lt, Int32.not_le, Int64.not_lt, Int64.not_le, not_false_eq_true, not_true_eq_false, Decidable.not_not, ge_iff_le, gt_iff_lt] at q28) <;> omega)
      | exact absurd q28 (by with_reducible assumption)
      | exact absurd (by with_reducible assumption) q28
      | exact absurd (Decidable.not_not.mp q28) (by with_reducible assumption)
      | exact absurd (by with_reducible assumption) (Int32.not_le.mpr q28)
      | exact absurd (by with_reducible assumption) (Int32.not_lt.mpr q28)
    · skip
      (try simp (disch := omega) only [nI_ltI, nI_leI, nI_eq, nI_ltL, nI_leL, nI_eqL, nI_Llt, nI_Lle, nI_Leq, nI_eqm, nI_meq, nI_ltm, nI_lem, nI_mlt, nI_mle, lg0, lgl, lgg, lgle, lgge, Int32.not_lt, Int32.not_le, Int64.not_lt, Int64.not_le, not_false_eq_true, not_true_eq_false, Decidable.not_not, ge_iff_le, gt_iff_lt] at q28)
      refine pw_blk (mi := mz_134) (b := bz_134_32) rfl rfl ?_
      simp only [bz_134_32, pz_cut_t, pz_cut_f, pz_cut_n, pv_gt, pv_ts, pv_tn, ev_ic1, ev_goto, pz_wi_gc, pz_wi_ga, pz_wi_gn, pz_wi_gl, pz_wi_gr, pz_wi_same, pz_wi_X, pz_wl_gc, pz_wl_ga, pz_wl_gn, pz_wl_gi, pz_wl_gr, pz_wl_same, pz_wl_X, pz_wr_gc, pz_wr_ga, pz_wr_gn, pz_wr_gi, pz_wr_gl, pz_wr_same, pz_wr_X]
      (try simp (disch := omega) only [nI_clamp, pz_in_nI2, pz_in_nI2L, pv_gt, nI_add, nI_addL, nI_Ladd, pk_mul, nI_mulL, nI_Lmul, pk_sub, nI_subL, nI_Lsub, nI_inc, nI_clampL, Nat.add_sub_cancel, pz_wi_else, pz_wl_else, vu_eq, vu_ne, pz_wi_gc, pz_wi_ga, pz_wi_gn, pz_wi_gl, pz_wi_gr, pz_wi_same, pz_wi_X, pz_wl_gc, pz_wl_ga, pz_wl_gn, pz_wl_gi, pz_wl_gr, pz_wl_same, pz_wl_X, pz_wr_gc, pz_wr_ga, pz_wr_gn, pz_wr_gi, pz_wr_gl, pz_wr_same, pz_wr_X])
      refine po_go ?_
      refine pw_blk (mi := mz_134) (b := bz_134_37) rfl rfl ?_
      simp only [bz_134_37, pz_cut_t, pz_cut_f, pz_cut_n, pv_gt, pv_ts, pv_tn, ev_ist6n, ev_ist6i, ev_ist6r, ev_ist6e, ev_ist6l, ev_ic0, ev_ist7n, ev_ist7i, ev_ist7r, ev_ist7e, ev_ist7l, ev_nil, pz_wi_gc, pz_wi_ga, pz_wi_gn, pz_wi_gl, pz_wi_gr, pz_wi_same, pz_wi_X, pz_wl_gc, pz_wl_ga, pz_wl_gn, pz_wl_gi, pz_wl_gr, pz_wl_same, pz_wl_X, pz_wr_gc, pz_wr_ga, pz_wr_gn, pz_wr_gi, pz_wr_gl, pz_wr_same, pz_wr_X]
      (try simp (disch := omega) only [nI_clamp, pz_in_nI2, pz_in_nI2L, pv_gt, nI_add, nI_addL, nI_Ladd, pk_mul, nI_mulL, nI_Lmul, pk_sub, nI_subL, nI_Lsub, nI_inc, nI_clampL, Nat.add_sub_cancel, pz_wi_else, pz_wl_else, vu_eq, vu_ne, pz_wi_gc, pz_wi_ga, pz_wi_gn, pz_wi_gl, pz_wi_gr, pz_wi_same, pz_wi_X, pz_wl_gc, pz_wl_ga, pz_wl_gn, pz_wl_gi, pz_wl_gr, pz_wl_same, pz_wl_X, pz_wr_gc, pz_wr_ga, pz_wr_gn, pz_wr_gi, pz_wr_gl, pz_wr_same, pz_wr_X])
      refine po_go ?_
      have s2 := (s0.mono (K' := [43, 44, 45, 52]) (by decide)).tr s1 (by decide)
      have e52 : gi M1 52 = va_up (va_up (va_up (gi M 52) 5 (-1)) 6 J) 7 o := by rw [s1.i (by decide), pz_wi_same]
      refine pw_cut (mi := mz_134) (b := bz_134_42) rfl rfl (m_putBest10 (al := al) (cr := cr) (wk := wk) (sv := sv) (er := er) (B := B) (D := D) (E := E) (h := h) (J := J) (o := o) (V := V) (S := none) (by omega) ⟨hS.sm s2, hF.fr (s2.i (by decide)) (s2.i (by decide)) (s2.i (by decide)), w1, by rw [s2.i (by decide)]; exact b1, by rw [s2.i (by decide)]; exact l4, by rw [s2.i (by decide)]; exact l5, by rw [s2.i (by decide)]; exact xD, by rw [s2.i (by decide)]; exact xE, by rw [e52, vu_ne (by decide), vu_eq], by rw [e52, vu_eq]⟩ hB h0 sv2 er2 hD hE hV (fun M3 c3 hb3 => K M3 (((s2.sg hS).mono (by decide)).tr c3.1 (by decide)) hb3) ?_) rfl
      show gi M1 52 5 = -1
      rw [e52, vu_ne (by decide), vu_ne (by decide), vu_eq]
  · skip
    refine pm_ent (L := [some (.ref 52), some (.ref 33), some (.int (nI 0)), some (.int (nI 1)), some (.int J), some (.int o), none, none, none, none]) rfl (Nat.le_of_ble_eq_true rfl) ?_
    refine pw_blk (mi := mz_134) (b := bz_134_0) rfl rfl ?_
    simp only [bz_134_0, pz_cut_t, pz_cut_f, pz_cut_n, pv_gt, pv_ts, pv_tn, ev_ald0, ev_eld0, ev_icm1, ev_pf9_0, ev_ild4, ev_ild5, ev_gf9_2, ev_ald1, ev_eld1, ev_gf3_2, ev_cv1_1, pz_wi_gc, pz_wi_ga, pz_wi_gn, pz_wi_gl, pz_wi_gr, pz_wi_same, pz_wi_X, pz_wl_gc, pz_wl_ga, pz_wl_gn, pz_wl_gi, pz_wl_gr, pz_wl_same, pz_wl_X, pz_wr_gc, pz_wr_ga, pz_wr_gn, pz_wr_gi, pz_wr_gl, pz_wr_same, pz_wr_X, so_52 hS, sr_52_1 hS, so_39 hS, so_33 hS, sr_33_0 hS, sa_34 hS, sn_34 hS]
    (try simp (disch := omega) only [nI_clamp, pz_in_nI2, pz_in_nI2L, pv_gt, nI_add, nI_addL, nI_Ladd, pk_mul, nI_mulL, nI_Lmul, pk_sub, nI_subL, nI_Lsub, nI_inc, nI_clampL, Nat.add_sub_cancel, pz_wi_else, pz_wl_else, vu_eq, vu_ne, pz_wi_gc, pz_wi_ga, pz_wi_gn, pz_wi_gl, pz_wi_gr, pz_wi_same, pz_wi_X, pz_wl_gc, pz_wl_ga, pz_wl_gn, pz_wl_gi, pz_wl_gr, pz_wl_same, pz_wl_X, pz_wr_gc, pz_wr_ga, pz_wr_gn, pz_wr_gi, pz_wr_gl, pz_wr_same, pz_wr_X])
    (try refine po_gP (Nat.le_of_ble_eq_true rfl) ?_)
    have s0 : sm [52] M (pz_wi (pz_wi (pz_wi M 52 (va_up (gi M 52) 5 (-1))) 52 (va_up (va_up (gi M 52) 5 (-1)) 6 J)) 52 (va_up (va_up (va_up (gi M 52) 5 (-1)) 6 J) 7 o)) := sm.wi (sm.wi (sm.wi sm.rf (by decide)) (by decide)) (by decide)
    refine po_call (by omega) (m_weighAll (cr := cr) (wk := wk) (h := h) (by omega) (hS.sm s0) (hF.fr (s0.i (by decide)) (s0.i (by decide)) (s0.i (by decide))) (by rw [s0.i (by decide)]; exact b1) hB (by rw [s0.i (by decide)]; exact l2) (by rw [s0.i (by decide)]; exact l3) (by rw [s0.i (by decide)]; exact hh) (sa_34 (hS.sm s0)) (sn_34 (hS.sm s0)) (by omega) (fun M1 s1 w1 => ?_))
    refine pw_blk (mi := mz_134) (b := bz_134_28) rfl rfl ?_
    simp only [bz_134_28, pz_cut_t, pz_cut_f, pz_cut_n, pv_gt, pv_ts, pv_tn, ev_ild2, ev_ifle, pz_wi_gc, pz_wi_ga, pz_wi_gn, pz_wi_gl, pz_wi_gr, pz_wi_same, pz_wi_X, pz_wl_gc, pz_wl_ga, pz_wl_gn, pz_wl_gi, pz_wl_gr, pz_wl_same, pz_wl_X, pz_wr_gc, pz_wr_ga, pz_wr_gn, pz_wr_gi, pz_wr_gl, pz_wr_same, pz_wr_X]
    (try simp (disch := omega) only [nI_clamp, pz_in_nI2, pz_in_nI2L, pv_gt, nI_add, nI_addL, nI_Ladd, pk_mul, nI_mulL, nI_Lmul, pk_sub, nI_subL, nI_Lsub, nI_inc, nI_clampL, Nat.add_sub_cancel, pz_wi_else, pz_wl_else, vu_eq, vu_ne, pz_wi_gc, pz_wi_ga, pz_wi_gn, pz_wi_gl, pz_wi_gr, pz_wi_same, pz_wi_X, pz_wl_gc, pz_wl_ga, pz_wl_gn, pz_wl_gi, pz_wl_gr, pz_wl_same, pz_wl_X, pz_wr_gc, pz_wr_ga, pz_wr_gn, pz_wr_gi, pz_wr_gl, pz_wr_same, pz_wr_X])
    refine po_brP (fun q28 => ?_) (fun q28 => ?_)
    · skip
      (try simp (disch := omega) only [nI_ltI, nI_leI, nI_eq, nI_ltL, nI_leL, nI_eqL, nI_Llt, nI_Lle, nI_Leq, nI_eqm, nI_meq, nI_ltm, nI_lem, nI_mlt, nI_mle, lg0, lgl, lgg, lgle, lgge, Int32.not_lt, Int32.not_le, Int64.not_lt, Int64.not_le, not_false_eq_true, not_true_eq_false, Decidable.not_not, ge_iff_le, gt_iff_lt] at q28)
      refine pw_blk (mi := mz_134) (b := bz_134_36) rfl rfl ?_
      simp only [bz_134_36, pz_cut_t, pz_cut_f, pz_cut_n, pv_gt, pv_ts, pv_tn, ev_ic0, ev_nil, pz_wi_gc, pz_wi_ga, pz_wi_gn, pz_wi_gl, pz_wi_gr, pz_wi_same, pz_wi_X, pz_wl_gc, pz_wl_ga, pz_wl_gn, pz_wl_gi, pz_wl_gr, pz_wl_same, pz_wl_X, pz_wr_gc, pz_wr_ga, pz_wr_gn, pz_wr_gi, pz_wr_gl, pz_wr_same, pz_wr_X]
      (try simp (disch := omega) only [nI_clamp, pz_in_nI2, pz_in_nI2L, pv_gt, nI_add, nI_addL, nI_Ladd, pk_mul, nI_mulL, nI_Lmul, pk_sub, nI_subL, nI_Lsub, nI_inc, nI_clampL, Nat.add_sub_cancel, pz_wi_else, pz_wl_else, vu_eq, vu_ne, pz_wi_gc, pz_wi_ga, pz_wi_gn, pz_wi_gl, pz_wi_gr, pz_wi_same, pz_wi_X, pz_wl_gc, pz_wl_ga, pz_wl_gn, pz_wl_gi, pz_wl_gr, pz_wl_same, pz_wl_X, pz_wr_gc, pz_wr_ga, pz_wr_gn, pz_wr_gi, pz_wr_gl, pz_wr_same, pz_wr_X])
      refine po_go ?_
      refine pw_blk (mi := mz_134) (b := bz_134_37) rfl rfl ?_
      simp only [bz_134_37, pz_cut_t, pz_cut_f, pz_cut_n, pv_gt, pv_ts, pv_tn, ev_ist6n, ev_ist6i, ev_ist6r, ev_ist6e, ev_ist6l, ev_ic0, ev_ist7n, ev_ist7i, ev_ist7r, ev_ist7e, ev_ist7l, ev_nil, pz_wi_gc, pz_wi_ga, pz_wi_gn, pz_wi_gl, pz_wi_gr, pz_wi_same, pz_wi_X, pz_wl_gc, pz_wl_ga, pz_wl_gn, pz_wl_gi, pz_wl_gr, pz_wl_same, pz_wl_X, pz_wr_gc, pz_wr_ga, pz_wr_gn, pz_wr_gi, pz_wr_gl, pz_wr_same, pz_wr_X]
      (try simp (disch := omega) only [nI_clamp, pz_in_nI2, pz_in_nI2L, pv_gt, nI_add, nI_addL, nI_Ladd, pk_mul, nI_mulL, nI_Lmul, pk_sub, nI_subL, nI_Lsub, nI_inc, nI_clampL, Nat.add_sub_cancel, pz_wi_else, pz_wl_else, vu_eq, vu_ne, pz_wi_gc, pz_wi_ga, pz_wi_gn, pz_wi_gl, pz_wi_gr, pz_wi_same, pz_wi_X, pz_wl_gc, pz_wl_ga, pz_wl_gn, pz_wl_gi, pz_wl_gr, pz_wl_same, pz_wl_X, pz_wr_gc, pz_wr_ga, pz_wr_gn, pz_wr_gi, pz_wr_gl, pz_wr_same, pz_wr_X])
      refine po_go ?_
      have s2 := (s0.mono (K' := [43, 44, 45, 52]) (by decide)).tr s1 (by decide)
      have e52 : gi M1 52 = va_up (va_up (va_up (gi M 52) 5 (-1)) 6 J) 7 o := by rw [s1.i (by decide), pz_wi_same]
      refine pw_cut (mi := mz_134) (b := bz_134_42) rfl rfl (m_putBest01 (al := al) (cr := cr) (wk := wk) (sv := sv) (er := er) (B := B) (D := D) (E := E) (h := h) (J := J) (o := o) (V := V) (S := none) (by omega) ⟨hS.sm s2, hF.fr (s2.i (by decide)) (s2.i (by decide)) (s2.i (by decide)), w1, by rw [s2.i (by decide)]; exact b1, by rw [s2.i (by decide)]; exact l4, by rw [s2.i (by decide)]; exact l5, by rw [s2.i (by decide)]; exact xD, by rw [s2.i (by decide)]; exact xE, by rw [e52, vu_ne (by decide), vu_eq], by rw [e52, vu_eq]⟩ hB h0 sv2 er2 hD hE hV (fun M3 c3 hb3 => K M3 (((s2.sg hS).mono (by decide)).tr c3.1 (by decide)) hb3) ?_) rfl
      show gi M1 52 5 = -1
      rw [e52, vu_ne (by decide), vu_ne (by decide), vu_eq]
    · first
      | exact absurd q28 (by decide)
      | exact absurd trivial q28
      | exact q28.elim
      | (exfalso; (try simp (disch := omega) only [nI_ltI, nI_leI, nI_eq, nI_ltL, nI_leL, nI_eqL, nI_Llt, nI_Lle, nI_Leq, nI_eqm, nI_meq, nI_ltm, nI_lem, nI_mlt, nI_mle, lg0, lgl, lgg, lgle, lgge, Int32.not_lt, Int32.not_le, Int64.not_lt, Int64.not_le, not_false_eq_true, not_true_eq_false, Decidable.not_not, ge_iff_le, gt_iff_lt] at q28) <;> omega)
      | exact absurd q28 (by with_reducible assumption)
      | exact absurd (by with_reducible assumption) q28
      | exact absurd (Decidable.not_not.mp q28) (by with_reducible assumption)
      | exact absurd (by with_reducible assumption) (Int32.not_le.mpr q28)
      | exact absurd (by with_reducible assumption) (Int32.not_lt.mpr q28)
  · skip
    refine pm_ent (L := [some (.ref 52), some (.ref 33), some (.int (nI 2)), some (.int (nI 0)), some (.int J), some (.int o), none, none, none, none]) rfl (Nat.le_of_ble_eq_true rfl) ?_
    refine pw_blk (mi := mz_134) (b := bz_134_0) rfl rfl ?_
    simp only [bz_134_0, pz_cut_t, pz_cut_f, pz_cut_n, pv_gt, pv_ts, pv_tn, ev_ald0, ev_eld0, ev_icm1, ev_pf9_0, ev_ild4, ev_ild5, ev_gf9_2, ev_ald1, ev_eld1, ev_gf3_2, ev_cv1_1, pz_wi_gc, pz_wi_ga, pz_wi_gn, pz_wi_gl, pz_wi_gr, pz_wi_same, pz_wi_X, pz_wl_gc, pz_wl_ga, pz_wl_gn, pz_wl_gi, pz_wl_gr, pz_wl_same, pz_wl_X, pz_wr_gc, pz_wr_ga, pz_wr_gn, pz_wr_gi, pz_wr_gl, pz_wr_same, pz_wr_X, so_52 hS, sr_52_1 hS, so_39 hS, so_33 hS, sr_33_0 hS, sa_34 hS, sn_34 hS]
    (try simp (disch := omega) only [nI_clamp, pz_in_nI2, pz_in_nI2L, pv_gt, nI_add, nI_addL, nI_Ladd, pk_mul, nI_mulL, nI_Lmul, pk_sub, nI_subL, nI_Lsub, nI_inc, nI_clampL, Nat.add_sub_cancel, pz_wi_else, pz_wl_else, vu_eq, vu_ne, pz_wi_gc, pz_wi_ga, pz_wi_gn, pz_wi_gl, pz_wi_gr, pz_wi_same, pz_wi_X, pz_wl_gc, pz_wl_ga, pz_wl_gn, pz_wl_gi, pz_wl_gr, pz_wl_same, pz_wl_X, pz_wr_gc, pz_wr_ga, pz_wr_gn, pz_wr_gi, pz_wr_gl, pz_wr_same, pz_wr_X])
    (try refine po_gP (Nat.le_of_ble_eq_true rfl) ?_)
    have s0 : sm [52] M (pz_wi (pz_wi (pz_wi M 52 (va_up (gi M 52) 5 (-1))) 52 (va_up (va_up (gi M 52) 5 (-1)) 6 J)) 52 (va_up (va_up (va_up (gi M 52) 5 (-1)) 6 J) 7 o)) := sm.wi (sm.wi (sm.wi sm.rf (by decide)) (by decide)) (by decide)
    refine po_call (by omega) (m_weighAll (cr := cr) (wk := wk) (h := h) (by omega) (hS.sm s0) (hF.fr (s0.i (by decide)) (s0.i (by decide)) (s0.i (by decide))) (by rw [s0.i (by decide)]; exact b1) hB (by rw [s0.i (by decide)]; exact l2) (by rw [s0.i (by decide)]; exact l3) (by rw [s0.i (by decide)]; exact hh) (sa_34 (hS.sm s0)) (sn_34 (hS.sm s0)) (by omega) (fun M1 s1 w1 => ?_))
    refine pw_blk (mi := mz_134) (b := bz_134_28) rfl rfl ?_
    simp only [bz_134_28, pz_cut_t, pz_cut_f, pz_cut_n, pv_gt, pv_ts, pv_tn, ev_ild2, ev_ifle, pz_wi_gc, pz_wi_ga, pz_wi_gn, pz_wi_gl, pz_wi_gr, pz_wi_same, pz_wi_X, pz_wl_gc, pz_wl_ga, pz_wl_gn, pz_wl_gi, pz_wl_gr, pz_wl_same, pz_wl_X, pz_wr_gc, pz_wr_ga, pz_wr_gn, pz_wr_gi, pz_wr_gl, pz_wr_same, pz_wr_X]
    (try simp (disch := omega) only [nI_clamp, pz_in_nI2, pz_in_nI2L, pv_gt, nI_add, nI_addL, nI_Ladd, pk_mul, nI_mulL, nI_Lmul, pk_sub, nI_subL, nI_Lsub, nI_inc, nI_clampL, Nat.add_sub_cancel, pz_wi_else, pz_wl_else, vu_eq, vu_ne, pz_wi_gc, pz_wi_ga, pz_wi_gn, pz_wi_gl, pz_wi_gr, pz_wi_same, pz_wi_X, pz_wl_gc, pz_wl_ga, pz_wl_gn, pz_wl_gi, pz_wl_gr, pz_wl_same, pz_wl_X, pz_wr_gc, pz_wr_ga, pz_wr_gn, pz_wr_gi, pz_wr_gl, pz_wr_same, pz_wr_X])
    refine po_brP (fun q28 => ?_) (fun q28 => ?_)
    · first
      | exact absurd q28 (by decide)
      | exact absurd trivial q28
      | exact q28.elim
      | (exfalso; (try simp (disch := omega) only [nI_ltI, nI_leI, nI_eq, nI_ltL, nI_leL, nI_eqL, nI_Llt, nI_Lle, nI_Leq, nI_eqm, nI_meq, nI_ltm, nI_lem, nI_mlt, nI_mle, lg0, lgl, lgg, lgle, lgge, Int32.not_lt, Int32.not_le, Int64.not_lt, Int64.not_le, not_false_eq_true, not_true_eq_false, Decidable.not_not, ge_iff_le, gt_iff_lt] at q28) <;> omega)
      | exact absurd q28 (by with_reducible assumption)
      | exact absurd (by with_reducible assumption) q28
      | exact absurd (Decidable.not_not.mp q28) (by with_reducible assumption)
      | exact absurd (by with_reducible assumption) (Int32.not_le.mpr q28)
      | exact absurd (by with_reducible assumption) (Int32.not_lt.mpr q28)
    · skip
      (try simp (disch := omega) only [nI_ltI, nI_leI, nI_eq, nI_ltL, nI_leL, nI_eqL, nI_Llt, nI_Lle, nI_Leq, nI_eqm, nI_meq, nI_ltm, nI_lem, nI_mlt, nI_mle, lg0, lgl, lgg, lgle, lgge, Int32.not_lt, Int32.not_le, Int64.not_lt, Int64.not_le, not_false_eq_true, not_true_eq_false, Decidable.not_not, ge_iff_le, gt_iff_lt] at q28)
      refine pw_blk (mi := mz_134) (b := bz_134_32) rfl rfl ?_
      simp only [bz_134_32, pz_cut_t, pz_cut_f, pz_cut_n, pv_gt, pv_ts, pv_tn, ev_ic1, ev_goto, pz_wi_gc, pz_wi_ga, pz_wi_gn, pz_wi_gl, pz_wi_gr, pz_wi_same, pz_wi_X, pz_wl_gc, pz_wl_ga, pz_wl_gn, pz_wl_gi, pz_wl_gr, pz_wl_same, pz_wl_X, pz_wr_gc, pz_wr_ga, pz_wr_gn, pz_wr_gi, pz_wr_gl, pz_wr_same, pz_wr_X]
      (try simp (disch := omega) only [nI_clamp, pz_in_nI2, pz_in_nI2L, pv_gt, nI_add, nI_addL, nI_Ladd, pk_mul, nI_mulL, nI_Lmul, pk_sub, nI_subL, nI_Lsub, nI_inc, nI_clampL, Nat.add_sub_cancel, pz_wi_else, pz_wl_else, vu_eq, vu_ne, pz_wi_gc, pz_wi_ga, pz_wi_gn, pz_wi_gl, pz_wi_gr, pz_wi_same, pz_wi_X, pz_wl_gc, pz_wl_ga, pz_wl_gn, pz_wl_gi, pz_wl_gr, pz_wl_same, pz_wl_X, pz_wr_gc, pz_wr_ga, pz_wr_gn, pz_wr_gi, pz_wr_gl, pz_wr_same, pz_wr_X])
      refine po_go ?_
      refine pw_blk (mi := mz_134) (b := bz_134_37) rfl rfl ?_
      simp only [bz_134_37, pz_cut_t, pz_cut_f, pz_cut_n, pv_gt, pv_ts, pv_tn, ev_ist6n, ev_ist6i, ev_ist6r, ev_ist6e, ev_ist6l, ev_ic0, ev_ist7n, ev_ist7i, ev_ist7r, ev_ist7e, ev_ist7l, ev_nil, pz_wi_gc, pz_wi_ga, pz_wi_gn, pz_wi_gl, pz_wi_gr, pz_wi_same, pz_wi_X, pz_wl_gc, pz_wl_ga, pz_wl_gn, pz_wl_gi, pz_wl_gr, pz_wl_same, pz_wl_X, pz_wr_gc, pz_wr_ga, pz_wr_gn, pz_wr_gi, pz_wr_gl, pz_wr_same, pz_wr_X]
      (try simp (disch := omega) only [nI_clamp, pz_in_nI2, pz_in_nI2L, pv_gt, nI_add, nI_addL, nI_Ladd, pk_mul, nI_mulL, nI_Lmul, pk_sub, nI_subL, nI_Lsub, nI_inc, nI_clampL, Nat.add_sub_cancel, pz_wi_else, pz_wl_else, vu_eq, vu_ne, pz_wi_gc, pz_wi_ga, pz_wi_gn, pz_wi_gl, pz_wi_gr, pz_wi_same, pz_wi_X, pz_wl_gc, pz_wl_ga, pz_wl_gn, pz_wl_gi, pz_wl_gr, pz_wl_same, pz_wl_X, pz_wr_gc, pz_wr_ga, pz_wr_gn, pz_wr_gi, pz_wr_gl, pz_wr_same, pz_wr_X])
      refine po_go ?_
      have s2 := (s0.mono (K' := [43, 44, 45, 52]) (by decide)).tr s1 (by decide)
      have e52 : gi M1 52 = va_up (va_up (va_up (gi M 52) 5 (-1)) 6 J) 7 o := by rw [s1.i (by decide), pz_wi_same]
      refine pw_cut (mi := mz_134) (b := bz_134_42) rfl rfl (m_putBest20 (al := al) (cr := cr) (wk := wk) (sv := sv) (er := er) (B := B) (D := D) (E := E) (h := h) (J := J) (o := o) (V := V) (S := none) (by omega) ⟨hS.sm s2, hF.fr (s2.i (by decide)) (s2.i (by decide)) (s2.i (by decide)), w1, by rw [s2.i (by decide)]; exact b1, by rw [s2.i (by decide)]; exact l4, by rw [s2.i (by decide)]; exact l5, by rw [s2.i (by decide)]; exact xD, by rw [s2.i (by decide)]; exact xE, by rw [e52, vu_ne (by decide), vu_eq], by rw [e52, vu_eq]⟩ hB h0 sv2 er2 hD hE hV (fun M3 c3 hb3 => K M3 (((s2.sg hS).mono (by decide)).tr c3.1 (by decide)) hb3) ?_) rfl
      show gi M1 52 5 = -1
      rw [e52, vu_ne (by decide), vu_ne (by decide), vu_eq]
  · skip
    refine pm_ent (L := [some (.ref 52), some (.ref 33), some (.int (nI 1)), some (.int (nI 1)), some (.int J), some (.int o), none, none, none, none]) rfl (Nat.le_of_ble_eq_true rfl) ?_
    refine pw_blk (mi := mz_134) (b := bz_134_0) rfl rfl ?_
    simp only [bz_134_0, pz_cut_t, pz_cut_f, pz_cut_n, pv_gt, pv_ts, pv_tn, ev_ald0, ev_eld0, ev_icm1, ev_pf9_0, ev_ild4, ev_ild5, ev_gf9_2, ev_ald1, ev_eld1, ev_gf3_2, ev_cv1_1, pz_wi_gc, pz_wi_ga, pz_wi_gn, pz_wi_gl, pz_wi_gr, pz_wi_same, pz_wi_X, pz_wl_gc, pz_wl_ga, pz_wl_gn, pz_wl_gi, pz_wl_gr, pz_wl_same, pz_wl_X, pz_wr_gc, pz_wr_ga, pz_wr_gn, pz_wr_gi, pz_wr_gl, pz_wr_same, pz_wr_X, so_52 hS, sr_52_1 hS, so_39 hS, so_33 hS, sr_33_0 hS, sa_34 hS, sn_34 hS]
    (try simp (disch := omega) only [nI_clamp, pz_in_nI2, pz_in_nI2L, pv_gt, nI_add, nI_addL, nI_Ladd, pk_mul, nI_mulL, nI_Lmul, pk_sub, nI_subL, nI_Lsub, nI_inc, nI_clampL, Nat.add_sub_cancel, pz_wi_else, pz_wl_else, vu_eq, vu_ne, pz_wi_gc, pz_wi_ga, pz_wi_gn, pz_wi_gl, pz_wi_gr, pz_wi_same, pz_wi_X, pz_wl_gc, pz_wl_ga, pz_wl_gn, pz_wl_gi, pz_wl_gr, pz_wl_same, pz_wl_X, pz_wr_gc, pz_wr_ga, pz_wr_gn, pz_wr_gi, pz_wr_gl, pz_wr_same, pz_wr_X])
    (try refine po_gP (Nat.le_of_ble_eq_true rfl) ?_)
    have s0 : sm [52] M (pz_wi (pz_wi (pz_wi M 52 (va_up (gi M 52) 5 (-1))) 52 (va_up (va_up (gi M 52) 5 (-1)) 6 J)) 52 (va_up (va_up (va_up (gi M 52) 5 (-1)) 6 J) 7 o)) := sm.wi (sm.wi (sm.wi sm.rf (by decide)) (by decide)) (by decide)
    refine po_call (by omega) (m_weighAll (cr := cr) (wk := wk) (h := h) (by omega) (hS.sm s0) (hF.fr (s0.i (by decide)) (s0.i (by decide)) (s0.i (by decide))) (by rw [s0.i (by decide)]; exact b1) hB (by rw [s0.i (by decide)]; exact l2) (by rw [s0.i (by decide)]; exact l3) (by rw [s0.i (by decide)]; exact hh) (sa_34 (hS.sm s0)) (sn_34 (hS.sm s0)) (by omega) (fun M1 s1 w1 => ?_))
    refine pw_blk (mi := mz_134) (b := bz_134_28) rfl rfl ?_
    simp only [bz_134_28, pz_cut_t, pz_cut_f, pz_cut_n, pv_gt, pv_ts, pv_tn, ev_ild2, ev_ifle, pz_wi_gc, pz_wi_ga, pz_wi_gn, pz_wi_gl, pz_wi_gr, pz_wi_same, pz_wi_X, pz_wl_gc, pz_wl_ga, pz_wl_gn, pz_wl_gi, pz_wl_gr, pz_wl_same, pz_wl_X, pz_wr_gc, pz_wr_ga, pz_wr_gn, pz_wr_gi, pz_wr_gl, pz_wr_same, pz_wr_X]
    (try simp (disch := omega) only [nI_clamp, pz_in_nI2, pz_in_nI2L, pv_gt, nI_add, nI_addL, nI_Ladd, pk_mul, nI_mulL, nI_Lmul, pk_sub, nI_subL, nI_Lsub, nI_inc, nI_clampL, Nat.add_sub_cancel, pz_wi_else, pz_wl_else, vu_eq, vu_ne, pz_wi_gc, pz_wi_ga, pz_wi_gn, pz_wi_gl, pz_wi_gr, pz_wi_same, pz_wi_X, pz_wl_gc, pz_wl_ga, pz_wl_gn, pz_wl_gi, pz_wl_gr, pz_wl_same, pz_wl_X, pz_wr_gc, pz_wr_ga, pz_wr_gn, pz_wr_gi, pz_wr_gl, pz_wr_same, pz_wr_X])
    refine po_brP (fun q28 => ?_) (fun q28 => ?_)
    · first
      | exact absurd q28 (by decide)
      | exact absurd trivial q28
      | exact q28.elim
      | (exfalso; (try simp (disch := omega) only [nI_ltI, nI_leI, nI_eq, nI_ltL, nI_leL, nI_eqL, nI_Llt, nI_Lle, nI_Leq, nI_eqm, nI_meq, nI_ltm, nI_lem, nI_mlt, nI_mle, lg0, lgl, lgg, lgle, lgge, Int32.not_lt, Int32.not_le, Int64.not_lt, Int64.not_le, not_false_eq_true, not_true_eq_false, Decidable.not_not, ge_iff_le, gt_iff_lt] at q28) <;> omega)
      | exact absurd q28 (by with_reducible assumption)
      | exact absurd (by with_reducible assumption) q28
      | exact absurd (Decidable.not_not.mp q28) (by with_reducible assumption)
      | exact absurd (by with_reducible assumption) (Int32.not_le.mpr q28)
      | exact absurd (by with_reducible assumption) (Int32.not_lt.mpr q28)
    · skip
      (try simp (disch := omega) only [nI_ltI, nI_leI, nI_eq, nI_ltL, nI_leL, nI_eqL, nI_Llt, nI_Lle, nI_Leq, nI_eqm, nI_meq, nI_ltm, nI_lem, nI_mlt, nI_mle, lg0, lgl, lgg, lgle, lgge, Int32.not_lt, Int32.not_le, Int64.not_lt, Int64.not_le, not_false_eq_true, not_true_eq_false, Decidable.not_not, ge_iff_le, gt_iff_lt] at q28)
      refine pw_blk (mi := mz_134) (b := bz_134_32) rfl rfl ?_
      simp only [bz_134_32, pz_cut_t, pz_cut_f, pz_cut_n, pv_gt, pv_ts, pv_tn, ev_ic1, ev_goto, pz_wi_gc, pz_wi_ga, pz_wi_gn, pz_wi_gl, pz_wi_gr, pz_wi_same, pz_wi_X, pz_wl_gc, pz_wl_ga, pz_wl_gn, pz_wl_gi, pz_wl_gr, pz_wl_same, pz_wl_X, pz_wr_gc, pz_wr_ga, pz_wr_gn, pz_wr_gi, pz_wr_gl, pz_wr_same, pz_wr_X]
      (try simp (disch := omega) only [nI_clamp, pz_in_nI2, pz_in_nI2L, pv_gt, nI_add, nI_addL, nI_Ladd, pk_mul, nI_mulL, nI_Lmul, pk_sub, nI_subL, nI_Lsub, nI_inc, nI_clampL, Nat.add_sub_cancel, pz_wi_else, pz_wl_else, vu_eq, vu_ne, pz_wi_gc, pz_wi_ga, pz_wi_gn, pz_wi_gl, pz_wi_gr, pz_wi_same, pz_wi_X, pz_wl_gc, pz_wl_ga, pz_wl_gn, pz_wl_gi, pz_wl_gr, pz_wl_same, pz_wl_X, pz_wr_gc, pz_wr_ga, pz_wr_gn, pz_wr_gi, pz_wr_gl, pz_wr_same, pz_wr_X])
      refine po_go ?_
      refine pw_blk (mi := mz_134) (b := bz_134_37) rfl rfl ?_
      simp only [bz_134_37, pz_cut_t, pz_cut_f, pz_cut_n, pv_gt, pv_ts, pv_tn, ev_ist6n, ev_ist6i, ev_ist6r, ev_ist6e, ev_ist6l, ev_ic0, ev_ist7n, ev_ist7i, ev_ist7r, ev_ist7e, ev_ist7l, ev_nil, pz_wi_gc, pz_wi_ga, pz_wi_gn, pz_wi_gl, pz_wi_gr, pz_wi_same, pz_wi_X, pz_wl_gc, pz_wl_ga, pz_wl_gn, pz_wl_gi, pz_wl_gr, pz_wl_same, pz_wl_X, pz_wr_gc, pz_wr_ga, pz_wr_gn, pz_wr_gi, pz_wr_gl, pz_wr_same, pz_wr_X]
      (try simp (disch := omega) only [nI_clamp, pz_in_nI2, pz_in_nI2L, pv_gt, nI_add, nI_addL, nI_Ladd, pk_mul, nI_mulL, nI_Lmul, pk_sub, nI_subL, nI_Lsub, nI_inc, nI_clampL, Nat.add_sub_cancel, pz_wi_else, pz_wl_else, vu_eq, vu_ne, pz_wi_gc, pz_wi_ga, pz_wi_gn, pz_wi_gl, pz_wi_gr, pz_wi_same, pz_wi_X, pz_wl_gc, pz_wl_ga, pz_wl_gn, pz_wl_gi, pz_wl_gr, pz_wl_same, pz_wl_X, pz_wr_gc, pz_wr_ga, pz_wr_gn, pz_wr_gi, pz_wr_gl, pz_wr_same, pz_wr_X])
      refine po_go ?_
      have s2 := (s0.mono (K' := [43, 44, 45, 52]) (by decide)).tr s1 (by decide)
      have e52 : gi M1 52 = va_up (va_up (va_up (gi M 52) 5 (-1)) 6 J) 7 o := by rw [s1.i (by decide), pz_wi_same]
      refine pw_cut (mi := mz_134) (b := bz_134_42) rfl rfl (m_putBest11 (al := al) (cr := cr) (wk := wk) (sv := sv) (er := er) (B := B) (D := D) (E := E) (h := h) (J := J) (o := o) (V := V) (S := none) (by omega) ⟨hS.sm s2, hF.fr (s2.i (by decide)) (s2.i (by decide)) (s2.i (by decide)), w1, by rw [s2.i (by decide)]; exact b1, by rw [s2.i (by decide)]; exact l4, by rw [s2.i (by decide)]; exact l5, by rw [s2.i (by decide)]; exact xD, by rw [s2.i (by decide)]; exact xE, by rw [e52, vu_ne (by decide), vu_eq], by rw [e52, vu_eq]⟩ hB h0 sv2 er2 hD hE hV (fun M3 c3 hb3 => K M3 (((s2.sg hS).mono (by decide)).tr c3.1 (by decide)) hb3) ?_) rfl
      show gi M1 52 5 = -1
      rw [e52, vu_ne (by decide), vu_ne (by decide), vu_eq]
  · skip
    refine pm_ent (L := [some (.ref 52), some (.ref 33), some (.int (nI 0)), some (.int (nI 2)), some (.int J), some (.int o), none, none, none, none]) rfl (Nat.le_of_ble_eq_true rfl) ?_
    refine pw_blk (mi := mz_134) (b := bz_134_0) rfl rfl ?_
    simp only [bz_134_0, pz_cut_t, pz_cut_f, pz_cut_n, pv_gt, pv_ts, pv_tn, ev_ald0, ev_eld0, ev_icm1, ev_pf9_0, ev_ild4, ev_ild5, ev_gf9_2, ev_ald1, ev_eld1, ev_gf3_2, ev_cv1_1, pz_wi_gc, pz_wi_ga, pz_wi_gn, pz_wi_gl, pz_wi_gr, pz_wi_same, pz_wi_X, pz_wl_gc, pz_wl_ga, pz_wl_gn, pz_wl_gi, pz_wl_gr, pz_wl_same, pz_wl_X, pz_wr_gc, pz_wr_ga, pz_wr_gn, pz_wr_gi, pz_wr_gl, pz_wr_same, pz_wr_X, so_52 hS, sr_52_1 hS, so_39 hS, so_33 hS, sr_33_0 hS, sa_34 hS, sn_34 hS]
    (try simp (disch := omega) only [nI_clamp, pz_in_nI2, pz_in_nI2L, pv_gt, nI_add, nI_addL, nI_Ladd, pk_mul, nI_mulL, nI_Lmul, pk_sub, nI_subL, nI_Lsub, nI_inc, nI_clampL, Nat.add_sub_cancel, pz_wi_else, pz_wl_else, vu_eq, vu_ne, pz_wi_gc, pz_wi_ga, pz_wi_gn, pz_wi_gl, pz_wi_gr, pz_wi_same, pz_wi_X, pz_wl_gc, pz_wl_ga, pz_wl_gn, pz_wl_gi, pz_wl_gr, pz_wl_same, pz_wl_X, pz_wr_gc, pz_wr_ga, pz_wr_gn, pz_wr_gi, pz_wr_gl, pz_wr_same, pz_wr_X])
    (try refine po_gP (Nat.le_of_ble_eq_true rfl) ?_)
    have s0 : sm [52] M (pz_wi (pz_wi (pz_wi M 52 (va_up (gi M 52) 5 (-1))) 52 (va_up (va_up (gi M 52) 5 (-1)) 6 J)) 52 (va_up (va_up (va_up (gi M 52) 5 (-1)) 6 J) 7 o)) := sm.wi (sm.wi (sm.wi sm.rf (by decide)) (by decide)) (by decide)
    refine po_call (by omega) (m_weighAll (cr := cr) (wk := wk) (h := h) (by omega) (hS.sm s0) (hF.fr (s0.i (by decide)) (s0.i (by decide)) (s0.i (by decide))) (by rw [s0.i (by decide)]; exact b1) hB (by rw [s0.i (by decide)]; exact l2) (by rw [s0.i (by decide)]; exact l3) (by rw [s0.i (by decide)]; exact hh) (sa_34 (hS.sm s0)) (sn_34 (hS.sm s0)) (by omega) (fun M1 s1 w1 => ?_))
    refine pw_blk (mi := mz_134) (b := bz_134_28) rfl rfl ?_
    simp only [bz_134_28, pz_cut_t, pz_cut_f, pz_cut_n, pv_gt, pv_ts, pv_tn, ev_ild2, ev_ifle, pz_wi_gc, pz_wi_ga, pz_wi_gn, pz_wi_gl, pz_wi_gr, pz_wi_same, pz_wi_X, pz_wl_gc, pz_wl_ga, pz_wl_gn, pz_wl_gi, pz_wl_gr, pz_wl_same, pz_wl_X, pz_wr_gc, pz_wr_ga, pz_wr_gn, pz_wr_gi, pz_wr_gl, pz_wr_same, pz_wr_X]
    (try simp (disch := omega) only [nI_clamp, pz_in_nI2, pz_in_nI2L, pv_gt, nI_add, nI_addL, nI_Ladd, pk_mul, nI_mulL, nI_Lmul, pk_sub, nI_subL, nI_Lsub, nI_inc, nI_clampL, Nat.add_sub_cancel, pz_wi_else, pz_wl_else, vu_eq, vu_ne, pz_wi_gc, pz_wi_ga, pz_wi_gn, pz_wi_gl, pz_wi_gr, pz_wi_same, pz_wi_X, pz_wl_gc, pz_wl_ga, pz_wl_gn, pz_wl_gi, pz_wl_gr, pz_wl_same, pz_wl_X, pz_wr_gc, pz_wr_ga, pz_wr_gn, pz_wr_gi, pz_wr_gl, pz_wr_same, pz_wr_X])
    refine po_brP (fun q28 => ?_) (fun q28 => ?_)
    · skip
      (try simp (disch := omega) only [nI_ltI, nI_leI, nI_eq, nI_ltL, nI_leL, nI_eqL, nI_Llt, nI_Lle, nI_Leq, nI_eqm, nI_meq, nI_ltm, nI_lem, nI_mlt, nI_mle, lg0, lgl, lgg, lgle, lgge, Int32.not_lt, Int32.not_le, Int64.not_lt, Int64.not_le, not_false_eq_true, not_true_eq_false, Decidable.not_not, ge_iff_le, gt_iff_lt] at q28)
      refine pw_blk (mi := mz_134) (b := bz_134_36) rfl rfl ?_
      simp only [bz_134_36, pz_cut_t, pz_cut_f, pz_cut_n, pv_gt, pv_ts, pv_tn, ev_ic0, ev_nil, pz_wi_gc, pz_wi_ga, pz_wi_gn, pz_wi_gl, pz_wi_gr, pz_wi_same, pz_wi_X, pz_wl_gc, pz_wl_ga, pz_wl_gn, pz_wl_gi, pz_wl_gr, pz_wl_same, pz_wl_X, pz_wr_gc, pz_wr_ga, pz_wr_gn, pz_wr_gi, pz_wr_gl, pz_wr_same, pz_wr_X]
      (try simp (disch := omega) only [nI_clamp, pz_in_nI2, pz_in_nI2L, pv_gt, nI_add, nI_addL, nI_Ladd, pk_mul, nI_mulL, nI_Lmul, pk_sub, nI_subL, nI_Lsub, nI_inc, nI_clampL, Nat.add_sub_cancel, pz_wi_else, pz_wl_else, vu_eq, vu_ne, pz_wi_gc, pz_wi_ga, pz_wi_gn, pz_wi_gl, pz_wi_gr, pz_wi_same, pz_wi_X, pz_wl_gc, pz_wl_ga, pz_wl_gn, pz_wl_gi, pz_wl_gr, pz_wl_same, pz_wl_X, pz_wr_gc, pz_wr_ga, pz_wr_gn, pz_wr_gi, pz_wr_gl, pz_wr_same, pz_wr_X])
      refine po_go ?_
      refine pw_blk (mi := mz_134) (b := bz_134_37) rfl rfl ?_
      simp only [bz_134_37, pz_cut_t, pz_cut_f, pz_cut_n, pv_gt, pv_ts, pv_tn, ev_ist6n, ev_ist6i, ev_ist6r, ev_ist6e, ev_ist6l, ev_ic0, ev_ist7n, ev_ist7i, ev_ist7r, ev_ist7e, ev_ist7l, ev_nil, pz_wi_gc, pz_wi_ga, pz_wi_gn, pz_wi_gl, pz_wi_gr, pz_wi_same, pz_wi_X, pz_wl_gc, pz_wl_ga, pz_wl_gn, pz_wl_gi, pz_wl_gr, pz_wl_same, pz_wl_X, pz_wr_gc, pz_wr_ga, pz_wr_gn, pz_wr_gi, pz_wr_gl, pz_wr_same, pz_wr_X]
      (try simp (disch := omega) only [nI_clamp, pz_in_nI2, pz_in_nI2L, pv_gt, nI_add, nI_addL, nI_Ladd, pk_mul, nI_mulL, nI_Lmul, pk_sub, nI_subL, nI_Lsub, nI_inc, nI_clampL, Nat.add_sub_cancel, pz_wi_else, pz_wl_else, vu_eq, vu_ne, pz_wi_gc, pz_wi_ga, pz_wi_gn, pz_wi_gl, pz_wi_gr, pz_wi_same, pz_wi_X, pz_wl_gc, pz_wl_ga, pz_wl_gn, pz_wl_gi, pz_wl_gr, pz_wl_same, pz_wl_X, pz_wr_gc, pz_wr_ga, pz_wr_gn, pz_wr_gi, pz_wr_gl, pz_wr_same, pz_wr_X])
      refine po_go ?_
      have s2 := (s0.mono (K' := [43, 44, 45, 52]) (by decide)).tr s1 (by decide)
      have e52 : gi M1 52 = va_up (va_up (va_up (gi M 52) 5 (-1)) 6 J) 7 o := by rw [s1.i (by decide), pz_wi_same]
      refine pw_cut (mi := mz_134) (b := bz_134_42) rfl rfl (m_putBest02 (al := al) (cr := cr) (wk := wk) (sv := sv) (er := er) (B := B) (D := D) (E := E) (h := h) (J := J) (o := o) (V := V) (S := none) (by omega) ⟨hS.sm s2, hF.fr (s2.i (by decide)) (s2.i (by decide)) (s2.i (by decide)), w1, by rw [s2.i (by decide)]; exact b1, by rw [s2.i (by decide)]; exact l4, by rw [s2.i (by decide)]; exact l5, by rw [s2.i (by decide)]; exact xD, by rw [s2.i (by decide)]; exact xE, by rw [e52, vu_ne (by decide), vu_eq], by rw [e52, vu_eq]⟩ hB h0 sv2 er2 hD hE hV (fun M3 c3 hb3 => K M3 (((s2.sg hS).mono (by decide)).tr c3.1 (by decide)) hb3) ?_) rfl
      show gi M1 52 5 = -1
      rw [e52, vu_ne (by decide), vu_ne (by decide), vu_eq]
    · first
      | exact absurd q28 (by decide)
      | exact absurd trivial q28
      | exact q28.elim
      | (exfalso; (try simp (disch := omega) only [nI_ltI, nI_leI, nI_eq, nI_ltL, nI_leL, nI_eqL, nI_Llt, nI_Lle, nI_Leq, nI_eqm, nI_meq, nI_ltm, nI_lem, nI_mlt, nI_mle, lg0, lgl, lgg, lgle, lgge, Int32.not_lt, Int32.not_le, Int64.not_lt, Int64.not_le, not_false_eq_true, not_true_eq_false, Decidable.not_not, ge_iff_le, gt_iff_lt] at q28) <;> omega)
      | exact absurd q28 (by with_reducible assumption)
      | exact absurd (by with_reducible assumption) q28
      | exact absurd (Decidable.not_not.mp q28) (by with_reducible assumption)
      | exact absurd (by with_reducible assumption) (Int32.not_le.mpr q28)
      | exact absurd (by with_reducible assumption) (Int32.not_lt.mpr q28)
theorem r_findPut (hd : 14 ≤ d) {p q : Nat} (hs : 1 ≤ p + q) (hs2 : p + q ≤ 2) (x : rcx M r B cr wk sv er al h D.testBit E.testBit) (y : rbd r B cr wk sv er al h) (h0 : 0 < B) (hV : ∀ D' E', endJ al cr wk sv er B D' E' h J o = nI (V D' E') ∧ V D' E' ≤ 1000000) (K : ∀ M', rpu M M' → gi M' 153 = gi M 153 → gi M' 154 = gi M 154 → rst M' (decide (p + q = 2)) (ouS V D E (decide (0 < p)) (decide (1 < p)) (decide (p + q = 2)) B B 0 none) → Q (none, M')) : pm d 136 [.ref 120, .int (nI p), .int (nI q), .int J, .int o] M Q := by
  have hc : (p = 1 ∧ q = 0) ∨ (p = 0 ∧ q = 1) ∨ (p = 2 ∧ q = 0) ∨ (p = 1 ∧ q = 1) ∨ (p = 0 ∧ q = 2) := by omega
  rcases hc with ⟨rfl, rfl⟩ | ⟨rfl, rfl⟩ | ⟨rfl, rfl⟩ | ⟨rfl, rfl⟩ | ⟨rfl, rfl⟩
  · exact r_findPut10 hd x y h0 hV K
  · exact r_findPut01 hd x y h0 hV K
  · exact r_findPut20 hd x y h0 hV K
  · exact r_findPut11 hd x y h0 hV K
  · exact r_findPut02 hd x y h0 hV K
end PUT5
