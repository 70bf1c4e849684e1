/-! ===== plans, the reference's side ===== -/
section PLS2
variable {d : Nat} {M M' : pz_M} {Q : Option Value × pz_M → Prop}
/-- the plans of a row, one a day: c of them are left -/
def dgA (X : DyE) (N row : Nat) : Nat → (Nat → T3) → Nat → (Nat → T3)
  | 0, R, _ => R
  | c + 1, R, y => dgA X N row c (X.pn (row / N ^ c % N) R (nI y)) (y + 1)
def itF (f : Nat → Bs2 → Bs2) (lo : Nat) : Nat → Bs2 → Bs2
  | 0, s => s
  | k + 1, s => f (lo + k) (itF f lo k s)
theorem itF_add {f : Nat → Bs2 → Bs2} {lo a : Nat} {s : Bs2} : ∀ b, itF f lo (a + b) s = itF f (lo + a) b (itF f lo a s)
  | 0 => rfl
  | b + 1 => by
    show f (lo + (a + b)) (itF f lo (a + b) s) = f (lo + a + b) (itF f (lo + a) b (itF f lo a s))
    rw [itF_add b, Nat.add_assoc]
theorem itF_cg {f g : Nat → Bs2 → Bs2} {lo : Nat} {s : Bs2} : ∀ k, (∀ j s, j < k → f (lo + j) s = g (lo + j) s) → itF f lo k s = itF g lo k s
  | 0, _ => rfl
  | k + 1, h => by
    show f (lo + k) (itF f lo k s) = g (lo + k) (itF g lo k s)
    rw [itF_cg k (fun j s hj => h j s (by omega)), h k _ (by omega)]
theorem tS_it {X : DyE} {V : (Nat → T3) → Nat} {N : Nat} (hN : 0 < N) : ∀ c R y p S, tS X V N c R y p S = itF (fun row S => tr2 S (V (dgA X N row c R y)) row) (p * N ^ c) (N ^ c) S
  | 0, R, y, p, S => by
    rw [Nat.pow_zero, Nat.mul_one]
    rfl
  | c + 1, R, y, p, S => by
    have key : ∀ k, k ≤ N → tF X V N c R y p k S = itF (fun row S => tr2 S (V (dgA X N row (c + 1) R y)) row) (p * N ^ (c + 1)) (k * N ^ c) S := by
      intro k
      induction k with
      | zero => intro _; rw [Nat.zero_mul]; rfl
      | succ k ih =>
        intro hk
        rw [tF_s, ih (by omega), tS_it hN c, Nat.succ_mul, itF_add]
        rw [show (p * N + k) * N ^ c = p * N ^ (c + 1) + k * N ^ c by rw [Nat.add_mul, Nat.mul_assoc, Nat.pow_succ, Nat.mul_comm N]]
        refine itF_cg _ (fun j s hj => ?_)
        have e : (p * N ^ (c + 1) + k * N ^ c + j) / N ^ c % N = k := by
          have hp : 0 < N ^ c := Nat.pow_pos hN
          have e0 : p * N ^ (c + 1) = N ^ c * (p * N) := by rw [Nat.pow_succ, Nat.mul_comm p, Nat.mul_assoc, Nat.mul_comm N p]
          rw [show p * N ^ (c + 1) + k * N ^ c + j = N ^ c * (p * N + k) + j by rw [Nat.mul_add, e0, Nat.mul_comm k], Nat.mul_add_div hp, Nat.div_eq_of_lt hj, Nat.add_zero, Nat.mul_comm, Nat.mul_add_mod, Nat.mod_eq_of_lt (by omega)]
        show tr2 s (V (dgA X N (p * N ^ (c + 1) + k * N ^ c + j) c (X.pn k R (nI y)) (y + 1))) (p * N ^ (c + 1) + k * N ^ c + j) = tr2 s (V (dgA X N (p * N ^ (c + 1) + k * N ^ c + j) (c + 1) R y)) (p * N ^ (c + 1) + k * N ^ c + j)
        rw [dgA, e]
    have z := key N (Nat.le_refl _)
    rw [show N * N ^ c = N ^ (c + 1) by rw [Nat.pow_succ, Nat.mul_comm]] at z
    exact z
theorem pow_le {N k : Nat} (hN : N ≤ 6) (hk : k ≤ 4) : N ^ k ≤ 1296 := by
  have h1 : N ^ k ≤ 6 ^ k := Nat.pow_le_pow_left hN k
  have h2 : 6 ^ k ≤ 6 ^ 4 := Nat.pow_le_pow_right (by decide) hk
  exact Nat.le_trans h1 h2
theorem r_power {N k : Nat} (hN : N ≤ 6) (hk : k ≤ 4) (h : Q (some (.int (nI (N ^ k))), M)) : pm d 138 [.int (nI N), .int (nI k)] M Q := by
  have key : ∀ i, i ≤ k → pw d 138 (4, [some (.int (nI N)), some (.int (nI k)), some (.int (nI (N ^ i))), some (.int (nI i))], [], M) Q := by
    refine upto (fun i hi ih => ?_)
    by_cases q : i = k
    · subst q
      refine pw_blk (mi := mz_138) (b := bz_138_4) rfl rfl ?_
      simp only [bz_138_4, pz_cut_t, pz_cut_f, pz_cut_n, pv_gt, pv_ts, pv_tn, ev_ild3, ev_ild1, ev_ic_ge, pz_wi_gc, pz_wi_ga, pz_wi_gn, pz_wi_gl, pz_wi_gr, pz_wi_same, pz_wi_X, pz_wl_gc, pz_wl_ga, pz_wl_gn, pz_wl_gi, pz_wl_gr, pz_wl_same, pz_wl_X, pz_wr_gc, pz_wr_ga, pz_wr_gn, pz_wr_gi, pz_wr_gl, pz_wr_same, pz_wr_X]
      (try simp (disch := omega) only [nI_clamp, pz_in_nI2, pz_in_nI2L, pv_gt, nI_add, nI_addL, nI_Ladd, pk_mul, nI_mulL, nI_Lmul, pk_sub, nI_subL, nI_Lsub, nI_inc, nI_clampL, Nat.add_sub_cancel, pz_wi_else, pz_wl_else, vu_eq, vu_ne, pz_wi_gc, pz_wi_ga, pz_wi_gn, pz_wi_gl, pz_wi_gr, pz_wi_same, pz_wi_X, pz_wl_gc, pz_wl_ga, pz_wl_gn, pz_wl_gi, pz_wl_gr, pz_wl_same, pz_wl_X, pz_wr_gc, pz_wr_ga, pz_wr_gn, pz_wr_gi, pz_wr_gl, pz_wr_same, pz_wr_X])
      refine po_brP (fun q4 => ?_) (fun q4 => ?_)
      · skip
        (try simp (disch := omega) only [nI_ltI, nI_leI, nI_eq, nI_ltL, nI_leL, nI_eqL, nI_Llt, nI_Lle, nI_Leq, nI_eqm, nI_meq, nI_ltm, nI_lem, nI_mlt, nI_mle, lg0, lgl, lgg, lgle, lgge, Int32.not_lt, Int32.not_le, Int64.not_lt, Int64.not_le, not_false_eq_true, not_true_eq_false, Decidable.not_not, ge_iff_le, gt_iff_lt] at q4)
        refine pw_blk (mi := mz_138) (b := bz_138_19) rfl rfl ?_
        simp only [bz_138_19, pz_cut_t, pz_cut_f, pz_cut_n, pv_gt, pv_ts, pv_tn, ev_ild2, ev_iret0, pz_wi_gc, pz_wi_ga, pz_wi_gn, pz_wi_gl, pz_wi_gr, pz_wi_same, pz_wi_X, pz_wl_gc, pz_wl_ga, pz_wl_gn, pz_wl_gi, pz_wl_gr, pz_wl_same, pz_wl_X, pz_wr_gc, pz_wr_ga, pz_wr_gn, pz_wr_gi, pz_wr_gl, pz_wr_same, pz_wr_X]
        (try simp (disch := omega) only [nI_clamp, pz_in_nI2, pz_in_nI2L, pv_gt, nI_add, nI_addL, nI_Ladd, pk_mul, nI_mulL, nI_Lmul, pk_sub, nI_subL, nI_Lsub, nI_inc, nI_clampL, Nat.add_sub_cancel, pz_wi_else, pz_wl_else, vu_eq, vu_ne, pz_wi_gc, pz_wi_ga, pz_wi_gn, pz_wi_gl, pz_wi_gr, pz_wi_same, pz_wi_X, pz_wl_gc, pz_wl_ga, pz_wl_gn, pz_wl_gi, pz_wl_gr, pz_wl_same, pz_wl_X, pz_wr_gc, pz_wr_ga, pz_wr_gn, pz_wr_gi, pz_wr_gl, pz_wr_same, pz_wr_X])
        exact po_ret h
      · first
        | exact absurd q4 (by decide)
        | exact absurd trivial q4
        | exact q4.elim
        | (exfalso; (try simp (disch := omega) only [nI_ltI, nI_leI, nI_eq, nI_ltL, nI_leL, nI_eqL, nI_Llt, nI_Lle, nI_Leq, nI_eqm, nI_meq, nI_ltm, nI_lem, nI_mlt, nI_mle, lg0, lgl, lgg, lgle, lgge, Int32.not_lt, Int32.not_le, Int64.not_lt, Int64.not_le, not_false_eq_true, not_true_eq_false, Decidable.not_not, ge_iff_le, gt_iff_lt] at q4) <;> omega)
        | exact absurd q4 (by with_reducible assumption)
        | exact absurd (by with_reducible assumption) q4
        | exact absurd (Decidable.not_not.mp q4) (by with_reducible assumption)
        | exact absurd (by with_reducible assumption) (Int32.not_le.mpr q4)
        | exact absurd (by with_reducible assumption) (Int32.not_lt.mpr q4)
    · skip
      refine pw_blk (mi := mz_138) (b := bz_138_4) rfl rfl ?_
      simp only [bz_138_4, pz_cut_t, pz_cut_f, pz_cut_n, pv_gt, pv_ts, pv_tn, ev_ild3, ev_ild1, ev_ic_ge, pz_wi_gc, pz_wi_ga, pz_wi_gn, pz_wi_gl, pz_wi_gr, pz_wi_same, pz_wi_X, pz_wl_gc, pz_wl_ga, pz_wl_gn, pz_wl_gi, pz_wl_gr, pz_wl_same, pz_wl_X, pz_wr_gc, pz_wr_ga, pz_wr_gn, pz_wr_gi, pz_wr_gl, pz_wr_same, pz_wr_X]
      (try simp (disch := omega) only [nI_clamp, pz_in_nI2, pz_in_nI2L, pv_gt, nI_add, nI_addL, nI_Ladd, pk_mul, nI_mulL, nI_Lmul, pk_sub, nI_subL, nI_Lsub, nI_inc, nI_clampL, Nat.add_sub_cancel, pz_wi_else, pz_wl_else, vu_eq, vu_ne, pz_wi_gc, pz_wi_ga, pz_wi_gn, pz_wi_gl, pz_wi_gr, pz_wi_same, pz_wi_X, pz_wl_gc, pz_wl_ga, pz_wl_gn, pz_wl_gi, pz_wl_gr, pz_wl_same, pz_wl_X, pz_wr_gc, pz_wr_ga, pz_wr_gn, pz_wr_gi, pz_wr_gl, pz_wr_same, pz_wr_X])
      refine po_brP (fun q4 => ?_) (fun q4 => ?_)
      · first
        | exact absurd q4 (by decide)
        | exact absurd trivial q4
        | exact q4.elim
        | (exfalso; (try simp (disch := omega) only [nI_ltI, nI_leI, nI_eq, nI_ltL, nI_leL, nI_eqL, nI_Llt, nI_Lle, nI_Leq, nI_eqm, nI_meq, nI_ltm, nI_lem, nI_mlt, nI_mle, lg0, lgl, lgg, lgle, lgge, Int32.not_lt, Int32.not_le, Int64.not_lt, Int64.not_le, not_false_eq_true, not_true_eq_false, Decidable.not_not, ge_iff_le, gt_iff_lt] at q4) <;> omega)
        | exact absurd q4 (by with_reducible assumption)
        | exact absurd (by with_reducible assumption) q4
        | exact absurd (Decidable.not_not.mp q4) (by with_reducible assumption)
        | exact absurd (by with_reducible assumption) (Int32.not_le.mpr q4)
        | exact absurd (by with_reducible assumption) (Int32.not_lt.mpr q4)
      · skip
        (try simp (disch := omega) only [nI_ltI, nI_leI, nI_eq, nI_ltL, nI_leL, nI_eqL, nI_Llt, nI_Lle, nI_Leq, nI_eqm, nI_meq, nI_ltm, nI_lem, nI_mlt, nI_mle, lg0, lgl, lgg, lgle, lgge, Int32.not_lt, Int32.not_le, Int64.not_lt, Int64.not_le, not_false_eq_true, not_true_eq_false, Decidable.not_not, ge_iff_le, gt_iff_lt] at q4)
        refine pw_blk (mi := mz_138) (b := bz_138_9) rfl rfl ?_
        simp only [bz_138_9, pz_cut_t, pz_cut_f, pz_cut_n, pv_gt, pv_ts, pv_tn, ev_ild2, ev_ild0, ev_imul, ev_ist2n, ev_ist2i, ev_ist2r, ev_ist2e, ev_ist2l, ev_inc3n, ev_inc3i, ev_inc3r, ev_inc3e, ev_goto, pz_wi_gc, pz_wi_ga, pz_wi_gn, pz_wi_gl, pz_wi_gr, pz_wi_same, pz_wi_X, pz_wl_gc, pz_wl_ga, pz_wl_gn, pz_wl_gi, pz_wl_gr, pz_wl_same, pz_wl_X, pz_wr_gc, pz_wr_ga, pz_wr_gn, pz_wr_gi, pz_wr_gl, pz_wr_same, pz_wr_X]
        (try simp (disch := omega) only [nI_clamp, pz_in_nI2, pz_in_nI2L, pv_gt, nI_add, nI_addL, nI_Ladd, pk_mul, nI_mulL, nI_Lmul, pk_sub, nI_subL, nI_Lsub, nI_inc, nI_clampL, Nat.add_sub_cancel, pz_wi_else, pz_wl_else, vu_eq, vu_ne, pz_wi_gc, pz_wi_ga, pz_wi_gn, pz_wi_gl, pz_wi_gr, pz_wi_same, pz_wi_X, pz_wl_gc, pz_wl_ga, pz_wl_gn, pz_wl_gi, pz_wl_gr, pz_wl_same, pz_wl_X, pz_wr_gc, pz_wr_ga, pz_wr_gn, pz_wr_gi, pz_wr_gl, pz_wr_same, pz_wr_X])
        refine po_go ?_
        exact ih (i + 1) (by omega) (by omega)
  refine pm_ent (L := [some (.int (nI N)), some (.int (nI k)), none, none]) rfl (Nat.le_of_ble_eq_true rfl) ?_
  refine pw_blk (mi := mz_138) (b := bz_138_0) rfl rfl ?_
  simp only [bz_138_0, pz_cut_t, pz_cut_f, pz_cut_n, pv_gt, pv_ts, pv_tn, ev_ic1, ev_ist2n, ev_ist2i, ev_ist2r, ev_ist2e, ev_ist2l, ev_ic0, ev_ist3n, ev_ist3i, ev_ist3r, ev_ist3e, ev_ist3l, ev_nil, pz_wi_gc, pz_wi_ga, pz_wi_gn, pz_wi_gl, pz_wi_gr, pz_wi_same, pz_wi_X, pz_wl_gc, pz_wl_ga, pz_wl_gn, pz_wl_gi, pz_wl_gr, pz_wl_same, pz_wl_X, pz_wr_gc, pz_wr_ga, pz_wr_gn, pz_wr_gi, pz_wr_gl, pz_wr_same, pz_wr_X]
  (try simp (disch := omega) only [nI_clamp, pz_in_nI2, pz_in_nI2L, pv_gt, nI_add, nI_addL, nI_Ladd, pk_mul, nI_mulL, nI_Lmul, pk_sub, nI_subL, nI_Lsub, nI_inc, nI_clampL, Nat.add_sub_cancel, pz_wi_else, pz_wl_else, vu_eq, vu_ne, pz_wi_gc, pz_wi_ga, pz_wi_gn, pz_wi_gl, pz_wi_gr, pz_wi_same, pz_wi_X, pz_wl_gc, pz_wl_ga, pz_wl_gn, pz_wl_gi, pz_wl_gr, pz_wl_same, pz_wl_X, pz_wr_gc, pz_wr_ga, pz_wr_gn, pz_wr_gi, pz_wr_gl, pz_wr_same, pz_wr_X])
  refine po_go ?_
  exact key 0 (by omega)
def dI (c : Nat) : Int32 := if c = 0 then -1 else nI (c - 1)
theorem dI_s {c : Nat} : dI (c + 1) = nI c := rfl
theorem dI_dec {c : Nat} : nI c + Int32.ofInt (-1) = dI c := by
  cases c with
  | zero => decide
  | succ c => rw [nI_dec (by omega)]; rfl
def rs2 (M : pz_M) (S : Bs2) : Prop := match S with
  | none => gi M 120 63 = -1
  | some s => s.1 ≤ 1000000 ∧ s.2 < 1296 ∧ gi M 120 64 = nI s.1 ∧ gi M 120 63 = nI s.2
def rpl (M M' : pz_M) : Prop := sm [120, 149, 150, 151, 152, 153, 154, 155, 156, 157, 158, 176, 177, 178, 179, 180, 181, 182, 183] M M' ∧ (gi M' 149 = gi M 149 ∧ gi M' 150 = gi M 150 ∧ gi M' 151 = gi M 151 ∧ gi M' 152 = gi M 152 ∧ gi M' 153 = gi M 153 ∧ gi M' 154 = gi M 154) ∧ (∀ j, j ≠ 49 → j ≠ 50 → j ≠ 63 → j ≠ 64 → gi M' 120 j = gi M 120 j) ∧ (∀ i, i < 72 → gi M' 176 i = gi M 176 i ∧ gi M' 177 i = gi M 177 i ∧ gi M' 178 i = gi M 178 i ∧ gi M' 179 i = gi M 179 i ∧ gi M' 182 i = gi M 182 i ∧ gi M' 183 i = gi M 183 i) ∧ ∀ i, i < 3 → gi M' 180 i = gi M 180 i ∧ gi M' 181 i = gi M 181 i
theorem rpl.refl : rpl M M := ⟨sm.rf, ⟨rfl, rfl, rfl, rfl, rfl, rfl⟩, fun _ _ _ _ _ => rfl, fun _ _ => ⟨rfl, rfl, rfl, rfl, rfl, rfl⟩, fun _ _ => ⟨rfl, rfl⟩⟩
theorem rpl.tr {M'' : pz_M} (a : rpl M M') (b : rpl M' M'') : rpl M M'' := by
  obtain ⟨a1, ⟨a2, a3, a4, a5, a6, a7⟩, a8, a9, a10⟩ := a
  obtain ⟨b1, ⟨b2, b3, b4, b5, b6, b7⟩, b8, b9, b10⟩ := b
  refine ⟨a1.tr b1 (fun _ z => z), ⟨b2.trans a2, b3.trans a3, b4.trans a4, b5.trans a5, b6.trans a6, b7.trans a7⟩, fun j z1 z2 z3 z4 => (b8 j z1 z2 z3 z4).trans (a8 j z1 z2 z3 z4), fun i hi => ?_, fun i hi => ⟨(b10 i hi).1.trans (a10 i hi).1, (b10 i hi).2.trans (a10 i hi).2⟩⟩
  obtain ⟨u1, u2, u3, u4, u5, u6⟩ := a9 i hi
  obtain ⟨v1, v2, v3, v4, v5, v6⟩ := b9 i hi
  exact ⟨v1.trans u1, v2.trans u2, v3.trans u3, v4.trans u4, v5.trans u5, v6.trans u6⟩
/-- one row: kept, its plans done, the END looked up, brought back -/
theorem r_planRow (hd : 20 ≤ d) {X : DyE} {N n r nd y cr wk sv er D E row : Nat} {al : Nat → Nat → Nat} {R : Nat → T3} {w : Int32} (hok : X.ok N) (hN0 : 0 < N) (hn : n ≤ 4) (hrow : row < 1296) (hC : refE M X N r nd) (x : rcx M r X.B cr wk sv er al (fun i => (R i).1) D.testBit E.testBit) (b : rbd r X.B cr wk sv er al (fun i => (R i).1)) (h0 : 0 < X.B) (hr : ∀ i, rT (R i)) (hu : okT R) (hy : gi M 120 46 = nI y) (hy2 : y + 4 < 2 ^ 31) (hT : isTR M R) (K : ∀ M', rpl M M' → gi M' 120 63 = gi M 120 63 → gi M' 120 64 = gi M 120 64 → pw d 40 (111, [some (.ref 120), some (.int (nI n)), some (.int w), some (.int (nI N)), some (.int (nI row)), some (.int (endJ al cr wk sv er X.B D E (fun i => (dgA X N row n R y i).1) (-1) 0))], [], M') Q) : pw d 40 (61, [some (.ref 120), some (.int (nI n)), some (.int w), some (.int (nI N)), some (.int (nI row)), none], [], M) Q := by
  have hS := hC.1
  have hB := hok.1
  have hN6 := hok.2.2.1
  have z1 : ∀ i, i < 24 → gi M 153 i = 0 ∨ gi M 153 i = 1 := fun i hi => by rw [x.2.2.2.2.2.2.2.2.1 i hi]; exact bI_01 _
  have z2 : ∀ i, i < 24 → gi M 154 i = 0 ∨ gi M 154 i = 1 := fun i hi => by rw [x.2.2.2.2.2.2.2.2.2 i hi]; exact bI_01 _
  have key0 : ∀ M1, sm [176, 177, 178, 179, 180, 181, 182, 183] M M1 → gi M1 180 = va_up (gi M 180) 3 (gi M 120 46) → gi M1 181 = va_up (gi M 181) 3 (gi M 120 47) → gi M1 176 = rowK (gi M 149) (24 * 3) 24 (gi M 176) → gi M1 177 = rowK (gi M 150) (24 * 3) 24 (gi M 177) → gi M1 178 = rowK (gi M 151) (24 * 3) 24 (gi M 178) → gi M1 179 = rowK (gi M 152) (24 * 3) 24 (gi M 179) → gi M1 182 = rowK (gi M 153) (24 * 3) 24 (gi M 182) → gi M1 183 = rowK (gi M 154) (24 * 3) 24 (gi M 183) → pw d 40 (71, [some (.ref 120), some (.int (nI n)), some (.int w), some (.int (nI N)), some (.int (nI row)), some (.int (dI n))], [], M1) Q := by
    intro M1 s1 f1 f2 f3 f4 f5 f6 f7 f8
    have hS1 := hS.sm s1
    have e120 : gi M1 120 = gi M 120 := s1.i (by decide)
    have key : ∀ c M' R' y', c ≤ n → sm [120, 149, 150, 151, 152] M1 M' → isTR M' R' → okT R' → (∀ i, rT (R' i)) → (∀ i, 24 ≤ i → R' i = R i) → gi M' 120 = va_up (gi M 120) 46 (nI y') → y' + c = y + n → (∀ i, 24 ≤ i → gi M' 151 i = gi M 151 i) → (dgA X N row c R' y' = dgA X N row n R y) → pw d 40 (71, [some (.ref 120), some (.int (nI n)), some (.int w), some (.int (nI N)), some (.int (nI row)), some (.int (dI c))], [], M') Q := by
      intro c
      induction c with
      | zero =>
        intro M' R' y' hc s' hT' hu' hr' hhi e120' hyc e151 hdg
        have hS' := hS1.sm s'
        have s01 := (s1.mono (K' := [120, 149, 150, 151, 152, 176, 177, 178, 179, 180, 181, 182, 183]) (by decide)).tr s' (by decide)
        have e46 : gi M' 120 46 = nI y' := by rw [e120', vu_eq]
        have ej : ∀ j, j ≠ 46 → gi M' 120 j = gi M 120 j := fun j hj => by rw [e120', vu_ne hj]
        have x' : rcx M' r X.B cr wk sv er al (fun i => (R' i).1) D.testBit E.testBit := x.rows hS' ((s01.sg hS).ag (by decide +kernel)) (ej 38 (by decide)) hT'.1
        have b' : rbd r X.B cr wk sv er al (fun i => (R' i).1) := ⟨b.1, b.2.1, b.2.2.1, b.2.2.2.1, b.2.2.2.2.1, b.2.2.2.2.2.1, b.2.2.2.2.2.2.1, fun i => (hr' i).1⟩
        have hdg' : R' = dgA X N row n R y := hdg
        refine pw_blk (mi := mz_40) (b := bz_40_71) rfl rfl ?_
        simp only [bz_40_71, pz_cut_t, pz_cut_f, pz_cut_n, pv_gt, pv_ts, pv_tn, ev_ild5, ev_iflt, pz_wi_gc, pz_wi_ga, pz_wi_gn, pz_wi_gl, pz_wi_gr, pz_wi_same, pz_wi_X, pz_wl_gc, pz_wl_ga, pz_wl_gn, pz_wl_gi, pz_wl_gr, pz_wl_same, pz_wl_X, pz_wr_gc, pz_wr_ga, pz_wr_gn, pz_wr_gi, pz_wr_gl, pz_wr_same, pz_wr_X]
        (try simp (disch := omega) only [nI_clamp, pz_in_nI2, pz_in_nI2L, pv_gt, nI_add, nI_addL, nI_Ladd, pk_mul, nI_mulL, nI_Lmul, pk_sub, nI_subL, nI_Lsub, nI_inc, nI_clampL, Nat.add_sub_cancel, pz_wi_else, pz_wl_else, vu_eq, vu_ne, pz_wi_gc, pz_wi_ga, pz_wi_gn, pz_wi_gl, pz_wi_gr, pz_wi_same, pz_wi_X, pz_wl_gc, pz_wl_ga, pz_wl_gn, pz_wl_gi, pz_wl_gr, pz_wl_same, pz_wl_X, pz_wr_gc, pz_wr_ga, pz_wr_gn, pz_wr_gi, pz_wr_gl, pz_wr_same, pz_wr_X])
        refine po_brP (fun q71 => ?_) (fun q71 => ?_)
        · skip
          (try simp (disch := omega) only [nI_ltI, nI_leI, nI_eq, nI_ltL, nI_leL, nI_eqL, nI_Llt, nI_Lle, nI_Leq, nI_eqm, nI_meq, nI_ltm, nI_lem, nI_mlt, nI_mle, lg0, lgl, lgg, lgle, lgge, Int32.not_lt, Int32.not_le, Int64.not_lt, Int64.not_le, not_false_eq_true, not_true_eq_false, Decidable.not_not, ge_iff_le, gt_iff_lt] at q71)
          refine pw_blk (mi := mz_40) (b := bz_40_97) rfl rfl ?_
          simp only [bz_40_97, pz_cut_t, pz_cut_f, pz_cut_n, pv_gt, pv_ts, pv_tn, ev_ald0, ev_eld0, ev_ic0, ev_icm1, ev_cv3_11, pz_wi_gc, pz_wi_ga, pz_wi_gn, pz_wi_gl, pz_wi_gr, pz_wi_same, pz_wi_X, pz_wl_gc, pz_wl_ga, pz_wl_gn, pz_wl_gi, pz_wl_gr, pz_wl_same, pz_wl_X, pz_wr_gc, pz_wr_ga, pz_wr_gn, pz_wr_gi, pz_wr_gl, pz_wr_same, pz_wr_X, so_120 hS']
          (try simp (disch := omega) only [nI_clamp, pz_in_nI2, pz_in_nI2L, pv_gt, nI_add, nI_addL, nI_Ladd, pk_mul, nI_mulL, nI_Lmul, pk_sub, nI_subL, nI_Lsub, nI_inc, nI_clampL, Nat.add_sub_cancel, pz_wi_else, pz_wl_else, vu_eq, vu_ne, pz_wi_gc, pz_wi_ga, pz_wi_gn, pz_wi_gl, pz_wi_gr, pz_wi_same, pz_wi_X, pz_wl_gc, pz_wl_ga, pz_wl_gn, pz_wl_gi, pz_wl_gr, pz_wl_same, pz_wl_X, pz_wr_gc, pz_wr_ga, pz_wr_gn, pz_wr_gi, pz_wr_gl, pz_wr_same, pz_wr_X])
          (try refine po_gP (Nat.le_of_ble_eq_true rfl) ?_)
          refine po_call (by omega) (r_endOf (J := -1) (o := 0) (by omega) x' b' h0 (fun M2 s2 => ?_))
          have hS2 := hS'.sm s2.1
          refine pw_blk (mi := mz_40) (b := bz_40_104) rfl rfl ?_
          simp only [bz_40_104, pz_cut_t, pz_cut_f, pz_cut_n, pv_gt, pv_ts, pv_tn, ev_ist5n, ev_ist5i, ev_ist5r, ev_ist5e, ev_ist5l, ev_ald0, ev_eld0, ev_ic3, ev_cv1_11, pz_wi_gc, pz_wi_ga, pz_wi_gn, pz_wi_gl, pz_wi_gr, pz_wi_same, pz_wi_X, pz_wl_gc, pz_wl_ga, pz_wl_gn, pz_wl_gi, pz_wl_gr, pz_wl_same, pz_wl_X, pz_wr_gc, pz_wr_ga, pz_wr_gn, pz_wr_gi, pz_wr_gl, pz_wr_same, pz_wr_X, so_120 hS', so_120 hS2]
          (try simp (disch := omega) only [nI_clamp, pz_in_nI2, pz_in_nI2L, pv_gt, nI_add, nI_addL, nI_Ladd, pk_mul, nI_mulL, nI_Lmul, pk_sub, nI_subL, nI_Lsub, nI_inc, nI_clampL, Nat.add_sub_cancel, pz_wi_else, pz_wl_else, vu_eq, vu_ne, pz_wi_gc, pz_wi_ga, pz_wi_gn, pz_wi_gl, pz_wi_gr, pz_wi_same, pz_wi_X, pz_wl_gc, pz_wl_ga, pz_wl_gn, pz_wl_gi, pz_wl_gr, pz_wl_same, pz_wl_X, pz_wr_gc, pz_wr_ga, pz_wr_gn, pz_wr_gi, pz_wr_gl, pz_wr_same, pz_wr_X, so_120 hS2])
          (try refine po_gP (Nat.le_of_ble_eq_true rfl) ?_)
          refine po_call (by omega) (r_bring (b := 3) hS2 (by decide) (fun i hi => by rw [s2.1.i (by decide), s'.i (by decide), f7, rowK_at hi]; exact z1 i hi) (fun i hi => by rw [s2.1.i (by decide), s'.i (by decide), f8, rowK_at hi]; exact z2 i hi) (fun M3 s3 g0 g1 g2 g3 g4 g5 g6 => ?_))
          rw [hdg']
          have s23 := s2.1
          refine K M3 ⟨?_, ⟨?_, ?_, ?_, ?_, ?_, ?_⟩, ?_, ?_, ?_⟩ ?_ ?_
          · exact (((s01.mono (by decide)).tr s23 (by decide)).tr s3 (by decide))
          · rw [g1]
            funext i
            by_cases hi : i < 24
            · rw [rowG_lt hi, s23.i (by decide), s'.i (by decide), f3, rowK_at hi]
            · rw [rowG_ge (by omega), s23.i (by decide), show gi M' 149 = _ from hT'.1, show gi M 149 = _ from hT.1]
              simp only [hhi i (by omega)]
          · rw [g2]
            funext i
            by_cases hi : i < 24
            · rw [rowG_lt hi, s23.i (by decide), s'.i (by decide), f4, rowK_at hi]
            · rw [rowG_ge (by omega), s23.i (by decide), show gi M' 150 = _ from hT'.2.1, show gi M 150 = _ from hT.2.1]
              simp only [hhi i (by omega)]
          · rw [g3]
            funext i
            by_cases hi : i < 24
            · rw [rowG_lt hi, s23.i (by decide), s'.i (by decide), f5, rowK_at hi]
            · rw [rowG_ge (by omega), s23.i (by decide)]; exact e151 i (by omega)
          · rw [g4]
            funext i
            by_cases hi : i < 24
            · rw [rowG_lt hi, s23.i (by decide), s'.i (by decide), f6, rowK_at hi]
            · rw [rowG_ge (by omega), s23.i (by decide), show gi M' 152 = _ from hT'.2.2, show gi M 152 = _ from hT.2.2]
              simp only [hhi i (by omega)]
          · rw [g5]
            funext i
            by_cases hi : i < 24
            · rw [rowG_lt hi, s23.i (by decide), s'.i (by decide), f7, rowK_at hi]
            · rw [rowG_ge (by omega), s23.i (by decide), s01.i (by decide)]
          · rw [g6]
            funext i
            by_cases hi : i < 24
            · rw [rowG_lt hi, s23.i (by decide), s'.i (by decide), f8, rowK_at hi]
            · rw [rowG_ge (by omega), s23.i (by decide), s01.i (by decide)]
          · intro j h1 h2 h3 h4
            rw [g0]
            by_cases q1 : j = 47
            · subst q1
              rw [vu_eq, s23.i (by decide), s'.i (by decide), f2, vu_eq]
            · rw [vu_ne q1]
              by_cases q2 : j = 46
              · subst q2
                rw [vu_eq, s23.i (by decide), s'.i (by decide), f1, vu_eq]
              · rw [vu_ne q2, s2.2 j h1 h2]
                exact ej j q2
          · intro i hi
            rw [s3.i (k := 176) (by decide), s3.i (k := 177) (by decide), s3.i (k := 178) (by decide), s3.i (k := 179) (by decide), s3.i (k := 182) (by decide), s3.i (k := 183) (by decide), s23.i (k := 176) (by decide), s23.i (k := 177) (by decide), s23.i (k := 178) (by decide), s23.i (k := 179) (by decide), s23.i (k := 182) (by decide), s23.i (k := 183) (by decide), s'.i (k := 176) (by decide), s'.i (k := 177) (by decide), s'.i (k := 178) (by decide), s'.i (k := 179) (by decide), s'.i (k := 182) (by decide), s'.i (k := 183) (by decide), f3, f4, f5, f6, f7, f8, rowK_off (by omega), rowK_off (by omega), rowK_off (by omega), rowK_off (by omega), rowK_off (by omega), rowK_off (by omega)]
            exact ⟨rfl, rfl, rfl, rfl, rfl, rfl⟩
          · intro i hi
            rw [s3.i (k := 180) (by decide), s3.i (k := 181) (by decide), s23.i (k := 180) (by decide), s23.i (k := 181) (by decide), s'.i (k := 180) (by decide), s'.i (k := 181) (by decide), f1, f2, vu_ne (by omega), vu_ne (by omega)]
            exact ⟨rfl, rfl⟩
          · rw [g0, vu_ne (by decide), vu_ne (by decide), s2.2 63 (by decide) (by decide), ej 63 (by decide)]
          · rw [g0, vu_ne (by decide), vu_ne (by decide), s2.2 64 (by decide) (by decide), ej 64 (by decide)]
        · first
          | exact absurd q71 (by decide)
          | exact absurd trivial q71
          | exact q71.elim
          | (exfalso; (try simp (disch := omega) only [nI_ltI, nI_leI, nI_eq, nI_ltL, nI_leL, nI_eqL, nI_Llt, nI_Lle, nI_Leq, nI_eqm, nI_meq, nI_ltm, nI_lem, nI_mlt, nI_mle, lg0, lgl, lgg, lgle, lgge, Int32.not_lt, Int32.not_le, Int64.not_lt, Int64.not_le, not_false_eq_true, not_true_eq_false, Decidable.not_not, ge_iff_le, gt_iff_lt] at q71) <;> omega)
          | exact absurd q71 (by with_reducible assumption)
          | exact absurd (by with_reducible assumption) q71
          | exact absurd (Decidable.not_not.mp q71) (by with_reducible assumption)
          | exact absurd (by with_reducible assumption) (Int32.not_le.mpr q71)
          | exact absurd (by with_reducible assumption) (Int32.not_lt.mpr q71)
      | succ c ih =>
        intro M' R' y' hc s' hT' hu' hr' hhi e120' hyc e151 hdg
        have hS' := hS1.sm s'
        have s01 := (s1.mono (K' := [120, 149, 150, 151, 152, 176, 177, 178, 179, 180, 181, 182, 183]) (by decide)).tr s' (by decide)
        have e46 : gi M' 120 46 = nI y' := by rw [e120', vu_eq]
        have ej : ∀ j, j ≠ 46 → gi M' 120 j = gi M 120 j := fun j hj => by rw [e120', vu_ne hj]
        have hC' := hC.fr hS' ((s01.sg hS).ag (by decide +kernel)) (fun j hj => ej j (by omega))
        obtain ⟨-, ⟨hO', hbk', hnb'⟩, ⟨k0, k1, -⟩, -, -, hpl⟩ := id hC'
        have hqN : row / N ^ c % N < N := Nat.mod_lt _ hN0
        obtain ⟨v1, v2, v3, v4⟩ := hpl _ hqN
        obtain ⟨w1, w2, w3, w4⟩ := hok.2.2.2.2.1 _ hqN
        have hpc : 0 < N ^ c := Nat.pow_pos hN0
        have hpl4 := pow_le (k := c) hN6 (by omega)
        have hrc : row / N ^ c ≤ row := Nat.div_le_self _ _
        have q1 : nI row / nI (N ^ c) = nI (row / N ^ c) := pk_div (by omega) hpc (by omega)
        have q2 : nI (row / N ^ c) - nI (row / N ^ c) / nI N * nI N = nI (row / N ^ c % N) := pk_rem (by omega) hN0 (by omega)
        have q3 : ¬ nI (N ^ c) = 0 := fun z => by have := (nI_eqL (by omega) (by decide)).mp z; omega
        have q4 : ¬ nI N = 0 := fun z => by have := (nI_eqL (by omega) (by decide)).mp z; omega
        rw [dI_s]
        refine pw_blk (mi := mz_40) (b := bz_40_71) rfl rfl ?_
        simp only [bz_40_71, pz_cut_t, pz_cut_f, pz_cut_n, pv_gt, pv_ts, pv_tn, ev_ild5, ev_iflt, pz_wi_gc, pz_wi_ga, pz_wi_gn, pz_wi_gl, pz_wi_gr, pz_wi_same, pz_wi_X, pz_wl_gc, pz_wl_ga, pz_wl_gn, pz_wl_gi, pz_wl_gr, pz_wl_same, pz_wl_X, pz_wr_gc, pz_wr_ga, pz_wr_gn, pz_wr_gi, pz_wr_gl, pz_wr_same, pz_wr_X, q1, q2, q3, q4, not_false_eq_true, decide_true, pv_gt]
        (try simp (disch := omega) only [nI_clamp, pz_in_nI2, pz_in_nI2L, pv_gt, nI_add, nI_addL, nI_Ladd, pk_mul, nI_mulL, nI_Lmul, pk_sub, nI_subL, nI_Lsub, nI_inc, nI_clampL, Nat.add_sub_cancel, pz_wi_else, pz_wl_else, vu_eq, vu_ne, pz_wi_gc, pz_wi_ga, pz_wi_gn, pz_wi_gl, pz_wi_gr, pz_wi_same, pz_wi_X, pz_wl_gc, pz_wl_ga, pz_wl_gn, pz_wl_gi, pz_wl_gr, pz_wl_same, pz_wl_X, pz_wr_gc, pz_wr_ga, pz_wr_gn, pz_wr_gi, pz_wr_gl, pz_wr_same, pz_wr_X, q1, q2, q3, q4, not_false_eq_true, decide_true, pv_gt])
        refine po_brP (fun q71 => ?_) (fun q71 => ?_)
        · first
          | exact absurd q71 (by decide)
          | exact absurd trivial q71
          | exact q71.elim
          | (exfalso; (try simp (disch := omega) only [nI_ltI, nI_leI, nI_eq, nI_ltL, nI_leL, nI_eqL, nI_Llt, nI_Lle, nI_Leq, nI_eqm, nI_meq, nI_ltm, nI_lem, nI_mlt, nI_mle, lg0, lgl, lgg, lgle, lgge, Int32.not_lt, Int32.not_le, Int64.not_lt, Int64.not_le, not_false_eq_true, not_true_eq_false, Decidable.not_not, ge_iff_le, gt_iff_lt] at q71) <;> omega)
          | exact absurd q71 (by with_reducible assumption)
          | exact absurd (by with_reducible assumption) q71
          | exact absurd (Decidable.not_not.mp q71) (by with_reducible assumption)
          | exact absurd (by with_reducible assumption) (Int32.not_le.mpr q71)
          | exact absurd (by with_reducible assumption) (Int32.not_lt.mpr q71)
        · skip
          (try simp (disch := omega) only [nI_ltI, nI_leI, nI_eq, nI_ltL, nI_leL, nI_eqL, nI_Llt, nI_Lle, nI_Leq, nI_eqm, nI_meq, nI_ltm, nI_lem, nI_mlt, nI_mle, lg0, lgl, lgg, lgle, lgge, Int32.not_lt, Int32.not_le, Int64.not_lt, Int64.not_le, not_false_eq_true, not_true_eq_false, Decidable.not_not, ge_iff_le, gt_iff_lt] at q71)
          refine pw_blk (mi := mz_40) (b := bz_40_76) rfl rfl ?_
          simp only [bz_40_76, pz_cut_t, pz_cut_f, pz_cut_n, pv_gt, pv_ts, pv_tn, ev_ald0, ev_eld0, ev_ild4, ev_ild3, ev_ild5, ev_cs2, pz_wi_gc, pz_wi_ga, pz_wi_gn, pz_wi_gl, pz_wi_gr, pz_wi_same, pz_wi_X, pz_wl_gc, pz_wl_ga, pz_wl_gn, pz_wl_gi, pz_wl_gr, pz_wl_same, pz_wl_X, pz_wr_gc, pz_wr_ga, pz_wr_gn, pz_wr_gi, pz_wr_gl, pz_wr_same, pz_wr_X, q1, q2, q3, q4, not_false_eq_true, decide_true, pv_gt]
          (try simp (disch := omega) only [nI_clamp, pz_in_nI2, pz_in_nI2L, pv_gt, nI_add, nI_addL, nI_Ladd, pk_mul, nI_mulL, nI_Lmul, pk_sub, nI_subL, nI_Lsub, nI_inc, nI_clampL, Nat.add_sub_cancel, pz_wi_else, pz_wl_else, vu_eq, vu_ne, pz_wi_gc, pz_wi_ga, pz_wi_gn, pz_wi_gl, pz_wi_gr, pz_wi_same, pz_wi_X, pz_wl_gc, pz_wl_ga, pz_wl_gn, pz_wl_gi, pz_wl_gr, pz_wl_same, pz_wl_X, pz_wr_gc, pz_wr_ga, pz_wr_gn, pz_wr_gi, pz_wr_gl, pz_wr_same, pz_wr_X, q1, q2, q3, q4, not_false_eq_true, decide_true, pv_gt])
          (try refine po_gP (Nat.le_of_ble_eq_true rfl) ?_)
          refine po_call (by omega) (r_power hN6 (by omega) ?_)
          refine pw_blk (mi := mz_40) (b := bz_40_85) rfl rfl ?_
          simp only [bz_40_85, pz_cut_t, pz_cut_f, pz_cut_n, pv_gt, pv_ts, pv_tn, ev_idiv, ev_ild3, ev_irem, ev_cv1_11, pz_wi_gc, pz_wi_ga, pz_wi_gn, pz_wi_gl, pz_wi_gr, pz_wi_same, pz_wi_X, pz_wl_gc, pz_wl_ga, pz_wl_gn, pz_wl_gi, pz_wl_gr, pz_wl_same, pz_wl_X, pz_wr_gc, pz_wr_ga, pz_wr_gn, pz_wr_gi, pz_wr_gl, pz_wr_same, pz_wr_X, so_120 hS', q1, q2, q3, q4, not_false_eq_true, decide_true, pv_gt]
          (try simp (disch := omega) only [nI_clamp, pz_in_nI2, pz_in_nI2L, pv_gt, nI_add, nI_addL, nI_Ladd, pk_mul, nI_mulL, nI_Lmul, pk_sub, nI_subL, nI_Lsub, nI_inc, nI_clampL, Nat.add_sub_cancel, pz_wi_else, pz_wl_else, vu_eq, vu_ne, pz_wi_gc, pz_wi_ga, pz_wi_gn, pz_wi_gl, pz_wi_gr, pz_wi_same, pz_wi_X, pz_wl_gc, pz_wl_ga, pz_wl_gn, pz_wl_gi, pz_wl_gr, pz_wl_same, pz_wl_X, pz_wr_gc, pz_wr_ga, pz_wr_gn, pz_wr_gi, pz_wr_gl, pz_wr_same, pz_wr_X, q1, q2, q3, q4, not_false_eq_true, decide_true, pv_gt])
          (try refine po_gP (by first | decide | assumption) ?_)
          (try refine po_gP (by first | decide | assumption) ?_)
          (try refine po_gP (Nat.le_of_ble_eq_true rfl) ?_)
          refine po_call (by omega) (r_doPlan (by omega) hS' hO' hbk' hnb' hB hT' hu' e46 (by omega) (by omega) v1 v2 v3 v4 (by omega) w3 w4 w1 (g := X.g) (f := X.f) k0 k1 (fun M2 s2 f0 t2 f3 => ?_))
          refine pw_blk (mi := mz_40) (b := bz_40_91) rfl rfl ?_
          simp only [bz_40_91, pz_cut_t, pz_cut_f, pz_cut_n, pv_gt, pv_ts, pv_tn, ev_inc5n, ev_inc5i, ev_inc5r, ev_inc5e, ev_goto, pz_wi_gc, pz_wi_ga, pz_wi_gn, pz_wi_gl, pz_wi_gr, pz_wi_same, pz_wi_X, pz_wl_gc, pz_wl_ga, pz_wl_gn, pz_wl_gi, pz_wl_gr, pz_wl_same, pz_wl_X, pz_wr_gc, pz_wr_ga, pz_wr_gn, pz_wr_gi, pz_wr_gl, pz_wr_same, pz_wr_X, q1, q2, q3, q4, not_false_eq_true, decide_true, pv_gt]
          (try simp (disch := omega) only [nI_clamp, pz_in_nI2, pz_in_nI2L, pv_gt, nI_add, nI_addL, nI_Ladd, pk_mul, nI_mulL, nI_Lmul, pk_sub, nI_subL, nI_Lsub, nI_inc, nI_clampL, Nat.add_sub_cancel, pz_wi_else, pz_wl_else, vu_eq, vu_ne, pz_wi_gc, pz_wi_ga, pz_wi_gn, pz_wi_gl, pz_wi_gr, pz_wi_same, pz_wi_X, pz_wl_gc, pz_wl_ga, pz_wl_gn, pz_wl_gi, pz_wl_gr, pz_wl_same, pz_wl_X, pz_wr_gc, pz_wr_ga, pz_wr_gn, pz_wr_gi, pz_wr_gl, pz_wr_same, pz_wr_X, q1, q2, q3, q4, not_false_eq_true, decide_true, pv_gt])
          refine po_go ?_
          rw [dI_dec]
          refine ih M2 (X.pn (row / N ^ c % N) R' (nI y')) (y' + 1) (by omega) (s'.tr s2 (by decide)) t2 ?_ (DyE.pn_r hok hr') ?_ ?_ (by omega) ?_ ?_
          · unfold DyE.pn
            exact okT.fd (hu'.map (fun x hx => plT_un (nI_pos' (by omega)) x hx))
          · intro i hi
            rw [DyE.pn_hi hok hqN hi]
            exact hhi i hi
          · rw [f0, e120', va_up2]
          · intro i hi
            rw [f3, rowF_hi (by omega)]
            exact e151 i hi
          · rw [← hdg]
            rfl
    have z := key n M1 R y (Nat.le_refl _) sm.rf (hT.sm s1 (by decide) (by decide) (by decide)) hu hr (fun _ _ => rfl) (by rw [e120, ← hy, va_self]) rfl (fun i hi => by rw [s1.i (by decide)]) rfl
    exact z
  have hn1 : nI n - 1 = dI n := by
    cases n with
    | zero => decide
    | succ n => exact nI_subL (n := 1) (by show 1 ≤ n + 1; omega)
  by_cases hn0 : n = 0
  · subst hn0
    refine pw_blk (mi := mz_40) (b := bz_40_61) rfl rfl ?_
    simp only [bz_40_61, pz_cut_t, pz_cut_f, pz_cut_n, pv_gt, pv_ts, pv_tn, ev_ald0, ev_eld0, ev_ic3, ev_cv1_11, pz_wi_gc, pz_wi_ga, pz_wi_gn, pz_wi_gl, pz_wi_gr, pz_wi_same, pz_wi_X, pz_wl_gc, pz_wl_ga, pz_wl_gn, pz_wl_gi, pz_wl_gr, pz_wl_same, pz_wl_X, pz_wr_gc, pz_wr_ga, pz_wr_gn, pz_wr_gi, pz_wr_gl, pz_wr_same, pz_wr_X, so_120 hS]
    (try simp (disch := omega) only [nI_clamp, pz_in_nI2, pz_in_nI2L, pv_gt, nI_add, nI_addL, nI_Ladd, pk_mul, nI_mulL, nI_Lmul, pk_sub, nI_subL, nI_Lsub, nI_inc, nI_clampL, Nat.add_sub_cancel, pz_wi_else, pz_wl_else, vu_eq, vu_ne, pz_wi_gc, pz_wi_ga, pz_wi_gn, pz_wi_gl, pz_wi_gr, pz_wi_same, pz_wi_X, pz_wl_gc, pz_wl_ga, pz_wl_gn, pz_wl_gi, pz_wl_gr, pz_wl_same, pz_wl_X, pz_wr_gc, pz_wr_ga, pz_wr_gn, pz_wr_gi, pz_wr_gl, pz_wr_same, pz_wr_X])
    (try refine po_gP (Nat.le_of_ble_eq_true rfl) ?_)
    refine po_call (by omega) (r_keep (b := 3) hS (by decide) z1 z2 (fun M1 s1 f1 f2 f3 f4 f5 f6 f7 f8 => ?_))
    refine pw_blk (mi := mz_40) (b := bz_40_66) rfl rfl ?_
    simp only [bz_40_66, pz_cut_t, pz_cut_f, pz_cut_n, pv_gt, pv_ts, pv_tn, ev_ild1, ev_ic1, ev_isub, ev_ist5n, ev_ist5i, ev_ist5r, ev_ist5e, ev_ist5l, ev_nil, pz_wi_gc, pz_wi_ga, pz_wi_gn, pz_wi_gl, pz_wi_gr, pz_wi_same, pz_wi_X, pz_wl_gc, pz_wl_ga, pz_wl_gn, pz_wl_gi, pz_wl_gr, pz_wl_same, pz_wl_X, pz_wr_gc, pz_wr_ga, pz_wr_gn, pz_wr_gi, pz_wr_gl, pz_wr_same, pz_wr_X]
    (try simp (disch := omega) only [nI_clamp, pz_in_nI2, pz_in_nI2L, pv_gt, nI_add, nI_addL, nI_Ladd, pk_mul, nI_mulL, nI_Lmul, pk_sub, nI_subL, nI_Lsub, nI_inc, nI_clampL, Nat.add_sub_cancel, pz_wi_else, pz_wl_else, vu_eq, vu_ne, pz_wi_gc, pz_wi_ga, pz_wi_gn, pz_wi_gl, pz_wi_gr, pz_wi_same, pz_wi_X, pz_wl_gc, pz_wl_ga, pz_wl_gn, pz_wl_gi, pz_wl_gr, pz_wl_same, pz_wl_X, pz_wr_gc, pz_wr_ga, pz_wr_gn, pz_wr_gi, pz_wr_gl, pz_wr_same, pz_wr_X])
    refine po_go ?_
    exact key0 M1 s1 f1 f2 f3 f4 f5 f6 f7 f8
  · have en : dI n = nI (n - 1) := if_neg hn0
    rw [en] at key0
    refine pw_blk (mi := mz_40) (b := bz_40_61) rfl rfl ?_
    simp only [bz_40_61, pz_cut_t, pz_cut_f, pz_cut_n, pv_gt, pv_ts, pv_tn, ev_ald0, ev_eld0, ev_ic3, ev_cv1_11, pz_wi_gc, pz_wi_ga, pz_wi_gn, pz_wi_gl, pz_wi_gr, pz_wi_same, pz_wi_X, pz_wl_gc, pz_wl_ga, pz_wl_gn, pz_wl_gi, pz_wl_gr, pz_wl_same, pz_wl_X, pz_wr_gc, pz_wr_ga, pz_wr_gn, pz_wr_gi, pz_wr_gl, pz_wr_same, pz_wr_X, so_120 hS]
    (try simp (disch := omega) only [nI_clamp, pz_in_nI2, pz_in_nI2L, pv_gt, nI_add, nI_addL, nI_Ladd, pk_mul, nI_mulL, nI_Lmul, pk_sub, nI_subL, nI_Lsub, nI_inc, nI_clampL, Nat.add_sub_cancel, pz_wi_else, pz_wl_else, vu_eq, vu_ne, pz_wi_gc, pz_wi_ga, pz_wi_gn, pz_wi_gl, pz_wi_gr, pz_wi_same, pz_wi_X, pz_wl_gc, pz_wl_ga, pz_wl_gn, pz_wl_gi, pz_wl_gr, pz_wl_same, pz_wl_X, pz_wr_gc, pz_wr_ga, pz_wr_gn, pz_wr_gi, pz_wr_gl, pz_wr_same, pz_wr_X])
    (try refine po_gP (Nat.le_of_ble_eq_true rfl) ?_)
    refine po_call (by omega) (r_keep (b := 3) hS (by decide) z1 z2 (fun M1 s1 f1 f2 f3 f4 f5 f6 f7 f8 => ?_))
    refine pw_blk (mi := mz_40) (b := bz_40_66) rfl rfl ?_
    simp only [bz_40_66, pz_cut_t, pz_cut_f, pz_cut_n, pv_gt, pv_ts, pv_tn, ev_ild1, ev_ic1, ev_isub, ev_ist5n, ev_ist5i, ev_ist5r, ev_ist5e, ev_ist5l, ev_nil, pz_wi_gc, pz_wi_ga, pz_wi_gn, pz_wi_gl, pz_wi_gr, pz_wi_same, pz_wi_X, pz_wl_gc, pz_wl_ga, pz_wl_gn, pz_wl_gi, pz_wl_gr, pz_wl_same, pz_wl_X, pz_wr_gc, pz_wr_ga, pz_wr_gn, pz_wr_gi, pz_wr_gl, pz_wr_same, pz_wr_X]
    (try simp (disch := omega) only [nI_clamp, pz_in_nI2, pz_in_nI2L, pv_gt, nI_add, nI_addL, nI_Ladd, pk_mul, nI_mulL, nI_Lmul, pk_sub, nI_subL, nI_Lsub, nI_inc, nI_clampL, Nat.add_sub_cancel, pz_wi_else, pz_wl_else, vu_eq, vu_ne, pz_wi_gc, pz_wi_ga, pz_wi_gn, pz_wi_gl, pz_wi_gr, pz_wi_same, pz_wi_X, pz_wl_gc, pz_wl_ga, pz_wl_gn, pz_wl_gi, pz_wl_gr, pz_wl_same, pz_wl_X, pz_wr_gc, pz_wr_ga, pz_wr_gn, pz_wr_gi, pz_wr_gl, pz_wr_same, pz_wr_X])
    refine po_go ?_
    exact key0 M1 s1 f1 f2 f3 f4 f5 f6 f7 f8
end PLS2
