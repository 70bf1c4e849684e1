/-! ===== through: parts that go on, step by step ===== -/
section THR
variable {d : Nat} {M M' : pz_M} {Q : Option Value × pz_M → Prop}
abbrev LL : Type := Nat → Int64
def agN (n : Nat) (f g : LL) : Prop := ∀ i, i < n → f i = g i
def adL (f : LL) (k : Nat) (p : Int64) : LL := va_up f k (f k + p)
theorem agN.ad {n k : Nat} {f g : LL} {p : Int64} (h : agN n f g) (hk : k < n) : agN n (va_up f k (f k + p)) (adL g k p) := fun i hi => by
  unfold adL va_up
  rw [h k hk, h i hi]
theorem agN.ad2 {n a b : Nat} {f g : LL} {p q : Int64} (h : agN n f g) (ha : a < n) (hb : b < n) (hab : b ≠ a) : agN n (va_up (va_up f a (f a + p)) b (f b + q)) (adL (adL g a p) b q) := fun i hi => by
  unfold adL va_up
  rw [h a ha, h b hb, h i hi, if_neg hab]
def haS (dr : Nat → Option Nat) (er i : Nat) (p : Int64) (q : LL × LL) : LL × LL := match dr i with
  | none => (q.1, adL (adL q.2 1 p) 3 p)
  | some d => (adL q.1 d p, if er < d - i then adL (adL q.2 2 p) 3 p else adL q.2 2 p)
def arS (B j : Nat) (p : Int64) (q : LL × LL) : LL × LL := if j < B then (adL q.1 j p, q.2) else (q.1, adL q.2 0 p)
def xpU (B : Nat) (lg : Nat → Nat) (xs : Nat → Int32) (oth : Int64) (q : LL × LL) : Nat → LL × LL
  | 0 => q
  | k + 1 => arS B (lg k + 1) (oth * (xs k).toInt64 / 1000) ((xpU B lg xs oth q k).1, adL (xpU B lg xs oth q k).2 4 (oth * (xs k).toInt64 / 1000))
section
variable (al : Nat → Nat → Nat) (cr wk er B : Nat) (h : Nat → Int32) (dr : Nat → Option Nat) (mk : Nat → Bool) (J o : Int32)
def itS (i : Nat) (all : Int64) : Int64 := if nI i = J then all * o.toInt64 / 1000 else 0
def spS (i : Nat) (its oth : Int64) (q : LL × LL) : LL × LL :=
  arS B (i + 1) (oth * (onN al cr wk B i h (mk i)).toInt64 / 1000) (if mk i = true then haS dr er i (its + oth * (stp wk (h i)).toInt64 / 1000) q else xpU B (lkG al B i) (xsq (shr al cr B i h) (1000 - stp wk (h i))) oth (haS dr er i (its + oth * (stp wk (h i)).toInt64 / 1000) q) (cnt (pj al i) B))
def baS (i : Nat) (all : Int64) (q : LL × LL) : LL × LL := spS al cr wk er B h dr mk i (itS J o i all) (all - itS J o i all) q
def stS (m : LL) (q : LL × LL) : Nat → LL × LL
  | 0 => q
  | i + 1 => if m i = 0 then stS m q i else baS al cr wk er B h dr mk J o i (m i) (stS m q i)
def thS (m0 : LL) : Nat → LL × LL
  | 0 => (m0, fun _ => 0)
  | n + 1 => stS al cr wk er B h dr mk J o (thS m0 n).1 (fun _ => 0, (thS m0 n).2) B
end
def isNN (M : pz_M) (nw nx : Nat) : Prop := gr M 39 9 = .ref nw ∧ gr M 39 10 = .ref nx ∧ (nw = 48 ∧ nx = 49 ∨ nw = 49 ∧ nx = 48)
theorem isNN.sm {K : List Nat} {nw nx : Nat} (h : isNN M nw nx) (s : sm K M M') : isNN M' nw nx := by
  unfold isNN
  rw [s.r]
  exact h
theorem isNN.f {nw nx : Nat} (h : isNN M nw nx) (hS : SH M) : (ga M nw = some 1 ∧ gn M nw = 24) ∧ ga M nx = some 1 ∧ gn M nx = 24 := by
  rcases h.2.2 with ⟨rfl, rfl⟩ | ⟨rfl, rfl⟩
  · exact ⟨⟨sa_48 hS, sn_48 hS⟩, sa_49 hS, sn_49 hS⟩
  · exact ⟨⟨sa_49 hS, sn_49 hS⟩, sa_48 hS, sn_48 hS⟩
theorem m_isHeard {i er : Nat} {D : Option Nat} (hS : SH M) (her : gi M 17 5 = nI er) (he : er ≤ 24) (hi : i < 24) (hD : ∀ d, D = some d → i ≤ d ∧ d < 24) (h : Q (some (.int (bI (match D with | none => true | some d => decide (er < d - i)))), M)) : pm d 270 [.ref 39, .int (nI i), .int (oI D)] M Q := by
  cases D with
  | none =>
    refine pm_ent (L := [some (.ref 39), some (.int (nI i)), some (.int (oI none))]) rfl (Nat.le_of_ble_eq_true rfl) ?_
    refine pw_blk (mi := mz_270) (b := bz_270_0) rfl rfl ?_
    simp only [bz_270_0, pz_cut_t, pz_cut_f, pz_cut_n, pv_gt, pv_ts, pv_tn, ev_ild2, ev_icm1, ev_ic_eq, pz_wi_gc, pz_wi_ga, pz_wi_gn, pz_wi_gl, pz_wi_gr, pz_wi_same, pz_wi_X, pz_wl_gc, pz_wl_ga, pz_wl_gn, pz_wl_gi, pz_wl_gr, pz_wl_same, pz_wl_X, pz_wr_gc, pz_wr_ga, pz_wr_gn, pz_wr_gi, pz_wr_gl, pz_wr_same, pz_wr_X, oI]
    (try simp (disch := omega) only [nI_clamp, pz_in_nI2, pz_in_nI2L, pv_gt, nI_add, nI_addL, nI_Ladd, pk_mul, nI_mulL, nI_Lmul, pk_sub, nI_subL, nI_Lsub, nI_inc, nI_clampL, Nat.add_sub_cancel, pz_wi_else, pz_wl_else, vu_eq, vu_ne, pz_wi_gc, pz_wi_ga, pz_wi_gn, pz_wi_gl, pz_wi_gr, pz_wi_same, pz_wi_X, pz_wl_gc, pz_wl_ga, pz_wl_gn, pz_wl_gi, pz_wl_gr, pz_wl_same, pz_wl_X, pz_wr_gc, pz_wr_ga, pz_wr_gn, pz_wr_gi, pz_wr_gl, pz_wr_same, pz_wr_X, oI])
    refine po_brP (fun q0 => ?_) (fun q0 => ?_)
    · skip
      (try simp (disch := omega) only [nI_ltI, nI_leI, nI_eq, nI_ltL, nI_leL, nI_eqL, nI_Llt, nI_Lle, nI_Leq, nI_eqm, nI_meq, nI_ltm, nI_lem, nI_mlt, nI_mle, lg0, lgl, lgg, lgle, lgge, Int32.not_lt, Int32.not_le, Int64.not_lt, Int64.not_le, not_false_eq_true, not_true_eq_false, Decidable.not_not, ge_iff_le, gt_iff_lt] at q0)
      refine pw_blk (mi := mz_270) (b := bz_270_20) rfl rfl ?_
      simp only [bz_270_20, pz_cut_t, pz_cut_f, pz_cut_n, pv_gt, pv_ts, pv_tn, ev_ic1, ev_goto, pz_wi_gc, pz_wi_ga, pz_wi_gn, pz_wi_gl, pz_wi_gr, pz_wi_same, pz_wi_X, pz_wl_gc, pz_wl_ga, pz_wl_gn, pz_wl_gi, pz_wl_gr, pz_wl_same, pz_wl_X, pz_wr_gc, pz_wr_ga, pz_wr_gn, pz_wr_gi, pz_wr_gl, pz_wr_same, pz_wr_X, oI]
      (try simp (disch := omega) only [nI_clamp, pz_in_nI2, pz_in_nI2L, pv_gt, nI_add, nI_addL, nI_Ladd, pk_mul, nI_mulL, nI_Lmul, pk_sub, nI_subL, nI_Lsub, nI_inc, nI_clampL, Nat.add_sub_cancel, pz_wi_else, pz_wl_else, vu_eq, vu_ne, pz_wi_gc, pz_wi_ga, pz_wi_gn, pz_wi_gl, pz_wi_gr, pz_wi_same, pz_wi_X, pz_wl_gc, pz_wl_ga, pz_wl_gn, pz_wl_gi, pz_wl_gr, pz_wl_same, pz_wl_X, pz_wr_gc, pz_wr_ga, pz_wr_gn, pz_wr_gi, pz_wr_gl, pz_wr_same, pz_wr_X, oI])
      refine po_go ?_
      refine pw_blk (mi := mz_270) (b := bz_270_25) rfl rfl ?_
      simp only [bz_270_25, pz_cut_t, pz_cut_f, pz_cut_n, pv_gt, pv_ts, pv_tn, ev_iret1, pz_wi_gc, pz_wi_ga, pz_wi_gn, pz_wi_gl, pz_wi_gr, pz_wi_same, pz_wi_X, pz_wl_gc, pz_wl_ga, pz_wl_gn, pz_wl_gi, pz_wl_gr, pz_wl_same, pz_wl_X, pz_wr_gc, pz_wr_ga, pz_wr_gn, pz_wr_gi, pz_wr_gl, pz_wr_same, pz_wr_X, oI]
      (try simp (disch := omega) only [nI_clamp, pz_in_nI2, pz_in_nI2L, pv_gt, nI_add, nI_addL, nI_Ladd, pk_mul, nI_mulL, nI_Lmul, pk_sub, nI_subL, nI_Lsub, nI_inc, nI_clampL, Nat.add_sub_cancel, pz_wi_else, pz_wl_else, vu_eq, vu_ne, pz_wi_gc, pz_wi_ga, pz_wi_gn, pz_wi_gl, pz_wi_gr, pz_wi_same, pz_wi_X, pz_wl_gc, pz_wl_ga, pz_wl_gn, pz_wl_gi, pz_wl_gr, pz_wl_same, pz_wl_X, pz_wr_gc, pz_wr_ga, pz_wr_gn, pz_wr_gi, pz_wr_gl, pz_wr_same, pz_wr_X, oI])
      (try refine po_gP (by first | decide | assumption) ?_)
      exact po_ret h
    · first
      | exact absurd q0 (by decide)
      | exact absurd trivial q0
      | exact q0.elim
      | (exfalso; (try simp (disch := omega) only [nI_ltI, nI_leI, nI_eq, nI_ltL, nI_leL, nI_eqL, nI_Llt, nI_Lle, nI_Leq, nI_eqm, nI_meq, nI_ltm, nI_lem, nI_mlt, nI_mle, lg0, lgl, lgg, lgle, lgge, Int32.not_lt, Int32.not_le, Int64.not_lt, Int64.not_le, not_false_eq_true, not_true_eq_false, Decidable.not_not, ge_iff_le, gt_iff_lt] at q0) <;> omega)
      | exact absurd q0 (by with_reducible assumption)
      | exact absurd (by with_reducible assumption) q0
      | exact absurd (Decidable.not_not.mp q0) (by with_reducible assumption)
      | exact absurd (by with_reducible assumption) (Int32.not_le.mpr q0)
      | exact absurd (by with_reducible assumption) (Int32.not_lt.mpr q0)
  | some dd =>
    obtain ⟨h1, h2⟩ := hD dd rfl
    refine pm_ent (L := [some (.ref 39), some (.int (nI i)), some (.int (oI (some dd)))]) rfl (Nat.le_of_ble_eq_true rfl) ?_
    refine pw_blk (mi := mz_270) (b := bz_270_0) rfl rfl ?_
    simp only [bz_270_0, pz_cut_t, pz_cut_f, pz_cut_n, pv_gt, pv_ts, pv_tn, ev_ild2, ev_icm1, ev_ic_eq, pz_wi_gc, pz_wi_ga, pz_wi_gn, pz_wi_gl, pz_wi_gr, pz_wi_same, pz_wi_X, pz_wl_gc, pz_wl_ga, pz_wl_gn, pz_wl_gi, pz_wl_gr, pz_wl_same, pz_wl_X, pz_wr_gc, pz_wr_ga, pz_wr_gn, pz_wr_gi, pz_wr_gl, pz_wr_same, pz_wr_X, oI, her]
    (try simp (disch := omega) only [nI_clamp, pz_in_nI2, pz_in_nI2L, pv_gt, nI_add, nI_addL, nI_Ladd, pk_mul, nI_mulL, nI_Lmul, pk_sub, nI_subL, nI_Lsub, nI_inc, nI_clampL, Nat.add_sub_cancel, pz_wi_else, pz_wl_else, vu_eq, vu_ne, pz_wi_gc, pz_wi_ga, pz_wi_gn, pz_wi_gl, pz_wi_gr, pz_wi_same, pz_wi_X, pz_wl_gc, pz_wl_ga, pz_wl_gn, pz_wl_gi, pz_wl_gr, pz_wl_same, pz_wl_X, pz_wr_gc, pz_wr_ga, pz_wr_gn, pz_wr_gi, pz_wr_gl, pz_wr_same, pz_wr_X, oI, her])
    refine po_brP (fun q0 => ?_) (fun q0 => ?_)
    · first
      | exact absurd q0 (by decide)
      | exact absurd trivial q0
      | exact q0.elim
      | (exfalso; (try simp (disch := omega) only [nI_ltI, nI_leI, nI_eq, nI_ltL, nI_leL, nI_eqL, nI_Llt, nI_Lle, nI_Leq, nI_eqm, nI_meq, nI_ltm, nI_lem, nI_mlt, nI_mle, lg0, lgl, lgg, lgle, lgge, Int32.not_lt, Int32.not_le, Int64.not_lt, Int64.not_le, not_false_eq_true, not_true_eq_false, Decidable.not_not, ge_iff_le, gt_iff_lt] at q0) <;> omega)
      | exact absurd q0 (by with_reducible assumption)
      | exact absurd (by with_reducible assumption) q0
      | exact absurd (Decidable.not_not.mp q0) (by with_reducible assumption)
      | exact absurd (by with_reducible assumption) (Int32.not_le.mpr q0)
      | exact absurd (by with_reducible assumption) (Int32.not_lt.mpr q0)
    · skip
      (try simp (disch := omega) only [nI_ltI, nI_leI, nI_eq, nI_ltL, nI_leL, nI_eqL, nI_Llt, nI_Lle, nI_Leq, nI_eqm, nI_meq, nI_ltm, nI_lem, nI_mlt, nI_mle, lg0, lgl, lgg, lgle, lgge, Int32.not_lt, Int32.not_le, Int64.not_lt, Int64.not_le, not_false_eq_true, not_true_eq_false, Decidable.not_not, ge_iff_le, gt_iff_lt] at q0)
      refine pw_blk (mi := mz_270) (b := bz_270_5) rfl rfl ?_
      simp only [bz_270_5, pz_cut_t, pz_cut_f, pz_cut_n, pv_gt, pv_ts, pv_tn, ev_ild2, ev_ild1, ev_isub, ev_ald0, ev_eld0, ev_gf1_2, ev_gf8_2, ev_ic5, ea_iald, ev_ic_le, pz_wi_gc, pz_wi_ga, pz_wi_gn, pz_wi_gl, pz_wi_gr, pz_wi_same, pz_wi_X, pz_wl_gc, pz_wl_ga, pz_wl_gn, pz_wl_gi, pz_wl_gr, pz_wl_same, pz_wl_X, pz_wr_gc, pz_wr_ga, pz_wr_gn, pz_wr_gi, pz_wr_gl, pz_wr_same, pz_wr_X, so_39 hS, sr_39_0 hS, so_4 hS, sr_4_19 hS, sa_17 hS, sn_17 hS, oI, her]
      (try simp (disch := omega) only [nI_clamp, pz_in_nI2, pz_in_nI2L, pv_gt, nI_add, nI_addL, nI_Ladd, pk_mul, nI_mulL, nI_Lmul, pk_sub, nI_subL, nI_Lsub, nI_inc, nI_clampL, Nat.add_sub_cancel, pz_wi_else, pz_wl_else, vu_eq, vu_ne, pz_wi_gc, pz_wi_ga, pz_wi_gn, pz_wi_gl, pz_wi_gr, pz_wi_same, pz_wi_X, pz_wl_gc, pz_wl_ga, pz_wl_gn, pz_wl_gi, pz_wl_gr, pz_wl_same, pz_wl_X, pz_wr_gc, pz_wr_ga, pz_wr_gn, pz_wr_gi, pz_wr_gl, pz_wr_same, pz_wr_X, oI, her])
      (try refine po_gI (by first | exact pz_in_nI (by omega) (by decide) | decide | assumption) ?_)
      refine po_brP (fun q5 => ?_) (fun q5 => ?_)
      · first
        | exact absurd q5 (by decide)
        | exact absurd trivial q5
        | exact q5.elim
        | (exfalso; (try simp (disch := omega) only [nI_ltI, nI_leI, nI_eq, nI_ltL, nI_leL, nI_eqL, nI_Llt, nI_Lle, nI_Leq, nI_eqm, nI_meq, nI_ltm, nI_lem, nI_mlt, nI_mle, lg0, lgl, lgg, lgle, lgge, Int32.not_lt, Int32.not_le, Int64.not_lt, Int64.not_le, not_false_eq_true, not_true_eq_false, Decidable.not_not, ge_iff_le, gt_iff_lt] at q5) <;> omega)
        | exact absurd q5 (by with_reducible assumption)
        | exact absurd (by with_reducible assumption) q5
        | exact absurd (Decidable.not_not.mp q5) (by with_reducible assumption)
        | exact absurd (by with_reducible assumption) (Int32.not_le.mpr q5)
        | exact absurd (by with_reducible assumption) (Int32.not_lt.mpr q5)
        | skip
          (try simp (disch := omega) only [nI_ltI, nI_leI, nI_eq, nI_ltL, nI_leL, nI_eqL, nI_Llt, nI_Lle, nI_Leq, nI_eqm, nI_meq, nI_ltm, nI_lem, nI_mlt, nI_mle, lg0, lgl, lgg, lgle, lgge, Int32.not_lt, Int32.not_le, Int64.not_lt, Int64.not_le, not_false_eq_true, not_true_eq_false, Decidable.not_not, ge_iff_le, gt_iff_lt] at q5)
          simp only [show ¬ er < dd - i by omega, decide_false] at h
          refine pw_blk (mi := mz_270) (b := bz_270_24) rfl rfl ?_
          simp only [bz_270_24, pz_cut_t, pz_cut_f, pz_cut_n, pv_gt, pv_ts, pv_tn, ev_ic0, ev_nil, pz_wi_gc, pz_wi_ga, pz_wi_gn, pz_wi_gl, pz_wi_gr, pz_wi_same, pz_wi_X, pz_wl_gc, pz_wl_ga, pz_wl_gn, pz_wl_gi, pz_wl_gr, pz_wl_same, pz_wl_X, pz_wr_gc, pz_wr_ga, pz_wr_gn, pz_wr_gi, pz_wr_gl, pz_wr_same, pz_wr_X, oI, her]
          (try simp (disch := omega) only [nI_clamp, pz_in_nI2, pz_in_nI2L, pv_gt, nI_add, nI_addL, nI_Ladd, pk_mul, nI_mulL, nI_Lmul, pk_sub, nI_subL, nI_Lsub, nI_inc, nI_clampL, Nat.add_sub_cancel, pz_wi_else, pz_wl_else, vu_eq, vu_ne, pz_wi_gc, pz_wi_ga, pz_wi_gn, pz_wi_gl, pz_wi_gr, pz_wi_same, pz_wi_X, pz_wl_gc, pz_wl_ga, pz_wl_gn, pz_wl_gi, pz_wl_gr, pz_wl_same, pz_wl_X, pz_wr_gc, pz_wr_ga, pz_wr_gn, pz_wr_gi, pz_wr_gl, pz_wr_same, pz_wr_X, oI, her])
          refine po_go ?_
          refine pw_blk (mi := mz_270) (b := bz_270_25) rfl rfl ?_
          simp only [bz_270_25, pz_cut_t, pz_cut_f, pz_cut_n, pv_gt, pv_ts, pv_tn, ev_iret1, pz_wi_gc, pz_wi_ga, pz_wi_gn, pz_wi_gl, pz_wi_gr, pz_wi_same, pz_wi_X, pz_wl_gc, pz_wl_ga, pz_wl_gn, pz_wl_gi, pz_wl_gr, pz_wl_same, pz_wl_X, pz_wr_gc, pz_wr_ga, pz_wr_gn, pz_wr_gi, pz_wr_gl, pz_wr_same, pz_wr_X, oI, her]
          (try simp (disch := omega) only [nI_clamp, pz_in_nI2, pz_in_nI2L, pv_gt, nI_add, nI_addL, nI_Ladd, pk_mul, nI_mulL, nI_Lmul, pk_sub, nI_subL, nI_Lsub, nI_inc, nI_clampL, Nat.add_sub_cancel, pz_wi_else, pz_wl_else, vu_eq, vu_ne, pz_wi_gc, pz_wi_ga, pz_wi_gn, pz_wi_gl, pz_wi_gr, pz_wi_same, pz_wi_X, pz_wl_gc, pz_wl_ga, pz_wl_gn, pz_wl_gi, pz_wl_gr, pz_wl_same, pz_wl_X, pz_wr_gc, pz_wr_ga, pz_wr_gn, pz_wr_gi, pz_wr_gl, pz_wr_same, pz_wr_X, oI, her])
          (try refine po_gP (by first | decide | assumption) ?_)
          exact po_ret h
      · first
        | exact absurd q5 (by decide)
        | exact absurd trivial q5
        | exact q5.elim
        | (exfalso; (try simp (disch := omega) only [nI_ltI, nI_leI, nI_eq, nI_ltL, nI_leL, nI_eqL, nI_Llt, nI_Lle, nI_Leq, nI_eqm, nI_meq, nI_ltm, nI_lem, nI_mlt, nI_mle, lg0, lgl, lgg, lgle, lgge, Int32.not_lt, Int32.not_le, Int64.not_lt, Int64.not_le, not_false_eq_true, not_true_eq_false, Decidable.not_not, ge_iff_le, gt_iff_lt] at q5) <;> omega)
        | exact absurd q5 (by with_reducible assumption)
        | exact absurd (by with_reducible assumption) q5
        | exact absurd (Decidable.not_not.mp q5) (by with_reducible assumption)
        | exact absurd (by with_reducible assumption) (Int32.not_le.mpr q5)
        | exact absurd (by with_reducible assumption) (Int32.not_lt.mpr q5)
        | skip
          (try simp (disch := omega) only [nI_ltI, nI_leI, nI_eq, nI_ltL, nI_leL, nI_eqL, nI_Llt, nI_Lle, nI_Leq, nI_eqm, nI_meq, nI_ltm, nI_lem, nI_mlt, nI_mle, lg0, lgl, lgg, lgle, lgge, Int32.not_lt, Int32.not_le, Int64.not_lt, Int64.not_le, not_false_eq_true, not_true_eq_false, Decidable.not_not, ge_iff_le, gt_iff_lt] at q5)
          simp only [show er < dd - i by omega, decide_true] at h
          refine pw_blk (mi := mz_270) (b := bz_270_20) rfl rfl ?_
          simp only [bz_270_20, pz_cut_t, pz_cut_f, pz_cut_n, pv_gt, pv_ts, pv_tn, ev_ic1, ev_goto, pz_wi_gc, pz_wi_ga, pz_wi_gn, pz_wi_gl, pz_wi_gr, pz_wi_same, pz_wi_X, pz_wl_gc, pz_wl_ga, pz_wl_gn, pz_wl_gi, pz_wl_gr, pz_wl_same, pz_wl_X, pz_wr_gc, pz_wr_ga, pz_wr_gn, pz_wr_gi, pz_wr_gl, pz_wr_same, pz_wr_X, oI, her]
          (try simp (disch := omega) only [nI_clamp, pz_in_nI2, pz_in_nI2L, pv_gt, nI_add, nI_addL, nI_Ladd, pk_mul, nI_mulL, nI_Lmul, pk_sub, nI_subL, nI_Lsub, nI_inc, nI_clampL, Nat.add_sub_cancel, pz_wi_else, pz_wl_else, vu_eq, vu_ne, pz_wi_gc, pz_wi_ga, pz_wi_gn, pz_wi_gl, pz_wi_gr, pz_wi_same, pz_wi_X, pz_wl_gc, pz_wl_ga, pz_wl_gn, pz_wl_gi, pz_wl_gr, pz_wl_same, pz_wl_X, pz_wr_gc, pz_wr_ga, pz_wr_gn, pz_wr_gi, pz_wr_gl, pz_wr_same, pz_wr_X, oI, her])
          refine po_go ?_
          refine pw_blk (mi := mz_270) (b := bz_270_25) rfl rfl ?_
          simp only [bz_270_25, pz_cut_t, pz_cut_f, pz_cut_n, pv_gt, pv_ts, pv_tn, ev_iret1, pz_wi_gc, pz_wi_ga, pz_wi_gn, pz_wi_gl, pz_wi_gr, pz_wi_same, pz_wi_X, pz_wl_gc, pz_wl_ga, pz_wl_gn, pz_wl_gi, pz_wl_gr, pz_wl_same, pz_wl_X, pz_wr_gc, pz_wr_ga, pz_wr_gn, pz_wr_gi, pz_wr_gl, pz_wr_same, pz_wr_X, oI, her]
          (try simp (disch := omega) only [nI_clamp, pz_in_nI2, pz_in_nI2L, pv_gt, nI_add, nI_addL, nI_Ladd, pk_mul, nI_mulL, nI_Lmul, pk_sub, nI_subL, nI_Lsub, nI_inc, nI_clampL, Nat.add_sub_cancel, pz_wi_else, pz_wl_else, vu_eq, vu_ne, pz_wi_gc, pz_wi_ga, pz_wi_gn, pz_wi_gl, pz_wi_gr, pz_wi_same, pz_wi_X, pz_wl_gc, pz_wl_ga, pz_wl_gn, pz_wl_gi, pz_wl_gr, pz_wl_same, pz_wl_X, pz_wr_gc, pz_wr_ga, pz_wr_gn, pz_wr_gi, pz_wr_gl, pz_wr_same, pz_wr_X, oI, her])
          (try refine po_gP (by first | decide | assumption) ?_)
          exact po_ret h
theorem m_halt (hd : 1 ≤ d) {i er nw nx : Nat} {dr : Nat → Option Nat} {p : Int64} {q : LL × LL} (hS : SH M) (nn : isNN M nw nx) (hdo : gi M 46 i = oI (dr i)) (her : gi M 17 5 = nI er) (he : er ≤ 24) (hi : i < 24) (hD : ∀ d, dr i = some d → i ≤ d ∧ d < 24) (hT : agN 24 (gl M nx) q.1) (hs : agN 5 (gl M 47) q.2) (h : ∀ M', sm [nx, 47] M M' → agN 24 (gl M' nx) (haS dr er i p q).1 → agN 5 (gl M' 47) (haS dr er i p q).2 → Q (none, M')) : pm d 249 [.ref 39, .int (nI i), .long p] M Q := by
  obtain ⟨n1, n2, n3⟩ := id nn
  obtain ⟨-, fa, fn⟩ := nn.f hS
  have hx47 : nx ≠ 47 ∧ nx ≠ 46 ∧ nx ≠ 17 := by rcases n3 with ⟨-, e⟩ | ⟨-, e⟩ <;> omega
  unfold haS at h
  cases hdr : dr i with
  | none =>
    rw [hdr] at hdo
    simp only [hdr] at h
    refine pm_ent (L := [some (.ref 39), some (.int (nI i)), some (.long p), none, none]) rfl (Nat.le_of_ble_eq_true rfl) ?_
    refine pw_blk (mi := mz_249) (b := bz_249_0) rfl rfl ?_
    simp only [bz_249_0, pz_cut_t, pz_cut_f, pz_cut_n, pv_gt, pv_ts, pv_tn, ev_ald0, ev_eld0, ev_gf1_2, ev_ild1, ea_iald, ev_ist4n, ev_ist4i, ev_ist4r, ev_ist4e, ev_ist4l, ev_ild4, ev_icm1, ev_ic_ne, pz_wi_gc, pz_wi_ga, pz_wi_gn, pz_wi_gl, pz_wi_gr, pz_wi_same, pz_wi_X, pz_wl_gc, pz_wl_ga, pz_wl_gn, pz_wl_gi, pz_wl_gr, pz_wl_same, pz_wl_X, pz_wr_gc, pz_wr_ga, pz_wr_gn, pz_wr_gi, pz_wr_gl, pz_wr_same, pz_wr_X, so_39 hS, sr_39_7 hS, sa_46 hS, sn_46 hS, hdo, n2, fa, fn, oI, sa_47 hS, sn_47 hS]
    (try simp (disch := omega) only [nI_clamp, pz_in_nI2, pz_in_nI2L, pv_gt, nI_add, nI_addL, nI_Ladd, pk_mul, nI_mulL, nI_Lmul, pk_sub, nI_subL, nI_Lsub, nI_inc, nI_clampL, Nat.add_sub_cancel, pz_wi_else, pz_wl_else, vu_eq, vu_ne, pz_wi_gc, pz_wi_ga, pz_wi_gn, pz_wi_gl, pz_wi_gr, pz_wi_same, pz_wi_X, pz_wl_gc, pz_wl_ga, pz_wl_gn, pz_wl_gi, pz_wl_gr, pz_wl_same, pz_wl_X, pz_wr_gc, pz_wr_ga, pz_wr_gn, pz_wr_gi, pz_wr_gl, pz_wr_same, pz_wr_X, hdo, n2, fa, fn, oI])
    (try refine po_gI (by first | exact pz_in_nI (by omega) (by decide) | decide | assumption) ?_)
    refine po_brP (fun q0 => ?_) (fun q0 => ?_)
    · first
      | exact absurd q0 (by decide)
      | exact absurd trivial q0
      | exact q0.elim
      | (exfalso; (try simp (disch := omega) only [nI_ltI, nI_leI, nI_eq, nI_ltL, nI_leL, nI_eqL, nI_Llt, nI_Lle, nI_Leq, nI_eqm, nI_meq, nI_ltm, nI_lem, nI_mlt, nI_mle, lg0, lgl, lgg, lgle, lgge, Int32.not_lt, Int32.not_le, Int64.not_lt, Int64.not_le, not_false_eq_true, not_true_eq_false, Decidable.not_not, ge_iff_le, gt_iff_lt] at q0) <;> omega)
      | exact absurd q0 (by with_reducible assumption)
      | exact absurd (by with_reducible assumption) q0
      | exact absurd (Decidable.not_not.mp q0) (by with_reducible assumption)
      | exact absurd (by with_reducible assumption) (Int32.not_le.mpr q0)
      | exact absurd (by with_reducible assumption) (Int32.not_lt.mpr q0)
    · skip
      (try simp (disch := omega) only [nI_ltI, nI_leI, nI_eq, nI_ltL, nI_leL, nI_eqL, nI_Llt, nI_Lle, nI_Leq, nI_eqm, nI_meq, nI_ltm, nI_lem, nI_mlt, nI_mle, lg0, lgl, lgg, lgle, lgge, Int32.not_lt, Int32.not_le, Int64.not_lt, Int64.not_le, not_false_eq_true, not_true_eq_false, Decidable.not_not, ge_iff_le, gt_iff_lt] at q0)
      refine pw_blk (mi := mz_249) (b := bz_249_14) rfl rfl ?_
      simp only [bz_249_14, pz_cut_t, pz_cut_f, pz_cut_n, pv_gt, pv_ts, pv_tn, ev_ald0, ev_eld0, ev_gf1_2, ev_ic1, ev_dup2, ea_lald, ev_lld2, ev_ladd, ea_last, ev_goto, pz_wi_gc, pz_wi_ga, pz_wi_gn, pz_wi_gl, pz_wi_gr, pz_wi_same, pz_wi_X, pz_wl_gc, pz_wl_ga, pz_wl_gn, pz_wl_gi, pz_wl_gr, pz_wl_same, pz_wl_X, pz_wr_gc, pz_wr_ga, pz_wr_gn, pz_wr_gi, pz_wr_gl, pz_wr_same, pz_wr_X, so_39 hS, sr_39_8 hS, sa_47 hS, sn_47 hS, hdo, n2, fa, fn, oI, sa_46 hS, sn_46 hS]
      (try simp (disch := omega) only [nI_clamp, pz_in_nI2, pz_in_nI2L, pv_gt, nI_add, nI_addL, nI_Ladd, pk_mul, nI_mulL, nI_Lmul, pk_sub, nI_subL, nI_Lsub, nI_inc, nI_clampL, Nat.add_sub_cancel, pz_wi_else, pz_wl_else, vu_eq, vu_ne, pz_wi_gc, pz_wi_ga, pz_wi_gn, pz_wi_gl, pz_wi_gr, pz_wi_same, pz_wi_X, pz_wl_gc, pz_wl_ga, pz_wl_gn, pz_wl_gi, pz_wl_gr, pz_wl_same, pz_wl_X, pz_wr_gc, pz_wr_ga, pz_wr_gn, pz_wr_gi, pz_wr_gl, pz_wr_same, pz_wr_X, hdo, n2, fa, fn, oI])
      (try refine po_gI (by first | exact pz_in_nI (by omega) (by decide) | decide | assumption) ?_)
      (try refine po_gI (by first | exact pz_in_nI (by omega) (by decide) | decide | assumption) ?_)
      refine po_go ?_
      refine pw_blk (mi := mz_249) (b := bz_249_48) rfl rfl ?_
      simp only [bz_249_48, pz_cut_t, pz_cut_f, pz_cut_n, pv_gt, pv_ts, pv_tn, ev_ald0, ev_eld0, ev_ild1, ev_ild4, ev_cv2_1, pz_wi_gc, pz_wi_ga, pz_wi_gn, pz_wi_gl, pz_wi_gr, pz_wi_same, pz_wi_X, pz_wl_gc, pz_wl_ga, pz_wl_gn, pz_wl_gi, pz_wl_gr, pz_wl_same, pz_wl_X, pz_wr_gc, pz_wr_ga, pz_wr_gn, pz_wr_gi, pz_wr_gl, pz_wr_same, pz_wr_X, so_39 hS, hdo, n2, fa, fn, oI]
      (try simp (disch := omega) only [nI_clamp, pz_in_nI2, pz_in_nI2L, pv_gt, nI_add, nI_addL, nI_Ladd, pk_mul, nI_mulL, nI_Lmul, pk_sub, nI_subL, nI_Lsub, nI_inc, nI_clampL, Nat.add_sub_cancel, pz_wi_else, pz_wl_else, vu_eq, vu_ne, pz_wi_gc, pz_wi_ga, pz_wi_gn, pz_wi_gl, pz_wi_gr, pz_wi_same, pz_wi_X, pz_wl_gc, pz_wl_ga, pz_wl_gn, pz_wl_gi, pz_wl_gr, pz_wl_same, pz_wl_X, pz_wr_gc, pz_wr_ga, pz_wr_gn, pz_wr_gi, pz_wr_gl, pz_wr_same, pz_wr_X, hdo, n2, fa, fn, oI])
      (try refine po_gP (Nat.le_of_ble_eq_true rfl) ?_)
      refine po_call (by omega) (m_isHeard (D := none) (hS.sm (K := [47]) (sm.wl sm.rf (by simp))) her he hi (fun d hd => by cases hd) ?_)
      refine pw_blk (mi := mz_249) (b := bz_249_55) rfl rfl ?_
      simp only [bz_249_55, pz_cut_t, pz_cut_f, pz_cut_n, pv_gt, pv_ts, pv_tn, ev_ifeq, pz_wi_gc, pz_wi_ga, pz_wi_gn, pz_wi_gl, pz_wi_gr, pz_wi_same, pz_wi_X, pz_wl_gc, pz_wl_ga, pz_wl_gn, pz_wl_gi, pz_wl_gr, pz_wl_same, pz_wl_X, pz_wr_gc, pz_wr_ga, pz_wr_gn, pz_wr_gi, pz_wr_gl, pz_wr_same, pz_wr_X, hdo, n2, fa, fn, oI]
      (try simp (disch := omega) only [nI_clamp, pz_in_nI2, pz_in_nI2L, pv_gt, nI_add, nI_addL, nI_Ladd, pk_mul, nI_mulL, nI_Lmul, pk_sub, nI_subL, nI_Lsub, nI_inc, nI_clampL, Nat.add_sub_cancel, pz_wi_else, pz_wl_else, vu_eq, vu_ne, pz_wi_gc, pz_wi_ga, pz_wi_gn, pz_wi_gl, pz_wi_gr, pz_wi_same, pz_wi_X, pz_wl_gc, pz_wl_ga, pz_wl_gn, pz_wl_gi, pz_wl_gr, pz_wl_same, pz_wl_X, pz_wr_gc, pz_wr_ga, pz_wr_gn, pz_wr_gi, pz_wr_gl, pz_wr_same, pz_wr_X, hdo, n2, fa, fn, oI])
      refine po_brP (fun q55 => ?_) (fun q55 => ?_)
      · first
        | exact absurd q55 (by decide)
        | exact absurd trivial q55
        | exact q55.elim
        | (exfalso; (try simp (disch := omega) only [nI_ltI, nI_leI, nI_eq, nI_ltL, nI_leL, nI_eqL, nI_Llt, nI_Lle, nI_Leq, nI_eqm, nI_meq, nI_ltm, nI_lem, nI_mlt, nI_mle, lg0, lgl, lgg, lgle, lgge, Int32.not_lt, Int32.not_le, Int64.not_lt, Int64.not_le, not_false_eq_true, not_true_eq_false, Decidable.not_not, ge_iff_le, gt_iff_lt] at q55) <;> omega)
        | exact absurd q55 (by with_reducible assumption)
        | exact absurd (by with_reducible assumption) q55
        | exact absurd (Decidable.not_not.mp q55) (by with_reducible assumption)
        | exact absurd (by with_reducible assumption) (Int32.not_le.mpr q55)
        | exact absurd (by with_reducible assumption) (Int32.not_lt.mpr q55)
      · skip
        (try simp (disch := omega) only [nI_ltI, nI_leI, nI_eq, nI_ltL, nI_leL, nI_eqL, nI_Llt, nI_Lle, nI_Leq, nI_eqm, nI_meq, nI_ltm, nI_lem, nI_mlt, nI_mle, lg0, lgl, lgg, lgle, lgge, Int32.not_lt, Int32.not_le, Int64.not_lt, Int64.not_le, not_false_eq_true, not_true_eq_false, Decidable.not_not, ge_iff_le, gt_iff_lt] at q55)
        refine pw_blk (mi := mz_249) (b := bz_249_58) rfl rfl ?_
        simp only [bz_249_58, pz_cut_t, pz_cut_f, pz_cut_n, pv_gt, pv_ts, pv_tn, ev_ald0, ev_eld0, ev_gf1_2, ev_ic3, ev_dup2, ea_lald, ev_lld2, ev_ladd, ea_last, ev_nil, pz_wi_gc, pz_wi_ga, pz_wi_gn, pz_wi_gl, pz_wi_gr, pz_wi_same, pz_wi_X, pz_wl_gc, pz_wl_ga, pz_wl_gn, pz_wl_gi, pz_wl_gr, pz_wl_same, pz_wl_X, pz_wr_gc, pz_wr_ga, pz_wr_gn, pz_wr_gi, pz_wr_gl, pz_wr_same, pz_wr_X, so_39 hS, sr_39_8 hS, sa_47 hS, sn_47 hS, hdo, n2, fa, fn, oI, sr_39_8 hS, sa_47 hS, sn_47 hS, sa_46 hS, sn_46 hS]
        (try simp (disch := omega) only [nI_clamp, pz_in_nI2, pz_in_nI2L, pv_gt, nI_add, nI_addL, nI_Ladd, pk_mul, nI_mulL, nI_Lmul, pk_sub, nI_subL, nI_Lsub, nI_inc, nI_clampL, Nat.add_sub_cancel, pz_wi_else, pz_wl_else, vu_eq, vu_ne, pz_wi_gc, pz_wi_ga, pz_wi_gn, pz_wi_gl, pz_wi_gr, pz_wi_same, pz_wi_X, pz_wl_gc, pz_wl_ga, pz_wl_gn, pz_wl_gi, pz_wl_gr, pz_wl_same, pz_wl_X, pz_wr_gc, pz_wr_ga, pz_wr_gn, pz_wr_gi, pz_wr_gl, pz_wr_same, pz_wr_X, hdo, n2, fa, fn, oI, sr_39_8 hS, sa_47 hS, sn_47 hS])
        (try refine po_gI (by first | exact pz_in_nI (by omega) (by decide) | decide | assumption) ?_)
        (try refine po_gI (by first | exact pz_in_nI (by omega) (by decide) | decide | assumption) ?_)
        refine po_go ?_
        refine pw_blk (mi := mz_249) (b := bz_249_68) rfl rfl ?_
        simp only [bz_249_68, pz_cut_t, pz_cut_f, pz_cut_n, pv_gt, pv_ts, pv_tn, ev_ret, pz_wi_gc, pz_wi_ga, pz_wi_gn, pz_wi_gl, pz_wi_gr, pz_wi_same, pz_wi_X, pz_wl_gc, pz_wl_ga, pz_wl_gn, pz_wl_gi, pz_wl_gr, pz_wl_same, pz_wl_X, pz_wr_gc, pz_wr_ga, pz_wr_gn, pz_wr_gi, pz_wr_gl, pz_wr_same, pz_wr_X, hdo, n2, fa, fn, oI]
        (try simp (disch := omega) only [nI_clamp, pz_in_nI2, pz_in_nI2L, pv_gt, nI_add, nI_addL, nI_Ladd, pk_mul, nI_mulL, nI_Lmul, pk_sub, nI_subL, nI_Lsub, nI_inc, nI_clampL, Nat.add_sub_cancel, pz_wi_else, pz_wl_else, vu_eq, vu_ne, pz_wi_gc, pz_wi_ga, pz_wi_gn, pz_wi_gl, pz_wi_gr, pz_wi_same, pz_wi_X, pz_wl_gc, pz_wl_ga, pz_wl_gn, pz_wl_gi, pz_wl_gr, pz_wl_same, pz_wl_X, pz_wr_gc, pz_wr_ga, pz_wr_gn, pz_wr_gi, pz_wr_gl, pz_wr_same, pz_wr_X, hdo, n2, fa, fn, oI])
        refine po_ret (h _ (sm.wl (sm.wl sm.rf (by simp)) (by simp)) ?_ ?_)
        all_goals (try simp (disch := omega) only [pz_wl_same, pz_wl_else])
        all_goals (first | exact hT | exact hT.ad (by omega) | exact hs | exact hs.ad (by decide) | exact hs.ad2 (by decide) (by decide) (by decide))
  | some dd =>
    rw [hdr] at hdo
    obtain ⟨h1, h2⟩ := hD dd hdr
    simp only [hdr] at h
    refine pm_ent (L := [some (.ref 39), some (.int (nI i)), some (.long p), none, none]) rfl (Nat.le_of_ble_eq_true rfl) ?_
    refine pw_blk (mi := mz_249) (b := bz_249_0) rfl rfl ?_
    simp only [bz_249_0, pz_cut_t, pz_cut_f, pz_cut_n, pv_gt, pv_ts, pv_tn, ev_ald0, ev_eld0, ev_gf1_2, ev_ild1, ea_iald, ev_ist4n, ev_ist4i, ev_ist4r, ev_ist4e, ev_ist4l, ev_ild4, ev_icm1, ev_ic_ne, pz_wi_gc, pz_wi_ga, pz_wi_gn, pz_wi_gl, pz_wi_gr, pz_wi_same, pz_wi_X, pz_wl_gc, pz_wl_ga, pz_wl_gn, pz_wl_gi, pz_wl_gr, pz_wl_same, pz_wl_X, pz_wr_gc, pz_wr_ga, pz_wr_gn, pz_wr_gi, pz_wr_gl, pz_wr_same, pz_wr_X, so_39 hS, sr_39_7 hS, sa_46 hS, sn_46 hS, hdo, n2, fa, fn, oI, sa_47 hS, sn_47 hS]
    (try simp (disch := omega) only [nI_clamp, pz_in_nI2, pz_in_nI2L, pv_gt, nI_add, nI_addL, nI_Ladd, pk_mul, nI_mulL, nI_Lmul, pk_sub, nI_subL, nI_Lsub, nI_inc, nI_clampL, Nat.add_sub_cancel, pz_wi_else, pz_wl_else, vu_eq, vu_ne, pz_wi_gc, pz_wi_ga, pz_wi_gn, pz_wi_gl, pz_wi_gr, pz_wi_same, pz_wi_X, pz_wl_gc, pz_wl_ga, pz_wl_gn, pz_wl_gi, pz_wl_gr, pz_wl_same, pz_wl_X, pz_wr_gc, pz_wr_ga, pz_wr_gn, pz_wr_gi, pz_wr_gl, pz_wr_same, pz_wr_X, hdo, n2, fa, fn, oI])
    (try refine po_gI (by first | exact pz_in_nI (by omega) (by decide) | decide | assumption) ?_)
    refine po_brP (fun q0 => ?_) (fun q0 => ?_)
    · skip
      (try simp (disch := omega) only [nI_ltI, nI_leI, nI_eq, nI_ltL, nI_leL, nI_eqL, nI_Llt, nI_Lle, nI_Leq, nI_eqm, nI_meq, nI_ltm, nI_lem, nI_mlt, nI_mle, lg0, lgl, lgg, lgle, lgge, Int32.not_lt, Int32.not_le, Int64.not_lt, Int64.not_le, not_false_eq_true, not_true_eq_false, Decidable.not_not, ge_iff_le, gt_iff_lt] at q0)
      refine pw_blk (mi := mz_249) (b := bz_249_27) rfl rfl ?_
      simp only [bz_249_27, pz_cut_t, pz_cut_f, pz_cut_n, pv_gt, pv_ts, pv_tn, ev_ald0, ev_eld0, ev_gf1_2, ev_ic2, ev_dup2, ea_lald, ev_lld2, ev_ladd, ea_last, ev_ild4, ev_nil, pz_wi_gc, pz_wi_ga, pz_wi_gn, pz_wi_gl, pz_wi_gr, pz_wi_same, pz_wi_X, pz_wl_gc, pz_wl_ga, pz_wl_gn, pz_wl_gi, pz_wl_gr, pz_wl_same, pz_wl_X, pz_wr_gc, pz_wr_ga, pz_wr_gn, pz_wr_gi, pz_wr_gl, pz_wr_same, pz_wr_X, so_39 hS, sr_39_8 hS, sa_47 hS, sn_47 hS, hdo, n2, fa, fn, oI, sa_46 hS, sn_46 hS]
      (try simp (disch := omega) only [nI_clamp, pz_in_nI2, pz_in_nI2L, pv_gt, nI_add, nI_addL, nI_Ladd, pk_mul, nI_mulL, nI_Lmul, pk_sub, nI_subL, nI_Lsub, nI_inc, nI_clampL, Nat.add_sub_cancel, pz_wi_else, pz_wl_else, vu_eq, vu_ne, pz_wi_gc, pz_wi_ga, pz_wi_gn, pz_wi_gl, pz_wi_gr, pz_wi_same, pz_wi_X, pz_wl_gc, pz_wl_ga, pz_wl_gn, pz_wl_gi, pz_wl_gr, pz_wl_same, pz_wl_X, pz_wr_gc, pz_wr_ga, pz_wr_gn, pz_wr_gi, pz_wr_gl, pz_wr_same, pz_wr_X, hdo, n2, fa, fn, oI])
      (try refine po_gI (by first | exact pz_in_nI (by omega) (by decide) | decide | assumption) ?_)
      (try refine po_gI (by first | exact pz_in_nI (by omega) (by decide) | decide | assumption) ?_)
      (try refine po_gI (by first | exact pz_in_nI (by omega) (by decide) | decide | assumption) ?_)
      (try refine po_gI (by first | exact pz_in_nI (by omega) (by decide) | decide | assumption) ?_)
      refine po_go ?_
      refine pw_blk (mi := mz_249) (b := bz_249_48) rfl rfl ?_
      simp only [bz_249_48, pz_cut_t, pz_cut_f, pz_cut_n, pv_gt, pv_ts, pv_tn, ev_ald0, ev_eld0, ev_ild1, ev_ild4, ev_cv2_1, pz_wi_gc, pz_wi_ga, pz_wi_gn, pz_wi_gl, pz_wi_gr, pz_wi_same, pz_wi_X, pz_wl_gc, pz_wl_ga, pz_wl_gn, pz_wl_gi, pz_wl_gr, pz_wl_same, pz_wl_X, pz_wr_gc, pz_wr_ga, pz_wr_gn, pz_wr_gi, pz_wr_gl, pz_wr_same, pz_wr_X, so_39 hS, hdo, n2, fa, fn, oI]
      (try simp (disch := omega) only [nI_clamp, pz_in_nI2, pz_in_nI2L, pv_gt, nI_add, nI_addL, nI_Ladd, pk_mul, nI_mulL, nI_Lmul, pk_sub, nI_subL, nI_Lsub, nI_inc, nI_clampL, Nat.add_sub_cancel, pz_wi_else, pz_wl_else, vu_eq, vu_ne, pz_wi_gc, pz_wi_ga, pz_wi_gn, pz_wi_gl, pz_wi_gr, pz_wi_same, pz_wi_X, pz_wl_gc, pz_wl_ga, pz_wl_gn, pz_wl_gi, pz_wl_gr, pz_wl_same, pz_wl_X, pz_wr_gc, pz_wr_ga, pz_wr_gn, pz_wr_gi, pz_wr_gl, pz_wr_same, pz_wr_X, hdo, n2, fa, fn, oI])
      (try refine po_gP (Nat.le_of_ble_eq_true rfl) ?_)
      refine po_call (by omega) (m_isHeard (D := some dd) (hS.sm (K := [47, nx]) (sm.wl (sm.wl sm.rf (by simp)) (by simp))) her he hi (fun d hd => by cases hd; exact ⟨h1, h2⟩) ?_)
      refine pw_blk (mi := mz_249) (b := bz_249_55) rfl rfl ?_
      simp only [bz_249_55, pz_cut_t, pz_cut_f, pz_cut_n, pv_gt, pv_ts, pv_tn, ev_ifeq, pz_wi_gc, pz_wi_ga, pz_wi_gn, pz_wi_gl, pz_wi_gr, pz_wi_same, pz_wi_X, pz_wl_gc, pz_wl_ga, pz_wl_gn, pz_wl_gi, pz_wl_gr, pz_wl_same, pz_wl_X, pz_wr_gc, pz_wr_ga, pz_wr_gn, pz_wr_gi, pz_wr_gl, pz_wr_same, pz_wr_X, hdo, n2, fa, fn, oI]
      (try simp (disch := omega) only [nI_clamp, pz_in_nI2, pz_in_nI2L, pv_gt, nI_add, nI_addL, nI_Ladd, pk_mul, nI_mulL, nI_Lmul, pk_sub, nI_subL, nI_Lsub, nI_inc, nI_clampL, Nat.add_sub_cancel, pz_wi_else, pz_wl_else, vu_eq, vu_ne, pz_wi_gc, pz_wi_ga, pz_wi_gn, pz_wi_gl, pz_wi_gr, pz_wi_same, pz_wi_X, pz_wl_gc, pz_wl_ga, pz_wl_gn, pz_wl_gi, pz_wl_gr, pz_wl_same, pz_wl_X, pz_wr_gc, pz_wr_ga, pz_wr_gn, pz_wr_gi, pz_wr_gl, pz_wr_same, pz_wr_X, hdo, n2, fa, fn, oI])
      refine po_brP (fun q55 => ?_) (fun q55 => ?_)
      · first
        | exact absurd q55 (by decide)
        | exact absurd trivial q55
        | exact q55.elim
        | (exfalso; (try simp (disch := omega) only [nI_ltI, nI_leI, nI_eq, nI_ltL, nI_leL, nI_eqL, nI_Llt, nI_Lle, nI_Leq, nI_eqm, nI_meq, nI_ltm, nI_lem, nI_mlt, nI_mle, lg0, lgl, lgg, lgle, lgge, Int32.not_lt, Int32.not_le, Int64.not_lt, Int64.not_le, not_false_eq_true, not_true_eq_false, Decidable.not_not, ge_iff_le, gt_iff_lt] at q55) <;> omega)
        | exact absurd q55 (by with_reducible assumption)
        | exact absurd (by with_reducible assumption) q55
        | exact absurd (Decidable.not_not.mp q55) (by with_reducible assumption)
        | exact absurd (by with_reducible assumption) (Int32.not_le.mpr q55)
        | exact absurd (by with_reducible assumption) (Int32.not_lt.mpr q55)
        | skip
          (try simp (disch := omega) only [nI_ltI, nI_leI, nI_eq, nI_ltL, nI_leL, nI_eqL, nI_Llt, nI_Lle, nI_Leq, nI_eqm, nI_meq, nI_ltm, nI_lem, nI_mlt, nI_mle, lg0, lgl, lgg, lgle, lgge, Int32.not_lt, Int32.not_le, Int64.not_lt, Int64.not_le, not_false_eq_true, not_true_eq_false, Decidable.not_not, ge_iff_le, gt_iff_lt] at q55)
          have hc : ¬ er < dd - i := by intro z; simp only [z, decide_true] at q55; exact absurd q55 (by decide)
          refine pw_blk (mi := mz_249) (b := bz_249_68) rfl rfl ?_
          simp only [bz_249_68, pz_cut_t, pz_cut_f, pz_cut_n, pv_gt, pv_ts, pv_tn, ev_ret, pz_wi_gc, pz_wi_ga, pz_wi_gn, pz_wi_gl, pz_wi_gr, pz_wi_same, pz_wi_X, pz_wl_gc, pz_wl_ga, pz_wl_gn, pz_wl_gi, pz_wl_gr, pz_wl_same, pz_wl_X, pz_wr_gc, pz_wr_ga, pz_wr_gn, pz_wr_gi, pz_wr_gl, pz_wr_same, pz_wr_X, hdo, n2, fa, fn, oI]
          (try simp (disch := omega) only [nI_clamp, pz_in_nI2, pz_in_nI2L, pv_gt, nI_add, nI_addL, nI_Ladd, pk_mul, nI_mulL, nI_Lmul, pk_sub, nI_subL, nI_Lsub, nI_inc, nI_clampL, Nat.add_sub_cancel, pz_wi_else, pz_wl_else, vu_eq, vu_ne, pz_wi_gc, pz_wi_ga, pz_wi_gn, pz_wi_gl, pz_wi_gr, pz_wi_same, pz_wi_X, pz_wl_gc, pz_wl_ga, pz_wl_gn, pz_wl_gi, pz_wl_gr, pz_wl_same, pz_wl_X, pz_wr_gc, pz_wr_ga, pz_wr_gn, pz_wr_gi, pz_wr_gl, pz_wr_same, pz_wr_X, hdo, n2, fa, fn, oI])
          first
          | (rw [if_neg hc] at h
             refine po_ret (h _ (sm.wl (sm.wl sm.rf (by simp)) (by simp)) ?_ ?_)
             all_goals (try simp (disch := omega) only [pz_wl_same, pz_wl_else])
             all_goals (first | exact hT | exact hT.ad (by omega) | exact hs | exact hs.ad (by decide) | exact hs.ad2 (by decide) (by decide) (by decide)))
          | (rw [if_pos hc] at h
             refine po_ret (h _ (sm.wl (sm.wl (sm.wl sm.rf (by simp)) (by simp)) (by simp)) ?_ ?_)
             all_goals (try simp (disch := omega) only [pz_wl_same, pz_wl_else])
             all_goals (first | exact hT | exact hT.ad (by omega) | exact hs | exact hs.ad (by decide) | exact hs.ad2 (by decide) (by decide) (by decide)))
      · first
        | exact absurd q55 (by decide)
        | exact absurd trivial q55
        | exact q55.elim
        | (exfalso; (try simp (disch := omega) only [nI_ltI, nI_leI, nI_eq, nI_ltL, nI_leL, nI_eqL, nI_Llt, nI_Lle, nI_Leq, nI_eqm, nI_meq, nI_ltm, nI_lem, nI_mlt, nI_mle, lg0, lgl, lgg, lgle, lgge, Int32.not_lt, Int32.not_le, Int64.not_lt, Int64.not_le, not_false_eq_true, not_true_eq_false, Decidable.not_not, ge_iff_le, gt_iff_lt] at q55) <;> omega)
        | exact absurd q55 (by with_reducible assumption)
        | exact absurd (by with_reducible assumption) q55
        | exact absurd (Decidable.not_not.mp q55) (by with_reducible assumption)
        | exact absurd (by with_reducible assumption) (Int32.not_le.mpr q55)
        | exact absurd (by with_reducible assumption) (Int32.not_lt.mpr q55)
        | skip
          (try simp (disch := omega) only [nI_ltI, nI_leI, nI_eq, nI_ltL, nI_leL, nI_eqL, nI_Llt, nI_Lle, nI_Leq, nI_eqm, nI_meq, nI_ltm, nI_lem, nI_mlt, nI_mle, lg0, lgl, lgg, lgle, lgge, Int32.not_lt, Int32.not_le, Int64.not_lt, Int64.not_le, not_false_eq_true, not_true_eq_false, Decidable.not_not, ge_iff_le, gt_iff_lt] at q55)
          have hc : er < dd - i := by by_cases z : er < dd - i; exact z; simp only [z, decide_false] at q55; exact absurd rfl q55
          refine pw_blk (mi := mz_249) (b := bz_249_58) rfl rfl ?_
          simp only [bz_249_58, pz_cut_t, pz_cut_f, pz_cut_n, pv_gt, pv_ts, pv_tn, ev_ald0, ev_eld0, ev_gf1_2, ev_ic3, ev_dup2, ea_lald, ev_lld2, ev_ladd, ea_last, ev_nil, pz_wi_gc, pz_wi_ga, pz_wi_gn, pz_wi_gl, pz_wi_gr, pz_wi_same, pz_wi_X, pz_wl_gc, pz_wl_ga, pz_wl_gn, pz_wl_gi, pz_wl_gr, pz_wl_same, pz_wl_X, pz_wr_gc, pz_wr_ga, pz_wr_gn, pz_wr_gi, pz_wr_gl, pz_wr_same, pz_wr_X, so_39 hS, sr_39_8 hS, sa_47 hS, sn_47 hS, hdo, n2, fa, fn, oI, sa_46 hS, sn_46 hS]
          (try simp (disch := omega) only [nI_clamp, pz_in_nI2, pz_in_nI2L, pv_gt, nI_add, nI_addL, nI_Ladd, pk_mul, nI_mulL, nI_Lmul, pk_sub, nI_subL, nI_Lsub, nI_inc, nI_clampL, Nat.add_sub_cancel, pz_wi_else, pz_wl_else, vu_eq, vu_ne, pz_wi_gc, pz_wi_ga, pz_wi_gn, pz_wi_gl, pz_wi_gr, pz_wi_same, pz_wi_X, pz_wl_gc, pz_wl_ga, pz_wl_gn, pz_wl_gi, pz_wl_gr, pz_wl_same, pz_wl_X, pz_wr_gc, pz_wr_ga, pz_wr_gn, pz_wr_gi, pz_wr_gl, pz_wr_same, pz_wr_X, hdo, n2, fa, fn, oI])
          (try refine po_gI (by first | exact pz_in_nI (by omega) (by decide) | decide | assumption) ?_)
          (try refine po_gI (by first | exact pz_in_nI (by omega) (by decide) | decide | assumption) ?_)
          refine po_go ?_
          refine pw_blk (mi := mz_249) (b := bz_249_68) rfl rfl ?_
          simp only [bz_249_68, pz_cut_t, pz_cut_f, pz_cut_n, pv_gt, pv_ts, pv_tn, ev_ret, pz_wi_gc, pz_wi_ga, pz_wi_gn, pz_wi_gl, pz_wi_gr, pz_wi_same, pz_wi_X, pz_wl_gc, pz_wl_ga, pz_wl_gn, pz_wl_gi, pz_wl_gr, pz_wl_same, pz_wl_X, pz_wr_gc, pz_wr_ga, pz_wr_gn, pz_wr_gi, pz_wr_gl, pz_wr_same, pz_wr_X, hdo, n2, fa, fn, oI]
          (try simp (disch := omega) only [nI_clamp, pz_in_nI2, pz_in_nI2L, pv_gt, nI_add, nI_addL, nI_Ladd, pk_mul, nI_mulL, nI_Lmul, pk_sub, nI_subL, nI_Lsub, nI_inc, nI_clampL, Nat.add_sub_cancel, pz_wi_else, pz_wl_else, vu_eq, vu_ne, pz_wi_gc, pz_wi_ga, pz_wi_gn, pz_wi_gl, pz_wi_gr, pz_wi_same, pz_wi_X, pz_wl_gc, pz_wl_ga, pz_wl_gn, pz_wl_gi, pz_wl_gr, pz_wl_same, pz_wl_X, pz_wr_gc, pz_wr_ga, pz_wr_gn, pz_wr_gi, pz_wr_gl, pz_wr_same, pz_wr_X, hdo, n2, fa, fn, oI])
          first
          | (rw [if_neg hc] at h
             refine po_ret (h _ (sm.wl (sm.wl sm.rf (by simp)) (by simp)) ?_ ?_)
             all_goals (try simp (disch := omega) only [pz_wl_same, pz_wl_else])
             all_goals (first | exact hT | exact hT.ad (by omega) | exact hs | exact hs.ad (by decide) | exact hs.ad2 (by decide) (by decide) (by decide)))
          | (rw [if_pos hc] at h
             refine po_ret (h _ (sm.wl (sm.wl (sm.wl sm.rf (by simp)) (by simp)) (by simp)) ?_ ?_)
             all_goals (try simp (disch := omega) only [pz_wl_same, pz_wl_else])
             all_goals (first | exact hT | exact hT.ad (by omega) | exact hs | exact hs.ad (by decide) | exact hs.ad2 (by decide) (by decide) (by decide)))
    · first
      | exact absurd q0 (by decide)
      | exact absurd trivial q0
      | exact q0.elim
      | (exfalso; (try simp (disch := omega) only [nI_ltI, nI_leI, nI_eq, nI_ltL, nI_leL, nI_eqL, nI_Llt, nI_Lle, nI_Leq, nI_eqm, nI_meq, nI_ltm, nI_lem, nI_mlt, nI_mle, lg0, lgl, lgg, lgle, lgge, Int32.not_lt, Int32.not_le, Int64.not_lt, Int64.not_le, not_false_eq_true, not_true_eq_false, Decidable.not_not, ge_iff_le, gt_iff_lt] at q0) <;> omega)
      | exact absurd q0 (by with_reducible assumption)
      | exact absurd (by with_reducible assumption) q0
      | exact absurd (Decidable.not_not.mp q0) (by with_reducible assumption)
      | exact absurd (by with_reducible assumption) (Int32.not_le.mpr q0)
      | exact absurd (by with_reducible assumption) (Int32.not_lt.mpr q0)
theorem m_arrive {B j nw nx : Nat} {p : Int64} {q : LL × LL} (hS : SH M) (nn : isNN M nw nx) (b1 : gi M 4 0 = nI B) (hB : B ≤ 24) (hj : j ≤ 24) (hT : agN 24 (gl M nx) q.1) (hs : agN 5 (gl M 47) q.2) (h : ∀ M', sm [nx, 47] M M' → agN 24 (gl M' nx) (arS B j p q).1 → agN 5 (gl M' 47) (arS B j p q).2 → Q (none, M')) : pm d 250 [.ref 39, .int (nI j), .long p] M Q := by
  obtain ⟨n1, n2, n3⟩ := id nn
  obtain ⟨-, fa, fn⟩ := nn.f hS
  have hx47 : nx ≠ 47 := by rcases n3 with ⟨-, e⟩ | ⟨-, e⟩ <;> omega
  unfold arS at h
  refine pm_ent (L := [some (.ref 39), some (.int (nI j)), some (.long p), none]) rfl (Nat.le_of_ble_eq_true rfl) ?_
  refine pw_blk (mi := mz_250) (b := bz_250_0) rfl rfl ?_
  simp only [bz_250_0, pz_cut_t, pz_cut_f, pz_cut_n, pv_gt, pv_ts, pv_tn, ev_ild1, ev_ald0, ev_eld0, ev_gf1_2, ev_gf8_0, ev_ic_lt, pz_wi_gc, pz_wi_ga, pz_wi_gn, pz_wi_gl, pz_wi_gr, pz_wi_same, pz_wi_X, pz_wl_gc, pz_wl_ga, pz_wl_gn, pz_wl_gi, pz_wl_gr, pz_wl_same, pz_wl_X, pz_wr_gc, pz_wr_ga, pz_wr_gn, pz_wr_gi, pz_wr_gl, pz_wr_same, pz_wr_X, so_39 hS, sr_39_0 hS, so_4 hS, b1, n2, fa, fn]
  (try simp (disch := omega) only [nI_clamp, pz_in_nI2, pz_in_nI2L, pv_gt, nI_add, nI_addL, nI_Ladd, pk_mul, nI_mulL, nI_Lmul, pk_sub, nI_subL, nI_Lsub, nI_inc, nI_clampL, Nat.add_sub_cancel, pz_wi_else, pz_wl_else, vu_eq, vu_ne, pz_wi_gc, pz_wi_ga, pz_wi_gn, pz_wi_gl, pz_wi_gr, pz_wi_same, pz_wi_X, pz_wl_gc, pz_wl_ga, pz_wl_gn, pz_wl_gi, pz_wl_gr, pz_wl_same, pz_wl_X, pz_wr_gc, pz_wr_ga, pz_wr_gn, pz_wr_gi, pz_wr_gl, pz_wr_same, pz_wr_X, b1, n2, fa, fn])
  refine po_brP (fun q0 => ?_) (fun q0 => ?_)
  · first
    | exact absurd q0 (by decide)
    | exact absurd trivial q0
    | exact q0.elim
    | (exfalso; (try simp (disch := omega) only [nI_ltI, nI_leI, nI_eq, nI_ltL, nI_leL, nI_eqL, nI_Llt, nI_Lle, nI_Leq, nI_eqm, nI_meq, nI_ltm, nI_lem, nI_mlt, nI_mle, lg0, lgl, lgg, lgle, lgge, Int32.not_lt, Int32.not_le, Int64.not_lt, Int64.not_le, not_false_eq_true, not_true_eq_false, Decidable.not_not, ge_iff_le, gt_iff_lt] at q0) <;> omega)
    | exact absurd q0 (by with_reducible assumption)
    | exact absurd (by with_reducible assumption) q0
    | exact absurd (Decidable.not_not.mp q0) (by with_reducible assumption)
    | exact absurd (by with_reducible assumption) (Int32.not_le.mpr q0)
    | exact absurd (by with_reducible assumption) (Int32.not_lt.mpr q0)
    | skip
      (try simp (disch := omega) only [nI_ltI, nI_leI, nI_eq, nI_ltL, nI_leL, nI_eqL, nI_Llt, nI_Lle, nI_Leq, nI_eqm, nI_meq, nI_ltm, nI_lem, nI_mlt, nI_mle, lg0, lgl, lgg, lgle, lgge, Int32.not_lt, Int32.not_le, Int64.not_lt, Int64.not_le, not_false_eq_true, not_true_eq_false, Decidable.not_not, ge_iff_le, gt_iff_lt] at q0)
      rw [if_pos q0] at h
      refine pw_blk (mi := mz_250) (b := bz_250_24) rfl rfl ?_
      simp only [bz_250_24, pz_cut_t, pz_cut_f, pz_cut_n, pv_gt, pv_ts, pv_tn, ev_ald0, ev_eld0, ev_gf1_2, ev_ild1, ev_dup2, ea_lald, ev_lld2, ev_ladd, ea_last, ev_nil, pz_wi_gc, pz_wi_ga, pz_wi_gn, pz_wi_gl, pz_wi_gr, pz_wi_same, pz_wi_X, pz_wl_gc, pz_wl_ga, pz_wl_gn, pz_wl_gi, pz_wl_gr, pz_wl_same, pz_wl_X, pz_wr_gc, pz_wr_ga, pz_wr_gn, pz_wr_gi, pz_wr_gl, pz_wr_same, pz_wr_X, so_39 hS, b1, n2, fa, fn, sa_47 hS, sn_47 hS]
      (try simp (disch := omega) only [nI_clamp, pz_in_nI2, pz_in_nI2L, pv_gt, nI_add, nI_addL, nI_Ladd, pk_mul, nI_mulL, nI_Lmul, pk_sub, nI_subL, nI_Lsub, nI_inc, nI_clampL, Nat.add_sub_cancel, pz_wi_else, pz_wl_else, vu_eq, vu_ne, pz_wi_gc, pz_wi_ga, pz_wi_gn, pz_wi_gl, pz_wi_gr, pz_wi_same, pz_wi_X, pz_wl_gc, pz_wl_ga, pz_wl_gn, pz_wl_gi, pz_wl_gr, pz_wl_same, pz_wl_X, pz_wr_gc, pz_wr_ga, pz_wr_gn, pz_wr_gi, pz_wr_gl, pz_wr_same, pz_wr_X, b1, n2, fa, fn])
      (try refine po_gI (by first | exact pz_in_nI (by omega) (by decide) | decide | assumption) ?_)
      (try refine po_gI (by first | exact pz_in_nI (by omega) (by decide) | decide | assumption) ?_)
      refine po_go ?_
      refine pw_blk (mi := mz_250) (b := bz_250_34) rfl rfl ?_
      simp only [bz_250_34, pz_cut_t, pz_cut_f, pz_cut_n, pv_gt, pv_ts, pv_tn, ev_ret, pz_wi_gc, pz_wi_ga, pz_wi_gn, pz_wi_gl, pz_wi_gr, pz_wi_same, pz_wi_X, pz_wl_gc, pz_wl_ga, pz_wl_gn, pz_wl_gi, pz_wl_gr, pz_wl_same, pz_wl_X, pz_wr_gc, pz_wr_ga, pz_wr_gn, pz_wr_gi, pz_wr_gl, pz_wr_same, pz_wr_X, b1, n2, fa, fn]
      (try simp (disch := omega) only [nI_clamp, pz_in_nI2, pz_in_nI2L, pv_gt, nI_add, nI_addL, nI_Ladd, pk_mul, nI_mulL, nI_Lmul, pk_sub, nI_subL, nI_Lsub, nI_inc, nI_clampL, Nat.add_sub_cancel, pz_wi_else, pz_wl_else, vu_eq, vu_ne, pz_wi_gc, pz_wi_ga, pz_wi_gn, pz_wi_gl, pz_wi_gr, pz_wi_same, pz_wi_X, pz_wl_gc, pz_wl_ga, pz_wl_gn, pz_wl_gi, pz_wl_gr, pz_wl_same, pz_wl_X, pz_wr_gc, pz_wr_ga, pz_wr_gn, pz_wr_gi, pz_wr_gl, pz_wr_same, pz_wr_X, b1, n2, fa, fn])
      refine po_ret (h _ (sm.wl sm.rf (by simp)) ?_ ?_)
      all_goals (try simp (disch := omega) only [pz_wl_same, pz_wl_else])
      all_goals (first | exact hT | exact hT.ad (by omega) | exact hs | exact hs.ad (by decide) | exact hs.ad2 (by decide) (by decide) (by decide))
  · first
    | exact absurd q0 (by decide)
    | exact absurd trivial q0
    | exact q0.elim
    | (exfalso; (try simp (disch := omega) only [nI_ltI, nI_leI, nI_eq, nI_ltL, nI_leL, nI_eqL, nI_Llt, nI_Lle, nI_Leq, nI_eqm, nI_meq, nI_ltm, nI_lem, nI_mlt, nI_mle, lg0, lgl, lgg, lgle, lgge, Int32.not_lt, Int32.not_le, Int64.not_lt, Int64.not_le, not_false_eq_true, not_true_eq_false, Decidable.not_not, ge_iff_le, gt_iff_lt] at q0) <;> omega)
    | exact absurd q0 (by with_reducible assumption)
    | exact absurd (by with_reducible assumption) q0
    | exact absurd (Decidable.not_not.mp q0) (by with_reducible assumption)
    | exact absurd (by with_reducible assumption) (Int32.not_le.mpr q0)
    | exact absurd (by with_reducible assumption) (Int32.not_lt.mpr q0)
    | skip
      (try simp (disch := omega) only [nI_ltI, nI_leI, nI_eq, nI_ltL, nI_leL, nI_eqL, nI_Llt, nI_Lle, nI_Leq, nI_eqm, nI_meq, nI_ltm, nI_lem, nI_mlt, nI_mle, lg0, lgl, lgg, lgle, lgge, Int32.not_lt, Int32.not_le, Int64.not_lt, Int64.not_le, not_false_eq_true, not_true_eq_false, Decidable.not_not, ge_iff_le, gt_iff_lt] at q0)
      rw [if_neg q0] at h
      refine pw_blk (mi := mz_250) (b := bz_250_11) rfl rfl ?_
      simp only [bz_250_11, pz_cut_t, pz_cut_f, pz_cut_n, pv_gt, pv_ts, pv_tn, ev_ald0, ev_eld0, ev_gf1_2, ev_ic0, ev_dup2, ea_lald, ev_lld2, ev_ladd, ea_last, ev_goto, pz_wi_gc, pz_wi_ga, pz_wi_gn, pz_wi_gl, pz_wi_gr, pz_wi_same, pz_wi_X, pz_wl_gc, pz_wl_ga, pz_wl_gn, pz_wl_gi, pz_wl_gr, pz_wl_same, pz_wl_X, pz_wr_gc, pz_wr_ga, pz_wr_gn, pz_wr_gi, pz_wr_gl, pz_wr_same, pz_wr_X, so_39 hS, sr_39_8 hS, sa_47 hS, sn_47 hS, b1, n2, fa, fn]
      (try simp (disch := omega) only [nI_clamp, pz_in_nI2, pz_in_nI2L, pv_gt, nI_add, nI_addL, nI_Ladd, pk_mul, nI_mulL, nI_Lmul, pk_sub, nI_subL, nI_Lsub, nI_inc, nI_clampL, Nat.add_sub_cancel, pz_wi_else, pz_wl_else, vu_eq, vu_ne, pz_wi_gc, pz_wi_ga, pz_wi_gn, pz_wi_gl, pz_wi_gr, pz_wi_same, pz_wi_X, pz_wl_gc, pz_wl_ga, pz_wl_gn, pz_wl_gi, pz_wl_gr, pz_wl_same, pz_wl_X, pz_wr_gc, pz_wr_ga, pz_wr_gn, pz_wr_gi, pz_wr_gl, pz_wr_same, pz_wr_X, b1, n2, fa, fn])
      (try refine po_gI (by first | exact pz_in_nI (by omega) (by decide) | decide | assumption) ?_)
      (try refine po_gI (by first | exact pz_in_nI (by omega) (by decide) | decide | assumption) ?_)
      refine po_go ?_
      refine pw_blk (mi := mz_250) (b := bz_250_34) rfl rfl ?_
      simp only [bz_250_34, pz_cut_t, pz_cut_f, pz_cut_n, pv_gt, pv_ts, pv_tn, ev_ret, pz_wi_gc, pz_wi_ga, pz_wi_gn, pz_wi_gl, pz_wi_gr, pz_wi_same, pz_wi_X, pz_wl_gc, pz_wl_ga, pz_wl_gn, pz_wl_gi, pz_wl_gr, pz_wl_same, pz_wl_X, pz_wr_gc, pz_wr_ga, pz_wr_gn, pz_wr_gi, pz_wr_gl, pz_wr_same, pz_wr_X, b1, n2, fa, fn]
      (try simp (disch := omega) only [nI_clamp, pz_in_nI2, pz_in_nI2L, pv_gt, nI_add, nI_addL, nI_Ladd, pk_mul, nI_mulL, nI_Lmul, pk_sub, nI_subL, nI_Lsub, nI_inc, nI_clampL, Nat.add_sub_cancel, pz_wi_else, pz_wl_else, vu_eq, vu_ne, pz_wi_gc, pz_wi_ga, pz_wi_gn, pz_wi_gl, pz_wi_gr, pz_wi_same, pz_wi_X, pz_wl_gc, pz_wl_ga, pz_wl_gn, pz_wl_gi, pz_wl_gr, pz_wl_same, pz_wl_X, pz_wr_gc, pz_wr_ga, pz_wr_gn, pz_wr_gi, pz_wr_gl, pz_wr_same, pz_wr_X, b1, n2, fa, fn])
      refine po_ret (h _ (sm.wl sm.rf (by simp)) ?_ ?_)
      all_goals (try simp (disch := omega) only [pz_wl_same, pz_wl_else])
      all_goals (first | exact hT | exact hT.ad (by omega) | exact hs | exact hs.ad (by decide) | exact hs.ad2 (by decide) (by decide) (by decide))
end THR
