/-! ===== feed ===== -/
section FEED
variable {d : Nat} {M M' : pz_M} {Q : Option Value × pz_M → Prop}
def byc (x s : Int32) : Int32 := ((x.toUInt32 >>> (s.toUInt32 &&& Int32.toUInt32 31)).toInt32).toInt8.toInt32.toInt8.toInt32
def byr (x s : Int32) : Int32 := (x >>> (s &&& 31)).toInt8.toInt32.toInt8.toInt32
theorem by1 (x : Int32) (s : Int32) (n : Nat) (hn : n ≤ 24) (h1 : (s.toUInt32 &&& Int32.toUInt32 31).toNat = n) (h2 : ((s.toBitVec &&& 31#32).smod 32#32).toNat = n) : byc x s = byr x s := by
  unfold byc byr
  have : ((x.toUInt32 >>> (s.toUInt32 &&& Int32.toUInt32 31)).toInt32).toInt8 = (x >>> (s &&& 31)).toInt8 := by
    apply Int8.toBitVec_inj.mp
    rw [Int32.toBitVec_toInt8, Int32.toBitVec_toInt8, Int32.toBitVec_shiftRight]
    have e1 : (x.toUInt32 >>> (s.toUInt32 &&& Int32.toUInt32 31)).toInt32.toBitVec = x.toBitVec >>> n := by
      show (x.toUInt32 >>> (s.toUInt32 &&& Int32.toUInt32 31)).toBitVec = _
      rw [UInt32.toBitVec_shiftRight]
      show x.toBitVec >>> (((s.toUInt32 &&& Int32.toUInt32 31).toBitVec) % 32) = _
      have : (((s.toUInt32 &&& Int32.toUInt32 31).toBitVec) % 32#32).toNat = n := by
        rw [BitVec.toNat_umod]
        have h1' : (s.toUInt32 &&& Int32.toUInt32 31).toBitVec.toNat = n := h1
        rw [h1']
        exact Nat.mod_eq_of_lt (by show n < 32; omega)
      show x.toBitVec >>> ((((s.toUInt32 &&& Int32.toUInt32 31).toBitVec) % 32#32).toNat) = _
      rw [this]
    have e2 : x.toBitVec.sshiftRight' ((s &&& 31).toBitVec.smod 32) = x.toBitVec.sshiftRight n := by
      show x.toBitVec.sshiftRight (((s.toBitVec &&& 31#32).smod 32#32).toNat) = _
      rw [h2]
    rw [e1, e2]
    ext i hi
    simp [BitVec.getElem_signExtend, show i < 32 by omega, BitVec.getElem_sshiftRight, show n + i < 32 by omega]
  rw [this]
theorem i8t : ∀ c, c < 256 → (nI c).toInt8 = Int8.ofNat c := by decide +kernel
theorem by3 (y : Int8) : ∃ c, c < 256 ∧ y.toInt32 = sb_b c := by
  refine ⟨y.toBitVec.toNat, y.toBitVec.isLt, ?_⟩
  unfold sb_b
  rw [i8t _ y.toBitVec.isLt]
  congr 1
  apply Int8.toBitVec_inj.mp
  simp
theorem by2 (x : Int32) (k : Nat) (hk : k < 4) : byc x (nI (24 - 8 * k)) = byr x (nI (24 - 8 * k)) := by
  have h : k = 0 ∨ k = 1 ∨ k = 2 ∨ k = 3 := by omega
  rcases h with h | h | h | h <;> subst h
  · exact by1 x _ 24 (by decide) (by decide) (by decide)
  · exact by1 x _ 16 (by decide) (by decide) (by decide)
  · exact by1 x _ 8 (by decide) (by decide) (by decide)
  · exact by1 x _ 0 (by decide) (by decide) (by decide)
def shc (k : Nat) : Int32 := if k < 4 then nI (24 - 8 * k) else -8
def layk (f : Nat → Int32) (L : Nat) (x : Int32) : Nat → Nat → Int32
  | 0 => f
  | k + 1 => va_up (layk f L x k) (L + k) (byc x (shc k))
theorem shc_s : ∀ k, k < 4 → shc k + Int32.ofInt (-8) = shc (k + 1) := by decide +kernel
theorem shc_n : ∀ k, k < 4 → ¬ shc k < 0 := by decide +kernel
theorem ev_i2bN {x : Int32} {f pc a b z : Nat} {es : List pz_E} {M : pz_M} {st : List Value} {L : pz_L} : pz_evB f ((pc, .i2b, a, b, z) :: es) L (.int x :: st) M = pz_evB f es L (.int x.toInt8.toInt32 :: st) M := id rfl
theorem ev_ishrN {x y : Int32} {f pc a b z : Nat} {es : List pz_E} {M : pz_M} {st : List Value} {L : pz_L} : pz_evB f ((pc, .ishr, a, b, z) :: es) L (.int y :: .int x :: st) M = pz_evB f es L (.int (x >>> (y &&& 31)) :: st) M := id rfl
theorem ev_inc2iN {x0 : Option Value} {w : Int32} {n : Int} {x : Int32} {f pc a b z : Nat} {es : List pz_E} {M : pz_M} {st : List Value} {L : pz_L} : pz_evB f ((pc, .iinc 2 n, a, b, z) :: es) (x0 :: some (.int w) :: some (.int x) :: L) (st) M = pz_evB f es (x0 :: some (.int w) :: some (.int (x + Int32.ofInt n)) :: L) (st) M := id rfl
theorem n1500 : Int32.ofNat 1500 = nI 1500 := rfl
theorem va_up2 {f : Nat → Int32} {k : Nat} {a b : Int32} : va_up (va_up f k a) k b = va_up f k b := by
  funext i
  unfold va_up
  split <;> rfl
theorem shc4 : shc 4 < 0 := by decide +kernel
theorem l_lay4 {x : Int32} (hS : SH M) (h : Q (none, M)) : pw d 97 (3, [some (.ref 1), some (.int x), some (.int (shc 4))], [], M) Q := by
  have z := shc4
  generalize shc 4 = w at z ⊢
  refine pw_blk (mi := mz_97) (b := bz_97_3) rfl rfl ?_
  simp only [bz_97_3, pz_cut_t, pz_cut_f, pz_cut_n, pv_gt, pv_ts, pv_tn, ev_ild2, ev_iflt, pz_wi_gc, pz_wi_ga, pz_wi_gn, pz_wi_gl, pz_wi_gr, pz_wi_same, pz_wi_X, pz_wl_gc, pz_wl_ga, pz_wl_gn, pz_wl_gi, pz_wl_gr, pz_wl_same, pz_wl_X, pz_wr_gc, pz_wr_ga, pz_wr_gn, pz_wr_gi, pz_wr_gl, pz_wr_same, pz_wr_X]
  (try simp (disch := omega) only [nI_clamp, pz_in_nI2, pz_in_nI2L, pv_gt, nI_add, nI_addL, nI_Ladd, pk_mul, nI_mulL, nI_Lmul, pk_sub, nI_subL, nI_Lsub, nI_inc, nI_clampL, Nat.add_sub_cancel, pz_wi_else, pz_wl_else, vu_eq, vu_ne, pz_wi_gc, pz_wi_ga, pz_wi_gn, pz_wi_gl, pz_wi_gr, pz_wi_same, pz_wi_X, pz_wl_gc, pz_wl_ga, pz_wl_gn, pz_wl_gi, pz_wl_gr, pz_wl_same, pz_wl_X, pz_wr_gc, pz_wr_ga, pz_wr_gn, pz_wr_gi, pz_wr_gl, pz_wr_same, pz_wr_X])
  refine po_brP (fun q3 => ?_) (fun q3 => ?_)
  · first
    | exact absurd q3 (by decide)
    | exact absurd trivial q3
    | exact q3.elim
    | (exfalso; (try simp (disch := omega) only [nI_ltI, nI_leI, nI_eq, nI_ltL, nI_leL, nI_eqL, nI_Llt, nI_Lle, nI_Leq, nI_eqm, nI_meq, nI_ltm, nI_lem, nI_mlt, nI_mle, lg0, lgl, lgg, lgle, lgge, Int32.not_lt, Int32.not_le, Int64.not_lt, Int64.not_le, not_false_eq_true, not_true_eq_false, Decidable.not_not, ge_iff_le, gt_iff_lt] at q3) <;> omega)
    | exact absurd q3 (by with_reducible assumption)
    | exact absurd (by with_reducible assumption) q3
    | exact absurd (Decidable.not_not.mp q3) (by with_reducible assumption)
    | exact absurd (by with_reducible assumption) (Int32.not_le.mpr q3)
    | exact absurd (by with_reducible assumption) (Int32.not_lt.mpr q3)
    | skip
      (try simp (disch := omega) only [nI_ltI, nI_leI, nI_eq, nI_ltL, nI_leL, nI_eqL, nI_Llt, nI_Lle, nI_Leq, nI_eqm, nI_meq, nI_ltm, nI_lem, nI_mlt, nI_mle, lg0, lgl, lgg, lgle, lgge, Int32.not_lt, Int32.not_le, Int64.not_lt, Int64.not_le, not_false_eq_true, not_true_eq_false, Decidable.not_not, ge_iff_le, gt_iff_lt] at q3)
      refine pw_blk (mi := mz_97) (b := bz_97_48) rfl rfl ?_
      simp only [bz_97_48, pz_cut_t, pz_cut_f, pz_cut_n, pv_gt, pv_ts, pv_tn, ev_ret, pz_wi_gc, pz_wi_ga, pz_wi_gn, pz_wi_gl, pz_wi_gr, pz_wi_same, pz_wi_X, pz_wl_gc, pz_wl_ga, pz_wl_gn, pz_wl_gi, pz_wl_gr, pz_wl_same, pz_wl_X, pz_wr_gc, pz_wr_ga, pz_wr_gn, pz_wr_gi, pz_wr_gl, pz_wr_same, pz_wr_X]
      (try simp (disch := omega) only [nI_clamp, pz_in_nI2, pz_in_nI2L, pv_gt, nI_add, nI_addL, nI_Ladd, pk_mul, nI_mulL, nI_Lmul, pk_sub, nI_subL, nI_Lsub, nI_inc, nI_clampL, Nat.add_sub_cancel, pz_wi_else, pz_wl_else, vu_eq, vu_ne, pz_wi_gc, pz_wi_ga, pz_wi_gn, pz_wi_gl, pz_wi_gr, pz_wi_same, pz_wi_X, pz_wl_gc, pz_wl_ga, pz_wl_gn, pz_wl_gi, pz_wl_gr, pz_wl_same, pz_wl_X, pz_wr_gc, pz_wr_ga, pz_wr_gn, pz_wr_gi, pz_wr_gl, pz_wr_same, pz_wr_X])
      exact po_ret h
  · exact absurd z q3
theorem l_layk {L : Nat} {x w w' : Int32} (hS : SH M) (hL : gi M 1 2 = nI L) (hL4 : L < 1500) (hw : ¬ w < 0) (hw' : w + Int32.ofInt (-8) = w') (h : ∀ M', sm [1, 2] M M' → gi M' 1 = va_up (gi M 1) 2 (nI (L + 1)) → gi M' 2 = va_up (gi M 2) L (byc x w) → pw d 97 (3, [some (.ref 1), some (.int x), some (.int w')], [], M') Q) : pw d 97 (3, [some (.ref 1), some (.int x), some (.int w)], [], M) Q := by
  refine pw_blk (mi := mz_97) (b := bz_97_3) rfl rfl ?_
  simp only [bz_97_3, pz_cut_t, pz_cut_f, pz_cut_n, pv_gt, pv_ts, pv_tn, ev_ild2, ev_iflt, pz_wi_gc, pz_wi_ga, pz_wi_gn, pz_wi_gl, pz_wi_gr, pz_wi_same, pz_wi_X, pz_wl_gc, pz_wl_ga, pz_wl_gn, pz_wl_gi, pz_wl_gr, pz_wl_same, pz_wl_X, pz_wr_gc, pz_wr_ga, pz_wr_gn, pz_wr_gi, pz_wr_gl, pz_wr_same, pz_wr_X, hL, hw']
  (try simp (disch := omega) only [nI_clamp, pz_in_nI2, pz_in_nI2L, pv_gt, nI_add, nI_addL, nI_Ladd, pk_mul, nI_mulL, nI_Lmul, pk_sub, nI_subL, nI_Lsub, nI_inc, nI_clampL, Nat.add_sub_cancel, pz_wi_else, pz_wl_else, vu_eq, vu_ne, pz_wi_gc, pz_wi_ga, pz_wi_gn, pz_wi_gl, pz_wi_gr, pz_wi_same, pz_wi_X, pz_wl_gc, pz_wl_ga, pz_wl_gn, pz_wl_gi, pz_wl_gr, pz_wl_same, pz_wl_X, pz_wr_gc, pz_wr_ga, pz_wr_gn, pz_wr_gi, pz_wr_gl, pz_wr_same, pz_wr_X, hL, hw'])
  refine po_brP (fun q3 => ?_) (fun q3 => ?_)
  · exact absurd q3 hw
  · first
    | exact absurd q3 (by decide)
    | exact absurd trivial q3
    | exact q3.elim
    | (exfalso; (try simp (disch := omega) only [nI_ltI, nI_leI, nI_eq, nI_ltL, nI_leL, nI_eqL, nI_Llt, nI_Lle, nI_Leq, nI_eqm, nI_meq, nI_ltm, nI_lem, nI_mlt, nI_mle, lg0, lgl, lgg, lgle, lgge, Int32.not_lt, Int32.not_le, Int64.not_lt, Int64.not_le, not_false_eq_true, not_true_eq_false, Decidable.not_not, ge_iff_le, gt_iff_lt] at q3) <;> omega)
    | exact absurd q3 (by with_reducible assumption)
    | exact absurd (by with_reducible assumption) q3
    | exact absurd (Decidable.not_not.mp q3) (by with_reducible assumption)
    | exact absurd (by with_reducible assumption) (Int32.not_le.mpr q3)
    | exact absurd (by with_reducible assumption) (Int32.not_lt.mpr q3)
    | skip
      (try simp (disch := omega) only [nI_ltI, nI_leI, nI_eq, nI_ltL, nI_leL, nI_eqL, nI_Llt, nI_Lle, nI_Leq, nI_eqm, nI_meq, nI_ltm, nI_lem, nI_mlt, nI_mle, lg0, lgl, lgg, lgle, lgge, Int32.not_lt, Int32.not_le, Int64.not_lt, Int64.not_le, not_false_eq_true, not_true_eq_false, Decidable.not_not, ge_iff_le, gt_iff_lt] at q3)
      refine pw_blk (mi := mz_97) (b := bz_97_7) rfl rfl ?_
      simp only [bz_97_7, pz_cut_t, pz_cut_f, pz_cut_n, pv_gt, pv_ts, pv_tn, ev_ald0, ev_eld0, ev_gf10_0, ev_gf10_2, ea_alen0, ea_alen1, ea_alen2, ea_alen3, ev_ic_ge, pz_wi_gc, pz_wi_ga, pz_wi_gn, pz_wi_gl, pz_wi_gr, pz_wi_same, pz_wi_X, pz_wl_gc, pz_wl_ga, pz_wl_gn, pz_wl_gi, pz_wl_gr, pz_wl_same, pz_wl_X, pz_wr_gc, pz_wr_ga, pz_wr_gn, pz_wr_gi, pz_wr_gl, pz_wr_same, pz_wr_X, so_1 hS, sr_1_0 hS, sa_2 hS, sn_2 hS, hL, hw', n1500]
      (try simp (disch := omega) only [nI_clamp, pz_in_nI2, pz_in_nI2L, pv_gt, nI_add, nI_addL, nI_Ladd, pk_mul, nI_mulL, nI_Lmul, pk_sub, nI_subL, nI_Lsub, nI_inc, nI_clampL, Nat.add_sub_cancel, pz_wi_else, pz_wl_else, vu_eq, vu_ne, pz_wi_gc, pz_wi_ga, pz_wi_gn, pz_wi_gl, pz_wi_gr, pz_wi_same, pz_wi_X, pz_wl_gc, pz_wl_ga, pz_wl_gn, pz_wl_gi, pz_wl_gr, pz_wl_same, pz_wl_X, pz_wr_gc, pz_wr_ga, pz_wr_gn, pz_wr_gi, pz_wr_gl, pz_wr_same, pz_wr_X, hL, hw', n1500])
      refine po_brP (fun q7 => ?_) (fun q7 => ?_)
      · first
        | exact absurd q7 (by decide)
        | exact absurd trivial q7
        | exact q7.elim
        | (exfalso; (try simp (disch := omega) only [nI_ltI, nI_leI, nI_eq, nI_ltL, nI_leL, nI_eqL, nI_Llt, nI_Lle, nI_Leq, nI_eqm, nI_meq, nI_ltm, nI_lem, nI_mlt, nI_mle, lg0, lgl, lgg, lgle, lgge, Int32.not_lt, Int32.not_le, Int64.not_lt, Int64.not_le, not_false_eq_true, not_true_eq_false, Decidable.not_not, ge_iff_le, gt_iff_lt] at q7) <;> omega)
        | exact absurd q7 (by with_reducible assumption)
        | exact absurd (by with_reducible assumption) q7
        | exact absurd (Decidable.not_not.mp q7) (by with_reducible assumption)
        | exact absurd (by with_reducible assumption) (Int32.not_le.mpr q7)
        | exact absurd (by with_reducible assumption) (Int32.not_lt.mpr q7)
      · skip
        (try simp (disch := omega) only [nI_ltI, nI_leI, nI_eq, nI_ltL, nI_leL, nI_eqL, nI_Llt, nI_Lle, nI_Leq, nI_eqm, nI_meq, nI_ltm, nI_lem, nI_mlt, nI_mle, lg0, lgl, lgg, lgle, lgge, Int32.not_lt, Int32.not_le, Int64.not_lt, Int64.not_le, not_false_eq_true, not_true_eq_false, Decidable.not_not, ge_iff_le, gt_iff_lt] at q7)
        refine pw_blk (mi := mz_97) (b := bz_97_19) rfl rfl ?_
        simp only [bz_97_19, pz_cut_t, pz_cut_f, pz_cut_n, pv_gt, pv_ts, pv_tn, ev_ald0, ev_eld0, ev_gf10_2, ev_gf10_0, ev_ild1, ev_ild2, ev_iushrN, ev_i2bN, ea_bast, ea_zast, ev_dupi, ev_dupr, ev_dupe, ev_ic1, ev_iadd, ev_pf10_0, ev_nil, pz_wi_gc, pz_wi_ga, pz_wi_gn, pz_wi_gl, pz_wi_gr, pz_wi_same, pz_wi_X, pz_wl_gc, pz_wl_ga, pz_wl_gn, pz_wl_gi, pz_wl_gr, pz_wl_same, pz_wl_X, pz_wr_gc, pz_wr_ga, pz_wr_gn, pz_wr_gi, pz_wr_gl, pz_wr_same, pz_wr_X, so_1 hS, sr_1_0 hS, sa_2 hS, sn_2 hS, hL, hw']
        (try simp (disch := omega) only [nI_clamp, pz_in_nI2, pz_in_nI2L, pv_gt, nI_add, nI_addL, nI_Ladd, pk_mul, nI_mulL, nI_Lmul, pk_sub, nI_subL, nI_Lsub, nI_inc, nI_clampL, Nat.add_sub_cancel, pz_wi_else, pz_wl_else, vu_eq, vu_ne, pz_wi_gc, pz_wi_ga, pz_wi_gn, pz_wi_gl, pz_wi_gr, pz_wi_same, pz_wi_X, pz_wl_gc, pz_wl_ga, pz_wl_gn, pz_wl_gi, pz_wl_gr, pz_wl_same, pz_wl_X, pz_wr_gc, pz_wr_ga, pz_wr_gn, pz_wr_gi, pz_wr_gl, pz_wr_same, pz_wr_X, hL, hw'])
        (try refine po_gI (by first | exact pz_in_nI (by omega) (by decide) | decide | assumption) ?_)
        refine po_go ?_
        refine pw_blk (mi := mz_97) (b := bz_97_42) rfl rfl ?_
        simp only [bz_97_42, pz_cut_t, pz_cut_f, pz_cut_n, pv_gt, pv_ts, pv_tn, ev_inc2n, ev_inc2iN, ev_inc2r, ev_inc2e, ev_goto, pz_wi_gc, pz_wi_ga, pz_wi_gn, pz_wi_gl, pz_wi_gr, pz_wi_same, pz_wi_X, pz_wl_gc, pz_wl_ga, pz_wl_gn, pz_wl_gi, pz_wl_gr, pz_wl_same, pz_wl_X, pz_wr_gc, pz_wr_ga, pz_wr_gn, pz_wr_gi, pz_wr_gl, pz_wr_same, pz_wr_X, hL, hw']
        (try simp (disch := omega) only [nI_clamp, pz_in_nI2, pz_in_nI2L, pv_gt, nI_add, nI_addL, nI_Ladd, pk_mul, nI_mulL, nI_Lmul, pk_sub, nI_subL, nI_Lsub, nI_inc, nI_clampL, Nat.add_sub_cancel, pz_wi_else, pz_wl_else, vu_eq, vu_ne, pz_wi_gc, pz_wi_ga, pz_wi_gn, pz_wi_gl, pz_wi_gr, pz_wi_same, pz_wi_X, pz_wl_gc, pz_wl_ga, pz_wl_gn, pz_wl_gi, pz_wl_gr, pz_wl_same, pz_wl_X, pz_wr_gc, pz_wr_ga, pz_wr_gn, pz_wr_gi, pz_wr_gl, pz_wr_same, pz_wr_X, hL, hw'])
        refine po_go ?_
        refine h _ ?_ ?_ ?_
        · exact (sm.wi (sm.wi sm.rf (by decide)) (by decide))
        · simp (disch := omega) only [pz_wi_same, pz_wi_else]
        · simp (disch := omega) only [pz_wi_same, pz_wi_else]
          unfold byc
          rfl
theorem shc0 : shc 0 = 24 := by decide +kernel
theorem m_lay {L : Nat} {x : Int32} (hS : SH M) (hL : gi M 1 2 = nI L) (hL4 : L + 4 ≤ 1500) (h : ∀ M', sm [1, 2] M M' → gi M' 1 = va_up (gi M 1) 2 (nI (L + 4)) → gi M' 2 = layk (gi M 2) L x 4 → Q (none, M')) : pm d 97 [.ref 1, .int x] M Q := by
  have key : ∀ k, k ≤ 4 → ∀ M', sm [1, 2] M M' → gi M' 1 = va_up (gi M 1) 2 (nI (L + k)) → gi M' 2 = layk (gi M 2) L x k → pw d 97 (3, [some (.ref 1), some (.int x), some (.int (shc k))], [], M') Q := by
    refine upto (fun k hk ih => ?_)
    intro M' s' e1 e2
    have hS' := hS.sm s'
    by_cases hk4 : k = 4
    · subst hk4
      exact l_lay4 hS' (h M' s' e1 e2)
    · refine l_layk hS' (by rw [e1, vu_eq]) (by omega) (shc_n k (by omega)) (shc_s k (by omega)) (fun M2 s2 a1 a2 => ?_)
      refine ih (k + 1) (by omega) (by omega) M2 (s'.tr s2 (by decide)) ?_ ?_
      · rw [a1, e1, va_up2]
        rfl
      · rw [a2, e2]
        rfl
  have z := key 0 (by omega) M sm.rf (by rw [Nat.add_zero, ← hL]; exact va_self.symm) rfl
  rw [shc0] at z
  refine pm_ent (L := [some (.ref 1), some (.int x), none]) rfl (Nat.le_of_ble_eq_true rfl) ?_
  refine pw_blk (mi := mz_97) (b := bz_97_0) rfl rfl ?_
  simp only [bz_97_0, pz_cut_t, pz_cut_f, pz_cut_n, pv_gt, pv_ts, pv_tn, ev_bp24, ev_ist2n, ev_ist2i, ev_ist2r, ev_ist2e, ev_ist2l, ev_nil, pz_wi_gc, pz_wi_ga, pz_wi_gn, pz_wi_gl, pz_wi_gr, pz_wi_same, pz_wi_X, pz_wl_gc, pz_wl_ga, pz_wl_gn, pz_wl_gi, pz_wl_gr, pz_wl_same, pz_wl_X, pz_wr_gc, pz_wr_ga, pz_wr_gn, pz_wr_gi, pz_wr_gl, pz_wr_same, pz_wr_X]
  (try simp (disch := omega) only [nI_clamp, pz_in_nI2, pz_in_nI2L, pv_gt, nI_add, nI_addL, nI_Ladd, pk_mul, nI_mulL, nI_Lmul, pk_sub, nI_subL, nI_Lsub, nI_inc, nI_clampL, Nat.add_sub_cancel, pz_wi_else, pz_wl_else, vu_eq, vu_ne, pz_wi_gc, pz_wi_ga, pz_wi_gn, pz_wi_gl, pz_wi_gr, pz_wi_same, pz_wi_X, pz_wl_gc, pz_wl_ga, pz_wl_gn, pz_wl_gi, pz_wl_gr, pz_wl_same, pz_wl_X, pz_wr_gc, pz_wr_ga, pz_wr_gn, pz_wr_gi, pz_wr_gl, pz_wr_same, pz_wr_X])
  refine po_go ?_
  exact z
def fedv (a b c e f : Int32) (k : Nat) : Int32 := if k < 4 then a else if k < 8 then b else if k < 12 then c else if k < 16 then e else f
def fed (g : Nat → Int32) (L : Nat) (v : Nat → Int32) : Nat → Nat → Int32
  | 0 => g
  | k + 1 => va_up (fed g L v k) (L + k) (byr (v k) (nI (24 - 8 * (k % 4))))
theorem and3 : ∀ k, k < 20 → nI k &&& 3 = nI (k % 4) := by decide +kernel
theorem fed_lay {g : Nat → Int32} {L j : Nat} {v : Nat → Int32} {x : Int32} (hv : ∀ i, i < 4 → v (4 * j + i) = x) : fed g L v (4 * j + 4) = layk (fed g L v (4 * j)) (L + 4 * j) x 4 := by
  have m : ∀ i, i < 4 → byr (v (4 * j + i)) (nI (24 - 8 * ((4 * j + i) % 4))) = byc x (shc i) := fun i hi => by
    rw [hv i hi, show (4 * j + i) % 4 = i by omega, ← by2 x i hi]
    unfold shc
    rw [if_pos hi]
  have m0 := m 0 (by decide)
  rw [Nat.add_zero] at m0
  show va_up (va_up (va_up (va_up (fed g L v (4 * j)) (L + 4 * j) (byr (v (4 * j)) (nI (24 - 8 * (4 * j % 4))))) (L + (4 * j + 1)) (byr (v (4 * j + 1)) (nI (24 - 8 * ((4 * j + 1) % 4))))) (L + (4 * j + 2)) (byr (v (4 * j + 2)) (nI (24 - 8 * ((4 * j + 2) % 4))))) (L + (4 * j + 3)) (byr (v (4 * j + 3)) (nI (24 - 8 * ((4 * j + 3) % 4)))) = _
  rw [m0, m 1 (by decide), m 2 (by decide), m 3 (by decide)]
  rfl
theorem fed20 {g : Nat → Int32} {L : Nat} {a b c e f : Int32} : fed g L (fedv a b c e f) 20 = layk (layk (layk (layk (layk g L a 4) (L + 4) b 4) (L + 8) c 4) (L + 12) e 4) (L + 16) f 4 := by
  rw [show (20 : Nat) = 4 * 4 + 4 from rfl, fed_lay (j := 4) (x := f) (by intro i hi; unfold fedv; simp (disch := omega) only [if_neg]), show 4 * 4 = 4 * 3 + 4 from rfl, fed_lay (j := 3) (x := e) (by intro i hi; unfold fedv; simp (disch := omega) only [if_neg, if_pos]), show 4 * 3 = 4 * 2 + 4 from rfl, fed_lay (j := 2) (x := c) (by intro i hi; unfold fedv; simp (disch := omega) only [if_neg, if_pos]), show 4 * 2 = 4 * 1 + 4 from rfl, fed_lay (j := 1) (x := b) (by intro i hi; unfold fedv; simp (disch := omega) only [if_neg, if_pos]), show 4 * 1 = 4 * 0 + 4 from rfl, fed_lay (j := 0) (x := a) (by intro i hi; unfold fedv; simp (disch := omega) only [if_pos])]
  rfl
theorem fed_b {g : Nat → Int32} {L : Nat} {v : Nat → Int32} (h : ∀ i, ∃ c, c < 256 ∧ g i = sb_b c) : ∀ k i, ∃ c, c < 256 ∧ fed g L v k i = sb_b c
  | 0, i => h i
  | k + 1, i => by
    show ∃ c, c < 256 ∧ va_up (fed g L v k) (L + k) _ i = sb_b c
    unfold va_up
    split
    · exact by3 _
    · exact fed_b h k i
theorem m_feed (hd : 3 ≤ d) {L : Nat} {a b c e f : Int32} (hS : SH M) (hL : gi M 1 2 = nI L) (q : L + 20 ≤ 1500) (h : ∀ M', sm [1, 2] M M' → gi M' 1 = va_up (gi M 1) 2 (nI (L + 20)) → gi M' 2 = fed (gi M 2) L (fedv a b c e f) 20 → Q (some (.int (nI (L + 20))), M')) : pm d 3 [.ref 0, .int a, .int b, .int c, .int e, .int f] M Q := by
  refine pm_ent (L := [some (.ref 0), some (.int a), some (.int b), some (.int c), some (.int e), some (.int f)]) rfl (Nat.le_of_ble_eq_true rfl) ?_
  refine pw_blk (mi := mz_3) (b := bz_3_0) rfl rfl ?_
  simp only [bz_3_0, pz_cut_t, pz_cut_f, pz_cut_n, pv_gt, pv_ts, pv_tn, ev_ald0, ev_eld0, ev_gf0_2, ev_gf10_0, ev_bp20, ev_iadd, ev_sp1500, ev_ic_le, pz_wi_gc, pz_wi_ga, pz_wi_gn, pz_wi_gl, pz_wi_gr, pz_wi_same, pz_wi_X, pz_wl_gc, pz_wl_ga, pz_wl_gn, pz_wl_gi, pz_wl_gr, pz_wl_same, pz_wl_X, pz_wr_gc, pz_wr_ga, pz_wr_gn, pz_wr_gi, pz_wr_gl, pz_wr_same, pz_wr_X, so_0 hS, sr_0_0 hS, so_1 hS, hL]
  (try simp (disch := omega) only [nI_clamp, pz_in_nI2, pz_in_nI2L, pv_gt, nI_add, nI_addL, nI_Ladd, pk_mul, nI_mulL, nI_Lmul, pk_sub, nI_subL, nI_Lsub, nI_inc, nI_clampL, Nat.add_sub_cancel, pz_wi_else, pz_wl_else, vu_eq, vu_ne, pz_wi_gc, pz_wi_ga, pz_wi_gn, pz_wi_gl, pz_wi_gr, pz_wi_same, pz_wi_X, pz_wl_gc, pz_wl_ga, pz_wl_gn, pz_wl_gi, pz_wl_gr, pz_wl_same, pz_wl_X, pz_wr_gc, pz_wr_ga, pz_wr_gn, pz_wr_gi, pz_wr_gl, pz_wr_same, pz_wr_X, hL])
  refine po_brP (fun q0 => ?_) (fun q0 => ?_)
  · skip
    (try simp (disch := omega) only [nI_ltI, nI_leI, nI_eq, nI_ltL, nI_leL, nI_eqL, nI_Llt, nI_Lle, nI_Leq, nI_eqm, nI_meq, nI_ltm, nI_lem, nI_mlt, nI_mle, lg0, lgl, lgg, lgle, lgge, Int32.not_lt, Int32.not_le, Int64.not_lt, Int64.not_le, not_false_eq_true, not_true_eq_false, Decidable.not_not, ge_iff_le, gt_iff_lt] at q0)
    refine pw_blk (mi := mz_3) (b := bz_3_18) rfl rfl ?_
    simp only [bz_3_18, pz_cut_t, pz_cut_f, pz_cut_n, pv_gt, pv_ts, pv_tn, ev_ald0, ev_eld0, ev_gf0_2, ev_ild1, ev_cv1_10, pz_wi_gc, pz_wi_ga, pz_wi_gn, pz_wi_gl, pz_wi_gr, pz_wi_same, pz_wi_X, pz_wl_gc, pz_wl_ga, pz_wl_gn, pz_wl_gi, pz_wl_gr, pz_wl_same, pz_wl_X, pz_wr_gc, pz_wr_ga, pz_wr_gn, pz_wr_gi, pz_wr_gl, pz_wr_same, pz_wr_X, so_0 hS, sr_0_0 hS, so_1 hS, hL]
    (try simp (disch := omega) only [nI_clamp, pz_in_nI2, pz_in_nI2L, pv_gt, nI_add, nI_addL, nI_Ladd, pk_mul, nI_mulL, nI_Lmul, pk_sub, nI_subL, nI_Lsub, nI_inc, nI_clampL, Nat.add_sub_cancel, pz_wi_else, pz_wl_else, vu_eq, vu_ne, pz_wi_gc, pz_wi_ga, pz_wi_gn, pz_wi_gl, pz_wi_gr, pz_wi_same, pz_wi_X, pz_wl_gc, pz_wl_ga, pz_wl_gn, pz_wl_gi, pz_wl_gr, pz_wl_same, pz_wl_X, pz_wr_gc, pz_wr_ga, pz_wr_gn, pz_wr_gi, pz_wr_gl, pz_wr_same, pz_wr_X, hL])
    (try refine po_gP (Nat.le_of_ble_eq_true rfl) ?_)
    refine po_call (by omega) (m_lay hS hL (by omega) (fun M1 s1 a1 a2 => ?_))
    have hS1 := hS.sm s1
    refine pw_blk (mi := mz_3) (b := bz_3_26) rfl rfl ?_
    simp only [bz_3_26, pz_cut_t, pz_cut_f, pz_cut_n, pv_gt, pv_ts, pv_tn, ev_ald0, ev_eld0, ev_gf0_2, ev_ild2, ev_cv1_10, pz_wi_gc, pz_wi_ga, pz_wi_gn, pz_wi_gl, pz_wi_gr, pz_wi_same, pz_wi_X, pz_wl_gc, pz_wl_ga, pz_wl_gn, pz_wl_gi, pz_wl_gr, pz_wl_same, pz_wl_X, pz_wr_gc, pz_wr_ga, pz_wr_gn, pz_wr_gi, pz_wr_gl, pz_wr_same, pz_wr_X, so_0 hS, sr_0_0 hS, so_1 hS, hL, so_0 hS1, sr_0_0 hS1, so_1 hS1]
    (try simp (disch := omega) only [nI_clamp, pz_in_nI2, pz_in_nI2L, pv_gt, nI_add, nI_addL, nI_Ladd, pk_mul, nI_mulL, nI_Lmul, pk_sub, nI_subL, nI_Lsub, nI_inc, nI_clampL, Nat.add_sub_cancel, pz_wi_else, pz_wl_else, vu_eq, vu_ne, pz_wi_gc, pz_wi_ga, pz_wi_gn, pz_wi_gl, pz_wi_gr, pz_wi_same, pz_wi_X, pz_wl_gc, pz_wl_ga, pz_wl_gn, pz_wl_gi, pz_wl_gr, pz_wl_same, pz_wl_X, pz_wr_gc, pz_wr_ga, pz_wr_gn, pz_wr_gi, pz_wr_gl, pz_wr_same, pz_wr_X, hL, so_0 hS1, sr_0_0 hS1, so_1 hS1])
    (try refine po_gP (Nat.le_of_ble_eq_true rfl) ?_)
    refine po_call (by omega) (m_lay (L := L + 4) hS1 (by rw [a1, vu_eq]) (by omega) (fun M2 s2 b1 b2 => ?_))
    have hS2 := hS1.sm s2
    refine pw_blk (mi := mz_3) (b := bz_3_34) rfl rfl ?_
    simp only [bz_3_34, pz_cut_t, pz_cut_f, pz_cut_n, pv_gt, pv_ts, pv_tn, ev_ald0, ev_eld0, ev_gf0_2, ev_ild3, ev_cv1_10, pz_wi_gc, pz_wi_ga, pz_wi_gn, pz_wi_gl, pz_wi_gr, pz_wi_same, pz_wi_X, pz_wl_gc, pz_wl_ga, pz_wl_gn, pz_wl_gi, pz_wl_gr, pz_wl_same, pz_wl_X, pz_wr_gc, pz_wr_ga, pz_wr_gn, pz_wr_gi, pz_wr_gl, pz_wr_same, pz_wr_X, so_0 hS, sr_0_0 hS, so_1 hS, hL, so_0 hS2, sr_0_0 hS2, so_1 hS2]
    (try simp (disch := omega) only [nI_clamp, pz_in_nI2, pz_in_nI2L, pv_gt, nI_add, nI_addL, nI_Ladd, pk_mul, nI_mulL, nI_Lmul, pk_sub, nI_subL, nI_Lsub, nI_inc, nI_clampL, Nat.add_sub_cancel, pz_wi_else, pz_wl_else, vu_eq, vu_ne, pz_wi_gc, pz_wi_ga, pz_wi_gn, pz_wi_gl, pz_wi_gr, pz_wi_same, pz_wi_X, pz_wl_gc, pz_wl_ga, pz_wl_gn, pz_wl_gi, pz_wl_gr, pz_wl_same, pz_wl_X, pz_wr_gc, pz_wr_ga, pz_wr_gn, pz_wr_gi, pz_wr_gl, pz_wr_same, pz_wr_X, hL, so_0 hS2, sr_0_0 hS2, so_1 hS2])
    (try refine po_gP (Nat.le_of_ble_eq_true rfl) ?_)
    refine po_call (by omega) (m_lay (L := L + 8) hS2 (by rw [b1, vu_eq]) (by omega) (fun M3 s3 c1 c2 => ?_))
    have hS3 := hS2.sm s3
    refine pw_blk (mi := mz_3) (b := bz_3_42) rfl rfl ?_
    simp only [bz_3_42, pz_cut_t, pz_cut_f, pz_cut_n, pv_gt, pv_ts, pv_tn, ev_ald0, ev_eld0, ev_gf0_2, ev_ild4, ev_cv1_10, pz_wi_gc, pz_wi_ga, pz_wi_gn, pz_wi_gl, pz_wi_gr, pz_wi_same, pz_wi_X, pz_wl_gc, pz_wl_ga, pz_wl_gn, pz_wl_gi, pz_wl_gr, pz_wl_same, pz_wl_X, pz_wr_gc, pz_wr_ga, pz_wr_gn, pz_wr_gi, pz_wr_gl, pz_wr_same, pz_wr_X, so_0 hS, sr_0_0 hS, so_1 hS, hL, so_0 hS3, sr_0_0 hS3, so_1 hS3]
    (try simp (disch := omega) only [nI_clamp, pz_in_nI2, pz_in_nI2L, pv_gt, nI_add, nI_addL, nI_Ladd, pk_mul, nI_mulL, nI_Lmul, pk_sub, nI_subL, nI_Lsub, nI_inc, nI_clampL, Nat.add_sub_cancel, pz_wi_else, pz_wl_else, vu_eq, vu_ne, pz_wi_gc, pz_wi_ga, pz_wi_gn, pz_wi_gl, pz_wi_gr, pz_wi_same, pz_wi_X, pz_wl_gc, pz_wl_ga, pz_wl_gn, pz_wl_gi, pz_wl_gr, pz_wl_same, pz_wl_X, pz_wr_gc, pz_wr_ga, pz_wr_gn, pz_wr_gi, pz_wr_gl, pz_wr_same, pz_wr_X, hL, so_0 hS3, sr_0_0 hS3, so_1 hS3])
    (try refine po_gP (Nat.le_of_ble_eq_true rfl) ?_)
    refine po_call (by omega) (m_lay (L := L + 12) hS3 (by rw [c1, vu_eq]) (by omega) (fun M4 s4 d1 d2 => ?_))
    have hS4 := hS3.sm s4
    refine pw_blk (mi := mz_3) (b := bz_3_51) rfl rfl ?_
    simp only [bz_3_51, pz_cut_t, pz_cut_f, pz_cut_n, pv_gt, pv_ts, pv_tn, ev_ald0, ev_eld0, ev_gf0_2, ev_ild5, ev_cv1_10, pz_wi_gc, pz_wi_ga, pz_wi_gn, pz_wi_gl, pz_wi_gr, pz_wi_same, pz_wi_X, pz_wl_gc, pz_wl_ga, pz_wl_gn, pz_wl_gi, pz_wl_gr, pz_wl_same, pz_wl_X, pz_wr_gc, pz_wr_ga, pz_wr_gn, pz_wr_gi, pz_wr_gl, pz_wr_same, pz_wr_X, so_0 hS, sr_0_0 hS, so_1 hS, hL, so_0 hS4, sr_0_0 hS4, so_1 hS4]
    (try simp (disch := omega) only [nI_clamp, pz_in_nI2, pz_in_nI2L, pv_gt, nI_add, nI_addL, nI_Ladd, pk_mul, nI_mulL, nI_Lmul, pk_sub, nI_subL, nI_Lsub, nI_inc, nI_clampL, Nat.add_sub_cancel, pz_wi_else, pz_wl_else, vu_eq, vu_ne, pz_wi_gc, pz_wi_ga, pz_wi_gn, pz_wi_gl, pz_wi_gr, pz_wi_same, pz_wi_X, pz_wl_gc, pz_wl_ga, pz_wl_gn, pz_wl_gi, pz_wl_gr, pz_wl_same, pz_wl_X, pz_wr_gc, pz_wr_ga, pz_wr_gn, pz_wr_gi, pz_wr_gl, pz_wr_same, pz_wr_X, hL, so_0 hS4, sr_0_0 hS4, so_1 hS4])
    (try refine po_gP (Nat.le_of_ble_eq_true rfl) ?_)
    refine po_call (by omega) (m_lay (L := L + 16) hS4 (by rw [d1, vu_eq]) (by omega) (fun M5 s5 e1 e2 => ?_))
    have hS5 := hS4.sm s5
    have e12 : gi M5 1 2 = nI (L + 20) := by rw [e1, vu_eq]
    refine pw_blk (mi := mz_3) (b := bz_3_60) rfl rfl ?_
    simp only [bz_3_60, pz_cut_t, pz_cut_f, pz_cut_n, pv_gt, pv_ts, pv_tn, ev_ald0, ev_eld0, ev_gf0_2, ev_gf10_0, ev_iret0, pz_wi_gc, pz_wi_ga, pz_wi_gn, pz_wi_gl, pz_wi_gr, pz_wi_same, pz_wi_X, pz_wl_gc, pz_wl_ga, pz_wl_gn, pz_wl_gi, pz_wl_gr, pz_wl_same, pz_wl_X, pz_wr_gc, pz_wr_ga, pz_wr_gn, pz_wr_gi, pz_wr_gl, pz_wr_same, pz_wr_X, so_0 hS, sr_0_0 hS, so_1 hS, hL, so_0 hS5, sr_0_0 hS5, so_1 hS5, e12]
    (try simp (disch := omega) only [nI_clamp, pz_in_nI2, pz_in_nI2L, pv_gt, nI_add, nI_addL, nI_Ladd, pk_mul, nI_mulL, nI_Lmul, pk_sub, nI_subL, nI_Lsub, nI_inc, nI_clampL, Nat.add_sub_cancel, pz_wi_else, pz_wl_else, vu_eq, vu_ne, pz_wi_gc, pz_wi_ga, pz_wi_gn, pz_wi_gl, pz_wi_gr, pz_wi_same, pz_wi_X, pz_wl_gc, pz_wl_ga, pz_wl_gn, pz_wl_gi, pz_wl_gr, pz_wl_same, pz_wl_X, pz_wr_gc, pz_wr_ga, pz_wr_gn, pz_wr_gi, pz_wr_gl, pz_wr_same, pz_wr_X, hL, so_0 hS5, sr_0_0 hS5, so_1 hS5, e12])
    refine po_ret (h M5 ((((s1.tr s2 (by decide)).tr s3 (by decide)).tr s4 (by decide)).tr s5 (by decide)) ?_ ?_)
    · rw [e1, d1, c1, b1, a1, va_up2, va_up2, va_up2, va_up2]
    · rw [e2, d2, c2, b2, a2, fed20]
  · first
    | exact absurd q0 (by decide)
    | exact absurd trivial q0
    | exact q0.elim
    | (exfalso; (try simp (disch := omega) only [nI_ltI, nI_leI, nI_eq, nI_ltL, nI_leL, nI_eqL, nI_Llt, nI_Lle, nI_Leq, nI_eqm, nI_meq, nI_ltm, nI_lem, nI_mlt, nI_mle, lg0, lgl, lgg, lgle, lgge, Int32.not_lt, Int32.not_le, Int64.not_lt, Int64.not_le, not_false_eq_true, not_true_eq_false, Decidable.not_not, ge_iff_le, gt_iff_lt] at q0) <;> omega)
    | exact absurd q0 (by with_reducible assumption)
    | exact absurd (by with_reducible assumption) q0
    | exact absurd (Decidable.not_not.mp q0) (by with_reducible assumption)
    | exact absurd (by with_reducible assumption) (Int32.not_le.mpr q0)
    | exact absurd (by with_reducible assumption) (Int32.not_lt.mpr q0)
theorem r_feed {L : Nat} {a b c e f : Int32} (hS : SH M) (hL : gi M 120 2 = nI L) (q : L + 20 ≤ 1500) (h : ∀ M', sm [120, 121] M M' → gi M' 120 = va_up (gi M 120) 2 (nI (L + 20)) → gi M' 121 = fed (gi M 121) L (fedv a b c e f) 20 → Q (some (.int (nI (L + 20))), M')) : pm d 4 [.ref 120, .int a, .int b, .int c, .int e, .int f] M Q := by
  have key : ∀ k, k ≤ 20 → ∀ M', sm [121] M M' → gi M' 121 = fed (gi M 121) L (fedv a b c e f) k → pw d 4 (18, [some (.ref 120), some (.int a), some (.int b), some (.int c), some (.int e), some (.int f), some (.int (nI k)), none], [], M') Q := by
    refine upto (fun k hk ih => ?_)
    intro M' s' e1
    have hS' := hS.sm s'
    have e12 : gi M' 120 2 = nI L := by rw [s'.i (by decide)]; exact hL
    by_cases hk20 : k = 20
    · subst hk20
      refine pw_blk (mi := mz_4) (b := bz_4_18) rfl rfl ?_
      simp only [bz_4_18, pz_cut_t, pz_cut_f, pz_cut_n, pv_gt, pv_ts, pv_tn, ev_ild6, ev_bp20, ev_ic_ge, pz_wi_gc, pz_wi_ga, pz_wi_gn, pz_wi_gl, pz_wi_gr, pz_wi_same, pz_wi_X, pz_wl_gc, pz_wl_ga, pz_wl_gn, pz_wl_gi, pz_wl_gr, pz_wl_same, pz_wl_X, pz_wr_gc, pz_wr_ga, pz_wr_gn, pz_wr_gi, pz_wr_gl, pz_wr_same, pz_wr_X, e12]
      (try simp (disch := omega) only [nI_clamp, pz_in_nI2, pz_in_nI2L, pv_gt, nI_add, nI_addL, nI_Ladd, pk_mul, nI_mulL, nI_Lmul, pk_sub, nI_subL, nI_Lsub, nI_inc, nI_clampL, Nat.add_sub_cancel, pz_wi_else, pz_wl_else, vu_eq, vu_ne, pz_wi_gc, pz_wi_ga, pz_wi_gn, pz_wi_gl, pz_wi_gr, pz_wi_same, pz_wi_X, pz_wl_gc, pz_wl_ga, pz_wl_gn, pz_wl_gi, pz_wl_gr, pz_wl_same, pz_wl_X, pz_wr_gc, pz_wr_ga, pz_wr_gn, pz_wr_gi, pz_wr_gl, pz_wr_same, pz_wr_X, e12])
      refine po_brP (fun q18 => ?_) (fun q18 => ?_)
      · skip
        (try simp (disch := omega) only [nI_ltI, nI_leI, nI_eq, nI_ltL, nI_leL, nI_eqL, nI_Llt, nI_Lle, nI_Leq, nI_eqm, nI_meq, nI_ltm, nI_lem, nI_mlt, nI_mle, lg0, lgl, lgg, lgle, lgge, Int32.not_lt, Int32.not_le, Int64.not_lt, Int64.not_le, not_false_eq_true, not_true_eq_false, Decidable.not_not, ge_iff_le, gt_iff_lt] at q18)
        refine pw_blk (mi := mz_4) (b := bz_4_105) rfl rfl ?_
        simp only [bz_4_105, pz_cut_t, pz_cut_f, pz_cut_n, pv_gt, pv_ts, pv_tn, ev_ald0, ev_eld0, ev_dupi, ev_dupr, ev_dupe, ev_gf11_0, ev_bp20, ev_iadd, ev_pf11_0, ev_iret0, pz_wi_gc, pz_wi_ga, pz_wi_gn, pz_wi_gl, pz_wi_gr, pz_wi_same, pz_wi_X, pz_wl_gc, pz_wl_ga, pz_wl_gn, pz_wl_gi, pz_wl_gr, pz_wl_same, pz_wl_X, pz_wr_gc, pz_wr_ga, pz_wr_gn, pz_wr_gi, pz_wr_gl, pz_wr_same, pz_wr_X, so_120 hS', e12]
        (try simp (disch := omega) only [nI_clamp, pz_in_nI2, pz_in_nI2L, pv_gt, nI_add, nI_addL, nI_Ladd, pk_mul, nI_mulL, nI_Lmul, pk_sub, nI_subL, nI_Lsub, nI_inc, nI_clampL, Nat.add_sub_cancel, pz_wi_else, pz_wl_else, vu_eq, vu_ne, pz_wi_gc, pz_wi_ga, pz_wi_gn, pz_wi_gl, pz_wi_gr, pz_wi_same, pz_wi_X, pz_wl_gc, pz_wl_ga, pz_wl_gn, pz_wl_gi, pz_wl_gr, pz_wl_same, pz_wl_X, pz_wr_gc, pz_wr_ga, pz_wr_gn, pz_wr_gi, pz_wr_gl, pz_wr_same, pz_wr_X, e12])
        refine po_then (fun M1 hM1 => h M1 ?_ ?_ ?_)
        · rw [hM1]
          exact sm.wi (s'.mono (by decide)) (by decide)
        · rw [hM1]
          simp (disch := omega) only [pz_wi_same, pz_wi_else]
          rw [s'.i (by decide)]
        · rw [hM1]
          simp (disch := omega) only [pz_wi_same, pz_wi_else]
          exact e1
      · first
        | exact absurd q18 (by decide)
        | exact absurd trivial q18
        | exact q18.elim
        | (exfalso; (try simp (disch := omega) only [nI_ltI, nI_leI, nI_eq, nI_ltL, nI_leL, nI_eqL, nI_Llt, nI_Lle, nI_Leq, nI_eqm, nI_meq, nI_ltm, nI_lem, nI_mlt, nI_mle, lg0, lgl, lgg, lgle, lgge, Int32.not_lt, Int32.not_le, Int64.not_lt, Int64.not_le, not_false_eq_true, not_true_eq_false, Decidable.not_not, ge_iff_le, gt_iff_lt] at q18) <;> omega)
        | exact absurd q18 (by with_reducible assumption)
        | exact absurd (by with_reducible assumption) q18
        | exact absurd (Decidable.not_not.mp q18) (by with_reducible assumption)
        | exact absurd (by with_reducible assumption) (Int32.not_le.mpr q18)
        | exact absurd (by with_reducible assumption) (Int32.not_lt.mpr q18)
    · have hk' : k < 20 := by omega
      have a3 := and3 k hk'
      have hm : 8 * (k % 4) ≤ 24 := by omega
      refine pw_blk (mi := mz_4) (b := bz_4_18) rfl rfl ?_
      simp only [bz_4_18, pz_cut_t, pz_cut_f, pz_cut_n, pv_gt, pv_ts, pv_tn, ev_ild6, ev_bp20, ev_ic_ge, pz_wi_gc, pz_wi_ga, pz_wi_gn, pz_wi_gl, pz_wi_gr, pz_wi_same, pz_wi_X, pz_wl_gc, pz_wl_ga, pz_wl_gn, pz_wl_gi, pz_wl_gr, pz_wl_same, pz_wl_X, pz_wr_gc, pz_wr_ga, pz_wr_gn, pz_wr_gi, pz_wr_gl, pz_wr_same, pz_wr_X, e12, a3]
      (try simp (disch := omega) only [nI_clamp, pz_in_nI2, pz_in_nI2L, pv_gt, nI_add, nI_addL, nI_Ladd, pk_mul, nI_mulL, nI_Lmul, pk_sub, nI_subL, nI_Lsub, nI_inc, nI_clampL, Nat.add_sub_cancel, pz_wi_else, pz_wl_else, vu_eq, vu_ne, pz_wi_gc, pz_wi_ga, pz_wi_gn, pz_wi_gl, pz_wi_gr, pz_wi_same, pz_wi_X, pz_wl_gc, pz_wl_ga, pz_wl_gn, pz_wl_gi, pz_wl_gr, pz_wl_same, pz_wl_X, pz_wr_gc, pz_wr_ga, pz_wr_gn, pz_wr_gi, pz_wr_gl, pz_wr_same, pz_wr_X, e12, a3])
      refine po_brP (fun q18 => ?_) (fun q18 => ?_)
      · first
        | exact absurd q18 (by decide)
        | exact absurd trivial q18
        | exact q18.elim
        | (exfalso; (try simp (disch := omega) only [nI_ltI, nI_leI, nI_eq, nI_ltL, nI_leL, nI_eqL, nI_Llt, nI_Lle, nI_Leq, nI_eqm, nI_meq, nI_ltm, nI_lem, nI_mlt, nI_mle, lg0, lgl, lgg, lgle, lgge, Int32.not_lt, Int32.not_le, Int64.not_lt, Int64.not_le, not_false_eq_true, not_true_eq_false, Decidable.not_not, ge_iff_le, gt_iff_lt] at q18) <;> omega)
        | exact absurd q18 (by with_reducible assumption)
        | exact absurd (by with_reducible assumption) q18
        | exact absurd (Decidable.not_not.mp q18) (by with_reducible assumption)
        | exact absurd (by with_reducible assumption) (Int32.not_le.mpr q18)
        | exact absurd (by with_reducible assumption) (Int32.not_lt.mpr q18)
      · skip
        (try simp (disch := omega) only [nI_ltI, nI_leI, nI_eq, nI_ltL, nI_leL, nI_eqL, nI_Llt, nI_Lle, nI_Leq, nI_eqm, nI_meq, nI_ltm, nI_lem, nI_mlt, nI_mle, lg0, lgl, lgg, lgle, lgge, Int32.not_lt, Int32.not_le, Int64.not_lt, Int64.not_le, not_false_eq_true, not_true_eq_false, Decidable.not_not, ge_iff_le, gt_iff_lt] at q18)
        refine pw_blk (mi := mz_4) (b := bz_4_25) rfl rfl ?_
        simp only [bz_4_25, pz_cut_t, pz_cut_f, pz_cut_n, pv_gt, pv_ts, pv_tn, ev_ild6, ev_ic4, ev_ic_ge, pz_wi_gc, pz_wi_ga, pz_wi_gn, pz_wi_gl, pz_wi_gr, pz_wi_same, pz_wi_X, pz_wl_gc, pz_wl_ga, pz_wl_gn, pz_wl_gi, pz_wl_gr, pz_wl_same, pz_wl_X, pz_wr_gc, pz_wr_ga, pz_wr_gn, pz_wr_gi, pz_wr_gl, pz_wr_same, pz_wr_X, e12, a3]
        (try simp (disch := omega) only [nI_clamp, pz_in_nI2, pz_in_nI2L, pv_gt, nI_add, nI_addL, nI_Ladd, pk_mul, nI_mulL, nI_Lmul, pk_sub, nI_subL, nI_Lsub, nI_inc, nI_clampL, Nat.add_sub_cancel, pz_wi_else, pz_wl_else, vu_eq, vu_ne, pz_wi_gc, pz_wi_ga, pz_wi_gn, pz_wi_gl, pz_wi_gr, pz_wi_same, pz_wi_X, pz_wl_gc, pz_wl_ga, pz_wl_gn, pz_wl_gi, pz_wl_gr, pz_wl_same, pz_wl_X, pz_wr_gc, pz_wr_ga, pz_wr_gn, pz_wr_gi, pz_wr_gl, pz_wr_same, pz_wr_X, e12, a3])
        refine po_brP (fun q25 => ?_) (fun q25 => ?_)
        · first
          | exact absurd q25 (by decide)
          | exact absurd trivial q25
          | exact q25.elim
          | (exfalso; (try simp (disch := omega) only [nI_ltI, nI_leI, nI_eq, nI_ltL, nI_leL, nI_eqL, nI_Llt, nI_Lle, nI_Leq, nI_eqm, nI_meq, nI_ltm, nI_lem, nI_mlt, nI_mle, lg0, lgl, lgg, lgle, lgge, Int32.not_lt, Int32.not_le, Int64.not_lt, Int64.not_le, not_false_eq_true, not_true_eq_false, Decidable.not_not, ge_iff_le, gt_iff_lt] at q25) <;> omega)
          | exact absurd q25 (by with_reducible assumption)
          | exact absurd (by with_reducible assumption) q25
          | exact absurd (Decidable.not_not.mp q25) (by with_reducible assumption)
          | exact absurd (by with_reducible assumption) (Int32.not_le.mpr q25)
          | exact absurd (by with_reducible assumption) (Int32.not_lt.mpr q25)
          | skip
            (try simp (disch := omega) only [nI_ltI, nI_leI, nI_eq, nI_ltL, nI_leL, nI_eqL, nI_Llt, nI_Lle, nI_Leq, nI_eqm, nI_meq, nI_ltm, nI_lem, nI_mlt, nI_mle, lg0, lgl, lgg, lgle, lgge, Int32.not_lt, Int32.not_le, Int64.not_lt, Int64.not_le, not_false_eq_true, not_true_eq_false, Decidable.not_not, ge_iff_le, gt_iff_lt] at q25)
            refine pw_blk (mi := mz_4) (b := bz_4_35) rfl rfl ?_
            simp only [bz_4_35, pz_cut_t, pz_cut_f, pz_cut_n, pv_gt, pv_ts, pv_tn, ev_ild6, ev_bp8, ev_ic_ge, pz_wi_gc, pz_wi_ga, pz_wi_gn, pz_wi_gl, pz_wi_gr, pz_wi_same, pz_wi_X, pz_wl_gc, pz_wl_ga, pz_wl_gn, pz_wl_gi, pz_wl_gr, pz_wl_same, pz_wl_X, pz_wr_gc, pz_wr_ga, pz_wr_gn, pz_wr_gi, pz_wr_gl, pz_wr_same, pz_wr_X, e12, a3]
            (try simp (disch := omega) only [nI_clamp, pz_in_nI2, pz_in_nI2L, pv_gt, nI_add, nI_addL, nI_Ladd, pk_mul, nI_mulL, nI_Lmul, pk_sub, nI_subL, nI_Lsub, nI_inc, nI_clampL, Nat.add_sub_cancel, pz_wi_else, pz_wl_else, vu_eq, vu_ne, pz_wi_gc, pz_wi_ga, pz_wi_gn, pz_wi_gl, pz_wi_gr, pz_wi_same, pz_wi_X, pz_wl_gc, pz_wl_ga, pz_wl_gn, pz_wl_gi, pz_wl_gr, pz_wl_same, pz_wl_X, pz_wr_gc, pz_wr_ga, pz_wr_gn, pz_wr_gi, pz_wr_gl, pz_wr_same, pz_wr_X, e12, a3])
            refine po_brP (fun q35 => ?_) (fun q35 => ?_)
            · first
              | exact absurd q35 (by decide)
              | exact absurd trivial q35
              | exact q35.elim
              | (exfalso; (try simp (disch := omega) only [nI_ltI, nI_leI, nI_eq, nI_ltL, nI_leL, nI_eqL, nI_Llt, nI_Lle, nI_Leq, nI_eqm, nI_meq, nI_ltm, nI_lem, nI_mlt, nI_mle, lg0, lgl, lgg, lgle, lgge, Int32.not_lt, Int32.not_le, Int64.not_lt, Int64.not_le, not_false_eq_true, not_true_eq_false, Decidable.not_not, ge_iff_le, gt_iff_lt] at q35) <;> omega)
              | exact absurd q35 (by with_reducible assumption)
              | exact absurd (by with_reducible assumption) q35
              | exact absurd (Decidable.not_not.mp q35) (by with_reducible assumption)
              | exact absurd (by with_reducible assumption) (Int32.not_le.mpr q35)
              | exact absurd (by with_reducible assumption) (Int32.not_lt.mpr q35)
              | skip
                (try simp (disch := omega) only [nI_ltI, nI_leI, nI_eq, nI_ltL, nI_leL, nI_eqL, nI_Llt, nI_Lle, nI_Leq, nI_eqm, nI_meq, nI_ltm, nI_lem, nI_mlt, nI_mle, lg0, lgl, lgg, lgle, lgge, Int32.not_lt, Int32.not_le, Int64.not_lt, Int64.not_le, not_false_eq_true, not_true_eq_false, Decidable.not_not, ge_iff_le, gt_iff_lt] at q35)
                refine pw_blk (mi := mz_4) (b := bz_4_46) rfl rfl ?_
                simp only [bz_4_46, pz_cut_t, pz_cut_f, pz_cut_n, pv_gt, pv_ts, pv_tn, ev_ild6, ev_bp12, ev_ic_ge, pz_wi_gc, pz_wi_ga, pz_wi_gn, pz_wi_gl, pz_wi_gr, pz_wi_same, pz_wi_X, pz_wl_gc, pz_wl_ga, pz_wl_gn, pz_wl_gi, pz_wl_gr, pz_wl_same, pz_wl_X, pz_wr_gc, pz_wr_ga, pz_wr_gn, pz_wr_gi, pz_wr_gl, pz_wr_same, pz_wr_X, e12, a3]
                (try simp (disch := omega) only [nI_clamp, pz_in_nI2, pz_in_nI2L, pv_gt, nI_add, nI_addL, nI_Ladd, pk_mul, nI_mulL, nI_Lmul, pk_sub, nI_subL, nI_Lsub, nI_inc, nI_clampL, Nat.add_sub_cancel, pz_wi_else, pz_wl_else, vu_eq, vu_ne, pz_wi_gc, pz_wi_ga, pz_wi_gn, pz_wi_gl, pz_wi_gr, pz_wi_same, pz_wi_X, pz_wl_gc, pz_wl_ga, pz_wl_gn, pz_wl_gi, pz_wl_gr, pz_wl_same, pz_wl_X, pz_wr_gc, pz_wr_ga, pz_wr_gn, pz_wr_gi, pz_wr_gl, pz_wr_same, pz_wr_X, e12, a3])
                refine po_brP (fun q46 => ?_) (fun q46 => ?_)
                · first
                  | exact absurd q46 (by decide)
                  | exact absurd trivial q46
                  | exact q46.elim
                  | (exfalso; (try simp (disch := omega) only [nI_ltI, nI_leI, nI_eq, nI_ltL, nI_leL, nI_eqL, nI_Llt, nI_Lle, nI_Leq, nI_eqm, nI_meq, nI_ltm, nI_lem, nI_mlt, nI_mle, lg0, lgl, lgg, lgle, lgge, Int32.not_lt, Int32.not_le, Int64.not_lt, Int64.not_le, not_false_eq_true, not_true_eq_false, Decidable.not_not, ge_iff_le, gt_iff_lt] at q46) <;> omega)
                  | exact absurd q46 (by with_reducible assumption)
                  | exact absurd (by with_reducible assumption) q46
                  | exact absurd (Decidable.not_not.mp q46) (by with_reducible assumption)
                  | exact absurd (by with_reducible assumption) (Int32.not_le.mpr q46)
                  | exact absurd (by with_reducible assumption) (Int32.not_lt.mpr q46)
                  | skip
                    (try simp (disch := omega) only [nI_ltI, nI_leI, nI_eq, nI_ltL, nI_leL, nI_eqL, nI_Llt, nI_Lle, nI_Leq, nI_eqm, nI_meq, nI_ltm, nI_lem, nI_mlt, nI_mle, lg0, lgl, lgg, lgle, lgge, Int32.not_lt, Int32.not_le, Int64.not_lt, Int64.not_le, not_false_eq_true, not_true_eq_false, Decidable.not_not, ge_iff_le, gt_iff_lt] at q46)
                    refine pw_blk (mi := mz_4) (b := bz_4_57) rfl rfl ?_
                    simp only [bz_4_57, pz_cut_t, pz_cut_f, pz_cut_n, pv_gt, pv_ts, pv_tn, ev_ild6, ev_bp16, ev_ic_ge, pz_wi_gc, pz_wi_ga, pz_wi_gn, pz_wi_gl, pz_wi_gr, pz_wi_same, pz_wi_X, pz_wl_gc, pz_wl_ga, pz_wl_gn, pz_wl_gi, pz_wl_gr, pz_wl_same, pz_wl_X, pz_wr_gc, pz_wr_ga, pz_wr_gn, pz_wr_gi, pz_wr_gl, pz_wr_same, pz_wr_X, e12, a3]
                    (try simp (disch := omega) only [nI_clamp, pz_in_nI2, pz_in_nI2L, pv_gt, nI_add, nI_addL, nI_Ladd, pk_mul, nI_mulL, nI_Lmul, pk_sub, nI_subL, nI_Lsub, nI_inc, nI_clampL, Nat.add_sub_cancel, pz_wi_else, pz_wl_else, vu_eq, vu_ne, pz_wi_gc, pz_wi_ga, pz_wi_gn, pz_wi_gl, pz_wi_gr, pz_wi_same, pz_wi_X, pz_wl_gc, pz_wl_ga, pz_wl_gn, pz_wl_gi, pz_wl_gr, pz_wl_same, pz_wl_X, pz_wr_gc, pz_wr_ga, pz_wr_gn, pz_wr_gi, pz_wr_gl, pz_wr_same, pz_wr_X, e12, a3])
                    refine po_brP (fun q57 => ?_) (fun q57 => ?_)
                    · first
                      | exact absurd q57 (by decide)
                      | exact absurd trivial q57
                      | exact q57.elim
                      | (exfalso; (try simp (disch := omega) only [nI_ltI, nI_leI, nI_eq, nI_ltL, nI_leL, nI_eqL, nI_Llt, nI_Lle, nI_Leq, nI_eqm, nI_meq, nI_ltm, nI_lem, nI_mlt, nI_mle, lg0, lgl, lgg, lgle, lgge, Int32.not_lt, Int32.not_le, Int64.not_lt, Int64.not_le, not_false_eq_true, not_true_eq_false, Decidable.not_not, ge_iff_le, gt_iff_lt] at q57) <;> omega)
                      | exact absurd q57 (by with_reducible assumption)
                      | exact absurd (by with_reducible assumption) q57
                      | exact absurd (Decidable.not_not.mp q57) (by with_reducible assumption)
                      | exact absurd (by with_reducible assumption) (Int32.not_le.mpr q57)
                      | exact absurd (by with_reducible assumption) (Int32.not_lt.mpr q57)
                      | skip
                        (try simp (disch := omega) only [nI_ltI, nI_leI, nI_eq, nI_ltL, nI_leL, nI_eqL, nI_Llt, nI_Lle, nI_Leq, nI_eqm, nI_meq, nI_ltm, nI_lem, nI_mlt, nI_mle, lg0, lgl, lgg, lgle, lgge, Int32.not_lt, Int32.not_le, Int64.not_lt, Int64.not_le, not_false_eq_true, not_true_eq_false, Decidable.not_not, ge_iff_le, gt_iff_lt] at q57)
                        refine pw_blk (mi := mz_4) (b := bz_4_69) rfl rfl ?_
                        simp only [bz_4_69, pz_cut_t, pz_cut_f, pz_cut_n, pv_gt, pv_ts, pv_tn, ev_ild5, ev_nil, pz_wi_gc, pz_wi_ga, pz_wi_gn, pz_wi_gl, pz_wi_gr, pz_wi_same, pz_wi_X, pz_wl_gc, pz_wl_ga, pz_wl_gn, pz_wl_gi, pz_wl_gr, pz_wl_same, pz_wl_X, pz_wr_gc, pz_wr_ga, pz_wr_gn, pz_wr_gi, pz_wr_gl, pz_wr_same, pz_wr_X, e12, a3]
                        (try simp (disch := omega) only [nI_clamp, pz_in_nI2, pz_in_nI2L, pv_gt, nI_add, nI_addL, nI_Ladd, pk_mul, nI_mulL, nI_Lmul, pk_sub, nI_subL, nI_Lsub, nI_inc, nI_clampL, Nat.add_sub_cancel, pz_wi_else, pz_wl_else, vu_eq, vu_ne, pz_wi_gc, pz_wi_ga, pz_wi_gn, pz_wi_gl, pz_wi_gr, pz_wi_same, pz_wi_X, pz_wl_gc, pz_wl_ga, pz_wl_gn, pz_wl_gi, pz_wl_gr, pz_wl_same, pz_wl_X, pz_wr_gc, pz_wr_ga, pz_wr_gn, pz_wr_gi, pz_wr_gl, pz_wr_same, pz_wr_X, e12, a3])
                        refine po_go ?_
                        refine pw_blk (mi := mz_4) (b := bz_4_71) rfl rfl ?_
                        simp only [bz_4_71, pz_cut_t, pz_cut_f, pz_cut_n, pv_gt, pv_ts, pv_tn, ev_ist7n, ev_ist7i, ev_ist7r, ev_ist7e, ev_ist7l, ev_ald0, ev_eld0, ev_gf11_2, ev_gf11_0, ev_ild6, ev_iadd, ev_ild7, ev_bp24, ev_bp8, ev_ic3, ev_iand, ev_imul, ev_isub, ev_ishrN, ev_i2bN, ea_bast, ea_zast, ev_inc6n, ev_inc6i, ev_inc6r, ev_inc6e, ev_goto, pz_wi_gc, pz_wi_ga, pz_wi_gn, pz_wi_gl, pz_wi_gr, pz_wi_same, pz_wi_X, pz_wl_gc, pz_wl_ga, pz_wl_gn, pz_wl_gi, pz_wl_gr, pz_wl_same, pz_wl_X, pz_wr_gc, pz_wr_ga, pz_wr_gn, pz_wr_gi, pz_wr_gl, pz_wr_same, pz_wr_X, so_120 hS', sr_120_0 hS', sa_121 hS', sn_121 hS', e12, a3]
                        (try simp (disch := omega) only [nI_clamp, pz_in_nI2, pz_in_nI2L, pv_gt, nI_add, nI_addL, nI_Ladd, pk_mul, nI_mulL, nI_Lmul, pk_sub, nI_subL, nI_Lsub, nI_inc, nI_clampL, Nat.add_sub_cancel, pz_wi_else, pz_wl_else, vu_eq, vu_ne, pz_wi_gc, pz_wi_ga, pz_wi_gn, pz_wi_gl, pz_wi_gr, pz_wi_same, pz_wi_X, pz_wl_gc, pz_wl_ga, pz_wl_gn, pz_wl_gi, pz_wl_gr, pz_wl_same, pz_wl_X, pz_wr_gc, pz_wr_ga, pz_wr_gn, pz_wr_gi, pz_wr_gl, pz_wr_same, pz_wr_X, e12, a3])
                        (try refine po_gI (by first | exact pz_in_nI (by omega) (by decide) | decide | assumption) ?_)
                        refine po_go ?_
                        refine pw_cut (mi := mz_4) (b := bz_4_18) rfl rfl (ih (k + 1) (by omega) (by omega) _ (sm.wi s' (by decide)) ?_) rfl
                        simp (disch := omega) only [pz_wi_same, pz_wi_else, fed, fedv, if_pos, if_neg]
                        rw [e1]
                        unfold byr
                        rfl
                    · first
                      | exact absurd q57 (by decide)
                      | exact absurd trivial q57
                      | exact q57.elim
                      | (exfalso; (try simp (disch := omega) only [nI_ltI, nI_leI, nI_eq, nI_ltL, nI_leL, nI_eqL, nI_Llt, nI_Lle, nI_Leq, nI_eqm, nI_meq, nI_ltm, nI_lem, nI_mlt, nI_mle, lg0, lgl, lgg, lgle, lgge, Int32.not_lt, Int32.not_le, Int64.not_lt, Int64.not_le, not_false_eq_true, not_true_eq_false, Decidable.not_not, ge_iff_le, gt_iff_lt] at q57) <;> omega)
                      | exact absurd q57 (by with_reducible assumption)
                      | exact absurd (by with_reducible assumption) q57
                      | exact absurd (Decidable.not_not.mp q57) (by with_reducible assumption)
                      | exact absurd (by with_reducible assumption) (Int32.not_le.mpr q57)
                      | exact absurd (by with_reducible assumption) (Int32.not_lt.mpr q57)
                      | skip
                        (try simp (disch := omega) only [nI_ltI, nI_leI, nI_eq, nI_ltL, nI_leL, nI_eqL, nI_Llt, nI_Lle, nI_Leq, nI_eqm, nI_meq, nI_ltm, nI_lem, nI_mlt, nI_mle, lg0, lgl, lgg, lgle, lgge, Int32.not_lt, Int32.not_le, Int64.not_lt, Int64.not_le, not_false_eq_true, not_true_eq_false, Decidable.not_not, ge_iff_le, gt_iff_lt] at q57)
                        refine pw_blk (mi := mz_4) (b := bz_4_64) rfl rfl ?_
                        simp only [bz_4_64, pz_cut_t, pz_cut_f, pz_cut_n, pv_gt, pv_ts, pv_tn, ev_ild4, ev_goto, pz_wi_gc, pz_wi_ga, pz_wi_gn, pz_wi_gl, pz_wi_gr, pz_wi_same, pz_wi_X, pz_wl_gc, pz_wl_ga, pz_wl_gn, pz_wl_gi, pz_wl_gr, pz_wl_same, pz_wl_X, pz_wr_gc, pz_wr_ga, pz_wr_gn, pz_wr_gi, pz_wr_gl, pz_wr_same, pz_wr_X, e12, a3]
                        (try simp (disch := omega) only [nI_clamp, pz_in_nI2, pz_in_nI2L, pv_gt, nI_add, nI_addL, nI_Ladd, pk_mul, nI_mulL, nI_Lmul, pk_sub, nI_subL, nI_Lsub, nI_inc, nI_clampL, Nat.add_sub_cancel, pz_wi_else, pz_wl_else, vu_eq, vu_ne, pz_wi_gc, pz_wi_ga, pz_wi_gn, pz_wi_gl, pz_wi_gr, pz_wi_same, pz_wi_X, pz_wl_gc, pz_wl_ga, pz_wl_gn, pz_wl_gi, pz_wl_gr, pz_wl_same, pz_wl_X, pz_wr_gc, pz_wr_ga, pz_wr_gn, pz_wr_gi, pz_wr_gl, pz_wr_same, pz_wr_X, e12, a3])
                        refine po_go ?_
                        refine pw_blk (mi := mz_4) (b := bz_4_71) rfl rfl ?_
                        simp only [bz_4_71, pz_cut_t, pz_cut_f, pz_cut_n, pv_gt, pv_ts, pv_tn, ev_ist7n, ev_ist7i, ev_ist7r, ev_ist7e, ev_ist7l, ev_ald0, ev_eld0, ev_gf11_2, ev_gf11_0, ev_ild6, ev_iadd, ev_ild7, ev_bp24, ev_bp8, ev_ic3, ev_iand, ev_imul, ev_isub, ev_ishrN, ev_i2bN, ea_bast, ea_zast, ev_inc6n, ev_inc6i, ev_inc6r, ev_inc6e, ev_goto, pz_wi_gc, pz_wi_ga, pz_wi_gn, pz_wi_gl, pz_wi_gr, pz_wi_same, pz_wi_X, pz_wl_gc, pz_wl_ga, pz_wl_gn, pz_wl_gi, pz_wl_gr, pz_wl_same, pz_wl_X, pz_wr_gc, pz_wr_ga, pz_wr_gn, pz_wr_gi, pz_wr_gl, pz_wr_same, pz_wr_X, so_120 hS', sr_120_0 hS', sa_121 hS', sn_121 hS', e12, a3]
                        (try simp (disch := omega) only [nI_clamp, pz_in_nI2, pz_in_nI2L, pv_gt, nI_add, nI_addL, nI_Ladd, pk_mul, nI_mulL, nI_Lmul, pk_sub, nI_subL, nI_Lsub, nI_inc, nI_clampL, Nat.add_sub_cancel, pz_wi_else, pz_wl_else, vu_eq, vu_ne, pz_wi_gc, pz_wi_ga, pz_wi_gn, pz_wi_gl, pz_wi_gr, pz_wi_same, pz_wi_X, pz_wl_gc, pz_wl_ga, pz_wl_gn, pz_wl_gi, pz_wl_gr, pz_wl_same, pz_wl_X, pz_wr_gc, pz_wr_ga, pz_wr_gn, pz_wr_gi, pz_wr_gl, pz_wr_same, pz_wr_X, e12, a3])
                        (try refine po_gI (by first | exact pz_in_nI (by omega) (by decide) | decide | assumption) ?_)
                        refine po_go ?_
                        refine pw_cut (mi := mz_4) (b := bz_4_18) rfl rfl (ih (k + 1) (by omega) (by omega) _ (sm.wi s' (by decide)) ?_) rfl
                        simp (disch := omega) only [pz_wi_same, pz_wi_else, fed, fedv, if_pos, if_neg]
                        rw [e1]
                        unfold byr
                        rfl
                · first
                  | exact absurd q46 (by decide)
                  | exact absurd trivial q46
                  | exact q46.elim
                  | (exfalso; (try simp (disch := omega) only [nI_ltI, nI_leI, nI_eq, nI_ltL, nI_leL, nI_eqL, nI_Llt, nI_Lle, nI_Leq, nI_eqm, nI_meq, nI_ltm, nI_lem, nI_mlt, nI_mle, lg0, lgl, lgg, lgle, lgge, Int32.not_lt, Int32.not_le, Int64.not_lt, Int64.not_le, not_false_eq_true, not_true_eq_false, Decidable.not_not, ge_iff_le, gt_iff_lt] at q46) <;> omega)
                  | exact absurd q46 (by with_reducible assumption)
                  | exact absurd (by with_reducible assumption) q46
                  | exact absurd (Decidable.not_not.mp q46) (by with_reducible assumption)
                  | exact absurd (by with_reducible assumption) (Int32.not_le.mpr q46)
                  | exact absurd (by with_reducible assumption) (Int32.not_lt.mpr q46)
                  | skip
                    (try simp (disch := omega) only [nI_ltI, nI_leI, nI_eq, nI_ltL, nI_leL, nI_eqL, nI_Llt, nI_Lle, nI_Leq, nI_eqm, nI_meq, nI_ltm, nI_lem, nI_mlt, nI_mle, lg0, lgl, lgg, lgle, lgge, Int32.not_lt, Int32.not_le, Int64.not_lt, Int64.not_le, not_false_eq_true, not_true_eq_false, Decidable.not_not, ge_iff_le, gt_iff_lt] at q46)
                    refine pw_blk (mi := mz_4) (b := bz_4_53) rfl rfl ?_
                    simp only [bz_4_53, pz_cut_t, pz_cut_f, pz_cut_n, pv_gt, pv_ts, pv_tn, ev_ild3, ev_goto, pz_wi_gc, pz_wi_ga, pz_wi_gn, pz_wi_gl, pz_wi_gr, pz_wi_same, pz_wi_X, pz_wl_gc, pz_wl_ga, pz_wl_gn, pz_wl_gi, pz_wl_gr, pz_wl_same, pz_wl_X, pz_wr_gc, pz_wr_ga, pz_wr_gn, pz_wr_gi, pz_wr_gl, pz_wr_same, pz_wr_X, e12, a3]
                    (try simp (disch := omega) only [nI_clamp, pz_in_nI2, pz_in_nI2L, pv_gt, nI_add, nI_addL, nI_Ladd, pk_mul, nI_mulL, nI_Lmul, pk_sub, nI_subL, nI_Lsub, nI_inc, nI_clampL, Nat.add_sub_cancel, pz_wi_else, pz_wl_else, vu_eq, vu_ne, pz_wi_gc, pz_wi_ga, pz_wi_gn, pz_wi_gl, pz_wi_gr, pz_wi_same, pz_wi_X, pz_wl_gc, pz_wl_ga, pz_wl_gn, pz_wl_gi, pz_wl_gr, pz_wl_same, pz_wl_X, pz_wr_gc, pz_wr_ga, pz_wr_gn, pz_wr_gi, pz_wr_gl, pz_wr_same, pz_wr_X, e12, a3])
                    refine po_go ?_
                    refine pw_blk (mi := mz_4) (b := bz_4_71) rfl rfl ?_
                    simp only [bz_4_71, pz_cut_t, pz_cut_f, pz_cut_n, pv_gt, pv_ts, pv_tn, ev_ist7n, ev_ist7i, ev_ist7r, ev_ist7e, ev_ist7l, ev_ald0, ev_eld0, ev_gf11_2, ev_gf11_0, ev_ild6, ev_iadd, ev_ild7, ev_bp24, ev_bp8, ev_ic3, ev_iand, ev_imul, ev_isub, ev_ishrN, ev_i2bN, ea_bast, ea_zast, ev_inc6n, ev_inc6i, ev_inc6r, ev_inc6e, ev_goto, pz_wi_gc, pz_wi_ga, pz_wi_gn, pz_wi_gl, pz_wi_gr, pz_wi_same, pz_wi_X, pz_wl_gc, pz_wl_ga, pz_wl_gn, pz_wl_gi, pz_wl_gr, pz_wl_same, pz_wl_X, pz_wr_gc, pz_wr_ga, pz_wr_gn, pz_wr_gi, pz_wr_gl, pz_wr_same, pz_wr_X, so_120 hS', sr_120_0 hS', sa_121 hS', sn_121 hS', e12, a3]
                    (try simp (disch := omega) only [nI_clamp, pz_in_nI2, pz_in_nI2L, pv_gt, nI_add, nI_addL, nI_Ladd, pk_mul, nI_mulL, nI_Lmul, pk_sub, nI_subL, nI_Lsub, nI_inc, nI_clampL, Nat.add_sub_cancel, pz_wi_else, pz_wl_else, vu_eq, vu_ne, pz_wi_gc, pz_wi_ga, pz_wi_gn, pz_wi_gl, pz_wi_gr, pz_wi_same, pz_wi_X, pz_wl_gc, pz_wl_ga, pz_wl_gn, pz_wl_gi, pz_wl_gr, pz_wl_same, pz_wl_X, pz_wr_gc, pz_wr_ga, pz_wr_gn, pz_wr_gi, pz_wr_gl, pz_wr_same, pz_wr_X, e12, a3])
                    (try refine po_gI (by first | exact pz_in_nI (by omega) (by decide) | decide | assumption) ?_)
                    refine po_go ?_
                    refine pw_cut (mi := mz_4) (b := bz_4_18) rfl rfl (ih (k + 1) (by omega) (by omega) _ (sm.wi s' (by decide)) ?_) rfl
                    simp (disch := omega) only [pz_wi_same, pz_wi_else, fed, fedv, if_pos, if_neg]
                    rw [e1]
                    unfold byr
                    rfl
            · first
              | exact absurd q35 (by decide)
              | exact absurd trivial q35
              | exact q35.elim
              | (exfalso; (try simp (disch := omega) only [nI_ltI, nI_leI, nI_eq, nI_ltL, nI_leL, nI_eqL, nI_Llt, nI_Lle, nI_Leq, nI_eqm, nI_meq, nI_ltm, nI_lem, nI_mlt, nI_mle, lg0, lgl, lgg, lgle, lgge, Int32.not_lt, Int32.not_le, Int64.not_lt, Int64.not_le, not_false_eq_true, not_true_eq_false, Decidable.not_not, ge_iff_le, gt_iff_lt] at q35) <;> omega)
              | exact absurd q35 (by with_reducible assumption)
              | exact absurd (by with_reducible assumption) q35
              | exact absurd (Decidable.not_not.mp q35) (by with_reducible assumption)
              | exact absurd (by with_reducible assumption) (Int32.not_le.mpr q35)
              | exact absurd (by with_reducible assumption) (Int32.not_lt.mpr q35)
              | skip
                (try simp (disch := omega) only [nI_ltI, nI_leI, nI_eq, nI_ltL, nI_leL, nI_eqL, nI_Llt, nI_Lle, nI_Leq, nI_eqm, nI_meq, nI_ltm, nI_lem, nI_mlt, nI_mle, lg0, lgl, lgg, lgle, lgge, Int32.not_lt, Int32.not_le, Int64.not_lt, Int64.not_le, not_false_eq_true, not_true_eq_false, Decidable.not_not, ge_iff_le, gt_iff_lt] at q35)
                refine pw_blk (mi := mz_4) (b := bz_4_42) rfl rfl ?_
                simp only [bz_4_42, pz_cut_t, pz_cut_f, pz_cut_n, pv_gt, pv_ts, pv_tn, ev_ild2, ev_goto, pz_wi_gc, pz_wi_ga, pz_wi_gn, pz_wi_gl, pz_wi_gr, pz_wi_same, pz_wi_X, pz_wl_gc, pz_wl_ga, pz_wl_gn, pz_wl_gi, pz_wl_gr, pz_wl_same, pz_wl_X, pz_wr_gc, pz_wr_ga, pz_wr_gn, pz_wr_gi, pz_wr_gl, pz_wr_same, pz_wr_X, e12, a3]
                (try simp (disch := omega) only [nI_clamp, pz_in_nI2, pz_in_nI2L, pv_gt, nI_add, nI_addL, nI_Ladd, pk_mul, nI_mulL, nI_Lmul, pk_sub, nI_subL, nI_Lsub, nI_inc, nI_clampL, Nat.add_sub_cancel, pz_wi_else, pz_wl_else, vu_eq, vu_ne, pz_wi_gc, pz_wi_ga, pz_wi_gn, pz_wi_gl, pz_wi_gr, pz_wi_same, pz_wi_X, pz_wl_gc, pz_wl_ga, pz_wl_gn, pz_wl_gi, pz_wl_gr, pz_wl_same, pz_wl_X, pz_wr_gc, pz_wr_ga, pz_wr_gn, pz_wr_gi, pz_wr_gl, pz_wr_same, pz_wr_X, e12, a3])
                refine po_go ?_
                refine pw_blk (mi := mz_4) (b := bz_4_71) rfl rfl ?_
                simp only [bz_4_71, pz_cut_t, pz_cut_f, pz_cut_n, pv_gt, pv_ts, pv_tn, ev_ist7n, ev_ist7i, ev_ist7r, ev_ist7e, ev_ist7l, ev_ald0, ev_eld0, ev_gf11_2, ev_gf11_0, ev_ild6, ev_iadd, ev_ild7, ev_bp24, ev_bp8, ev_ic3, ev_iand, ev_imul, ev_isub, ev_ishrN, ev_i2bN, ea_bast, ea_zast, ev_inc6n, ev_inc6i, ev_inc6r, ev_inc6e, ev_goto, pz_wi_gc, pz_wi_ga, pz_wi_gn, pz_wi_gl, pz_wi_gr, pz_wi_same, pz_wi_X, pz_wl_gc, pz_wl_ga, pz_wl_gn, pz_wl_gi, pz_wl_gr, pz_wl_same, pz_wl_X, pz_wr_gc, pz_wr_ga, pz_wr_gn, pz_wr_gi, pz_wr_gl, pz_wr_same, pz_wr_X, so_120 hS', sr_120_0 hS', sa_121 hS', sn_121 hS', e12, a3]
                (try simp (disch := omega) only [nI_clamp, pz_in_nI2, pz_in_nI2L, pv_gt, nI_add, nI_addL, nI_Ladd, pk_mul, nI_mulL, nI_Lmul, pk_sub, nI_subL, nI_Lsub, nI_inc, nI_clampL, Nat.add_sub_cancel, pz_wi_else, pz_wl_else, vu_eq, vu_ne, pz_wi_gc, pz_wi_ga, pz_wi_gn, pz_wi_gl, pz_wi_gr, pz_wi_same, pz_wi_X, pz_wl_gc, pz_wl_ga, pz_wl_gn, pz_wl_gi, pz_wl_gr, pz_wl_same, pz_wl_X, pz_wr_gc, pz_wr_ga, pz_wr_gn, pz_wr_gi, pz_wr_gl, pz_wr_same, pz_wr_X, e12, a3])
                (try refine po_gI (by first | exact pz_in_nI (by omega) (by decide) | decide | assumption) ?_)
                refine po_go ?_
                refine pw_cut (mi := mz_4) (b := bz_4_18) rfl rfl (ih (k + 1) (by omega) (by omega) _ (sm.wi s' (by decide)) ?_) rfl
                simp (disch := omega) only [pz_wi_same, pz_wi_else, fed, fedv, if_pos, if_neg]
                rw [e1]
                unfold byr
                rfl
        · first
          | exact absurd q25 (by decide)
          | exact absurd trivial q25
          | exact q25.elim
          | (exfalso; (try simp (disch := omega) only [nI_ltI, nI_leI, nI_eq, nI_ltL, nI_leL, nI_eqL, nI_Llt, nI_Lle, nI_Leq, nI_eqm, nI_meq, nI_ltm, nI_lem, nI_mlt, nI_mle, lg0, lgl, lgg, lgle, lgge, Int32.not_lt, Int32.not_le, Int64.not_lt, Int64.not_le, not_false_eq_true, not_true_eq_false, Decidable.not_not, ge_iff_le, gt_iff_lt] at q25) <;> omega)
          | exact absurd q25 (by with_reducible assumption)
          | exact absurd (by with_reducible assumption) q25
          | exact absurd (Decidable.not_not.mp q25) (by with_reducible assumption)
          | exact absurd (by with_reducible assumption) (Int32.not_le.mpr q25)
          | exact absurd (by with_reducible assumption) (Int32.not_lt.mpr q25)
          | skip
            (try simp (disch := omega) only [nI_ltI, nI_leI, nI_eq, nI_ltL, nI_leL, nI_eqL, nI_Llt, nI_Lle, nI_Leq, nI_eqm, nI_meq, nI_ltm, nI_lem, nI_mlt, nI_mle, lg0, lgl, lgg, lgle, lgge, Int32.not_lt, Int32.not_le, Int64.not_lt, Int64.not_le, not_false_eq_true, not_true_eq_false, Decidable.not_not, ge_iff_le, gt_iff_lt] at q25)
            refine pw_blk (mi := mz_4) (b := bz_4_31) rfl rfl ?_
            simp only [bz_4_31, pz_cut_t, pz_cut_f, pz_cut_n, pv_gt, pv_ts, pv_tn, ev_ild1, ev_goto, pz_wi_gc, pz_wi_ga, pz_wi_gn, pz_wi_gl, pz_wi_gr, pz_wi_same, pz_wi_X, pz_wl_gc, pz_wl_ga, pz_wl_gn, pz_wl_gi, pz_wl_gr, pz_wl_same, pz_wl_X, pz_wr_gc, pz_wr_ga, pz_wr_gn, pz_wr_gi, pz_wr_gl, pz_wr_same, pz_wr_X, e12, a3]
            (try simp (disch := omega) only [nI_clamp, pz_in_nI2, pz_in_nI2L, pv_gt, nI_add, nI_addL, nI_Ladd, pk_mul, nI_mulL, nI_Lmul, pk_sub, nI_subL, nI_Lsub, nI_inc, nI_clampL, Nat.add_sub_cancel, pz_wi_else, pz_wl_else, vu_eq, vu_ne, pz_wi_gc, pz_wi_ga, pz_wi_gn, pz_wi_gl, pz_wi_gr, pz_wi_same, pz_wi_X, pz_wl_gc, pz_wl_ga, pz_wl_gn, pz_wl_gi, pz_wl_gr, pz_wl_same, pz_wl_X, pz_wr_gc, pz_wr_ga, pz_wr_gn, pz_wr_gi, pz_wr_gl, pz_wr_same, pz_wr_X, e12, a3])
            refine po_go ?_
            refine pw_blk (mi := mz_4) (b := bz_4_71) rfl rfl ?_
            simp only [bz_4_71, pz_cut_t, pz_cut_f, pz_cut_n, pv_gt, pv_ts, pv_tn, ev_ist7n, ev_ist7i, ev_ist7r, ev_ist7e, ev_ist7l, ev_ald0, ev_eld0, ev_gf11_2, ev_gf11_0, ev_ild6, ev_iadd, ev_ild7, ev_bp24, ev_bp8, ev_ic3, ev_iand, ev_imul, ev_isub, ev_ishrN, ev_i2bN, ea_bast, ea_zast, ev_inc6n, ev_inc6i, ev_inc6r, ev_inc6e, ev_goto, pz_wi_gc, pz_wi_ga, pz_wi_gn, pz_wi_gl, pz_wi_gr, pz_wi_same, pz_wi_X, pz_wl_gc, pz_wl_ga, pz_wl_gn, pz_wl_gi, pz_wl_gr, pz_wl_same, pz_wl_X, pz_wr_gc, pz_wr_ga, pz_wr_gn, pz_wr_gi, pz_wr_gl, pz_wr_same, pz_wr_X, so_120 hS', sr_120_0 hS', sa_121 hS', sn_121 hS', e12, a3]
            (try simp (disch := omega) only [nI_clamp, pz_in_nI2, pz_in_nI2L, pv_gt, nI_add, nI_addL, nI_Ladd, pk_mul, nI_mulL, nI_Lmul, pk_sub, nI_subL, nI_Lsub, nI_inc, nI_clampL, Nat.add_sub_cancel, pz_wi_else, pz_wl_else, vu_eq, vu_ne, pz_wi_gc, pz_wi_ga, pz_wi_gn, pz_wi_gl, pz_wi_gr, pz_wi_same, pz_wi_X, pz_wl_gc, pz_wl_ga, pz_wl_gn, pz_wl_gi, pz_wl_gr, pz_wl_same, pz_wl_X, pz_wr_gc, pz_wr_ga, pz_wr_gn, pz_wr_gi, pz_wr_gl, pz_wr_same, pz_wr_X, e12, a3])
            (try refine po_gI (by first | exact pz_in_nI (by omega) (by decide) | decide | assumption) ?_)
            refine po_go ?_
            refine pw_cut (mi := mz_4) (b := bz_4_18) rfl rfl (ih (k + 1) (by omega) (by omega) _ (sm.wi s' (by decide)) ?_) rfl
            simp (disch := omega) only [pz_wi_same, pz_wi_else, fed, fedv, if_pos, if_neg]
            rw [e1]
            unfold byr
            rfl
  refine pm_ent (L := [some (.ref 120), some (.int a), some (.int b), some (.int c), some (.int e), some (.int f), none, none]) rfl (Nat.le_of_ble_eq_true rfl) ?_
  refine pw_blk (mi := mz_4) (b := bz_4_0) rfl rfl ?_
  simp only [bz_4_0, pz_cut_t, pz_cut_f, pz_cut_n, pv_gt, pv_ts, pv_tn, ev_ald0, ev_eld0, ev_gf11_0, ev_bp20, ev_iadd, ev_sp1500, ev_ic_le, pz_wi_gc, pz_wi_ga, pz_wi_gn, pz_wi_gl, pz_wi_gr, pz_wi_same, pz_wi_X, pz_wl_gc, pz_wl_ga, pz_wl_gn, pz_wl_gi, pz_wl_gr, pz_wl_same, pz_wl_X, pz_wr_gc, pz_wr_ga, pz_wr_gn, pz_wr_gi, pz_wr_gl, pz_wr_same, pz_wr_X, so_120 hS, hL]
  (try simp (disch := omega) only [nI_clamp, pz_in_nI2, pz_in_nI2L, pv_gt, nI_add, nI_addL, nI_Ladd, pk_mul, nI_mulL, nI_Lmul, pk_sub, nI_subL, nI_Lsub, nI_inc, nI_clampL, Nat.add_sub_cancel, pz_wi_else, pz_wl_else, vu_eq, vu_ne, pz_wi_gc, pz_wi_ga, pz_wi_gn, pz_wi_gl, pz_wi_gr, pz_wi_same, pz_wi_X, pz_wl_gc, pz_wl_ga, pz_wl_gn, pz_wl_gi, pz_wl_gr, pz_wl_same, pz_wl_X, pz_wr_gc, pz_wr_ga, pz_wr_gn, pz_wr_gi, pz_wr_gl, pz_wr_same, pz_wr_X, hL])
  refine po_brP (fun q0 => ?_) (fun q0 => ?_)
  · skip
    (try simp (disch := omega) only [nI_ltI, nI_leI, nI_eq, nI_ltL, nI_leL, nI_eqL, nI_Llt, nI_Lle, nI_Leq, nI_eqm, nI_meq, nI_ltm, nI_lem, nI_mlt, nI_mle, lg0, lgl, lgg, lgle, lgge, Int32.not_lt, Int32.not_le, Int64.not_lt, Int64.not_le, not_false_eq_true, not_true_eq_false, Decidable.not_not, ge_iff_le, gt_iff_lt] at q0)
    refine pw_blk (mi := mz_4) (b := bz_4_15) rfl rfl ?_
    simp only [bz_4_15, pz_cut_t, pz_cut_f, pz_cut_n, pv_gt, pv_ts, pv_tn, ev_ic0, ev_ist6n, ev_ist6i, ev_ist6r, ev_ist6e, ev_ist6l, ev_nil, pz_wi_gc, pz_wi_ga, pz_wi_gn, pz_wi_gl, pz_wi_gr, pz_wi_same, pz_wi_X, pz_wl_gc, pz_wl_ga, pz_wl_gn, pz_wl_gi, pz_wl_gr, pz_wl_same, pz_wl_X, pz_wr_gc, pz_wr_ga, pz_wr_gn, pz_wr_gi, pz_wr_gl, pz_wr_same, pz_wr_X, hL]
    (try simp (disch := omega) only [nI_clamp, pz_in_nI2, pz_in_nI2L, pv_gt, nI_add, nI_addL, nI_Ladd, pk_mul, nI_mulL, nI_Lmul, pk_sub, nI_subL, nI_Lsub, nI_inc, nI_clampL, Nat.add_sub_cancel, pz_wi_else, pz_wl_else, vu_eq, vu_ne, pz_wi_gc, pz_wi_ga, pz_wi_gn, pz_wi_gl, pz_wi_gr, pz_wi_same, pz_wi_X, pz_wl_gc, pz_wl_ga, pz_wl_gn, pz_wl_gi, pz_wl_gr, pz_wl_same, pz_wl_X, pz_wr_gc, pz_wr_ga, pz_wr_gn, pz_wr_gi, pz_wr_gl, pz_wr_same, pz_wr_X, hL])
    refine po_go ?_
    exact key 0 (by omega) M sm.rf rfl
  · first
    | exact absurd q0 (by decide)
    | exact absurd trivial q0
    | exact q0.elim
    | (exfalso; (try simp (disch := omega) only [nI_ltI, nI_leI, nI_eq, nI_ltL, nI_leL, nI_eqL, nI_Llt, nI_Lle, nI_Leq, nI_eqm, nI_meq, nI_ltm, nI_lem, nI_mlt, nI_mle, lg0, lgl, lgg, lgle, lgge, Int32.not_lt, Int32.not_le, Int64.not_lt, Int64.not_le, not_false_eq_true, not_true_eq_false, Decidable.not_not, ge_iff_le, gt_iff_lt] at q0) <;> omega)
    | exact absurd q0 (by with_reducible assumption)
    | exact absurd (by with_reducible assumption) q0
    | exact absurd (Decidable.not_not.mp q0) (by with_reducible assumption)
    | exact absurd (by with_reducible assumption) (Int32.not_le.mpr q0)
    | exact absurd (by with_reducible assumption) (Int32.not_lt.mpr q0)
theorem RX.len {r D E y t L nd np nr L' : Nat} (hX : RX M r D E y t L nd np nr) (e : ag [0, 33, 50, 51, 81, 87, 93] M M') (e1 : gi M' 1 = va_up (gi M 1) 2 (nI L')) (e120 : gi M' 120 = va_up (gi M 120) 2 (nI L')) (hy : L' ≤ 1500) : RX M' r D E y t L' nd np nr := by
  obtain ⟨x0, xD, xy, xw, xt, xL, xf, xd, xp, xr, xl⟩ := hX
  unfold RX
  simp only [(e 0 (by decide)).1, (e 50 (by decide)).1, (e 51 (by decide)).1, (e 33 (by decide)).1, (e 87 (by decide)).1, (e 81 (by decide)).1, (e 93 (by decide)).1, e1, e120]
  rw [vk (j := 38) (k := 2) (by decide), vk (j := 46) (k := 2) (by decide), vu_eq, vu_eq, vk (j := 47) (k := 2) (by decide), vk (j := 91) (k := 2) (by decide), vk (j := 4) (k := 2) (by decide), vk (j := 5) (k := 2) (by decide), vk (j := 11) (k := 2) (by decide), vk (j := 12) (k := 2) (by decide), vk (j := 89) (k := 2) (by decide), vk (j := 90) (k := 2) (by decide), vk (j := 77) (k := 2) (by decide), vk (j := 78) (k := 2) (by decide), vk (j := 51) (k := 2) (by decide)]
  refine ⟨x0, xD, xy, xw, xt, ⟨rfl, rfl, hy⟩, xf, xd, xp, xr, ?_⟩
  rcases xl with h | ⟨h1, h2, h3⟩
  · exact Or.inl h
  · refine Or.inr ⟨h1, h2, fun i hi => ?_⟩
    rw [vk (by omega)]
    exact h3 i hi
theorem RA.tap {r B H P N D E y t L nd np nr L' : Nat} (hA : RA M r B H P N D E y t L nd np nr) (s : sm [1, 2, 120, 121] M M') (hX : RX M' r D E y t L' nd np nr) (hT : RTb M') : RL M' := by
  have sg := s.sg hA.S
  obtain ⟨-, a1, a2, a3, a4, a5, a6, a7, a8, ⟨c0, c1, c2⟩, a9, a10⟩ := hA
  exact RA.L (r := r) (B := B) (H := H) (P := P) (N := N) (D := D) (E := E) (y := y) (t := t) (L := L') (nd := nd) (np := np) (nr := nr) ⟨sg.S, hX, a2.fr (sg.ag (by decide +kernel)), a3.fr (sg.ag (by decide +kernel)), a4.fr (sg.ag (by decide +kernel)), a5.fr (sg.ag (by decide +kernel)), a6.fr (sg.ag (by decide +kernel)), hT, a8.fr (sg.ag (by decide +kernel)), ⟨c0.fr (sg.ag (by decide +kernel)), c1.fr (sg.ag (by decide +kernel)), c2.fr (sg.ag (by decide +kernel))⟩, a9.fr (sg.ag (by decide +kernel)), a10.fr (sg.ag (by decide +kernel))⟩
theorem op_feed (hd : 50 ≤ d) (hL : RL M) {a b c e f : Int32} : pm d 3 [.ref 0, .int a, .int b, .int c, .int e, .int f] M (fun r1 => pm d 4 [.ref 120, .int a, .int b, .int c, .int e, .int f] r1.2 (fun r2 => r1.1 = r2.1 ∧ RL r2.2)) := by
  obtain ⟨r, B, H, P, N, D, E, y, t, L, nd, np, nr, hA⟩ := id hL
  have hS := hA.S
  have hO := hA.ok
  have hbk := hA.bk
  have hbank : gi M 120 38 = nI r := hA.X.1
  have hB := hA.B24
  have b1 := hA.b1
  have b2 := hA.b2
  have hr := hA.r1
  have b3 : gi M 123 r = nI B := hA.sc.2.1.2.1
  obtain ⟨g, fd, cr, wk, sv, er, g1, g5, fd2, cr1, wk1, sv2, er2, l0, l1, l2, l3, l4, l5⟩ := hA.sc.2.2.1.1
  have k0 : gi M 127 r = nI g := hA.sc.2.2.1.2.1.symm.trans l0
  have k1 : gi M 128 r = nI fd := hA.sc.2.2.1.2.2.1.symm.trans l1
  have k2 : gi M 129 r = nI cr := hA.sc.2.2.1.2.2.2.1.symm.trans l2
  have k3 : gi M 130 r = nI wk := hA.sc.2.2.1.2.2.2.2.1.symm.trans l3
  have k4 : gi M 131 r = nI sv := hA.sc.2.2.1.2.2.2.2.2.1.symm.trans l4
  have k5 : gi M 132 r = nI er := hA.sc.2.2.1.2.2.2.2.2.2.symm.trans l5
  obtain ⟨-, ⟨xD, xE⟩, ⟨xy1, xy2, xy3⟩, xw, ⟨xt1, xt2, xt3⟩, ⟨xL1, xL2, xL3⟩, ⟨xf1, xf2⟩, ⟨xd1, xd2, xd3⟩, ⟨xp1, xp2, xp3⟩, ⟨xr1, xr2, xr3, xr4⟩, xl⟩ := id hA.X
  obtain ⟨⟨mh, me, mo⟩, ⟨ml, mu⟩, ⟨gh, ge, go⟩, ⟨hD, hE⟩, dD, dE⟩ := id hA.m
  have tb : RTb M := hA.2.2.2.2.2.2.2.1
  by_cases q : L + 20 ≤ 1500
  · refine m_feed (by omega) hS xL1 q (fun M1 s1 a1 a2 => ?_)
    obtain ⟨hS1, hO1, hbk1, hnb1, eR⟩ := ref1 (s1.sg hS) (by decide) hO
    refine r_feed hS1 (by rw [(eR 120 (by decide)).1]; exact xL2) q (fun M2 s2 f1 f2 => ?_)
    have s := (s1.mono (K' := [1, 2, 120, 121]) (by decide)).tr s2 (by decide)
    have g2 : gi M2 2 = fed (gi M 2) L (fedv a b c e f) 20 := by rw [s2.i (by decide)]; exact a2
    refine ⟨rfl, hA.tap s (hA.X.len ((s.sg hS).ag (by decide +kernel)) ?_ ?_ q) ⟨?_, ?_⟩⟩
    · rw [s2.i (by decide)]; exact a1
    · rw [f1, (eR 120 (by decide)).1]
    · rw [g2, f2, (eR 121 (by decide)).1, tb.1]
    · rw [g2]
      exact fed_b tb.2 20
  · skip
    refine pm_ent (L := [some (.ref 0), some (.int a), some (.int b), some (.int c), some (.int e), some (.int f)]) rfl (Nat.le_of_ble_eq_true rfl) ?_
    refine pw_blk (mi := mz_3) (b := bz_3_0) rfl rfl ?_
    simp only [bz_3_0, pz_cut_t, pz_cut_f, pz_cut_n, pv_gt, pv_ts, pv_tn, ev_ald0, ev_eld0, ev_gf0_2, ev_gf10_0, ev_bp20, ev_iadd, ev_sp1500, ev_ic_le, pz_wi_gc, pz_wi_ga, pz_wi_gn, pz_wi_gl, pz_wi_gr, pz_wi_same, pz_wi_X, pz_wl_gc, pz_wl_ga, pz_wl_gn, pz_wl_gi, pz_wl_gr, pz_wl_same, pz_wl_X, pz_wr_gc, pz_wr_ga, pz_wr_gn, pz_wr_gi, pz_wr_gl, pz_wr_same, pz_wr_X, so_0 hS, sr_0_0 hS, so_1 hS, xL1]
    (try simp (disch := omega) only [nI_clamp, pz_in_nI2, pz_in_nI2L, pv_gt, nI_add, nI_addL, nI_Ladd, pk_mul, nI_mulL, nI_Lmul, pk_sub, nI_subL, nI_Lsub, nI_inc, nI_clampL, Nat.add_sub_cancel, pz_wi_else, pz_wl_else, vu_eq, vu_ne, pz_wi_gc, pz_wi_ga, pz_wi_gn, pz_wi_gl, pz_wi_gr, pz_wi_same, pz_wi_X, pz_wl_gc, pz_wl_ga, pz_wl_gn, pz_wl_gi, pz_wl_gr, pz_wl_same, pz_wl_X, pz_wr_gc, pz_wr_ga, pz_wr_gn, pz_wr_gi, pz_wr_gl, pz_wr_same, pz_wr_X, xL1])
    refine po_brP (fun q0 => ?_) (fun q0 => ?_)
    · first
      | exact absurd q0 (by decide)
      | exact absurd trivial q0
      | exact q0.elim
      | (exfalso; (try simp (disch := omega) only [nI_ltI, nI_leI, nI_eq, nI_ltL, nI_leL, nI_eqL, nI_Llt, nI_Lle, nI_Leq, nI_eqm, nI_meq, nI_ltm, nI_lem, nI_mlt, nI_mle, lg0, lgl, lgg, lgle, lgge, Int32.not_lt, Int32.not_le, Int64.not_lt, Int64.not_le, not_false_eq_true, not_true_eq_false, Decidable.not_not, ge_iff_le, gt_iff_lt] at q0) <;> omega)
      | exact absurd q0 (by with_reducible assumption)
      | exact absurd (by with_reducible assumption) q0
      | exact absurd (Decidable.not_not.mp q0) (by with_reducible assumption)
      | exact absurd (by with_reducible assumption) (Int32.not_le.mpr q0)
      | exact absurd (by with_reducible assumption) (Int32.not_lt.mpr q0)
    · skip
      (try simp (disch := omega) only [nI_ltI, nI_leI, nI_eq, nI_ltL, nI_leL, nI_eqL, nI_Llt, nI_Lle, nI_Leq, nI_eqm, nI_meq, nI_ltm, nI_lem, nI_mlt, nI_mle, lg0, lgl, lgg, lgle, lgge, Int32.not_lt, Int32.not_le, Int64.not_lt, Int64.not_le, not_false_eq_true, not_true_eq_false, Decidable.not_not, ge_iff_le, gt_iff_lt] at q0)
      refine pw_blk (mi := mz_3) (b := bz_3_16) rfl rfl ?_
      simp only [bz_3_16, pz_cut_t, pz_cut_f, pz_cut_n, pv_gt, pv_ts, pv_tn, ev_icm1, ev_iret0, pz_wi_gc, pz_wi_ga, pz_wi_gn, pz_wi_gl, pz_wi_gr, pz_wi_same, pz_wi_X, pz_wl_gc, pz_wl_ga, pz_wl_gn, pz_wl_gi, pz_wl_gr, pz_wl_same, pz_wl_X, pz_wr_gc, pz_wr_ga, pz_wr_gn, pz_wr_gi, pz_wr_gl, pz_wr_same, pz_wr_X, xL1]
      (try simp (disch := omega) only [nI_clamp, pz_in_nI2, pz_in_nI2L, pv_gt, nI_add, nI_addL, nI_Ladd, pk_mul, nI_mulL, nI_Lmul, pk_sub, nI_subL, nI_Lsub, nI_inc, nI_clampL, Nat.add_sub_cancel, pz_wi_else, pz_wl_else, vu_eq, vu_ne, pz_wi_gc, pz_wi_ga, pz_wi_gn, pz_wi_gl, pz_wi_gr, pz_wi_same, pz_wi_X, pz_wl_gc, pz_wl_ga, pz_wl_gn, pz_wl_gi, pz_wl_gr, pz_wl_same, pz_wl_X, pz_wr_gc, pz_wr_ga, pz_wr_gn, pz_wr_gi, pz_wr_gl, pz_wr_same, pz_wr_X, xL1])
      refine po_ret ?_
      refine pm_ent (L := [some (.ref 120), some (.int a), some (.int b), some (.int c), some (.int e), some (.int f), none, none]) rfl (Nat.le_of_ble_eq_true rfl) ?_
      refine pw_blk (mi := mz_4) (b := bz_4_0) rfl rfl ?_
      simp only [bz_4_0, pz_cut_t, pz_cut_f, pz_cut_n, pv_gt, pv_ts, pv_tn, ev_ald0, ev_eld0, ev_gf11_0, ev_bp20, ev_iadd, ev_sp1500, ev_ic_le, pz_wi_gc, pz_wi_ga, pz_wi_gn, pz_wi_gl, pz_wi_gr, pz_wi_same, pz_wi_X, pz_wl_gc, pz_wl_ga, pz_wl_gn, pz_wl_gi, pz_wl_gr, pz_wl_same, pz_wl_X, pz_wr_gc, pz_wr_ga, pz_wr_gn, pz_wr_gi, pz_wr_gl, pz_wr_same, pz_wr_X, so_120 hS, xL2]
      (try simp (disch := omega) only [nI_clamp, pz_in_nI2, pz_in_nI2L, pv_gt, nI_add, nI_addL, nI_Ladd, pk_mul, nI_mulL, nI_Lmul, pk_sub, nI_subL, nI_Lsub, nI_inc, nI_clampL, Nat.add_sub_cancel, pz_wi_else, pz_wl_else, vu_eq, vu_ne, pz_wi_gc, pz_wi_ga, pz_wi_gn, pz_wi_gl, pz_wi_gr, pz_wi_same, pz_wi_X, pz_wl_gc, pz_wl_ga, pz_wl_gn, pz_wl_gi, pz_wl_gr, pz_wl_same, pz_wl_X, pz_wr_gc, pz_wr_ga, pz_wr_gn, pz_wr_gi, pz_wr_gl, pz_wr_same, pz_wr_X, xL2])
      refine po_brP (fun p0 => ?_) (fun p0 => ?_)
      · first
        | exact absurd p0 (by decide)
        | exact absurd trivial p0
        | exact p0.elim
        | (exfalso; (try simp (disch := omega) only [nI_ltI, nI_leI, nI_eq, nI_ltL, nI_leL, nI_eqL, nI_Llt, nI_Lle, nI_Leq, nI_eqm, nI_meq, nI_ltm, nI_lem, nI_mlt, nI_mle, lg0, lgl, lgg, lgle, lgge, Int32.not_lt, Int32.not_le, Int64.not_lt, Int64.not_le, not_false_eq_true, not_true_eq_false, Decidable.not_not, ge_iff_le, gt_iff_lt] at p0) <;> omega)
        | exact absurd p0 (by with_reducible assumption)
        | exact absurd (by with_reducible assumption) p0
        | exact absurd (Decidable.not_not.mp p0) (by with_reducible assumption)
        | exact absurd (by with_reducible assumption) (Int32.not_le.mpr p0)
        | exact absurd (by with_reducible assumption) (Int32.not_lt.mpr p0)
      · skip
        (try simp (disch := omega) only [nI_ltI, nI_leI, nI_eq, nI_ltL, nI_leL, nI_eqL, nI_Llt, nI_Lle, nI_Leq, nI_eqm, nI_meq, nI_ltm, nI_lem, nI_mlt, nI_mle, lg0, lgl, lgg, lgle, lgge, Int32.not_lt, Int32.not_le, Int64.not_lt, Int64.not_le, not_false_eq_true, not_true_eq_false, Decidable.not_not, ge_iff_le, gt_iff_lt] at p0)
        refine pw_blk (mi := mz_4) (b := bz_4_13) rfl rfl ?_
        simp only [bz_4_13, pz_cut_t, pz_cut_f, pz_cut_n, pv_gt, pv_ts, pv_tn, ev_icm1, ev_iret0, pz_wi_gc, pz_wi_ga, pz_wi_gn, pz_wi_gl, pz_wi_gr, pz_wi_same, pz_wi_X, pz_wl_gc, pz_wl_ga, pz_wl_gn, pz_wl_gi, pz_wl_gr, pz_wl_same, pz_wl_X, pz_wr_gc, pz_wr_ga, pz_wr_gn, pz_wr_gi, pz_wr_gl, pz_wr_same, pz_wr_X, xL2]
        (try simp (disch := omega) only [nI_clamp, pz_in_nI2, pz_in_nI2L, pv_gt, nI_add, nI_addL, nI_Ladd, pk_mul, nI_mulL, nI_Lmul, pk_sub, nI_subL, nI_Lsub, nI_inc, nI_clampL, Nat.add_sub_cancel, pz_wi_else, pz_wl_else, vu_eq, vu_ne, pz_wi_gc, pz_wi_ga, pz_wi_gn, pz_wi_gl, pz_wi_gr, pz_wi_same, pz_wi_X, pz_wl_gc, pz_wl_ga, pz_wl_gn, pz_wl_gi, pz_wl_gr, pz_wl_same, pz_wl_X, pz_wr_gc, pz_wr_ga, pz_wr_gn, pz_wr_gi, pz_wr_gl, pz_wr_same, pz_wr_X, xL2])
        exact po_ret ⟨rfl, hL⟩
end FEED
