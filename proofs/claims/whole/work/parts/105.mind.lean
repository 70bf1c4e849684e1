/-! ===== what is held and known: rows of three ===== -/
section MINDT
variable {d : Nat} {M M' : pz_M} {Q : Option Value × pz_M → Prop}
abbrev T3 : Type := Int32 × Int32 × Int32
def gT (g y : Int32) (x : T3) : T3 := (f_grown x.1 g, x.2.1, if 0 < f_grown x.1 g ∧ x.2.2 = -1 then y else x.2.2)
def sT (g y : Int32) (x : T3) : T3 := ((gT (g / 2) y x).1, f_grown x.2.1 g, (gT (g / 2) y x).2.2)
def upT (R : Nat → T3) (b : Nat) (v : T3) : Nat → T3 := fun i => if i = b then v else R i
def mapR (a c : Nat) (φ : T3 → T3) (R : Nat → T3) : Nat → T3 := fun i => if a ≤ i ∧ i < c then φ (R i) else R i
/-- the Mind o has these rows (hold, head, learnt) -/
def isT (M : pz_M) (o : Nat) (R : Nat → T3) : Prop := gi M (o + 1) = (fun i => (R i).1) ∧ gi M (o + 2) = (fun i => (R i).2.1) ∧ gi M (o + 4) = (fun i => (R i).2.2)
def isTR (M : pz_M) (R : Nat → T3) : Prop := gi M 149 = (fun i => (R i).1) ∧ gi M 150 = (fun i => (R i).2.1) ∧ gi M 152 = (fun i => (R i).2.2)
theorem mapR_0 {a : Nat} {φ : T3 → T3} {R : Nat → T3} : mapR a a φ R = R := by
  funext i
  unfold mapR
  rw [if_neg (by omega)]
theorem mapR_at {a c : Nat} {φ : T3 → T3} {R : Nat → T3} : mapR a c φ R c = R c := by
  unfold mapR
  rw [if_neg (by omega)]
theorem mapR_s {a c : Nat} {φ : T3 → T3} {R : Nat → T3} (h : a ≤ c) : upT (mapR a c φ R) c (φ (R c)) = mapR a (c + 1) φ R := by
  funext i
  unfold upT mapR
  by_cases q : i = c
  · subst q
    rw [if_pos rfl, if_pos (by omega)]
  · rw [if_neg q]
    by_cases q2 : a ≤ i ∧ i < c
    · rw [if_pos q2, if_pos (by omega)]
    · rw [if_neg q2, if_neg (by omega)]
theorem mapR_comp {a c : Nat} {φ ψ : T3 → T3} {R : Nat → T3} : mapR a c φ (mapR a c ψ R) = mapR a c (fun x => φ (ψ x)) R := by
  funext i
  unfold mapR
  by_cases q2 : a ≤ i ∧ i < c
  · rw [if_pos q2, if_pos q2, if_pos q2]
  · rw [if_neg q2, if_neg q2, if_neg q2]
theorem upT_at {R : Nat → T3} {b : Nat} {v : T3} : upT R b v b = v := if_pos rfl
theorem upT_up {R : Nat → T3} {b : Nat} {v w : T3} : upT (upT R b v) b w = upT R b w := by
  funext i
  unfold upT
  split <;> rfl
theorem upT_1 {R : Nat → T3} {b : Nat} {v : T3} : (fun i => (upT R b v i).1) = va_up (fun i => (R i).1) b v.1 := by
  funext i
  unfold upT va_up
  split <;> rfl
theorem upT_2 {R : Nat → T3} {b : Nat} {v : T3} : (fun i => (upT R b v i).2.1) = va_up (fun i => (R i).2.1) b v.2.1 := by
  funext i
  unfold upT va_up
  split <;> rfl
theorem upT_3 {R : Nat → T3} {b : Nat} {v : T3} : (fun i => (upT R b v i).2.2) = va_up (fun i => (R i).2.2) b v.2.2 := by
  funext i
  unfold upT va_up
  split <;> rfl
theorem va_self {α : Type} {f : Nat → α} {k : Nat} : va_up f k (f k) = f := by
  funext i
  unfold va_up
  split
  · rename_i h
    rw [h]
  · rfl
def okT (R : Nat → T3) : Prop := ∀ i, isUn (R i).2.2
theorem okT.up {R : Nat → T3} (h : okT R) {b : Nat} {v : T3} (hv : isUn v.2.2) : okT (upT R b v) := fun i => by
  unfold upT
  split
  · exact hv
  · exact h i
theorem isUn_gT {g y : Int32} {x : T3} (hy : 0 ≤ y) (h : isUn x.2.2) : isUn (gT g y x).2.2 := by
  unfold gT
  simp only
  split
  · exact Or.inr hy
  · exact h
theorem isUn_sT {g y : Int32} {x : T3} (hy : 0 ≤ y) (h : isUn x.2.2) : isUn (sT g y x).2.2 := isUn_gT hy h
theorem okT.map {R : Nat → T3} (h : okT R) {a c : Nat} {φ : T3 → T3} (hv : ∀ x : T3, isUn x.2.2 → isUn (φ x).2.2) : okT (mapR a c φ R) := fun i => by
  unfold mapR
  split
  · exact hv _ (h i)
  · exact h i
theorem isT.sm {o : Nat} {R : Nat → T3} {K : List Nat} (h : isT M o R) (s : sm K M M') (h1 : o + 1 ∉ K) (h2 : o + 2 ∉ K) (h4 : o + 4 ∉ K) : isT M' o R := by
  unfold isT
  rw [s.i h1, s.i h2, s.i h4]
  exact h
theorem isTR.sm {R : Nat → T3} {K : List Nat} (h : isTR M R) (s : sm K M M') (h1 : 149 ∉ K) (h2 : 150 ∉ K) (h4 : 152 ∉ K) : isTR M' R := by
  unfold isTR
  rw [s.i h1, s.i h2, s.i h4]
  exact h
theorem m_gHT (hd : 1 ≤ d) {o b : Nat} {g : Int32} {R : Nat → T3} (hM : isMind M o) (hT : isT M o R) (hb : b < 24) (h : ∀ M', sm [o + 1, o + 4] M M' → isT M' o (upT R b (gT g (gi M o 6) (R b))) → Q (none, M')) : pm d 206 [.ref o, .int (nI b), .int g] M Q := by
  refine m_growHold hd hM hb ?_
  obtain ⟨t1, t2, t3⟩ := hT
  unfold f_growHold
  split
  · rename_i hc
    refine h _ (sm.wi (sm.wi sm.rf (by simp)) (by simp)) ?_
    unfold isT
    simp (disch := omega) only [pz_wi_same, pz_wi_else, upT_1, upT_2, upT_3]
    rw [t1, t3] at hc
    simp only [t1, t2, t3, gT, if_pos hc, va_self]
    trivial
  · rename_i hc
    refine h _ (sm.wi sm.rf (by simp)) ?_
    unfold isT
    simp (disch := omega) only [pz_wi_same, pz_wi_else, upT_1, upT_2, upT_3]
    rw [t1, t3] at hc
    simp only [t1, t2, t3, gT, if_neg hc]
    rw [va_self (f := fun i => (R i).2.1), va_self (f := fun i => (R i).2.2)]
    trivial
theorem r_gHT (hd : 1 ≤ d) {b : Nat} {g : Int32} {R : Nat → T3} (hS : SH M) (hT : isTR M R) (hu : isUn (R b).2.2) (hb : b < 24) (h : ∀ M', sm [149, 152] M M' → isTR M' (upT R b (gT g (gi M 120 46) (R b))) → Q (none, M')) : pm d 204 [.ref 120, .int (nI b), .int g] M Q := by
  obtain ⟨t1, t2, t3⟩ := hT
  have t1' : gi M 149 b = (R b).1 := congrFun t1 b
  have t3' : gi M 152 b = (R b).2.2 := congrFun t3 b
  have up : ∀ M2, sm [149, 152] M M2 → gi M2 149 = va_up (gi M 149) b (f_grown (R b).1 g) → gi M2 152 = (if 0 < f_grown (R b).1 g ∧ (R b).2.2 = -1 then va_up (gi M 152) b (gi M 120 46) else gi M 152) → Q (none, M2) := by
    intro M2 s e1 e2
    refine h M2 s ?_
    unfold isTR
    rw [s.i (k := 150) (by decide), e1, e2, upT_1, upT_2, upT_3, t1, t2, t3]
    unfold gT
    refine ⟨rfl, ?_, ?_⟩
    · exact (va_self (f := fun i => (R i).2.1)).symm
    · simp only
      split
      · rfl
      · exact (va_self (f := fun i => (R i).2.2)).symm
  refine pm_ent (L := [some (.ref 120), some (.int (nI b)), some (.int g)]) rfl (Nat.le_of_ble_eq_true rfl) ?_
  refine pw_blk (mi := mz_204) (b := bz_204_0) rfl rfl ?_
  simp only [bz_204_0, pz_cut_t, pz_cut_f, pz_cut_n, pv_gt, pv_ts, pv_tn, ev_ald0, ev_eld0, ev_gf11_2, ev_ild1, ea_iald, ev_ild2, ev_cs2, pz_wi_gc, pz_wi_ga, pz_wi_gn, pz_wi_gl, pz_wi_gr, pz_wi_same, pz_wi_X, pz_wl_gc, pz_wl_ga, pz_wl_gn, pz_wl_gi, pz_wl_gr, pz_wl_same, pz_wl_X, pz_wr_gc, pz_wr_ga, pz_wr_gn, pz_wr_gi, pz_wr_gl, pz_wr_same, pz_wr_X, so_120 hS, sr_120_40 hS, sa_149 hS, sn_149 hS, t1', sa_152 hS, sn_152 hS]
  (try simp (disch := omega) only [nI_clamp, pz_in_nI2, pz_in_nI2L, pv_gt, nI_add, nI_addL, nI_Ladd, pk_mul, nI_mulL, nI_Lmul, pk_sub, nI_subL, nI_Lsub, nI_inc, nI_clampL, Nat.add_sub_cancel, pz_wi_else, pz_wl_else, vu_eq, vu_ne, pz_wi_gc, pz_wi_ga, pz_wi_gn, pz_wi_gl, pz_wi_gr, pz_wi_same, pz_wi_X, pz_wl_gc, pz_wl_ga, pz_wl_gn, pz_wl_gi, pz_wl_gr, pz_wl_same, pz_wl_X, pz_wr_gc, pz_wr_ga, pz_wr_gn, pz_wr_gi, pz_wr_gl, pz_wr_same, pz_wr_X, t1'])
  (try refine po_gI (by first | exact pz_in_nI (by omega) (by decide) | decide | assumption) ?_)
  (try refine po_gP (Nat.le_of_ble_eq_true rfl) ?_)
  refine po_call (by omega) (r_grown ?_)
  refine pw_blk (mi := mz_204) (b := bz_204_15) rfl rfl ?_
  simp only [bz_204_15, pz_cut_t, pz_cut_f, pz_cut_n, pv_gt, pv_ts, pv_tn, ea_iast, ev_ald0, ev_eld0, ev_gf11_2, ev_ild1, ea_iald, ev_ifle, pz_wi_gc, pz_wi_ga, pz_wi_gn, pz_wi_gl, pz_wi_gr, pz_wi_same, pz_wi_X, pz_wl_gc, pz_wl_ga, pz_wl_gn, pz_wl_gi, pz_wl_gr, pz_wl_same, pz_wl_X, pz_wr_gc, pz_wr_ga, pz_wr_gn, pz_wr_gi, pz_wr_gl, pz_wr_same, pz_wr_X, so_120 hS, sr_120_40 hS, sa_149 hS, sn_149 hS, t1', sa_152 hS, sn_152 hS]
  (try simp (disch := omega) only [nI_clamp, pz_in_nI2, pz_in_nI2L, pv_gt, nI_add, nI_addL, nI_Ladd, pk_mul, nI_mulL, nI_Lmul, pk_sub, nI_subL, nI_Lsub, nI_inc, nI_clampL, Nat.add_sub_cancel, pz_wi_else, pz_wl_else, vu_eq, vu_ne, pz_wi_gc, pz_wi_ga, pz_wi_gn, pz_wi_gl, pz_wi_gr, pz_wi_same, pz_wi_X, pz_wl_gc, pz_wl_ga, pz_wl_gn, pz_wl_gi, pz_wl_gr, pz_wl_same, pz_wl_X, pz_wr_gc, pz_wr_ga, pz_wr_gn, pz_wr_gi, pz_wr_gl, pz_wr_same, pz_wr_X, t1'])
  (try refine po_gI (by first | exact pz_in_nI (by omega) (by decide) | decide | assumption) ?_)
  (try refine po_gI (by first | exact pz_in_nI (by omega) (by decide) | decide | assumption) ?_)
  refine po_brP (fun q15 => ?_) (fun q15 => ?_)
  · first
    | exact absurd q15 (by decide)
    | exact absurd trivial q15
    | exact q15.elim
    | (exfalso; (try simp (disch := omega) only [nI_ltI, nI_leI, nI_eq, nI_ltL, nI_leL, nI_eqL, nI_Llt, nI_Lle, nI_Leq, nI_eqm, nI_meq, nI_ltm, nI_lem, nI_mlt, nI_mle, lg0, lgl, lgg, lgle, lgge, Int32.not_lt, Int32.not_le, Int64.not_lt, Int64.not_le, not_false_eq_true, not_true_eq_false, Decidable.not_not, ge_iff_le, gt_iff_lt] at q15) <;> omega)
    | exact absurd q15 (by with_reducible assumption)
    | exact absurd (by with_reducible assumption) q15
    | exact absurd (Decidable.not_not.mp q15) (by with_reducible assumption)
    | exact absurd (by with_reducible assumption) (Int32.not_le.mpr q15)
    | exact absurd (by with_reducible assumption) (Int32.not_lt.mpr q15)
    | skip
      (try simp (disch := omega) only [nI_ltI, nI_leI, nI_eq, nI_ltL, nI_leL, nI_eqL, nI_Llt, nI_Lle, nI_Leq, nI_eqm, nI_meq, nI_ltm, nI_lem, nI_mlt, nI_mle, lg0, lgl, lgg, lgle, lgge, Int32.not_lt, Int32.not_le, Int64.not_lt, Int64.not_le, not_false_eq_true, not_true_eq_false, Decidable.not_not, ge_iff_le, gt_iff_lt] at q15)
      refine pw_blk (mi := mz_204) (b := bz_204_44) rfl rfl ?_
      simp only [bz_204_44, pz_cut_t, pz_cut_f, pz_cut_n, pv_gt, pv_ts, pv_tn, ev_ret, pz_wi_gc, pz_wi_ga, pz_wi_gn, pz_wi_gl, pz_wi_gr, pz_wi_same, pz_wi_X, pz_wl_gc, pz_wl_ga, pz_wl_gn, pz_wl_gi, pz_wl_gr, pz_wl_same, pz_wl_X, pz_wr_gc, pz_wr_ga, pz_wr_gn, pz_wr_gi, pz_wr_gl, pz_wr_same, pz_wr_X, t1']
      (try simp (disch := omega) only [nI_clamp, pz_in_nI2, pz_in_nI2L, pv_gt, nI_add, nI_addL, nI_Ladd, pk_mul, nI_mulL, nI_Lmul, pk_sub, nI_subL, nI_Lsub, nI_inc, nI_clampL, Nat.add_sub_cancel, pz_wi_else, pz_wl_else, vu_eq, vu_ne, pz_wi_gc, pz_wi_ga, pz_wi_gn, pz_wi_gl, pz_wi_gr, pz_wi_same, pz_wi_X, pz_wl_gc, pz_wl_ga, pz_wl_gn, pz_wl_gi, pz_wl_gr, pz_wl_same, pz_wl_X, pz_wr_gc, pz_wr_ga, pz_wr_gn, pz_wr_gi, pz_wr_gl, pz_wr_same, pz_wr_X, t1'])
      first
      | exact po_ret (up _ (sm.wi sm.rf (by simp)) (by simp (disch := omega) only [pz_wi_same]) (by simp (disch := omega) only [pz_wi_else]; rw [if_neg (fun z => absurd z.1 (Int32.not_lt.mpr q15))]))
      | exact po_ret (up _ (sm.wi sm.rf (by simp)) (by simp (disch := omega) only [pz_wi_same]) (by simp (disch := omega) only [pz_wi_else]; rw [if_neg (fun z => absurd q25 (by rw [z.2]; decide))]))
      | exact po_ret (up _ (sm.wi (sm.wi sm.rf (by simp)) (by simp)) (by simp (disch := omega) only [pz_wi_same, pz_wi_else]) (by simp (disch := omega) only [pz_wi_same, pz_wi_else]; rw [if_pos ⟨q15, hu.neg.mp q25⟩]))
  · first
    | exact absurd q15 (by decide)
    | exact absurd trivial q15
    | exact q15.elim
    | (exfalso; (try simp (disch := omega) only [nI_ltI, nI_leI, nI_eq, nI_ltL, nI_leL, nI_eqL, nI_Llt, nI_Lle, nI_Leq, nI_eqm, nI_meq, nI_ltm, nI_lem, nI_mlt, nI_mle, lg0, lgl, lgg, lgle, lgge, Int32.not_lt, Int32.not_le, Int64.not_lt, Int64.not_le, not_false_eq_true, not_true_eq_false, Decidable.not_not, ge_iff_le, gt_iff_lt] at q15) <;> omega)
    | exact absurd q15 (by with_reducible assumption)
    | exact absurd (by with_reducible assumption) q15
    | exact absurd (Decidable.not_not.mp q15) (by with_reducible assumption)
    | exact absurd (by with_reducible assumption) (Int32.not_le.mpr q15)
    | exact absurd (by with_reducible assumption) (Int32.not_lt.mpr q15)
    | skip
      (try simp (disch := omega) only [nI_ltI, nI_leI, nI_eq, nI_ltL, nI_leL, nI_eqL, nI_Llt, nI_Lle, nI_Leq, nI_eqm, nI_meq, nI_ltm, nI_lem, nI_mlt, nI_mle, lg0, lgl, lgg, lgle, lgge, Int32.not_lt, Int32.not_le, Int64.not_lt, Int64.not_le, not_false_eq_true, not_true_eq_false, Decidable.not_not, ge_iff_le, gt_iff_lt] at q15)
      refine pw_blk (mi := mz_204) (b := bz_204_25) rfl rfl ?_
      simp only [bz_204_25, pz_cut_t, pz_cut_f, pz_cut_n, pv_gt, pv_ts, pv_tn, ev_ald0, ev_eld0, ev_gf11_2, ev_ild1, ea_iald, ev_ifge, pz_wi_gc, pz_wi_ga, pz_wi_gn, pz_wi_gl, pz_wi_gr, pz_wi_same, pz_wi_X, pz_wl_gc, pz_wl_ga, pz_wl_gn, pz_wl_gi, pz_wl_gr, pz_wl_same, pz_wl_X, pz_wr_gc, pz_wr_ga, pz_wr_gn, pz_wr_gi, pz_wr_gl, pz_wr_same, pz_wr_X, so_120 hS, sr_120_43 hS, sa_152 hS, sn_152 hS, t1', t3', sa_149 hS, sn_149 hS]
      (try simp (disch := omega) only [nI_clamp, pz_in_nI2, pz_in_nI2L, pv_gt, nI_add, nI_addL, nI_Ladd, pk_mul, nI_mulL, nI_Lmul, pk_sub, nI_subL, nI_Lsub, nI_inc, nI_clampL, Nat.add_sub_cancel, pz_wi_else, pz_wl_else, vu_eq, vu_ne, pz_wi_gc, pz_wi_ga, pz_wi_gn, pz_wi_gl, pz_wi_gr, pz_wi_same, pz_wi_X, pz_wl_gc, pz_wl_ga, pz_wl_gn, pz_wl_gi, pz_wl_gr, pz_wl_same, pz_wl_X, pz_wr_gc, pz_wr_ga, pz_wr_gn, pz_wr_gi, pz_wr_gl, pz_wr_same, pz_wr_X, t1', t3'])
      (try refine po_gI (by first | exact pz_in_nI (by omega) (by decide) | decide | assumption) ?_)
      refine po_brP (fun q25 => ?_) (fun q25 => ?_)
      · first
        | exact absurd q25 (by decide)
        | exact absurd trivial q25
        | exact q25.elim
        | (exfalso; (try simp (disch := omega) only [nI_ltI, nI_leI, nI_eq, nI_ltL, nI_leL, nI_eqL, nI_Llt, nI_Lle, nI_Leq, nI_eqm, nI_meq, nI_ltm, nI_lem, nI_mlt, nI_mle, lg0, lgl, lgg, lgle, lgge, Int32.not_lt, Int32.not_le, Int64.not_lt, Int64.not_le, not_false_eq_true, not_true_eq_false, Decidable.not_not, ge_iff_le, gt_iff_lt] at q25) <;> omega)
        | exact absurd q25 (by with_reducible assumption)
        | exact absurd (by with_reducible assumption) q25
        | exact absurd (Decidable.not_not.mp q25) (by with_reducible assumption)
        | exact absurd (by with_reducible assumption) (Int32.not_le.mpr q25)
        | exact absurd (by with_reducible assumption) (Int32.not_lt.mpr q25)
        | skip
          (try simp (disch := omega) only [nI_ltI, nI_leI, nI_eq, nI_ltL, nI_leL, nI_eqL, nI_Llt, nI_Lle, nI_Leq, nI_eqm, nI_meq, nI_ltm, nI_lem, nI_mlt, nI_mle, lg0, lgl, lgg, lgle, lgge, Int32.not_lt, Int32.not_le, Int64.not_lt, Int64.not_le, not_false_eq_true, not_true_eq_false, Decidable.not_not, ge_iff_le, gt_iff_lt] at q25)
          refine pw_blk (mi := mz_204) (b := bz_204_44) rfl rfl ?_
          simp only [bz_204_44, pz_cut_t, pz_cut_f, pz_cut_n, pv_gt, pv_ts, pv_tn, ev_ret, pz_wi_gc, pz_wi_ga, pz_wi_gn, pz_wi_gl, pz_wi_gr, pz_wi_same, pz_wi_X, pz_wl_gc, pz_wl_ga, pz_wl_gn, pz_wl_gi, pz_wl_gr, pz_wl_same, pz_wl_X, pz_wr_gc, pz_wr_ga, pz_wr_gn, pz_wr_gi, pz_wr_gl, pz_wr_same, pz_wr_X, t1']
          (try simp (disch := omega) only [nI_clamp, pz_in_nI2, pz_in_nI2L, pv_gt, nI_add, nI_addL, nI_Ladd, pk_mul, nI_mulL, nI_Lmul, pk_sub, nI_subL, nI_Lsub, nI_inc, nI_clampL, Nat.add_sub_cancel, pz_wi_else, pz_wl_else, vu_eq, vu_ne, pz_wi_gc, pz_wi_ga, pz_wi_gn, pz_wi_gl, pz_wi_gr, pz_wi_same, pz_wi_X, pz_wl_gc, pz_wl_ga, pz_wl_gn, pz_wl_gi, pz_wl_gr, pz_wl_same, pz_wl_X, pz_wr_gc, pz_wr_ga, pz_wr_gn, pz_wr_gi, pz_wr_gl, pz_wr_same, pz_wr_X, t1'])
          first
          | exact po_ret (up _ (sm.wi sm.rf (by simp)) (by simp (disch := omega) only [pz_wi_same]) (by simp (disch := omega) only [pz_wi_else]; rw [if_neg (fun z => absurd z.1 (Int32.not_lt.mpr q15))]))
          | exact po_ret (up _ (sm.wi sm.rf (by simp)) (by simp (disch := omega) only [pz_wi_same]) (by simp (disch := omega) only [pz_wi_else]; rw [if_neg (fun z => absurd q25 (by rw [z.2]; decide))]))
          | exact po_ret (up _ (sm.wi (sm.wi sm.rf (by simp)) (by simp)) (by simp (disch := omega) only [pz_wi_same, pz_wi_else]) (by simp (disch := omega) only [pz_wi_same, pz_wi_else]; rw [if_pos ⟨q15, hu.neg.mp q25⟩]))
      · first
        | exact absurd q25 (by decide)
        | exact absurd trivial q25
        | exact q25.elim
        | (exfalso; (try simp (disch := omega) only [nI_ltI, nI_leI, nI_eq, nI_ltL, nI_leL, nI_eqL, nI_Llt, nI_Lle, nI_Leq, nI_eqm, nI_meq, nI_ltm, nI_lem, nI_mlt, nI_mle, lg0, lgl, lgg, lgle, lgge, Int32.not_lt, Int32.not_le, Int64.not_lt, Int64.not_le, not_false_eq_true, not_true_eq_false, Decidable.not_not, ge_iff_le, gt_iff_lt] at q25) <;> omega)
        | exact absurd q25 (by with_reducible assumption)
        | exact absurd (by with_reducible assumption) q25
        | exact absurd (Decidable.not_not.mp q25) (by with_reducible assumption)
        | exact absurd (by with_reducible assumption) (Int32.not_le.mpr q25)
        | exact absurd (by with_reducible assumption) (Int32.not_lt.mpr q25)
        | skip
          (try simp (disch := omega) only [nI_ltI, nI_leI, nI_eq, nI_ltL, nI_leL, nI_eqL, nI_Llt, nI_Lle, nI_Leq, nI_eqm, nI_meq, nI_ltm, nI_lem, nI_mlt, nI_mle, lg0, lgl, lgg, lgle, lgge, Int32.not_lt, Int32.not_le, Int64.not_lt, Int64.not_le, not_false_eq_true, not_true_eq_false, Decidable.not_not, ge_iff_le, gt_iff_lt] at q25)
          refine pw_blk (mi := mz_204) (b := bz_204_34) rfl rfl ?_
          simp only [bz_204_34, pz_cut_t, pz_cut_f, pz_cut_n, pv_gt, pv_ts, pv_tn, ev_ald0, ev_eld0, ev_gf11_2, ev_ild1, ev_gf11_0, ea_iast, ev_nil, pz_wi_gc, pz_wi_ga, pz_wi_gn, pz_wi_gl, pz_wi_gr, pz_wi_same, pz_wi_X, pz_wl_gc, pz_wl_ga, pz_wl_gn, pz_wl_gi, pz_wl_gr, pz_wl_same, pz_wl_X, pz_wr_gc, pz_wr_ga, pz_wr_gn, pz_wr_gi, pz_wr_gl, pz_wr_same, pz_wr_X, so_120 hS, sr_120_43 hS, sa_152 hS, sn_152 hS, t1', sa_149 hS, sn_149 hS]
          (try simp (disch := omega) only [nI_clamp, pz_in_nI2, pz_in_nI2L, pv_gt, nI_add, nI_addL, nI_Ladd, pk_mul, nI_mulL, nI_Lmul, pk_sub, nI_subL, nI_Lsub, nI_inc, nI_clampL, Nat.add_sub_cancel, pz_wi_else, pz_wl_else, vu_eq, vu_ne, pz_wi_gc, pz_wi_ga, pz_wi_gn, pz_wi_gl, pz_wi_gr, pz_wi_same, pz_wi_X, pz_wl_gc, pz_wl_ga, pz_wl_gn, pz_wl_gi, pz_wl_gr, pz_wl_same, pz_wl_X, pz_wr_gc, pz_wr_ga, pz_wr_gn, pz_wr_gi, pz_wr_gl, pz_wr_same, pz_wr_X, t1'])
          (try refine po_gI (by first | exact pz_in_nI (by omega) (by decide) | decide | assumption) ?_)
          refine po_go ?_
          refine pw_blk (mi := mz_204) (b := bz_204_44) rfl rfl ?_
          simp only [bz_204_44, pz_cut_t, pz_cut_f, pz_cut_n, pv_gt, pv_ts, pv_tn, ev_ret, pz_wi_gc, pz_wi_ga, pz_wi_gn, pz_wi_gl, pz_wi_gr, pz_wi_same, pz_wi_X, pz_wl_gc, pz_wl_ga, pz_wl_gn, pz_wl_gi, pz_wl_gr, pz_wl_same, pz_wl_X, pz_wr_gc, pz_wr_ga, pz_wr_gn, pz_wr_gi, pz_wr_gl, pz_wr_same, pz_wr_X, t1']
          (try simp (disch := omega) only [nI_clamp, pz_in_nI2, pz_in_nI2L, pv_gt, nI_add, nI_addL, nI_Ladd, pk_mul, nI_mulL, nI_Lmul, pk_sub, nI_subL, nI_Lsub, nI_inc, nI_clampL, Nat.add_sub_cancel, pz_wi_else, pz_wl_else, vu_eq, vu_ne, pz_wi_gc, pz_wi_ga, pz_wi_gn, pz_wi_gl, pz_wi_gr, pz_wi_same, pz_wi_X, pz_wl_gc, pz_wl_ga, pz_wl_gn, pz_wl_gi, pz_wl_gr, pz_wl_same, pz_wl_X, pz_wr_gc, pz_wr_ga, pz_wr_gn, pz_wr_gi, pz_wr_gl, pz_wr_same, pz_wr_X, t1'])
          first
          | exact po_ret (up _ (sm.wi sm.rf (by simp)) (by simp (disch := omega) only [pz_wi_same]) (by simp (disch := omega) only [pz_wi_else]; rw [if_neg (fun z => absurd z.1 (Int32.not_lt.mpr q15))]))
          | exact po_ret (up _ (sm.wi sm.rf (by simp)) (by simp (disch := omega) only [pz_wi_same]) (by simp (disch := omega) only [pz_wi_else]; rw [if_neg (fun z => absurd q25 (by rw [z.2]; decide))]))
          | exact po_ret (up _ (sm.wi (sm.wi sm.rf (by simp)) (by simp)) (by simp (disch := omega) only [pz_wi_same, pz_wi_else]) (by simp (disch := omega) only [pz_wi_same, pz_wi_else]; rw [if_pos ⟨q15, hu.neg.mp q25⟩]))
theorem m_goSlowly (hd : 2 ≤ d) {o b : Nat} {g : Int32} {R : Nat → T3} (hM : isMind M o) (hT : isT M o R) (hb : b < 24) (h : ∀ M', sm [o + 1, o + 2, o + 4] M M' → isT M' o (upT R b (sT g (gi M o 6) (R b))) → Q (none, M')) : pm d 124 [.ref o, .int (nI b), .int g] M Q := by
  obtain ⟨c1, ⟨r0, r1, r2, r3⟩, ⟨a1, a2, a3, a4⟩, ⟨n1, n2, n3, n4⟩⟩ := id hM
  obtain ⟨t1, t2, t3⟩ := id hT
  have t2' : gi M (o + 2) b = (R b).2.1 := congrFun t2 b
  have e0 : ∀ v, isT (pz_wi M (o + 2) (va_up (gi M (o + 2)) b v)) o (upT R b ((R b).1, v, (R b).2.2)) := by
    intro v
    unfold isT
    simp (disch := omega) only [pz_wi_same, pz_wi_else, upT_1, upT_2, upT_3]
    rw [t1, t2, t3, va_self (f := fun i => (R i).1), va_self (f := fun i => (R i).2.2)]
    exact ⟨rfl, rfl, rfl⟩
  refine pm_ent (L := [some (.ref o), some (.int (nI b)), some (.int g)]) rfl (Nat.le_of_ble_eq_true rfl) ?_
  refine pw_blk (mi := mz_124) (b := bz_124_0) rfl rfl ?_
  simp only [bz_124_0, pz_cut_t, pz_cut_f, pz_cut_n, pv_gt, pv_ts, pv_tn, ev_ald0, ev_eld0, ev_gf3_2, ev_ild1, ea_iald, ev_ild2, ev_cs2, pz_wi_gc, pz_wi_ga, pz_wi_gn, pz_wi_gl, pz_wi_gr, pz_wi_same, pz_wi_X, pz_wl_gc, pz_wl_ga, pz_wl_gn, pz_wl_gi, pz_wl_gr, pz_wl_same, pz_wl_X, pz_wr_gc, pz_wr_ga, pz_wr_gn, pz_wr_gi, pz_wr_gl, pz_wr_same, pz_wr_X, c1, r0, r1, r2, r3, a1, a2, a3, a4, n1, n2, n3, n4, t2']
  (try simp (disch := omega) only [nI_clamp, pz_in_nI2, pz_in_nI2L, pv_gt, nI_add, nI_addL, nI_Ladd, pk_mul, nI_mulL, nI_Lmul, pk_sub, nI_subL, nI_Lsub, nI_inc, nI_clampL, Nat.add_sub_cancel, pz_wi_else, pz_wl_else, vu_eq, vu_ne, pz_wi_gc, pz_wi_ga, pz_wi_gn, pz_wi_gl, pz_wi_gr, pz_wi_same, pz_wi_X, pz_wl_gc, pz_wl_ga, pz_wl_gn, pz_wl_gi, pz_wl_gr, pz_wl_same, pz_wl_X, pz_wr_gc, pz_wr_ga, pz_wr_gn, pz_wr_gi, pz_wr_gl, pz_wr_same, pz_wr_X, c1, r0, r1, r2, r3, a1, a2, a3, a4, n1, n2, n3, n4, t2'])
  (try refine po_gI (by first | exact pz_in_nI (by omega) (by decide) | decide | assumption) ?_)
  (try refine po_gP (Nat.le_of_ble_eq_true rfl) ?_)
  refine po_call (by omega) (m_grown ?_)
  refine pw_blk (mi := mz_124) (b := bz_124_15) rfl rfl ?_
  simp only [bz_124_15, pz_cut_t, pz_cut_f, pz_cut_n, pv_gt, pv_ts, pv_tn, ea_iast, ev_ald0, ev_eld0, ev_ild1, ev_ild2, ev_ic2, ev_idiv, ev_cv2_3, pz_wi_gc, pz_wi_ga, pz_wi_gn, pz_wi_gl, pz_wi_gr, pz_wi_same, pz_wi_X, pz_wl_gc, pz_wl_ga, pz_wl_gn, pz_wl_gi, pz_wl_gr, pz_wl_same, pz_wl_X, pz_wr_gc, pz_wr_ga, pz_wr_gn, pz_wr_gi, pz_wr_gl, pz_wr_same, pz_wr_X, c1, r0, r1, r2, r3, a1, a2, a3, a4, n1, n2, n3, n4, t2']
  (try simp (disch := omega) only [nI_clamp, pz_in_nI2, pz_in_nI2L, pv_gt, nI_add, nI_addL, nI_Ladd, pk_mul, nI_mulL, nI_Lmul, pk_sub, nI_subL, nI_Lsub, nI_inc, nI_clampL, Nat.add_sub_cancel, pz_wi_else, pz_wl_else, vu_eq, vu_ne, pz_wi_gc, pz_wi_ga, pz_wi_gn, pz_wi_gl, pz_wi_gr, pz_wi_same, pz_wi_X, pz_wl_gc, pz_wl_ga, pz_wl_gn, pz_wl_gi, pz_wl_gr, pz_wl_same, pz_wl_X, pz_wr_gc, pz_wr_ga, pz_wr_gn, pz_wr_gi, pz_wr_gl, pz_wr_same, pz_wr_X, c1, r0, r1, r2, r3, a1, a2, a3, a4, n1, n2, n3, n4, t2'])
  (try refine po_gI (by first | exact pz_in_nI (by omega) (by decide) | decide | assumption) ?_)
  (try refine po_gP (by first | decide | assumption) ?_)
  (try refine po_gP (Nat.le_of_ble_eq_true rfl) ?_)
  refine po_call (by omega) (m_gHT (by omega) (hM.sm (K := [o + 2]) (sm.wi sm.rf (by simp))) (e0 _) hb (fun M2 s2 e2 => ?_))
  refine pw_blk (mi := mz_124) (b := bz_124_24) rfl rfl ?_
  simp only [bz_124_24, pz_cut_t, pz_cut_f, pz_cut_n, pv_gt, pv_ts, pv_tn, ev_ret, pz_wi_gc, pz_wi_ga, pz_wi_gn, pz_wi_gl, pz_wi_gr, pz_wi_same, pz_wi_X, pz_wl_gc, pz_wl_ga, pz_wl_gn, pz_wl_gi, pz_wl_gr, pz_wl_same, pz_wl_X, pz_wr_gc, pz_wr_ga, pz_wr_gn, pz_wr_gi, pz_wr_gl, pz_wr_same, pz_wr_X, c1, r0, r1, r2, r3, a1, a2, a3, a4, n1, n2, n3, n4, t2']
  (try simp (disch := omega) only [nI_clamp, pz_in_nI2, pz_in_nI2L, pv_gt, nI_add, nI_addL, nI_Ladd, pk_mul, nI_mulL, nI_Lmul, pk_sub, nI_subL, nI_Lsub, nI_inc, nI_clampL, Nat.add_sub_cancel, pz_wi_else, pz_wl_else, vu_eq, vu_ne, pz_wi_gc, pz_wi_ga, pz_wi_gn, pz_wi_gl, pz_wi_gr, pz_wi_same, pz_wi_X, pz_wl_gc, pz_wl_ga, pz_wl_gn, pz_wl_gi, pz_wl_gr, pz_wl_same, pz_wl_X, pz_wr_gc, pz_wr_ga, pz_wr_gn, pz_wr_gi, pz_wr_gl, pz_wr_same, pz_wr_X, c1, r0, r1, r2, r3, a1, a2, a3, a4, n1, n2, n3, n4, t2'])
  refine po_ret (h _ ((sm.mono (K := [o + 2]) (sm.wi sm.rf (by simp)) (by simp)).tr s2 (by simp)) ?_)
  rw [upT_up, upT_at] at e2
  simp (disch := omega) only [pz_wi_else] at e2
  exact e2
end MINDT
