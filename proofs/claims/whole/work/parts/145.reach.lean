/-! ===== reach ===== -/
section REACH
variable {d : Nat} {M M' : pz_M} {Q : Option Value × pz_M → Prop}
def rchF (e : Nat → Int32) (G : Int32) : Nat → Nat → Int32
  | 0, k => if e k < G then -1 else nI k
  | c + 1, k => if e k < G then rchF e G c (k + 1) else nI k
theorem rch_no {e : Nat → Int32} {G : Int32} {c k : Nat} (h : ¬ e k < G) : rchF e G c k = nI k := by
  cases c with
  | zero => exact if_neg h
  | succ c => exact if_neg h
theorem rcx.rows {r B cr wk sv er : Nat} {al : Nat → Nat → Nat} {h h' : Nat → Int32} {dp mp : Nat → Bool} (x : rcx M r B cr wk sv er al h dp mp) (hS : SH M') (s : ag [123, 129, 130, 131, 132, 136, 153, 154] M M') (e38 : gi M' 120 38 = gi M 120 38) (e149 : gi M' 149 = h') : rcx M' r B cr wk sv er al h' dp mp := by
  obtain ⟨x1, x2, x3, x4, x5, x6, x7, ⟨y1, y2, y3, y4⟩, x8, x9⟩ := x
  have ebk : bk M' = bk M := by
    unfold bk bank
    rw [e38]
  have erl : rlk M' = rlk M := by
    funext q
    unfold rlk
    rw [ebk, (s 136 (by decide)).2]
  refine ⟨hS, ?_, e38.trans x3, ebk.trans x4, ?_, ?_, e149, ⟨?_, ?_, ?_, ?_⟩, ?_, ?_⟩
  · unfold okB bank
    rw [e38]
    exact x2
  · unfold nb
    rw [ebk, (s 123 (by decide)).1]
    exact x5
  · rw [erl]
    exact x6
  · rw [(s 129 (by decide)).1]; exact y1
  · rw [(s 130 (by decide)).1]; exact y2
  · rw [(s 131 (by decide)).1]; exact y3
  · rw [(s 132 (by decide)).1]; exact y4
  · rw [(s 153 (by decide)).1]; exact x8
  · rw [(s 154 (by decide)).1]; exact x9
def endR (al : Nat → Nat → Nat) (cr wk sv er B D E : Nat) (X : DyE) (R : Nat → T3) (y k : Nat) : Int32 := endJ al cr wk sv er B D E (fun i => (X.at R y k i).1) (-1) 0
theorem endR_12 {al : Nat → Nat → Nat} {cr wk sv er B D E : Nat} {X : DyE} {R R' : Nat → T3} {y : Nat} (h : eq12 R R') : endR al cr wk sv er B D E X R y = endR al cr wk sv er B D E X R' y := by
  funext k
  unfold endR
  rw [(h.ats (X := X) (y := y) k).1.1]
theorem m_reachL (hd : 10 ≤ d) {X : DyE} {N y cr wk sv er D E : Nat} {al : Nat → Nat → Nat} {R : Nat → T3} {G : Int32} (hok : X.ok N) (hC : clsE M X N) (hF : RFa M al X.B) (h0 : 0 < X.B) (l2 : gi M 17 2 = nI cr) (l3 : gi M 17 3 = nI wk) (l4 : gi M 17 4 = nI sv) (sv2 : sv ≤ 24) (l5 : gi M 17 5 = nI er) (er2 : er ≤ 24) (hD : D < 2 ^ 24) (hE : E < 2 ^ 24) (hr : ∀ i, rT (R i)) (hz : ∀ i, 24 ≤ i → (R i).1 = 0 ∧ (R i).2.1 = 0) (xD : gi M 56 4 = nI D) (xE : gi M 56 5 = nI E) (xy : gi M 56 6 = nI y) (hT : isT M 56 R) (z59 : ∀ i, 24 ≤ i → gi M 59 i = 0) (K : ∀ M', sg [43, 44, 45, 46, 47, 48, 49, 56, 57, 58, 59, 60, 97] M M' → (∀ i, 24 ≤ i → gi M' 57 i = 0 ∧ gi M' 58 i = 0 ∧ gi M' 59 i = 0) → Q (some (.int (rchF (endR al cr wk sv er X.B D E X R y) G 60 0)), M')) : pw d 47 (41, [some (.ref 0), some (.int G), some (.ref 56), some (.int (nI 0))], [], M) Q := by
  have hS := hC.1
  have key : ∀ c k M', k + c = 60 → sg [43, 44, 45, 46, 47, 48, 49, 56, 57, 58, 59, 60, 97] M M' → gi M' 56 4 = nI D → gi M' 56 5 = nI E → gi M' 56 6 = nI (y + k) → isT M' 56 (X.at R y k) → (∀ i, 24 ≤ i → gi M' 59 i = 0) → (∀ M', sg [43, 44, 45, 46, 47, 48, 49, 56, 57, 58, 59, 60, 97] M M' → (∀ i, 24 ≤ i → gi M' 57 i = 0 ∧ gi M' 58 i = 0 ∧ gi M' 59 i = 0) → Q (some (.int (rchF (endR al cr wk sv er X.B D E X R y) G c k)), M')) → pw d 47 (41, [some (.ref 0), some (.int G), some (.ref 56), some (.int (nI k))], [], M') Q := by
    intro c
    induction c with
    | zero =>
      intro k M' hk s' xD' xE' xy' hT' z59' K
      have hS' := s'.S
      have hk60 : k = 60 := by omega
      subst hk60
      have hC' := hC.fr hS' (s'.ag (by decide +kernel))
      have hF' := hF.fr (s'.i (by decide)) (s'.i (by decide)) (s'.i (by decide))
      have zz : ∀ i, 24 ≤ i → gi M' 57 i = 0 ∧ gi M' 58 i = 0 ∧ gi M' 59 i = 0 := fun i hi => by
        have e := DyE.at_hi hok hC.2.2.1 hC.2.1.2.2.2.2.1 hC.2.1.2.2.2.2.2 (R := R) (y := y) hi 60
        rw [show gi M' 57 = _ from hT'.1, show gi M' 58 = _ from hT'.2.1]
        simp only [e]
        exact ⟨(hz i hi).1, (hz i hi).2, z59' i hi⟩
      refine pw_blk (mi := mz_47) (b := bz_47_41) rfl rfl ?_
      simp only [bz_47_41, pz_cut_t, pz_cut_f, pz_cut_n, pv_gt, pv_ts, pv_tn, ev_ild3, ev_bp60, ev_ic_ge, pz_wi_gc, pz_wi_ga, pz_wi_gn, pz_wi_gl, pz_wi_gr, pz_wi_same, pz_wi_X, pz_wl_gc, pz_wl_ga, pz_wl_gn, pz_wl_gi, pz_wl_gr, pz_wl_same, pz_wl_X, pz_wr_gc, pz_wr_ga, pz_wr_gn, pz_wr_gi, pz_wr_gl, pz_wr_same, pz_wr_X]
      (try simp (disch := omega) only [nI_clamp, pz_in_nI2, pz_in_nI2L, pv_gt, nI_add, nI_addL, nI_Ladd, pk_mul, nI_mulL, nI_Lmul, pk_sub, nI_subL, nI_Lsub, nI_inc, nI_clampL, Nat.add_sub_cancel, pz_wi_else, pz_wl_else, vu_eq, vu_ne, pz_wi_gc, pz_wi_ga, pz_wi_gn, pz_wi_gl, pz_wi_gr, pz_wi_same, pz_wi_X, pz_wl_gc, pz_wl_ga, pz_wl_gn, pz_wl_gi, pz_wl_gr, pz_wl_same, pz_wl_X, pz_wr_gc, pz_wr_ga, pz_wr_gn, pz_wr_gi, pz_wr_gl, pz_wr_same, pz_wr_X])
      refine po_brP (fun q41 => ?_) (fun q41 => ?_)
      · skip
        (try simp (disch := omega) only [nI_ltI, nI_leI, nI_eq, nI_ltL, nI_leL, nI_eqL, nI_Llt, nI_Lle, nI_Leq, nI_eqm, nI_meq, nI_ltm, nI_lem, nI_mlt, nI_mle, lg0, lgl, lgg, lgle, lgge, Int32.not_lt, Int32.not_le, Int64.not_lt, Int64.not_le, not_false_eq_true, not_true_eq_false, Decidable.not_not, ge_iff_le, gt_iff_lt] at q41)
        refine pw_blk (mi := mz_47) (b := bz_47_73) rfl rfl ?_
        simp only [bz_47_73, pz_cut_t, pz_cut_f, pz_cut_n, pv_gt, pv_ts, pv_tn, ev_ald0, ev_eld0, ev_gf0_2, ev_ald2, ev_eld2, ev_cv1_1, pz_wi_gc, pz_wi_ga, pz_wi_gn, pz_wi_gl, pz_wi_gr, pz_wi_same, pz_wi_X, pz_wl_gc, pz_wl_ga, pz_wl_gn, pz_wl_gi, pz_wl_gr, pz_wl_same, pz_wl_X, pz_wr_gc, pz_wr_ga, pz_wr_gn, pz_wr_gi, pz_wr_gl, pz_wr_same, pz_wr_X, so_0 hS', sr_0_5 hS', so_39 hS']
        (try simp (disch := omega) only [nI_clamp, pz_in_nI2, pz_in_nI2L, pv_gt, nI_add, nI_addL, nI_Ladd, pk_mul, nI_mulL, nI_Lmul, pk_sub, nI_subL, nI_Lsub, nI_inc, nI_clampL, Nat.add_sub_cancel, pz_wi_else, pz_wl_else, vu_eq, vu_ne, pz_wi_gc, pz_wi_ga, pz_wi_gn, pz_wi_gl, pz_wi_gr, pz_wi_same, pz_wi_X, pz_wl_gc, pz_wl_ga, pz_wl_gn, pz_wl_gi, pz_wl_gr, pz_wl_same, pz_wl_X, pz_wr_gc, pz_wr_ga, pz_wr_gn, pz_wr_gi, pz_wr_gl, pz_wr_same, pz_wr_X])
        (try refine po_gP (Nat.le_of_ble_eq_true rfl) ?_)
        refine po_call (by omega) (m_endOf (al := al) (cr := cr) (wk := wk) (sv := sv) (er := er) (h := fun i => (X.at R y 60 i).1) (by omega) hS' hS'.mind56 (by omega) hF' hC'.2.1.2.2.1 hok.1 h0 (by rw [s'.i (by decide)]; exact l2) (by rw [s'.i (by decide)]; exact l3) (by rw [s'.i (by decide)]; exact l4) sv2 (by rw [s'.i (by decide)]; exact l5) er2 hD hE xD' xE' hT'.1 (fun M2 s2 => ?_))
        have s3 := s'.tr s2 (by decide)
        have z3 : ∀ i, 24 ≤ i → gi M2 57 i = 0 ∧ gi M2 58 i = 0 ∧ gi M2 59 i = 0 := fun i hi => by rw [s2.i (k := 57) (by decide), s2.i (k := 58) (by decide), s2.i (k := 59) (by decide)]; exact zz i hi
        have z4 := K M2 s3 z3
        refine pw_blk (mi := mz_47) (b := bz_47_81) rfl rfl ?_
        simp only [bz_47_81, pz_cut_t, pz_cut_f, pz_cut_n, pv_gt, pv_ts, pv_tn, ev_ild1, ev_ic_lt, pz_wi_gc, pz_wi_ga, pz_wi_gn, pz_wi_gl, pz_wi_gr, pz_wi_same, pz_wi_X, pz_wl_gc, pz_wl_ga, pz_wl_gn, pz_wl_gi, pz_wl_gr, pz_wl_same, pz_wl_X, pz_wr_gc, pz_wr_ga, pz_wr_gn, pz_wr_gi, pz_wr_gl, pz_wr_same, pz_wr_X]
        (try simp (disch := omega) only [nI_clamp, pz_in_nI2, pz_in_nI2L, pv_gt, nI_add, nI_addL, nI_Ladd, pk_mul, nI_mulL, nI_Lmul, pk_sub, nI_subL, nI_Lsub, nI_inc, nI_clampL, Nat.add_sub_cancel, pz_wi_else, pz_wl_else, vu_eq, vu_ne, pz_wi_gc, pz_wi_ga, pz_wi_gn, pz_wi_gl, pz_wi_gr, pz_wi_same, pz_wi_X, pz_wl_gc, pz_wl_ga, pz_wl_gn, pz_wl_gi, pz_wl_gr, pz_wl_same, pz_wl_X, pz_wr_gc, pz_wr_ga, pz_wr_gn, pz_wr_gi, pz_wr_gl, pz_wr_same, pz_wr_X])
        refine po_brP (fun q81 => ?_) (fun q81 => ?_)
        · first
          | exact absurd q81 (by decide)
          | exact absurd trivial q81
          | exact q81.elim
          | (exfalso; (try simp (disch := omega) only [nI_ltI, nI_leI, nI_eq, nI_ltL, nI_leL, nI_eqL, nI_Llt, nI_Lle, nI_Leq, nI_eqm, nI_meq, nI_ltm, nI_lem, nI_mlt, nI_mle, lg0, lgl, lgg, lgle, lgge, Int32.not_lt, Int32.not_le, Int64.not_lt, Int64.not_le, not_false_eq_true, not_true_eq_false, Decidable.not_not, ge_iff_le, gt_iff_lt] at q81) <;> omega)
          | exact absurd q81 (by with_reducible assumption)
          | exact absurd (by with_reducible assumption) q81
          | exact absurd (Decidable.not_not.mp q81) (by with_reducible assumption)
          | exact absurd (by with_reducible assumption) (Int32.not_le.mpr q81)
          | exact absurd (by with_reducible assumption) (Int32.not_lt.mpr q81)
          | skip
            (try simp (disch := omega) only [nI_ltI, nI_leI, nI_eq, nI_ltL, nI_leL, nI_eqL, nI_Llt, nI_Lle, nI_Leq, nI_eqm, nI_meq, nI_ltm, nI_lem, nI_mlt, nI_mle, lg0, lgl, lgg, lgle, lgge, Int32.not_lt, Int32.not_le, Int64.not_lt, Int64.not_le, not_false_eq_true, not_true_eq_false, Decidable.not_not, ge_iff_le, gt_iff_lt] at q81)
            rw [show rchF (endR al cr wk sv er X.B D E X R y) G 0 60 = -1 from if_pos q81] at z4
            refine pw_blk (mi := mz_47) (b := bz_47_90) rfl rfl ?_
            simp only [bz_47_90, pz_cut_t, pz_cut_f, pz_cut_n, pv_gt, pv_ts, pv_tn, ev_icm1, ev_nil, pz_wi_gc, pz_wi_ga, pz_wi_gn, pz_wi_gl, pz_wi_gr, pz_wi_same, pz_wi_X, pz_wl_gc, pz_wl_ga, pz_wl_gn, pz_wl_gi, pz_wl_gr, pz_wl_same, pz_wl_X, pz_wr_gc, pz_wr_ga, pz_wr_gn, pz_wr_gi, pz_wr_gl, pz_wr_same, pz_wr_X]
            (try simp (disch := omega) only [nI_clamp, pz_in_nI2, pz_in_nI2L, pv_gt, nI_add, nI_addL, nI_Ladd, pk_mul, nI_mulL, nI_Lmul, pk_sub, nI_subL, nI_Lsub, nI_inc, nI_clampL, Nat.add_sub_cancel, pz_wi_else, pz_wl_else, vu_eq, vu_ne, pz_wi_gc, pz_wi_ga, pz_wi_gn, pz_wi_gl, pz_wi_gr, pz_wi_same, pz_wi_X, pz_wl_gc, pz_wl_ga, pz_wl_gn, pz_wl_gi, pz_wl_gr, pz_wl_same, pz_wl_X, pz_wr_gc, pz_wr_ga, pz_wr_gn, pz_wr_gi, pz_wr_gl, pz_wr_same, pz_wr_X])
            refine po_go ?_
            refine pw_blk (mi := mz_47) (b := bz_47_91) rfl rfl ?_
            simp only [bz_47_91, pz_cut_t, pz_cut_f, pz_cut_n, pv_gt, pv_ts, pv_tn, ev_iret0, pz_wi_gc, pz_wi_ga, pz_wi_gn, pz_wi_gl, pz_wi_gr, pz_wi_same, pz_wi_X, pz_wl_gc, pz_wl_ga, pz_wl_gn, pz_wl_gi, pz_wl_gr, pz_wl_same, pz_wl_X, pz_wr_gc, pz_wr_ga, pz_wr_gn, pz_wr_gi, pz_wr_gl, pz_wr_same, pz_wr_X]
            (try simp (disch := omega) only [nI_clamp, pz_in_nI2, pz_in_nI2L, pv_gt, nI_add, nI_addL, nI_Ladd, pk_mul, nI_mulL, nI_Lmul, pk_sub, nI_subL, nI_Lsub, nI_inc, nI_clampL, Nat.add_sub_cancel, pz_wi_else, pz_wl_else, vu_eq, vu_ne, pz_wi_gc, pz_wi_ga, pz_wi_gn, pz_wi_gl, pz_wi_gr, pz_wi_same, pz_wi_X, pz_wl_gc, pz_wl_ga, pz_wl_gn, pz_wl_gi, pz_wl_gr, pz_wl_same, pz_wl_X, pz_wr_gc, pz_wr_ga, pz_wr_gn, pz_wr_gi, pz_wr_gl, pz_wr_same, pz_wr_X])
            exact po_ret z4
        · first
          | exact absurd q81 (by decide)
          | exact absurd trivial q81
          | exact q81.elim
          | (exfalso; (try simp (disch := omega) only [nI_ltI, nI_leI, nI_eq, nI_ltL, nI_leL, nI_eqL, nI_Llt, nI_Lle, nI_Leq, nI_eqm, nI_meq, nI_ltm, nI_lem, nI_mlt, nI_mle, lg0, lgl, lgg, lgle, lgge, Int32.not_lt, Int32.not_le, Int64.not_lt, Int64.not_le, not_false_eq_true, not_true_eq_false, Decidable.not_not, ge_iff_le, gt_iff_lt] at q81) <;> omega)
          | exact absurd q81 (by with_reducible assumption)
          | exact absurd (by with_reducible assumption) q81
          | exact absurd (Decidable.not_not.mp q81) (by with_reducible assumption)
          | exact absurd (by with_reducible assumption) (Int32.not_le.mpr q81)
          | exact absurd (by with_reducible assumption) (Int32.not_lt.mpr q81)
          | skip
            (try simp (disch := omega) only [nI_ltI, nI_leI, nI_eq, nI_ltL, nI_leL, nI_eqL, nI_Llt, nI_Lle, nI_Leq, nI_eqm, nI_meq, nI_ltm, nI_lem, nI_mlt, nI_mle, lg0, lgl, lgg, lgle, lgge, Int32.not_lt, Int32.not_le, Int64.not_lt, Int64.not_le, not_false_eq_true, not_true_eq_false, Decidable.not_not, ge_iff_le, gt_iff_lt] at q81)
            rw [show rchF (endR al cr wk sv er X.B D E X R y) G 0 60 = nI 60 from if_neg (Int32.not_lt.mpr q81)] at z4
            refine pw_blk (mi := mz_47) (b := bz_47_85) rfl rfl ?_
            simp only [bz_47_85, pz_cut_t, pz_cut_f, pz_cut_n, pv_gt, pv_ts, pv_tn, ev_bp60, ev_goto, pz_wi_gc, pz_wi_ga, pz_wi_gn, pz_wi_gl, pz_wi_gr, pz_wi_same, pz_wi_X, pz_wl_gc, pz_wl_ga, pz_wl_gn, pz_wl_gi, pz_wl_gr, pz_wl_same, pz_wl_X, pz_wr_gc, pz_wr_ga, pz_wr_gn, pz_wr_gi, pz_wr_gl, pz_wr_same, pz_wr_X]
            (try simp (disch := omega) only [nI_clamp, pz_in_nI2, pz_in_nI2L, pv_gt, nI_add, nI_addL, nI_Ladd, pk_mul, nI_mulL, nI_Lmul, pk_sub, nI_subL, nI_Lsub, nI_inc, nI_clampL, Nat.add_sub_cancel, pz_wi_else, pz_wl_else, vu_eq, vu_ne, pz_wi_gc, pz_wi_ga, pz_wi_gn, pz_wi_gl, pz_wi_gr, pz_wi_same, pz_wi_X, pz_wl_gc, pz_wl_ga, pz_wl_gn, pz_wl_gi, pz_wl_gr, pz_wl_same, pz_wl_X, pz_wr_gc, pz_wr_ga, pz_wr_gn, pz_wr_gi, pz_wr_gl, pz_wr_same, pz_wr_X])
            refine po_go ?_
            refine pw_blk (mi := mz_47) (b := bz_47_91) rfl rfl ?_
            simp only [bz_47_91, pz_cut_t, pz_cut_f, pz_cut_n, pv_gt, pv_ts, pv_tn, ev_iret0, pz_wi_gc, pz_wi_ga, pz_wi_gn, pz_wi_gl, pz_wi_gr, pz_wi_same, pz_wi_X, pz_wl_gc, pz_wl_ga, pz_wl_gn, pz_wl_gi, pz_wl_gr, pz_wl_same, pz_wl_X, pz_wr_gc, pz_wr_ga, pz_wr_gn, pz_wr_gi, pz_wr_gl, pz_wr_same, pz_wr_X]
            (try simp (disch := omega) only [nI_clamp, pz_in_nI2, pz_in_nI2L, pv_gt, nI_add, nI_addL, nI_Ladd, pk_mul, nI_mulL, nI_Lmul, pk_sub, nI_subL, nI_Lsub, nI_inc, nI_clampL, Nat.add_sub_cancel, pz_wi_else, pz_wl_else, vu_eq, vu_ne, pz_wi_gc, pz_wi_ga, pz_wi_gn, pz_wi_gl, pz_wi_gr, pz_wi_same, pz_wi_X, pz_wl_gc, pz_wl_ga, pz_wl_gn, pz_wl_gi, pz_wl_gr, pz_wl_same, pz_wl_X, pz_wr_gc, pz_wr_ga, pz_wr_gn, pz_wr_gi, pz_wr_gl, pz_wr_same, pz_wr_X])
            exact po_ret z4
      · first
        | exact absurd q41 (by decide)
        | exact absurd trivial q41
        | exact q41.elim
        | (exfalso; (try simp (disch := omega) only [nI_ltI, nI_leI, nI_eq, nI_ltL, nI_leL, nI_eqL, nI_Llt, nI_Lle, nI_Leq, nI_eqm, nI_meq, nI_ltm, nI_lem, nI_mlt, nI_mle, lg0, lgl, lgg, lgle, lgge, Int32.not_lt, Int32.not_le, Int64.not_lt, Int64.not_le, not_false_eq_true, not_true_eq_false, Decidable.not_not, ge_iff_le, gt_iff_lt] at q41) <;> omega)
        | exact absurd q41 (by with_reducible assumption)
        | exact absurd (by with_reducible assumption) q41
        | exact absurd (Decidable.not_not.mp q41) (by with_reducible assumption)
        | exact absurd (by with_reducible assumption) (Int32.not_le.mpr q41)
        | exact absurd (by with_reducible assumption) (Int32.not_lt.mpr q41)
    | succ c ih =>
      intro k M' hk s' xD' xE' xy' hT' z59' K
      have hS' := s'.S
      have hC' := hC.fr hS' (s'.ag (by decide +kernel))
      have hF' := hF.fr (s'.i (by decide)) (s'.i (by decide)) (s'.i (by decide))
      have zz : ∀ i, 24 ≤ i → gi M' 57 i = 0 ∧ gi M' 58 i = 0 ∧ gi M' 59 i = 0 := fun i hi => by
        have e := DyE.at_hi hok hC.2.2.1 hC.2.1.2.2.2.2.1 hC.2.1.2.2.2.2.2 (R := R) (y := y) hi k
        rw [show gi M' 57 = _ from hT'.1, show gi M' 58 = _ from hT'.2.1]
        simp only [e]
        exact ⟨(hz i hi).1, (hz i hi).2, z59' i hi⟩
      refine pw_blk (mi := mz_47) (b := bz_47_41) rfl rfl ?_
      simp only [bz_47_41, pz_cut_t, pz_cut_f, pz_cut_n, pv_gt, pv_ts, pv_tn, ev_ild3, ev_bp60, ev_ic_ge, pz_wi_gc, pz_wi_ga, pz_wi_gn, pz_wi_gl, pz_wi_gr, pz_wi_same, pz_wi_X, pz_wl_gc, pz_wl_ga, pz_wl_gn, pz_wl_gi, pz_wl_gr, pz_wl_same, pz_wl_X, pz_wr_gc, pz_wr_ga, pz_wr_gn, pz_wr_gi, pz_wr_gl, pz_wr_same, pz_wr_X]
      (try simp (disch := omega) only [nI_clamp, pz_in_nI2, pz_in_nI2L, pv_gt, nI_add, nI_addL, nI_Ladd, pk_mul, nI_mulL, nI_Lmul, pk_sub, nI_subL, nI_Lsub, nI_inc, nI_clampL, Nat.add_sub_cancel, pz_wi_else, pz_wl_else, vu_eq, vu_ne, pz_wi_gc, pz_wi_ga, pz_wi_gn, pz_wi_gl, pz_wi_gr, pz_wi_same, pz_wi_X, pz_wl_gc, pz_wl_ga, pz_wl_gn, pz_wl_gi, pz_wl_gr, pz_wl_same, pz_wl_X, pz_wr_gc, pz_wr_ga, pz_wr_gn, pz_wr_gi, pz_wr_gl, pz_wr_same, pz_wr_X])
      refine po_brP (fun q41 => ?_) (fun q41 => ?_)
      · first
        | exact absurd q41 (by decide)
        | exact absurd trivial q41
        | exact q41.elim
        | (exfalso; (try simp (disch := omega) only [nI_ltI, nI_leI, nI_eq, nI_ltL, nI_leL, nI_eqL, nI_Llt, nI_Lle, nI_Leq, nI_eqm, nI_meq, nI_ltm, nI_lem, nI_mlt, nI_mle, lg0, lgl, lgg, lgle, lgge, Int32.not_lt, Int32.not_le, Int64.not_lt, Int64.not_le, not_false_eq_true, not_true_eq_false, Decidable.not_not, ge_iff_le, gt_iff_lt] at q41) <;> omega)
        | exact absurd q41 (by with_reducible assumption)
        | exact absurd (by with_reducible assumption) q41
        | exact absurd (Decidable.not_not.mp q41) (by with_reducible assumption)
        | exact absurd (by with_reducible assumption) (Int32.not_le.mpr q41)
        | exact absurd (by with_reducible assumption) (Int32.not_lt.mpr q41)
      · skip
        (try simp (disch := omega) only [nI_ltI, nI_leI, nI_eq, nI_ltL, nI_leL, nI_eqL, nI_Llt, nI_Lle, nI_Leq, nI_eqm, nI_meq, nI_ltm, nI_lem, nI_mlt, nI_mle, lg0, lgl, lgg, lgle, lgge, Int32.not_lt, Int32.not_le, Int64.not_lt, Int64.not_le, not_false_eq_true, not_true_eq_false, Decidable.not_not, ge_iff_le, gt_iff_lt] at q41)
        refine pw_blk (mi := mz_47) (b := bz_47_47) rfl rfl ?_
        simp only [bz_47_47, pz_cut_t, pz_cut_f, pz_cut_n, pv_gt, pv_ts, pv_tn, ev_ald0, ev_eld0, ev_gf0_2, ev_ald2, ev_eld2, ev_cv1_1, pz_wi_gc, pz_wi_ga, pz_wi_gn, pz_wi_gl, pz_wi_gr, pz_wi_same, pz_wi_X, pz_wl_gc, pz_wl_ga, pz_wl_gn, pz_wl_gi, pz_wl_gr, pz_wl_same, pz_wl_X, pz_wr_gc, pz_wr_ga, pz_wr_gn, pz_wr_gi, pz_wr_gl, pz_wr_same, pz_wr_X, so_0 hS', sr_0_5 hS', so_39 hS']
        (try simp (disch := omega) only [nI_clamp, pz_in_nI2, pz_in_nI2L, pv_gt, nI_add, nI_addL, nI_Ladd, pk_mul, nI_mulL, nI_Lmul, pk_sub, nI_subL, nI_Lsub, nI_inc, nI_clampL, Nat.add_sub_cancel, pz_wi_else, pz_wl_else, vu_eq, vu_ne, pz_wi_gc, pz_wi_ga, pz_wi_gn, pz_wi_gl, pz_wi_gr, pz_wi_same, pz_wi_X, pz_wl_gc, pz_wl_ga, pz_wl_gn, pz_wl_gi, pz_wl_gr, pz_wl_same, pz_wl_X, pz_wr_gc, pz_wr_ga, pz_wr_gn, pz_wr_gi, pz_wr_gl, pz_wr_same, pz_wr_X])
        (try refine po_gP (Nat.le_of_ble_eq_true rfl) ?_)
        refine po_call (by omega) (m_endOf (al := al) (cr := cr) (wk := wk) (sv := sv) (er := er) (h := fun i => (X.at R y k i).1) (by omega) hS' hS'.mind56 (by omega) hF' hC'.2.1.2.2.1 hok.1 h0 (by rw [s'.i (by decide)]; exact l2) (by rw [s'.i (by decide)]; exact l3) (by rw [s'.i (by decide)]; exact l4) sv2 (by rw [s'.i (by decide)]; exact l5) er2 hD hE xD' xE' hT'.1 (fun M2 s2 => ?_))
        have s3 := s'.tr s2 (by decide)
        have hS2 := s2.S
        have hC2 := hC'.fr hS2 (s2.ag (by decide +kernel))
        have xy2 : gi M2 56 6 = nI (y + k) := by rw [s2.i (by decide)]; exact xy'
        have hT2 : isT M2 56 (X.at R y k) := ⟨(s2.i (by decide)).trans hT'.1, (s2.i (by decide)).trans hT'.2.1, (s2.i (by decide)).trans hT'.2.2⟩
        refine pw_blk (mi := mz_47) (b := bz_47_55) rfl rfl ?_
        simp only [bz_47_55, pz_cut_t, pz_cut_f, pz_cut_n, pv_gt, pv_ts, pv_tn, ev_ild1, ev_ic_lt, pz_wi_gc, pz_wi_ga, pz_wi_gn, pz_wi_gl, pz_wi_gr, pz_wi_same, pz_wi_X, pz_wl_gc, pz_wl_ga, pz_wl_gn, pz_wl_gi, pz_wl_gr, pz_wl_same, pz_wl_X, pz_wr_gc, pz_wr_ga, pz_wr_gn, pz_wr_gi, pz_wr_gl, pz_wr_same, pz_wr_X]
        (try simp (disch := omega) only [nI_clamp, pz_in_nI2, pz_in_nI2L, pv_gt, nI_add, nI_addL, nI_Ladd, pk_mul, nI_mulL, nI_Lmul, pk_sub, nI_subL, nI_Lsub, nI_inc, nI_clampL, Nat.add_sub_cancel, pz_wi_else, pz_wl_else, vu_eq, vu_ne, pz_wi_gc, pz_wi_ga, pz_wi_gn, pz_wi_gl, pz_wi_gr, pz_wi_same, pz_wi_X, pz_wl_gc, pz_wl_ga, pz_wl_gn, pz_wl_gi, pz_wl_gr, pz_wl_same, pz_wl_X, pz_wr_gc, pz_wr_ga, pz_wr_gn, pz_wr_gi, pz_wr_gl, pz_wr_same, pz_wr_X])
        refine po_brP (fun q55 => ?_) (fun q55 => ?_)
        · first
          | exact absurd q55 (by decide)
          | exact absurd trivial q55
          | exact q55.elim
          | (exfalso; (try simp (disch := omega) only [nI_ltI, nI_leI, nI_eq, nI_ltL, nI_leL, nI_eqL, nI_Llt, nI_Lle, nI_Leq, nI_eqm, nI_meq, nI_ltm, nI_lem, nI_mlt, nI_mle, lg0, lgl, lgg, lgle, lgge, Int32.not_lt, Int32.not_le, Int64.not_lt, Int64.not_le, not_false_eq_true, not_true_eq_false, Decidable.not_not, ge_iff_le, gt_iff_lt] at q55) <;> omega)
          | exact absurd q55 (by with_reducible assumption)
          | exact absurd (by with_reducible assumption) q55
          | exact absurd (Decidable.not_not.mp q55) (by with_reducible assumption)
          | exact absurd (by with_reducible assumption) (Int32.not_le.mpr q55)
          | exact absurd (by with_reducible assumption) (Int32.not_lt.mpr q55)
          | skip
            (try simp (disch := omega) only [nI_ltI, nI_leI, nI_eq, nI_ltL, nI_leL, nI_eqL, nI_Llt, nI_Lle, nI_Leq, nI_eqm, nI_meq, nI_ltm, nI_lem, nI_mlt, nI_mle, lg0, lgl, lgg, lgle, lgge, Int32.not_lt, Int32.not_le, Int64.not_lt, Int64.not_le, not_false_eq_true, not_true_eq_false, Decidable.not_not, ge_iff_le, gt_iff_lt] at q55)
            have z4 : rchF (endR al cr wk sv er X.B D E X R y) G (c + 1) k = rchF (endR al cr wk sv er X.B D E X R y) G c (k + 1) := if_pos q55
            refine pw_blk (mi := mz_47) (b := bz_47_61) rfl rfl ?_
            simp only [bz_47_61, pz_cut_t, pz_cut_f, pz_cut_n, pv_gt, pv_ts, pv_tn, ev_ald0, ev_eld0, ev_ald2, ev_eld2, ev_cv1_0, pz_wi_gc, pz_wi_ga, pz_wi_gn, pz_wi_gl, pz_wi_gr, pz_wi_same, pz_wi_X, pz_wl_gc, pz_wl_ga, pz_wl_gn, pz_wl_gi, pz_wl_gr, pz_wl_same, pz_wl_X, pz_wr_gc, pz_wr_ga, pz_wr_gn, pz_wr_gi, pz_wr_gl, pz_wr_same, pz_wr_X, so_0 hS', so_0 hS2, so_56 hS2]
            (try simp (disch := omega) only [nI_clamp, pz_in_nI2, pz_in_nI2L, pv_gt, nI_add, nI_addL, nI_Ladd, pk_mul, nI_mulL, nI_Lmul, pk_sub, nI_subL, nI_Lsub, nI_inc, nI_clampL, Nat.add_sub_cancel, pz_wi_else, pz_wl_else, vu_eq, vu_ne, pz_wi_gc, pz_wi_ga, pz_wi_gn, pz_wi_gl, pz_wi_gr, pz_wi_same, pz_wi_X, pz_wl_gc, pz_wl_ga, pz_wl_gn, pz_wl_gi, pz_wl_gr, pz_wl_same, pz_wl_X, pz_wr_gc, pz_wr_ga, pz_wr_gn, pz_wr_gi, pz_wr_gl, pz_wr_same, pz_wr_X, so_0 hS2, so_56 hS2])
            (try refine po_gP (Nat.le_of_ble_eq_true rfl) ?_)
            refine po_call (by omega) (m_dayByRules (by omega) hok hC2 hS2.mind56 (by decide) (by decide) hT2 (DyE.at_r hok hr k) (fun M4 s4 a0 t4 a3 => ?_))
            refine pw_blk (mi := mz_47) (b := bz_47_66) rfl rfl ?_
            simp only [bz_47_66, pz_cut_t, pz_cut_f, pz_cut_n, pv_gt, pv_ts, pv_tn, ev_popi, ev_popr, ev_pope, ev_inc3n, ev_inc3i, ev_inc3r, ev_inc3e, ev_goto, pz_wi_gc, pz_wi_ga, pz_wi_gn, pz_wi_gl, pz_wi_gr, pz_wi_same, pz_wi_X, pz_wl_gc, pz_wl_ga, pz_wl_gn, pz_wl_gi, pz_wl_gr, pz_wl_same, pz_wl_X, pz_wr_gc, pz_wr_ga, pz_wr_gn, pz_wr_gi, pz_wr_gl, pz_wr_same, pz_wr_X]
            (try simp (disch := omega) only [nI_clamp, pz_in_nI2, pz_in_nI2L, pv_gt, nI_add, nI_addL, nI_Ladd, pk_mul, nI_mulL, nI_Lmul, pk_sub, nI_subL, nI_Lsub, nI_inc, nI_clampL, Nat.add_sub_cancel, pz_wi_else, pz_wl_else, vu_eq, vu_ne, pz_wi_gc, pz_wi_ga, pz_wi_gn, pz_wi_gl, pz_wi_gr, pz_wi_same, pz_wi_X, pz_wl_gc, pz_wl_ga, pz_wl_gn, pz_wl_gi, pz_wl_gr, pz_wl_same, pz_wl_X, pz_wr_gc, pz_wr_ga, pz_wr_gn, pz_wr_gi, pz_wr_gl, pz_wr_same, pz_wr_X])
            refine po_go ?_
            rw [z4] at K
            rw [xy2] at a0 t4
            refine ih (k + 1) M4 (by omega) (s3.tr (s4.sg hS2) (by decide)) ?_ ?_ ?_ t4 ?_ K
            · rw [a0, vu_ne (by decide), s2.i (by decide)]; exact xD'
            · rw [a0, vu_ne (by decide), s2.i (by decide)]; exact xE'
            · rw [a0, vu_eq, nI_1]; rfl
            · intro i hi
              rw [show gi M4 59 = _ from a3, rowF_hi (by have := hok.1; omega), s2.i (by decide)]
              exact z59' i hi
        · first
          | exact absurd q55 (by decide)
          | exact absurd trivial q55
          | exact q55.elim
          | (exfalso; (try simp (disch := omega) only [nI_ltI, nI_leI, nI_eq, nI_ltL, nI_leL, nI_eqL, nI_Llt, nI_Lle, nI_Leq, nI_eqm, nI_meq, nI_ltm, nI_lem, nI_mlt, nI_mle, lg0, lgl, lgg, lgle, lgge, Int32.not_lt, Int32.not_le, Int64.not_lt, Int64.not_le, not_false_eq_true, not_true_eq_false, Decidable.not_not, ge_iff_le, gt_iff_lt] at q55) <;> omega)
          | exact absurd q55 (by with_reducible assumption)
          | exact absurd (by with_reducible assumption) q55
          | exact absurd (Decidable.not_not.mp q55) (by with_reducible assumption)
          | exact absurd (by with_reducible assumption) (Int32.not_le.mpr q55)
          | exact absurd (by with_reducible assumption) (Int32.not_lt.mpr q55)
          | skip
            (try simp (disch := omega) only [nI_ltI, nI_leI, nI_eq, nI_ltL, nI_leL, nI_eqL, nI_Llt, nI_Lle, nI_Leq, nI_eqm, nI_meq, nI_ltm, nI_lem, nI_mlt, nI_mle, lg0, lgl, lgg, lgle, lgge, Int32.not_lt, Int32.not_le, Int64.not_lt, Int64.not_le, not_false_eq_true, not_true_eq_false, Decidable.not_not, ge_iff_le, gt_iff_lt] at q55)
            have z4 : rchF (endR al cr wk sv er X.B D E X R y) G (c + 1) k = nI k := if_neg (Int32.not_lt.mpr q55)
            refine pw_blk (mi := mz_47) (b := bz_47_59) rfl rfl ?_
            simp only [bz_47_59, pz_cut_t, pz_cut_f, pz_cut_n, pv_gt, pv_ts, pv_tn, ev_ild3, ev_iret0, pz_wi_gc, pz_wi_ga, pz_wi_gn, pz_wi_gl, pz_wi_gr, pz_wi_same, pz_wi_X, pz_wl_gc, pz_wl_ga, pz_wl_gn, pz_wl_gi, pz_wl_gr, pz_wl_same, pz_wl_X, pz_wr_gc, pz_wr_ga, pz_wr_gn, pz_wr_gi, pz_wr_gl, pz_wr_same, pz_wr_X]
            (try simp (disch := omega) only [nI_clamp, pz_in_nI2, pz_in_nI2L, pv_gt, nI_add, nI_addL, nI_Ladd, pk_mul, nI_mulL, nI_Lmul, pk_sub, nI_subL, nI_Lsub, nI_inc, nI_clampL, Nat.add_sub_cancel, pz_wi_else, pz_wl_else, vu_eq, vu_ne, pz_wi_gc, pz_wi_ga, pz_wi_gn, pz_wi_gl, pz_wi_gr, pz_wi_same, pz_wi_X, pz_wl_gc, pz_wl_ga, pz_wl_gn, pz_wl_gi, pz_wl_gr, pz_wl_same, pz_wl_X, pz_wr_gc, pz_wr_ga, pz_wr_gn, pz_wr_gi, pz_wr_gl, pz_wr_same, pz_wr_X])
            rw [z4] at K
            exact po_ret (K M2 s3 (fun i hi => by rw [s2.i (k := 57) (by decide), s2.i (k := 58) (by decide), s2.i (k := 59) (by decide)]; exact zz i hi))
  exact key 60 0 M (by omega) (sg.rf hS) xD xE xy hT z59 K
end REACH
