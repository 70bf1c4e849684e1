section PLAY8
variable {d : Nat} {M M' M'' : pz_M} {Q : Option Value × pz_M → Prop}
variable {r B g cr wk sv er D E to : Nat} {al : Nat → Nat → Nat} {R : Nat → T3} {y w : Int32} {c : Nat → Int32}
/-- outside the fields of a play -/
def opl (M M' : pz_M) : Prop := ∀ j, j ≠ 47 → j ≠ 49 → j ≠ 50 → (j < 51 ∨ 57 ≤ j) → gi M' 120 j = gi M 120 j
theorem r_play (hd : 10 ≤ d) {a : Nat} (x : rcx M r B cr wk sv er al (fun i => (R i).1) D.testBit E.testBit) (bd : rbd r B cr wk sv er al (fun i => (R i).1)) (hat : a ≤ to) (hto : to < B) (hT : isTR M R) (hu : okT R) (hR : ∀ i, rT (R i)) (hg2 : g ≤ 500) (hg : gi M 127 r = nI g) (hy : gi M 120 46 = y) (hy0 : 0 ≤ y) (hw : gi M 120 47 = w) (hc : ∀ i, 2 ≤ i → i < 6 → c i = 0) (k : ∀ M', sm [120, 149, 152, 155] M M' → opl M M' → gi M' 120 47 = (plR al g cr wk sv er B D E to y 100 R w c a).2.2.1 → isTR M' (plR al g cr wk sv er B D E to y 100 R w c a).2.1 → (∀ i, i < 6 → gi M' 120 (51 + i) = (plR al g cr wk sv er B D E to y 100 R w c a).2.2.2 i) → 0 ≤ (plR al g cr wk sv er B D E to y 100 R w c a).2.2.2 0 → Q (some (.int (nI (plR al g cr wk sv er B D E to y 100 R w c a).1)), M')) : pm d 28 [.ref 120, .int (nI a), .int (nI to)] M Q := by
  obtain ⟨x1, x2, x3, x4, x5, x6, x7, xs, x8, x9⟩ := id x
  obtain ⟨z1, z2, z3, z4, z5, z6, z7, z8⟩ := id bd
  have fin : ∀ M' p vb, SH M' → 0 ≤ gi M' 120 51 → Q (some (.int (nI p)), M') → pw d 28 (54, [some (.ref 120), none, some (.int (nI to)), some (.int vb), some (.int (nI p))], [], M') Q := by
    intro M' p vb hS' h0 hq
    refine pw_blk (mi := mz_28) (b := bz_28_54) rfl rfl ?_
    simp only [bz_28_54, pz_cut_t, pz_cut_f, pz_cut_n, pv_gt, pv_ts, pv_tn, ev_ald0, ev_eld0, ev_gf11_0, ev_ifge, pz_wi_gc, pz_wi_ga, pz_wi_gn, pz_wi_gl, pz_wi_gr, pz_wi_same, pz_wi_X, pz_wl_gc, pz_wl_ga, pz_wl_gn, pz_wl_gi, pz_wl_gr, pz_wl_same, pz_wl_X, pz_wr_gc, pz_wr_ga, pz_wr_gn, pz_wr_gi, pz_wr_gl, pz_wr_same, pz_wr_X, so_120 hS']
    (try simp (disch := omega) only [nI_clamp, pz_in_nI2, pz_in_nI2L, pv_gt, nI_add, nI_addL, nI_Ladd, pk_mul, nI_mulL, nI_Lmul, pk_sub, nI_subL, nI_Lsub, nI_inc, nI_clampL, Nat.add_sub_cancel, pz_wi_else, pz_wl_else, vu_eq, vu_ne, pz_wi_gc, pz_wi_ga, pz_wi_gn, pz_wi_gl, pz_wi_gr, pz_wi_same, pz_wi_X, pz_wl_gc, pz_wl_ga, pz_wl_gn, pz_wl_gi, pz_wl_gr, pz_wl_same, pz_wl_X, pz_wr_gc, pz_wr_ga, pz_wr_gn, pz_wr_gi, pz_wr_gl, pz_wr_same, pz_wr_X])
    refine po_brP (fun q54 => ?_) (fun q54 => ?_)
    · skip
      (try simp (disch := omega) only [nI_ltI, nI_leI, nI_eq, nI_ltL, nI_leL, nI_eqL, nI_Llt, nI_Lle, nI_Leq, nI_eqm, nI_meq, nI_ltm, nI_lem, nI_mlt, nI_mle, lg0, lgl, lgg, lgle, lgge, Int32.not_lt, Int32.not_le, Int64.not_lt, Int64.not_le, not_false_eq_true, not_true_eq_false, Decidable.not_not, ge_iff_le, gt_iff_lt] at q54)
      refine pw_blk (mi := mz_28) (b := bz_28_98) rfl rfl ?_
      simp only [bz_28_98, pz_cut_t, pz_cut_f, pz_cut_n, pv_gt, pv_ts, pv_tn, ev_ild4, ev_iret0, pz_wi_gc, pz_wi_ga, pz_wi_gn, pz_wi_gl, pz_wi_gr, pz_wi_same, pz_wi_X, pz_wl_gc, pz_wl_ga, pz_wl_gn, pz_wl_gi, pz_wl_gr, pz_wl_same, pz_wl_X, pz_wr_gc, pz_wr_ga, pz_wr_gn, pz_wr_gi, pz_wr_gl, pz_wr_same, pz_wr_X]
      (try simp (disch := omega) only [nI_clamp, pz_in_nI2, pz_in_nI2L, pv_gt, nI_add, nI_addL, nI_Ladd, pk_mul, nI_mulL, nI_Lmul, pk_sub, nI_subL, nI_Lsub, nI_inc, nI_clampL, Nat.add_sub_cancel, pz_wi_else, pz_wl_else, vu_eq, vu_ne, pz_wi_gc, pz_wi_ga, pz_wi_gn, pz_wi_gl, pz_wi_gr, pz_wi_same, pz_wi_X, pz_wl_gc, pz_wl_ga, pz_wl_gn, pz_wl_gi, pz_wl_gr, pz_wl_same, pz_wl_X, pz_wr_gc, pz_wr_ga, pz_wr_gn, pz_wr_gi, pz_wr_gl, pz_wr_same, pz_wr_X])
      exact po_ret hq
    · first
      | exact absurd q54 (by decide)
      | exact absurd trivial q54
      | exact q54.elim
      | (exfalso; (try simp (disch := omega) only [nI_ltI, nI_leI, nI_eq, nI_ltL, nI_leL, nI_eqL, nI_Llt, nI_Lle, nI_Leq, nI_eqm, nI_meq, nI_ltm, nI_lem, nI_mlt, nI_mle, lg0, lgl, lgg, lgle, lgge, Int32.not_lt, Int32.not_le, Int64.not_lt, Int64.not_le, not_false_eq_true, not_true_eq_false, Decidable.not_not, ge_iff_le, gt_iff_lt] at q54) <;> omega)
      | exact absurd q54 (by with_reducible assumption)
      | exact absurd (by with_reducible assumption) q54
      | exact absurd (Decidable.not_not.mp q54) (by with_reducible assumption)
      | exact absurd (by with_reducible assumption) (Int32.not_le.mpr q54)
      | exact absurd (by with_reducible assumption) (Int32.not_lt.mpr q54)
  have key : ∀ n p R w c b M', p + (n + 1) = 100 → b < B → okT R → (∀ i, rT (R i)) → sm [120, 149, 152, 155] M M' → opl M M' → gi M' 120 47 = w → isTR M' R → ag4 M' c → gi M' 120 51 = -1 → (∀ M2, sm [120, 149, 152, 155] M M2 → opl M M2 → gi M2 120 47 = (plR al g cr wk sv er B D E to y (n + 1) R w c b).2.2.1 → isTR M2 (plR al g cr wk sv er B D E to y (n + 1) R w c b).2.1 → (∀ i, i < 6 → gi M2 120 (51 + i) = (plR al g cr wk sv er B D E to y (n + 1) R w c b).2.2.2 i) → 0 ≤ (plR al g cr wk sv er B D E to y (n + 1) R w c b).2.2.2 0 → Q (some (.int (nI (p + (plR al g cr wk sv er B D E to y (n + 1) R w c b).1))), M2)) → pw d 28 (54, [some (.ref 120), none, some (.int (nI to)), some (.int (nI b)), some (.int (nI p))], [], M') Q := by
    intro n
    induction n with
    | zero =>
      intro p R w c b M' hp hb hu hR s ho hw hT hc h51 k
      have hS' := x1.sm s
      have e38 : gi M' 120 38 = gi M 120 38 := ho 38 (by decide) (by decide) (by decide) (by decide)
      rw [plR] at k
      have hrb : rbd r B cr wk sv er al (fun i => (R i).1) := ⟨z1, z2, z3, z4, z5, z6, z7, fun i => (hR i).1⟩
      have hs1 : sm [120] M' (pz_wi M' 120 (va_up (gi M' 120) 52 (nI b))) := sm.wi sm.rf (by simp)
      have xx : rcx (pz_wi M' 120 (va_up (gi M' 120) 52 (nI b))) r B cr wk sv er al (fun i => (R i).1) D.testBit E.testBit := by
        obtain ⟨v1, v2, v3, v4, v5, v6, v7, vs, v8, v9⟩ := x
        have xm : rcx M' r B cr wk sv er al (fun i => (R i).1) D.testBit E.testBit := by
          have ebk : bk M' = bk M := by
            unfold bk bank
            rw [e38]
          have erl : rlk M' = rlk M := by
            funext q
            unfold rlk
            rw [ebk, s.l (by decide)]
          obtain ⟨y1, y2, y3, y4⟩ := vs
          refine ⟨hS', ?_, e38.trans v3, ebk.trans v4, ?_, ?_, hT.1, ⟨?_, ?_, ?_, ?_⟩, ?_, ?_⟩
          · unfold okB bank
            rw [e38]
            exact v2
          · unfold nb
            rw [ebk, s.i (k := 123) (by decide)]
            exact v5
          · rw [erl]; exact v6
          · rw [s.i (by decide)]; exact y1
          · rw [s.i (by decide)]; exact y2
          · rw [s.i (by decide)]; exact y3
          · rw [s.i (by decide)]; exact y4
          · rw [s.i (by decide)]; exact v8
          · rw [s.i (by decide)]; exact v9
        exact xm.gen hs1 (by decide) (by rw [pz_wi_same, vu_ne (by decide)])
      have hnx := fun k' => r_next (d := d - 1) (M := pz_wi M' 120 (va_up (gi M' 120) 52 (nI b))) (to := to) (g := g) (y := y) (w := w) (c := va_up c 1 (nI b)) (Q := fun v => pw d 28 (72 + 3, [some (.ref 120), none, some (.int (nI to)), some (.int (nI b)), some (.int (nI (p + 1)))], v.1.toList ++ [], v.2) Q) (by omega) xx hrb hb hto (hT.sm hs1 (by decide) (by decide) (by decide)) hu (by rw [pz_wi_else (by decide), s.i (by decide)]; exact hg) (by rw [pz_wi_same, vk (by decide), ho 46 (by decide) (by decide) (by decide) (by decide)]; exact hy) (by rw [pz_wi_same, vk (by decide)]; exact hw) (by
        obtain ⟨q1, q2, q3, q4⟩ := hc
        refine ⟨?_, ?_, ?_, ?_⟩
        · rw [pz_wi_same, vk (by decide), vk (by decide)]; exact q1
        · rw [pz_wi_same, vk (by decide), vk (by decide)]; exact q2
        · rw [pz_wi_same, vk (by decide), vk (by decide)]; exact q3
        · rw [pz_wi_same, vk (by decide), vk (by decide)]; exact q4) (by rw [pz_wi_same, vk (by decide)]; exact h51) k'
      have hc1 : (pst al g cr wk sv er B D E to y R w (va_up c 1 (nI b)) b).2.2.1 1 = nI b := pst_c1.trans vu_eq
      have hb1 := fun b' => pst_b (al := al) (g := g) (cr := cr) (wk := wk) (sv := sv) (er := er) (D := D) (E := E) (to := to) (b' := b') (y := y) (w := w) (R := R) (c := va_up c 1 (nI b)) hb
      have hh1 := fun how => pst_how (al := al) (g := g) (cr := cr) (wk := wk) (sv := sv) (er := er) (B := B) (D := D) (E := E) (to := to) (how := how) (y := y) (w := w) (R := R) (c := va_up c 1 (nI b)) (b := b)
      have hok := pst_ok (al := al) (g := g) (cr := cr) (wk := wk) (sv := sv) (er := er) (B := B) (D := D) (E := E) (to := to) (w := w) (c := va_up c 1 (nI b)) (b := b) hy0 hu
      have hrt := pst_rT (al := al) (cr := cr) (wk := wk) (sv := sv) (er := er) (B := B) (D := D) (E := E) (to := to) (y := y) (w := w) (c := va_up c 1 (nI b)) (b := b) (show g ≤ 1000 by omega) hR
      have hpw := pst_w (al := al) (g := g) (cr := cr) (wk := wk) (sv := sv) (er := er) (B := B) (D := D) (E := E) (to := to) (b := b) (y := y) (w := w) (R := R) (c := va_up c 1 (nI b))
      rw [← hpw] at hnx
      generalize pst al g cr wk sv er B D E to y R w (va_up c 1 (nI b)) b = P at k hnx hc1 hb1 hh1 hok hrt
      obtain ⟨R', w', c', nx⟩ := P
      have comb : ∀ M2, sm [120, 149, 152, 155] (pz_wi M' 120 (va_up (gi M' 120) 52 (nI b))) M2 → (∀ j, j ≠ 47 → j ≠ 49 → j ≠ 50 → j ≠ 51 → (j < 53 ∨ 57 ≤ j) → gi M2 120 j = gi (pz_wi M' 120 (va_up (gi M' 120) 52 (nI b))) 120 j) → sm [120, 149, 152, 155] M M2 ∧ opl M M2 ∧ gi M2 120 52 = nI b := by
        intro M2 s2 a1
        refine ⟨s.tr ((hs1.mono (by decide)).tr s2 (fun _ z => z) : sm [120, 149, 152, 155] M' M2) (fun _ z => z), fun j h1 h2 h3 h4 => ?_, ?_⟩
        · rw [a1 j h1 h2 h3 (by omega) (by omega), pz_wi_same, vu_ne (by omega)]
          exact ho j h1 h2 h3 h4
        · rw [a1 52 (by decide) (by decide) (by decide) (by decide) (by decide), pz_wi_same, vu_eq]
      cases nx with
      | inr how =>
        simp only at k hnx
        have hhow : 0 ≤ how := by
          rcases hh1 how rfl with e | e | e <;> rw [e] <;> decide
        refine pw_blk (mi := mz_28) (b := bz_28_54) rfl rfl ?_
        simp only [bz_28_54, pz_cut_t, pz_cut_f, pz_cut_n, pv_gt, pv_ts, pv_tn, ev_ald0, ev_eld0, ev_gf11_0, ev_ifge, pz_wi_gc, pz_wi_ga, pz_wi_gn, pz_wi_gl, pz_wi_gr, pz_wi_same, pz_wi_X, pz_wl_gc, pz_wl_ga, pz_wl_gn, pz_wl_gi, pz_wl_gr, pz_wl_same, pz_wl_X, pz_wr_gc, pz_wr_ga, pz_wr_gn, pz_wr_gi, pz_wr_gl, pz_wr_same, pz_wr_X, so_120 hS', h51]
        (try simp (disch := omega) only [nI_clamp, pz_in_nI2, pz_in_nI2L, pv_gt, nI_add, nI_addL, nI_Ladd, pk_mul, nI_mulL, nI_Lmul, pk_sub, nI_subL, nI_Lsub, nI_inc, nI_clampL, Nat.add_sub_cancel, pz_wi_else, pz_wl_else, vu_eq, vu_ne, pz_wi_gc, pz_wi_ga, pz_wi_gn, pz_wi_gl, pz_wi_gr, pz_wi_same, pz_wi_X, pz_wl_gc, pz_wl_ga, pz_wl_gn, pz_wl_gi, pz_wl_gr, pz_wl_same, pz_wl_X, pz_wr_gc, pz_wr_ga, pz_wr_gn, pz_wr_gi, pz_wr_gl, pz_wr_same, pz_wr_X, h51])
        refine po_brP (fun q54 => ?_) (fun q54 => ?_)
        · first
          | exact absurd q54 (by decide)
          | exact absurd trivial q54
          | exact q54.elim
          | (exfalso; (try simp (disch := omega) only [nI_ltI, nI_leI, nI_eq, nI_ltL, nI_leL, nI_eqL, nI_Llt, nI_Lle, nI_Leq, nI_eqm, nI_meq, nI_ltm, nI_lem, nI_mlt, nI_mle, lg0, lgl, lgg, lgle, lgge, Int32.not_lt, Int32.not_le, Int64.not_lt, Int64.not_le, not_false_eq_true, not_true_eq_false, Decidable.not_not, ge_iff_le, gt_iff_lt] at q54) <;> omega)
          | exact absurd q54 (by with_reducible assumption)
          | exact absurd (by with_reducible assumption) q54
          | exact absurd (Decidable.not_not.mp q54) (by with_reducible assumption)
          | exact absurd (by with_reducible assumption) (Int32.not_le.mpr q54)
          | exact absurd (by with_reducible assumption) (Int32.not_lt.mpr q54)
        · skip
          (try simp (disch := omega) only [nI_ltI, nI_leI, nI_eq, nI_ltL, nI_leL, nI_eqL, nI_Llt, nI_Lle, nI_Leq, nI_eqm, nI_meq, nI_ltm, nI_lem, nI_mlt, nI_mle, lg0, lgl, lgg, lgle, lgge, Int32.not_lt, Int32.not_le, Int64.not_lt, Int64.not_le, not_false_eq_true, not_true_eq_false, Decidable.not_not, ge_iff_le, gt_iff_lt] at q54)
          refine pw_blk (mi := mz_28) (b := bz_28_61) rfl rfl ?_
          simp only [bz_28_61, pz_cut_t, pz_cut_f, pz_cut_n, pv_gt, pv_ts, pv_tn, ev_ald0, ev_eld0, ev_ild3, ev_pf11_0, ev_inc4n, ev_inc4i, ev_inc4r, ev_inc4e, ev_ild2, ev_cv2_11, pz_wi_gc, pz_wi_ga, pz_wi_gn, pz_wi_gl, pz_wi_gr, pz_wi_same, pz_wi_X, pz_wl_gc, pz_wl_ga, pz_wl_gn, pz_wl_gi, pz_wl_gr, pz_wl_same, pz_wl_X, pz_wr_gc, pz_wr_ga, pz_wr_gn, pz_wr_gi, pz_wr_gl, pz_wr_same, pz_wr_X, so_120 hS', h51]
          (try simp (disch := omega) only [nI_clamp, pz_in_nI2, pz_in_nI2L, pv_gt, nI_add, nI_addL, nI_Ladd, pk_mul, nI_mulL, nI_Lmul, pk_sub, nI_subL, nI_Lsub, nI_inc, nI_clampL, Nat.add_sub_cancel, pz_wi_else, pz_wl_else, vu_eq, vu_ne, pz_wi_gc, pz_wi_ga, pz_wi_gn, pz_wi_gl, pz_wi_gr, pz_wi_same, pz_wi_X, pz_wl_gc, pz_wl_ga, pz_wl_gn, pz_wl_gi, pz_wl_gr, pz_wl_same, pz_wl_X, pz_wr_gc, pz_wr_ga, pz_wr_gn, pz_wr_gi, pz_wr_gl, pz_wr_same, pz_wr_X, h51])
          (try refine po_gP (Nat.le_of_ble_eq_true rfl) ?_)
          refine po_call (by omega) (hnx (fun M2 v2 s2 a1 a2 a3 a4 a5 a6 => ?_))
          obtain ⟨s12, o2, e52⟩ := comb M2 s2 a1
          have hS2 := x1.sm s12
          have h0 : 0 ≤ gi M2 120 51 := by rw [a5]; exact hhow
          refine pw_blk (mi := mz_28) (b := bz_28_75) rfl rfl ?_
          simp only [bz_28_75, pz_cut_t, pz_cut_f, pz_cut_n, pv_gt, pv_ts, pv_tn, ev_ist3n, ev_ist3i, ev_ist3r, ev_ist3e, ev_ist3l, ev_ald0, ev_eld0, ev_gf11_0, ev_ifge, pz_wi_gc, pz_wi_ga, pz_wi_gn, pz_wi_gl, pz_wi_gr, pz_wi_same, pz_wi_X, pz_wl_gc, pz_wl_ga, pz_wl_gn, pz_wl_gi, pz_wl_gr, pz_wl_same, pz_wl_X, pz_wr_gc, pz_wr_ga, pz_wr_gn, pz_wr_gi, pz_wr_gl, pz_wr_same, pz_wr_X, so_120 hS', h51, so_120 hS2]
          (try simp (disch := omega) only [nI_clamp, pz_in_nI2, pz_in_nI2L, pv_gt, nI_add, nI_addL, nI_Ladd, pk_mul, nI_mulL, nI_Lmul, pk_sub, nI_subL, nI_Lsub, nI_inc, nI_clampL, Nat.add_sub_cancel, pz_wi_else, pz_wl_else, vu_eq, vu_ne, pz_wi_gc, pz_wi_ga, pz_wi_gn, pz_wi_gl, pz_wi_gr, pz_wi_same, pz_wi_X, pz_wl_gc, pz_wl_ga, pz_wl_gn, pz_wl_gi, pz_wl_gr, pz_wl_same, pz_wl_X, pz_wr_gc, pz_wr_ga, pz_wr_gn, pz_wr_gi, pz_wr_gl, pz_wr_same, pz_wr_X, h51, so_120 hS2])
          refine po_brP (fun q75 => ?_) (fun q75 => ?_)
          · skip
            (try simp (disch := omega) only [nI_ltI, nI_leI, nI_eq, nI_ltL, nI_leL, nI_eqL, nI_Llt, nI_Lle, nI_Leq, nI_eqm, nI_meq, nI_ltm, nI_lem, nI_mlt, nI_mle, lg0, lgl, lgg, lgle, lgge, Int32.not_lt, Int32.not_le, Int64.not_lt, Int64.not_le, not_false_eq_true, not_true_eq_false, Decidable.not_not, ge_iff_le, gt_iff_lt] at q75)
            refine fin M2 (p + 1) _ hS2 h0 (k M2 s12 o2 a2 a3 (fun i hi => ?_) (by rw [vu_eq]; exact hhow))
            match i, hi with
            | 0, _ => rw [vu_eq]; exact a5
            | 1, _ => rw [vk (by decide)]; exact e52.trans hc1.symm
            | 2, _ => rw [vk (by decide)]; exact a4.1
            | 3, _ => rw [vk (by decide)]; exact a4.2.1
            | 4, _ => rw [vk (by decide)]; exact a4.2.2.1
            | 5, _ => rw [vk (by decide)]; exact a4.2.2.2
          · first
            | exact absurd q75 (by decide)
            | exact absurd trivial q75
            | exact q75.elim
            | (exfalso; (try simp (disch := omega) only [nI_ltI, nI_leI, nI_eq, nI_ltL, nI_leL, nI_eqL, nI_Llt, nI_Lle, nI_Leq, nI_eqm, nI_meq, nI_ltm, nI_lem, nI_mlt, nI_mle, lg0, lgl, lgg, lgle, lgge, Int32.not_lt, Int32.not_le, Int64.not_lt, Int64.not_le, not_false_eq_true, not_true_eq_false, Decidable.not_not, ge_iff_le, gt_iff_lt] at q75) <;> omega)
            | exact absurd q75 (by with_reducible assumption)
            | exact absurd (by with_reducible assumption) q75
            | exact absurd (Decidable.not_not.mp q75) (by with_reducible assumption)
            | exact absurd (by with_reducible assumption) (Int32.not_le.mpr q75)
            | exact absurd (by with_reducible assumption) (Int32.not_lt.mpr q75)
      | inl b' =>
        simp only at k hnx
        have hb' := hb1 b' rfl
        have hp2 : p = 99 := by omega
        subst hp2
        refine pw_blk (mi := mz_28) (b := bz_28_54) rfl rfl ?_
        simp only [bz_28_54, pz_cut_t, pz_cut_f, pz_cut_n, pv_gt, pv_ts, pv_tn, ev_ald0, ev_eld0, ev_gf11_0, ev_ifge, pz_wi_gc, pz_wi_ga, pz_wi_gn, pz_wi_gl, pz_wi_gr, pz_wi_same, pz_wi_X, pz_wl_gc, pz_wl_ga, pz_wl_gn, pz_wl_gi, pz_wl_gr, pz_wl_same, pz_wl_X, pz_wr_gc, pz_wr_ga, pz_wr_gn, pz_wr_gi, pz_wr_gl, pz_wr_same, pz_wr_X, so_120 hS', h51]
        (try simp (disch := omega) only [nI_clamp, pz_in_nI2, pz_in_nI2L, pv_gt, nI_add, nI_addL, nI_Ladd, pk_mul, nI_mulL, nI_Lmul, pk_sub, nI_subL, nI_Lsub, nI_inc, nI_clampL, Nat.add_sub_cancel, pz_wi_else, pz_wl_else, vu_eq, vu_ne, pz_wi_gc, pz_wi_ga, pz_wi_gn, pz_wi_gl, pz_wi_gr, pz_wi_same, pz_wi_X, pz_wl_gc, pz_wl_ga, pz_wl_gn, pz_wl_gi, pz_wl_gr, pz_wl_same, pz_wl_X, pz_wr_gc, pz_wr_ga, pz_wr_gn, pz_wr_gi, pz_wr_gl, pz_wr_same, pz_wr_X, h51])
        refine po_brP (fun q54 => ?_) (fun q54 => ?_)
        · first
          | exact absurd q54 (by decide)
          | exact absurd trivial q54
          | exact q54.elim
          | (exfalso; (try simp (disch := omega) only [nI_ltI, nI_leI, nI_eq, nI_ltL, nI_leL, nI_eqL, nI_Llt, nI_Lle, nI_Leq, nI_eqm, nI_meq, nI_ltm, nI_lem, nI_mlt, nI_mle, lg0, lgl, lgg, lgle, lgge, Int32.not_lt, Int32.not_le, Int64.not_lt, Int64.not_le, not_false_eq_true, not_true_eq_false, Decidable.not_not, ge_iff_le, gt_iff_lt] at q54) <;> omega)
          | exact absurd q54 (by with_reducible assumption)
          | exact absurd (by with_reducible assumption) q54
          | exact absurd (Decidable.not_not.mp q54) (by with_reducible assumption)
          | exact absurd (by with_reducible assumption) (Int32.not_le.mpr q54)
          | exact absurd (by with_reducible assumption) (Int32.not_lt.mpr q54)
        · skip
          (try simp (disch := omega) only [nI_ltI, nI_leI, nI_eq, nI_ltL, nI_leL, nI_eqL, nI_Llt, nI_Lle, nI_Leq, nI_eqm, nI_meq, nI_ltm, nI_lem, nI_mlt, nI_mle, lg0, lgl, lgg, lgle, lgge, Int32.not_lt, Int32.not_le, Int64.not_lt, Int64.not_le, not_false_eq_true, not_true_eq_false, Decidable.not_not, ge_iff_le, gt_iff_lt] at q54)
          refine pw_blk (mi := mz_28) (b := bz_28_61) rfl rfl ?_
          simp only [bz_28_61, pz_cut_t, pz_cut_f, pz_cut_n, pv_gt, pv_ts, pv_tn, ev_ald0, ev_eld0, ev_ild3, ev_pf11_0, ev_inc4n, ev_inc4i, ev_inc4r, ev_inc4e, ev_ild2, ev_cv2_11, pz_wi_gc, pz_wi_ga, pz_wi_gn, pz_wi_gl, pz_wi_gr, pz_wi_same, pz_wi_X, pz_wl_gc, pz_wl_ga, pz_wl_gn, pz_wl_gi, pz_wl_gr, pz_wl_same, pz_wl_X, pz_wr_gc, pz_wr_ga, pz_wr_gn, pz_wr_gi, pz_wr_gl, pz_wr_same, pz_wr_X, so_120 hS', h51]
          (try simp (disch := omega) only [nI_clamp, pz_in_nI2, pz_in_nI2L, pv_gt, nI_add, nI_addL, nI_Ladd, pk_mul, nI_mulL, nI_Lmul, pk_sub, nI_subL, nI_Lsub, nI_inc, nI_clampL, Nat.add_sub_cancel, pz_wi_else, pz_wl_else, vu_eq, vu_ne, pz_wi_gc, pz_wi_ga, pz_wi_gn, pz_wi_gl, pz_wi_gr, pz_wi_same, pz_wi_X, pz_wl_gc, pz_wl_ga, pz_wl_gn, pz_wl_gi, pz_wl_gr, pz_wl_same, pz_wl_X, pz_wr_gc, pz_wr_ga, pz_wr_gn, pz_wr_gi, pz_wr_gl, pz_wr_same, pz_wr_X, h51])
          (try refine po_gP (Nat.le_of_ble_eq_true rfl) ?_)
          refine po_call (by omega) (hnx (fun M2 v2 s2 a1 a2 a3 a4 a5 a6 => ?_))
          obtain ⟨s12, o2, e52⟩ := comb M2 s2 a1
          have hS2 := x1.sm s12
          have e51 : gi M2 120 51 = -1 := a5
          refine pw_blk (mi := mz_28) (b := bz_28_75) rfl rfl ?_
          simp only [bz_28_75, pz_cut_t, pz_cut_f, pz_cut_n, pv_gt, pv_ts, pv_tn, ev_ist3n, ev_ist3i, ev_ist3r, ev_ist3e, ev_ist3l, ev_ald0, ev_eld0, ev_gf11_0, ev_ifge, pz_wi_gc, pz_wi_ga, pz_wi_gn, pz_wi_gl, pz_wi_gr, pz_wi_same, pz_wi_X, pz_wl_gc, pz_wl_ga, pz_wl_gn, pz_wl_gi, pz_wl_gr, pz_wl_same, pz_wl_X, pz_wr_gc, pz_wr_ga, pz_wr_gn, pz_wr_gi, pz_wr_gl, pz_wr_same, pz_wr_X, so_120 hS', h51, so_120 hS2]
          (try simp (disch := omega) only [nI_clamp, pz_in_nI2, pz_in_nI2L, pv_gt, nI_add, nI_addL, nI_Ladd, pk_mul, nI_mulL, nI_Lmul, pk_sub, nI_subL, nI_Lsub, nI_inc, nI_clampL, Nat.add_sub_cancel, pz_wi_else, pz_wl_else, vu_eq, vu_ne, pz_wi_gc, pz_wi_ga, pz_wi_gn, pz_wi_gl, pz_wi_gr, pz_wi_same, pz_wi_X, pz_wl_gc, pz_wl_ga, pz_wl_gn, pz_wl_gi, pz_wl_gr, pz_wl_same, pz_wl_X, pz_wr_gc, pz_wr_ga, pz_wr_gn, pz_wr_gi, pz_wr_gl, pz_wr_same, pz_wr_X, h51, so_120 hS2])
          refine po_brP (fun q75 => ?_) (fun q75 => ?_)
          · rw [e51] at q75; exact absurd q75 (by decide)
          · first
            | exact absurd q75 (by decide)
            | exact absurd trivial q75
            | exact q75.elim
            | (exfalso; (try simp (disch := omega) only [nI_ltI, nI_leI, nI_eq, nI_ltL, nI_leL, nI_eqL, nI_Llt, nI_Lle, nI_Leq, nI_eqm, nI_meq, nI_ltm, nI_lem, nI_mlt, nI_mle, lg0, lgl, lgg, lgle, lgge, Int32.not_lt, Int32.not_le, Int64.not_lt, Int64.not_le, not_false_eq_true, not_true_eq_false, Decidable.not_not, ge_iff_le, gt_iff_lt] at q75) <;> omega)
            | exact absurd q75 (by with_reducible assumption)
            | exact absurd (by with_reducible assumption) q75
            | exact absurd (Decidable.not_not.mp q75) (by with_reducible assumption)
            | exact absurd (by with_reducible assumption) (Int32.not_le.mpr q75)
            | exact absurd (by with_reducible assumption) (Int32.not_lt.mpr q75)
            | skip
              (try simp (disch := omega) only [nI_ltI, nI_leI, nI_eq, nI_ltL, nI_leL, nI_eqL, nI_Llt, nI_Lle, nI_Leq, nI_eqm, nI_meq, nI_ltm, nI_lem, nI_mlt, nI_mle, lg0, lgl, lgg, lgle, lgge, Int32.not_lt, Int32.not_le, Int64.not_lt, Int64.not_le, not_false_eq_true, not_true_eq_false, Decidable.not_not, ge_iff_le, gt_iff_lt] at q75)
              refine pw_blk (mi := mz_28) (b := bz_28_83) rfl rfl ?_
              simp only [bz_28_83, pz_cut_t, pz_cut_f, pz_cut_n, pv_gt, pv_ts, pv_tn, ev_ild4, ev_bp100, ev_ic_ne, pz_wi_gc, pz_wi_ga, pz_wi_gn, pz_wi_gl, pz_wi_gr, pz_wi_same, pz_wi_X, pz_wl_gc, pz_wl_ga, pz_wl_gn, pz_wl_gi, pz_wl_gr, pz_wl_same, pz_wl_X, pz_wr_gc, pz_wr_ga, pz_wr_gn, pz_wr_gi, pz_wr_gl, pz_wr_same, pz_wr_X, h51]
              (try simp (disch := omega) only [nI_clamp, pz_in_nI2, pz_in_nI2L, pv_gt, nI_add, nI_addL, nI_Ladd, pk_mul, nI_mulL, nI_Lmul, pk_sub, nI_subL, nI_Lsub, nI_inc, nI_clampL, Nat.add_sub_cancel, pz_wi_else, pz_wl_else, vu_eq, vu_ne, pz_wi_gc, pz_wi_ga, pz_wi_gn, pz_wi_gl, pz_wi_gr, pz_wi_same, pz_wi_X, pz_wl_gc, pz_wl_ga, pz_wl_gn, pz_wl_gi, pz_wl_gr, pz_wl_same, pz_wl_X, pz_wr_gc, pz_wr_ga, pz_wr_gn, pz_wr_gi, pz_wr_gl, pz_wr_same, pz_wr_X, h51])
              refine po_brP (fun q83 => ?_) (fun q83 => ?_)
              · first
                | exact absurd q83 (by decide)
                | exact absurd trivial q83
                | exact q83.elim
                | (exfalso; (try simp (disch := omega) only [nI_ltI, nI_leI, nI_eq, nI_ltL, nI_leL, nI_eqL, nI_Llt, nI_Lle, nI_Leq, nI_eqm, nI_meq, nI_ltm, nI_lem, nI_mlt, nI_mle, lg0, lgl, lgg, lgle, lgge, Int32.not_lt, Int32.not_le, Int64.not_lt, Int64.not_le, not_false_eq_true, not_true_eq_false, Decidable.not_not, ge_iff_le, gt_iff_lt] at q83) <;> omega)
                | exact absurd q83 (by with_reducible assumption)
                | exact absurd (by with_reducible assumption) q83
                | exact absurd (Decidable.not_not.mp q83) (by with_reducible assumption)
                | exact absurd (by with_reducible assumption) (Int32.not_le.mpr q83)
                | exact absurd (by with_reducible assumption) (Int32.not_lt.mpr q83)
              · skip
                (try simp (disch := omega) only [nI_ltI, nI_leI, nI_eq, nI_ltL, nI_leL, nI_eqL, nI_Llt, nI_Lle, nI_Leq, nI_eqm, nI_meq, nI_ltm, nI_lem, nI_mlt, nI_mle, lg0, lgl, lgg, lgle, lgge, Int32.not_lt, Int32.not_le, Int64.not_lt, Int64.not_le, not_false_eq_true, not_true_eq_false, Decidable.not_not, ge_iff_le, gt_iff_lt] at q83)
                refine pw_blk (mi := mz_28) (b := bz_28_90) rfl rfl ?_
                simp only [bz_28_90, pz_cut_t, pz_cut_f, pz_cut_n, pv_gt, pv_ts, pv_tn, ev_ald0, ev_eld0, ev_ic3, ev_pf11_0, ev_goto, pz_wi_gc, pz_wi_ga, pz_wi_gn, pz_wi_gl, pz_wi_gr, pz_wi_same, pz_wi_X, pz_wl_gc, pz_wl_ga, pz_wl_gn, pz_wl_gi, pz_wl_gr, pz_wl_same, pz_wl_X, pz_wr_gc, pz_wr_ga, pz_wr_gn, pz_wr_gi, pz_wr_gl, pz_wr_same, pz_wr_X, so_120 hS', h51, so_120 hS2]
                (try simp (disch := omega) only [nI_clamp, pz_in_nI2, pz_in_nI2L, pv_gt, nI_add, nI_addL, nI_Ladd, pk_mul, nI_mulL, nI_Lmul, pk_sub, nI_subL, nI_Lsub, nI_inc, nI_clampL, Nat.add_sub_cancel, pz_wi_else, pz_wl_else, vu_eq, vu_ne, pz_wi_gc, pz_wi_ga, pz_wi_gn, pz_wi_gl, pz_wi_gr, pz_wi_same, pz_wi_X, pz_wl_gc, pz_wl_ga, pz_wl_gn, pz_wl_gi, pz_wl_gr, pz_wl_same, pz_wl_X, pz_wr_gc, pz_wr_ga, pz_wr_gn, pz_wr_gi, pz_wr_gl, pz_wr_same, pz_wr_X, h51, so_120 hS2])
                refine po_go ?_
                refine fin _ (99 + 1) _ (hS2.sm (K := [120]) (sm.wi sm.rf (by simp))) (by rw [pz_wi_same, vu_eq]; decide) (k _ (s12.wi (by simp)) (fun j h1 h2 h3 h4 => ?_) ?_ (a3.sm (K := [120]) (sm.wi sm.rf (by simp)) (by decide) (by decide) (by decide)) (fun i hi => ?_) (by rw [plR]; simp only; rw [vu_eq]; decide))
                · rw [pz_wi_same, vu_ne (by omega)]; exact o2 j h1 h2 h3 h4
                · rw [pz_wi_same, vk (by decide)]; exact a2
                · rw [pz_wi_same, plR]
                  simp only
                  match i, hi with
                  | 0, _ => rw [vu_eq, vu_eq]
                  | 1, _ => rw [vk (by decide), vk (by decide)]; exact e52.trans hc1.symm
                  | 2, _ => rw [vk (by decide), vk (by decide)]; exact a4.1
                  | 3, _ => rw [vk (by decide), vk (by decide)]; exact a4.2.1
                  | 4, _ => rw [vk (by decide), vk (by decide)]; exact a4.2.2.1
                  | 5, _ => rw [vk (by decide), vk (by decide)]; exact a4.2.2.2
    | succ n ih =>
      intro p R w c b M' hp hb hu hR s ho hw hT hc h51 k
      have hS' := x1.sm s
      have e38 : gi M' 120 38 = gi M 120 38 := ho 38 (by decide) (by decide) (by decide) (by decide)
      rw [plR] at k
      have hrb : rbd r B cr wk sv er al (fun i => (R i).1) := ⟨z1, z2, z3, z4, z5, z6, z7, fun i => (hR i).1⟩
      have hs1 : sm [120] M' (pz_wi M' 120 (va_up (gi M' 120) 52 (nI b))) := sm.wi sm.rf (by simp)
      have xx : rcx (pz_wi M' 120 (va_up (gi M' 120) 52 (nI b))) r B cr wk sv er al (fun i => (R i).1) D.testBit E.testBit := by
        obtain ⟨v1, v2, v3, v4, v5, v6, v7, vs, v8, v9⟩ := x
        have xm : rcx M' r B cr wk sv er al (fun i => (R i).1) D.testBit E.testBit := by
          have ebk : bk M' = bk M := by
            unfold bk bank
            rw [e38]
          have erl : rlk M' = rlk M := by
            funext q
            unfold rlk
            rw [ebk, s.l (by decide)]
          obtain ⟨y1, y2, y3, y4⟩ := vs
          refine ⟨hS', ?_, e38.trans v3, ebk.trans v4, ?_, ?_, hT.1, ⟨?_, ?_, ?_, ?_⟩, ?_, ?_⟩
          · unfold okB bank
            rw [e38]
            exact v2
          · unfold nb
            rw [ebk, s.i (k := 123) (by decide)]
            exact v5
          · rw [erl]; exact v6
          · rw [s.i (by decide)]; exact y1
          · rw [s.i (by decide)]; exact y2
          · rw [s.i (by decide)]; exact y3
          · rw [s.i (by decide)]; exact y4
          · rw [s.i (by decide)]; exact v8
          · rw [s.i (by decide)]; exact v9
        exact xm.gen hs1 (by decide) (by rw [pz_wi_same, vu_ne (by decide)])
      have hnx := fun k' => r_next (d := d - 1) (M := pz_wi M' 120 (va_up (gi M' 120) 52 (nI b))) (to := to) (g := g) (y := y) (w := w) (c := va_up c 1 (nI b)) (Q := fun v => pw d 28 (72 + 3, [some (.ref 120), none, some (.int (nI to)), some (.int (nI b)), some (.int (nI (p + 1)))], v.1.toList ++ [], v.2) Q) (by omega) xx hrb hb hto (hT.sm hs1 (by decide) (by decide) (by decide)) hu (by rw [pz_wi_else (by decide), s.i (by decide)]; exact hg) (by rw [pz_wi_same, vk (by decide), ho 46 (by decide) (by decide) (by decide) (by decide)]; exact hy) (by rw [pz_wi_same, vk (by decide)]; exact hw) (by
        obtain ⟨q1, q2, q3, q4⟩ := hc
        refine ⟨?_, ?_, ?_, ?_⟩
        · rw [pz_wi_same, vk (by decide), vk (by decide)]; exact q1
        · rw [pz_wi_same, vk (by decide), vk (by decide)]; exact q2
        · rw [pz_wi_same, vk (by decide), vk (by decide)]; exact q3
        · rw [pz_wi_same, vk (by decide), vk (by decide)]; exact q4) (by rw [pz_wi_same, vk (by decide)]; exact h51) k'
      have hc1 : (pst al g cr wk sv er B D E to y R w (va_up c 1 (nI b)) b).2.2.1 1 = nI b := pst_c1.trans vu_eq
      have hb1 := fun b' => pst_b (al := al) (g := g) (cr := cr) (wk := wk) (sv := sv) (er := er) (D := D) (E := E) (to := to) (b' := b') (y := y) (w := w) (R := R) (c := va_up c 1 (nI b)) hb
      have hh1 := fun how => pst_how (al := al) (g := g) (cr := cr) (wk := wk) (sv := sv) (er := er) (B := B) (D := D) (E := E) (to := to) (how := how) (y := y) (w := w) (R := R) (c := va_up c 1 (nI b)) (b := b)
      have hok := pst_ok (al := al) (g := g) (cr := cr) (wk := wk) (sv := sv) (er := er) (B := B) (D := D) (E := E) (to := to) (w := w) (c := va_up c 1 (nI b)) (b := b) hy0 hu
      have hrt := pst_rT (al := al) (cr := cr) (wk := wk) (sv := sv) (er := er) (B := B) (D := D) (E := E) (to := to) (y := y) (w := w) (c := va_up c 1 (nI b)) (b := b) (show g ≤ 1000 by omega) hR
      have hpw := pst_w (al := al) (g := g) (cr := cr) (wk := wk) (sv := sv) (er := er) (B := B) (D := D) (E := E) (to := to) (b := b) (y := y) (w := w) (R := R) (c := va_up c 1 (nI b))
      rw [← hpw] at hnx
      generalize pst al g cr wk sv er B D E to y R w (va_up c 1 (nI b)) b = P at k hnx hc1 hb1 hh1 hok hrt
      obtain ⟨R', w', c', nx⟩ := P
      have comb : ∀ M2, sm [120, 149, 152, 155] (pz_wi M' 120 (va_up (gi M' 120) 52 (nI b))) M2 → (∀ j, j ≠ 47 → j ≠ 49 → j ≠ 50 → j ≠ 51 → (j < 53 ∨ 57 ≤ j) → gi M2 120 j = gi (pz_wi M' 120 (va_up (gi M' 120) 52 (nI b))) 120 j) → sm [120, 149, 152, 155] M M2 ∧ opl M M2 ∧ gi M2 120 52 = nI b := by
        intro M2 s2 a1
        refine ⟨s.tr ((hs1.mono (by decide)).tr s2 (fun _ z => z) : sm [120, 149, 152, 155] M' M2) (fun _ z => z), fun j h1 h2 h3 h4 => ?_, ?_⟩
        · rw [a1 j h1 h2 h3 (by omega) (by omega), pz_wi_same, vu_ne (by omega)]
          exact ho j h1 h2 h3 h4
        · rw [a1 52 (by decide) (by decide) (by decide) (by decide) (by decide), pz_wi_same, vu_eq]
      cases nx with
      | inr how =>
        simp only at k hnx
        have hhow : 0 ≤ how := by
          rcases hh1 how rfl with e | e | e <;> rw [e] <;> decide
        refine pw_blk (mi := mz_28) (b := bz_28_54) rfl rfl ?_
        simp only [bz_28_54, pz_cut_t, pz_cut_f, pz_cut_n, pv_gt, pv_ts, pv_tn, ev_ald0, ev_eld0, ev_gf11_0, ev_ifge, pz_wi_gc, pz_wi_ga, pz_wi_gn, pz_wi_gl, pz_wi_gr, pz_wi_same, pz_wi_X, pz_wl_gc, pz_wl_ga, pz_wl_gn, pz_wl_gi, pz_wl_gr, pz_wl_same, pz_wl_X, pz_wr_gc, pz_wr_ga, pz_wr_gn, pz_wr_gi, pz_wr_gl, pz_wr_same, pz_wr_X, so_120 hS', h51]
        (try simp (disch := omega) only [nI_clamp, pz_in_nI2, pz_in_nI2L, pv_gt, nI_add, nI_addL, nI_Ladd, pk_mul, nI_mulL, nI_Lmul, pk_sub, nI_subL, nI_Lsub, nI_inc, nI_clampL, Nat.add_sub_cancel, pz_wi_else, pz_wl_else, vu_eq, vu_ne, pz_wi_gc, pz_wi_ga, pz_wi_gn, pz_wi_gl, pz_wi_gr, pz_wi_same, pz_wi_X, pz_wl_gc, pz_wl_ga, pz_wl_gn, pz_wl_gi, pz_wl_gr, pz_wl_same, pz_wl_X, pz_wr_gc, pz_wr_ga, pz_wr_gn, pz_wr_gi, pz_wr_gl, pz_wr_same, pz_wr_X, h51])
        refine po_brP (fun q54 => ?_) (fun q54 => ?_)
        · first
          | exact absurd q54 (by decide)
          | exact absurd trivial q54
          | exact q54.elim
          | (exfalso; (try simp (disch := omega) only [nI_ltI, nI_leI, nI_eq, nI_ltL, nI_leL, nI_eqL, nI_Llt, nI_Lle, nI_Leq, nI_eqm, nI_meq, nI_ltm, nI_lem, nI_mlt, nI_mle, lg0, lgl, lgg, lgle, lgge, Int32.not_lt, Int32.not_le, Int64.not_lt, Int64.not_le, not_false_eq_true, not_true_eq_false, Decidable.not_not, ge_iff_le, gt_iff_lt] at q54) <;> omega)
          | exact absurd q54 (by with_reducible assumption)
          | exact absurd (by with_reducible assumption) q54
          | exact absurd (Decidable.not_not.mp q54) (by with_reducible assumption)
          | exact absurd (by with_reducible assumption) (Int32.not_le.mpr q54)
          | exact absurd (by with_reducible assumption) (Int32.not_lt.mpr q54)
        · skip
          (try simp (disch := omega) only [nI_ltI, nI_leI, nI_eq, nI_ltL, nI_leL, nI_eqL, nI_Llt, nI_Lle, nI_Leq, nI_eqm, nI_meq, nI_ltm, nI_lem, nI_mlt, nI_mle, lg0, lgl, lgg, lgle, lgge, Int32.not_lt, Int32.not_le, Int64.not_lt, Int64.not_le, not_false_eq_true, not_true_eq_false, Decidable.not_not, ge_iff_le, gt_iff_lt] at q54)
          refine pw_blk (mi := mz_28) (b := bz_28_61) rfl rfl ?_
          simp only [bz_28_61, pz_cut_t, pz_cut_f, pz_cut_n, pv_gt, pv_ts, pv_tn, ev_ald0, ev_eld0, ev_ild3, ev_pf11_0, ev_inc4n, ev_inc4i, ev_inc4r, ev_inc4e, ev_ild2, ev_cv2_11, pz_wi_gc, pz_wi_ga, pz_wi_gn, pz_wi_gl, pz_wi_gr, pz_wi_same, pz_wi_X, pz_wl_gc, pz_wl_ga, pz_wl_gn, pz_wl_gi, pz_wl_gr, pz_wl_same, pz_wl_X, pz_wr_gc, pz_wr_ga, pz_wr_gn, pz_wr_gi, pz_wr_gl, pz_wr_same, pz_wr_X, so_120 hS', h51]
          (try simp (disch := omega) only [nI_clamp, pz_in_nI2, pz_in_nI2L, pv_gt, nI_add, nI_addL, nI_Ladd, pk_mul, nI_mulL, nI_Lmul, pk_sub, nI_subL, nI_Lsub, nI_inc, nI_clampL, Nat.add_sub_cancel, pz_wi_else, pz_wl_else, vu_eq, vu_ne, pz_wi_gc, pz_wi_ga, pz_wi_gn, pz_wi_gl, pz_wi_gr, pz_wi_same, pz_wi_X, pz_wl_gc, pz_wl_ga, pz_wl_gn, pz_wl_gi, pz_wl_gr, pz_wl_same, pz_wl_X, pz_wr_gc, pz_wr_ga, pz_wr_gn, pz_wr_gi, pz_wr_gl, pz_wr_same, pz_wr_X, h51])
          (try refine po_gP (Nat.le_of_ble_eq_true rfl) ?_)
          refine po_call (by omega) (hnx (fun M2 v2 s2 a1 a2 a3 a4 a5 a6 => ?_))
          obtain ⟨s12, o2, e52⟩ := comb M2 s2 a1
          have hS2 := x1.sm s12
          have h0 : 0 ≤ gi M2 120 51 := by rw [a5]; exact hhow
          refine pw_blk (mi := mz_28) (b := bz_28_75) rfl rfl ?_
          simp only [bz_28_75, pz_cut_t, pz_cut_f, pz_cut_n, pv_gt, pv_ts, pv_tn, ev_ist3n, ev_ist3i, ev_ist3r, ev_ist3e, ev_ist3l, ev_ald0, ev_eld0, ev_gf11_0, ev_ifge, pz_wi_gc, pz_wi_ga, pz_wi_gn, pz_wi_gl, pz_wi_gr, pz_wi_same, pz_wi_X, pz_wl_gc, pz_wl_ga, pz_wl_gn, pz_wl_gi, pz_wl_gr, pz_wl_same, pz_wl_X, pz_wr_gc, pz_wr_ga, pz_wr_gn, pz_wr_gi, pz_wr_gl, pz_wr_same, pz_wr_X, so_120 hS', h51, so_120 hS2]
          (try simp (disch := omega) only [nI_clamp, pz_in_nI2, pz_in_nI2L, pv_gt, nI_add, nI_addL, nI_Ladd, pk_mul, nI_mulL, nI_Lmul, pk_sub, nI_subL, nI_Lsub, nI_inc, nI_clampL, Nat.add_sub_cancel, pz_wi_else, pz_wl_else, vu_eq, vu_ne, pz_wi_gc, pz_wi_ga, pz_wi_gn, pz_wi_gl, pz_wi_gr, pz_wi_same, pz_wi_X, pz_wl_gc, pz_wl_ga, pz_wl_gn, pz_wl_gi, pz_wl_gr, pz_wl_same, pz_wl_X, pz_wr_gc, pz_wr_ga, pz_wr_gn, pz_wr_gi, pz_wr_gl, pz_wr_same, pz_wr_X, h51, so_120 hS2])
          refine po_brP (fun q75 => ?_) (fun q75 => ?_)
          · skip
            (try simp (disch := omega) only [nI_ltI, nI_leI, nI_eq, nI_ltL, nI_leL, nI_eqL, nI_Llt, nI_Lle, nI_Leq, nI_eqm, nI_meq, nI_ltm, nI_lem, nI_mlt, nI_mle, lg0, lgl, lgg, lgle, lgge, Int32.not_lt, Int32.not_le, Int64.not_lt, Int64.not_le, not_false_eq_true, not_true_eq_false, Decidable.not_not, ge_iff_le, gt_iff_lt] at q75)
            refine fin M2 (p + 1) _ hS2 h0 (k M2 s12 o2 a2 a3 (fun i hi => ?_) (by rw [vu_eq]; exact hhow))
            match i, hi with
            | 0, _ => rw [vu_eq]; exact a5
            | 1, _ => rw [vk (by decide)]; exact e52.trans hc1.symm
            | 2, _ => rw [vk (by decide)]; exact a4.1
            | 3, _ => rw [vk (by decide)]; exact a4.2.1
            | 4, _ => rw [vk (by decide)]; exact a4.2.2.1
            | 5, _ => rw [vk (by decide)]; exact a4.2.2.2
          · first
            | exact absurd q75 (by decide)
            | exact absurd trivial q75
            | exact q75.elim
            | (exfalso; (try simp (disch := omega) only [nI_ltI, nI_leI, nI_eq, nI_ltL, nI_leL, nI_eqL, nI_Llt, nI_Lle, nI_Leq, nI_eqm, nI_meq, nI_ltm, nI_lem, nI_mlt, nI_mle, lg0, lgl, lgg, lgle, lgge, Int32.not_lt, Int32.not_le, Int64.not_lt, Int64.not_le, not_false_eq_true, not_true_eq_false, Decidable.not_not, ge_iff_le, gt_iff_lt] at q75) <;> omega)
            | exact absurd q75 (by with_reducible assumption)
            | exact absurd (by with_reducible assumption) q75
            | exact absurd (Decidable.not_not.mp q75) (by with_reducible assumption)
            | exact absurd (by with_reducible assumption) (Int32.not_le.mpr q75)
            | exact absurd (by with_reducible assumption) (Int32.not_lt.mpr q75)
      | inl b' =>
        simp only at k hnx
        have hb' := hb1 b' rfl
        refine pw_blk (mi := mz_28) (b := bz_28_54) rfl rfl ?_
        simp only [bz_28_54, pz_cut_t, pz_cut_f, pz_cut_n, pv_gt, pv_ts, pv_tn, ev_ald0, ev_eld0, ev_gf11_0, ev_ifge, pz_wi_gc, pz_wi_ga, pz_wi_gn, pz_wi_gl, pz_wi_gr, pz_wi_same, pz_wi_X, pz_wl_gc, pz_wl_ga, pz_wl_gn, pz_wl_gi, pz_wl_gr, pz_wl_same, pz_wl_X, pz_wr_gc, pz_wr_ga, pz_wr_gn, pz_wr_gi, pz_wr_gl, pz_wr_same, pz_wr_X, so_120 hS', h51]
        (try simp (disch := omega) only [nI_clamp, pz_in_nI2, pz_in_nI2L, pv_gt, nI_add, nI_addL, nI_Ladd, pk_mul, nI_mulL, nI_Lmul, pk_sub, nI_subL, nI_Lsub, nI_inc, nI_clampL, Nat.add_sub_cancel, pz_wi_else, pz_wl_else, vu_eq, vu_ne, pz_wi_gc, pz_wi_ga, pz_wi_gn, pz_wi_gl, pz_wi_gr, pz_wi_same, pz_wi_X, pz_wl_gc, pz_wl_ga, pz_wl_gn, pz_wl_gi, pz_wl_gr, pz_wl_same, pz_wl_X, pz_wr_gc, pz_wr_ga, pz_wr_gn, pz_wr_gi, pz_wr_gl, pz_wr_same, pz_wr_X, h51])
        refine po_brP (fun q54 => ?_) (fun q54 => ?_)
        · first
          | exact absurd q54 (by decide)
          | exact absurd trivial q54
          | exact q54.elim
          | (exfalso; (try simp (disch := omega) only [nI_ltI, nI_leI, nI_eq, nI_ltL, nI_leL, nI_eqL, nI_Llt, nI_Lle, nI_Leq, nI_eqm, nI_meq, nI_ltm, nI_lem, nI_mlt, nI_mle, lg0, lgl, lgg, lgle, lgge, Int32.not_lt, Int32.not_le, Int64.not_lt, Int64.not_le, not_false_eq_true, not_true_eq_false, Decidable.not_not, ge_iff_le, gt_iff_lt] at q54) <;> omega)
          | exact absurd q54 (by with_reducible assumption)
          | exact absurd (by with_reducible assumption) q54
          | exact absurd (Decidable.not_not.mp q54) (by with_reducible assumption)
          | exact absurd (by with_reducible assumption) (Int32.not_le.mpr q54)
          | exact absurd (by with_reducible assumption) (Int32.not_lt.mpr q54)
        · skip
          (try simp (disch := omega) only [nI_ltI, nI_leI, nI_eq, nI_ltL, nI_leL, nI_eqL, nI_Llt, nI_Lle, nI_Leq, nI_eqm, nI_meq, nI_ltm, nI_lem, nI_mlt, nI_mle, lg0, lgl, lgg, lgle, lgge, Int32.not_lt, Int32.not_le, Int64.not_lt, Int64.not_le, not_false_eq_true, not_true_eq_false, Decidable.not_not, ge_iff_le, gt_iff_lt] at q54)
          refine pw_blk (mi := mz_28) (b := bz_28_61) rfl rfl ?_
          simp only [bz_28_61, pz_cut_t, pz_cut_f, pz_cut_n, pv_gt, pv_ts, pv_tn, ev_ald0, ev_eld0, ev_ild3, ev_pf11_0, ev_inc4n, ev_inc4i, ev_inc4r, ev_inc4e, ev_ild2, ev_cv2_11, pz_wi_gc, pz_wi_ga, pz_wi_gn, pz_wi_gl, pz_wi_gr, pz_wi_same, pz_wi_X, pz_wl_gc, pz_wl_ga, pz_wl_gn, pz_wl_gi, pz_wl_gr, pz_wl_same, pz_wl_X, pz_wr_gc, pz_wr_ga, pz_wr_gn, pz_wr_gi, pz_wr_gl, pz_wr_same, pz_wr_X, so_120 hS', h51]
          (try simp (disch := omega) only [nI_clamp, pz_in_nI2, pz_in_nI2L, pv_gt, nI_add, nI_addL, nI_Ladd, pk_mul, nI_mulL, nI_Lmul, pk_sub, nI_subL, nI_Lsub, nI_inc, nI_clampL, Nat.add_sub_cancel, pz_wi_else, pz_wl_else, vu_eq, vu_ne, pz_wi_gc, pz_wi_ga, pz_wi_gn, pz_wi_gl, pz_wi_gr, pz_wi_same, pz_wi_X, pz_wl_gc, pz_wl_ga, pz_wl_gn, pz_wl_gi, pz_wl_gr, pz_wl_same, pz_wl_X, pz_wr_gc, pz_wr_ga, pz_wr_gn, pz_wr_gi, pz_wr_gl, pz_wr_same, pz_wr_X, h51])
          (try refine po_gP (Nat.le_of_ble_eq_true rfl) ?_)
          refine po_call (by omega) (hnx (fun M2 v2 s2 a1 a2 a3 a4 a5 a6 => ?_))
          obtain ⟨s12, o2, e52⟩ := comb M2 s2 a1
          have hS2 := x1.sm s12
          have e51 : gi M2 120 51 = -1 := a5
          have ev := a6 b' rfl
          subst ev
          refine pw_blk (mi := mz_28) (b := bz_28_75) rfl rfl ?_
          simp only [bz_28_75, pz_cut_t, pz_cut_f, pz_cut_n, pv_gt, pv_ts, pv_tn, ev_ist3n, ev_ist3i, ev_ist3r, ev_ist3e, ev_ist3l, ev_ald0, ev_eld0, ev_gf11_0, ev_ifge, pz_wi_gc, pz_wi_ga, pz_wi_gn, pz_wi_gl, pz_wi_gr, pz_wi_same, pz_wi_X, pz_wl_gc, pz_wl_ga, pz_wl_gn, pz_wl_gi, pz_wl_gr, pz_wl_same, pz_wl_X, pz_wr_gc, pz_wr_ga, pz_wr_gn, pz_wr_gi, pz_wr_gl, pz_wr_same, pz_wr_X, so_120 hS', h51, so_120 hS2]
          (try simp (disch := omega) only [nI_clamp, pz_in_nI2, pz_in_nI2L, pv_gt, nI_add, nI_addL, nI_Ladd, pk_mul, nI_mulL, nI_Lmul, pk_sub, nI_subL, nI_Lsub, nI_inc, nI_clampL, Nat.add_sub_cancel, pz_wi_else, pz_wl_else, vu_eq, vu_ne, pz_wi_gc, pz_wi_ga, pz_wi_gn, pz_wi_gl, pz_wi_gr, pz_wi_same, pz_wi_X, pz_wl_gc, pz_wl_ga, pz_wl_gn, pz_wl_gi, pz_wl_gr, pz_wl_same, pz_wl_X, pz_wr_gc, pz_wr_ga, pz_wr_gn, pz_wr_gi, pz_wr_gl, pz_wr_same, pz_wr_X, h51, so_120 hS2])
          refine po_brP (fun q75 => ?_) (fun q75 => ?_)
          · rw [e51] at q75; exact absurd q75 (by decide)
          · first
            | exact absurd q75 (by decide)
            | exact absurd trivial q75
            | exact q75.elim
            | (exfalso; (try simp (disch := omega) only [nI_ltI, nI_leI, nI_eq, nI_ltL, nI_leL, nI_eqL, nI_Llt, nI_Lle, nI_Leq, nI_eqm, nI_meq, nI_ltm, nI_lem, nI_mlt, nI_mle, lg0, lgl, lgg, lgle, lgge, Int32.not_lt, Int32.not_le, Int64.not_lt, Int64.not_le, not_false_eq_true, not_true_eq_false, Decidable.not_not, ge_iff_le, gt_iff_lt] at q75) <;> omega)
            | exact absurd q75 (by with_reducible assumption)
            | exact absurd (by with_reducible assumption) q75
            | exact absurd (Decidable.not_not.mp q75) (by with_reducible assumption)
            | exact absurd (by with_reducible assumption) (Int32.not_le.mpr q75)
            | exact absurd (by with_reducible assumption) (Int32.not_lt.mpr q75)
            | skip
              (try simp (disch := omega) only [nI_ltI, nI_leI, nI_eq, nI_ltL, nI_leL, nI_eqL, nI_Llt, nI_Lle, nI_Leq, nI_eqm, nI_meq, nI_ltm, nI_lem, nI_mlt, nI_mle, lg0, lgl, lgg, lgle, lgge, Int32.not_lt, Int32.not_le, Int64.not_lt, Int64.not_le, not_false_eq_true, not_true_eq_false, Decidable.not_not, ge_iff_le, gt_iff_lt] at q75)
              refine pw_blk (mi := mz_28) (b := bz_28_83) rfl rfl ?_
              simp only [bz_28_83, pz_cut_t, pz_cut_f, pz_cut_n, pv_gt, pv_ts, pv_tn, ev_ild4, ev_bp100, ev_ic_ne, pz_wi_gc, pz_wi_ga, pz_wi_gn, pz_wi_gl, pz_wi_gr, pz_wi_same, pz_wi_X, pz_wl_gc, pz_wl_ga, pz_wl_gn, pz_wl_gi, pz_wl_gr, pz_wl_same, pz_wl_X, pz_wr_gc, pz_wr_ga, pz_wr_gn, pz_wr_gi, pz_wr_gl, pz_wr_same, pz_wr_X, h51]
              (try simp (disch := omega) only [nI_clamp, pz_in_nI2, pz_in_nI2L, pv_gt, nI_add, nI_addL, nI_Ladd, pk_mul, nI_mulL, nI_Lmul, pk_sub, nI_subL, nI_Lsub, nI_inc, nI_clampL, Nat.add_sub_cancel, pz_wi_else, pz_wl_else, vu_eq, vu_ne, pz_wi_gc, pz_wi_ga, pz_wi_gn, pz_wi_gl, pz_wi_gr, pz_wi_same, pz_wi_X, pz_wl_gc, pz_wl_ga, pz_wl_gn, pz_wl_gi, pz_wl_gr, pz_wl_same, pz_wl_X, pz_wr_gc, pz_wr_ga, pz_wr_gn, pz_wr_gi, pz_wr_gl, pz_wr_same, pz_wr_X, h51])
              refine po_brP (fun q83 => ?_) (fun q83 => ?_)
              · skip
                (try simp (disch := omega) only [nI_ltI, nI_leI, nI_eq, nI_ltL, nI_leL, nI_eqL, nI_Llt, nI_Lle, nI_Leq, nI_eqm, nI_meq, nI_ltm, nI_lem, nI_mlt, nI_mle, lg0, lgl, lgg, lgle, lgge, Int32.not_lt, Int32.not_le, Int64.not_lt, Int64.not_le, not_false_eq_true, not_true_eq_false, Decidable.not_not, ge_iff_le, gt_iff_lt] at q83)
                refine ih (p + 1) R' w' c' b' M2 (by omega) hb' hok hrt s12 o2 a2 a3 a4 e51 (fun M3 s3 q1 q2 q3 q4 q5 => ?_)
                rw [show p + 1 + (plR al g cr wk sv er B D E to y (n + 1) R' w' c' b').1 = p + ((plR al g cr wk sv er B D E to y (n + 1) R' w' c' b').1 + 1) by omega]
                exact k M3 s3 q1 q2 q3 q4 q5
              · first
                | exact absurd q83 (by decide)
                | exact absurd trivial q83
                | exact q83.elim
                | (exfalso; (try simp (disch := omega) only [nI_ltI, nI_leI, nI_eq, nI_ltL, nI_leL, nI_eqL, nI_Llt, nI_Lle, nI_Leq, nI_eqm, nI_meq, nI_ltm, nI_lem, nI_mlt, nI_mle, lg0, lgl, lgg, lgle, lgge, Int32.not_lt, Int32.not_le, Int64.not_lt, Int64.not_le, not_false_eq_true, not_true_eq_false, Decidable.not_not, ge_iff_le, gt_iff_lt] at q83) <;> omega)
                | exact absurd q83 (by with_reducible assumption)
                | exact absurd (by with_reducible assumption) q83
                | exact absurd (Decidable.not_not.mp q83) (by with_reducible assumption)
                | exact absurd (by with_reducible assumption) (Int32.not_le.mpr q83)
                | exact absurd (by with_reducible assumption) (Int32.not_lt.mpr q83)
  refine pm_ent (L := [some (.ref 120), some (.int (nI a)), some (.int (nI to)), none, none]) rfl (Nat.le_of_ble_eq_true rfl) ?_
  refine pw_blk (mi := mz_28) (b := bz_28_0) rfl rfl ?_
  simp only [bz_28_0, pz_cut_t, pz_cut_f, pz_cut_n, pv_gt, pv_ts, pv_tn, ev_ald0, ev_eld0, ev_ild1, ev_cv1_11, pz_wi_gc, pz_wi_ga, pz_wi_gn, pz_wi_gl, pz_wi_gr, pz_wi_same, pz_wi_X, pz_wl_gc, pz_wl_ga, pz_wl_gn, pz_wl_gi, pz_wl_gr, pz_wl_same, pz_wl_X, pz_wr_gc, pz_wr_ga, pz_wr_gn, pz_wr_gi, pz_wr_gl, pz_wr_same, pz_wr_X, so_120 x1, x5]
  (try simp (disch := omega) only [nI_clamp, pz_in_nI2, pz_in_nI2L, pv_gt, nI_add, nI_addL, nI_Ladd, pk_mul, nI_mulL, nI_Lmul, pk_sub, nI_subL, nI_Lsub, nI_inc, nI_clampL, Nat.add_sub_cancel, pz_wi_else, pz_wl_else, vu_eq, vu_ne, pz_wi_gc, pz_wi_ga, pz_wi_gn, pz_wi_gl, pz_wi_gr, pz_wi_same, pz_wi_X, pz_wl_gc, pz_wl_ga, pz_wl_gn, pz_wl_gi, pz_wl_gr, pz_wl_same, pz_wl_X, pz_wr_gc, pz_wr_ga, pz_wr_gn, pz_wr_gi, pz_wr_gl, pz_wr_same, pz_wr_X, x5])
  (try refine po_gP (Nat.le_of_ble_eq_true rfl) ?_)
  refine po_call (by omega) (r_isBar1 (by omega) x1 x2 x5 z2 (by omega) ?_)
  refine pw_blk (mi := mz_28) (b := bz_28_5) rfl rfl ?_
  simp only [bz_28_5, pz_cut_t, pz_cut_f, pz_cut_n, pv_gt, pv_ts, pv_tn, ev_ifeq, pz_wi_gc, pz_wi_ga, pz_wi_gn, pz_wi_gl, pz_wi_gr, pz_wi_same, pz_wi_X, pz_wl_gc, pz_wl_ga, pz_wl_gn, pz_wl_gi, pz_wl_gr, pz_wl_same, pz_wl_X, pz_wr_gc, pz_wr_ga, pz_wr_gn, pz_wr_gi, pz_wr_gl, pz_wr_same, pz_wr_X, x5]
  (try simp (disch := omega) only [nI_clamp, pz_in_nI2, pz_in_nI2L, pv_gt, nI_add, nI_addL, nI_Ladd, pk_mul, nI_mulL, nI_Lmul, pk_sub, nI_subL, nI_Lsub, nI_inc, nI_clampL, Nat.add_sub_cancel, pz_wi_else, pz_wl_else, vu_eq, vu_ne, pz_wi_gc, pz_wi_ga, pz_wi_gn, pz_wi_gl, pz_wi_gr, pz_wi_same, pz_wi_X, pz_wl_gc, pz_wl_ga, pz_wl_gn, pz_wl_gi, pz_wl_gr, pz_wl_same, pz_wl_X, pz_wr_gc, pz_wr_ga, pz_wr_gn, pz_wr_gi, pz_wr_gl, pz_wr_same, pz_wr_X, x5])
  refine po_brP (fun q5 => ?_) (fun q5 => ?_)
  · first
    | exact absurd q5 (by decide)
    | exact absurd trivial q5
    | exact q5.elim
    | (exfalso; (try simp (disch := omega) only [nI_ltI, nI_leI, nI_eq, nI_ltL, nI_leL, nI_eqL, nI_Llt, nI_Lle, nI_Leq, nI_eqm, nI_meq, nI_ltm, nI_lem, nI_mlt, nI_mle, lg0, lgl, lgg, lgle, lgge, Int32.not_lt, Int32.not_le, Int64.not_lt, Int64.not_le, not_false_eq_true, not_true_eq_false, Decidable.not_not, ge_iff_le, gt_iff_lt] at q5) <;> omega)
    | exact absurd q5 (by with_reducible assumption)
    | exact absurd (by with_reducible assumption) q5
    | exact absurd (Decidable.not_not.mp q5) (by with_reducible assumption)
    | exact absurd (by with_reducible assumption) (Int32.not_le.mpr q5)
    | exact absurd (by with_reducible assumption) (Int32.not_lt.mpr q5)
  · skip
    (try simp (disch := omega) only [nI_ltI, nI_leI, nI_eq, nI_ltL, nI_leL, nI_eqL, nI_Llt, nI_Lle, nI_Leq, nI_eqm, nI_meq, nI_ltm, nI_lem, nI_mlt, nI_mle, lg0, lgl, lgg, lgle, lgge, Int32.not_lt, Int32.not_le, Int64.not_lt, Int64.not_le, not_false_eq_true, not_true_eq_false, Decidable.not_not, ge_iff_le, gt_iff_lt] at q5)
    refine pw_blk (mi := mz_28) (b := bz_28_8) rfl rfl ?_
    simp only [bz_28_8, pz_cut_t, pz_cut_f, pz_cut_n, pv_gt, pv_ts, pv_tn, ev_ild2, ev_ild1, ev_ald0, ev_eld0, ev_cv0_11, pz_wi_gc, pz_wi_ga, pz_wi_gn, pz_wi_gl, pz_wi_gr, pz_wi_same, pz_wi_X, pz_wl_gc, pz_wl_ga, pz_wl_gn, pz_wl_gi, pz_wl_gr, pz_wl_same, pz_wl_X, pz_wr_gc, pz_wr_ga, pz_wr_gn, pz_wr_gi, pz_wr_gl, pz_wr_same, pz_wr_X, so_120 x1, x5]
    (try simp (disch := omega) only [nI_clamp, pz_in_nI2, pz_in_nI2L, pv_gt, nI_add, nI_addL, nI_Ladd, pk_mul, nI_mulL, nI_Lmul, pk_sub, nI_subL, nI_Lsub, nI_inc, nI_clampL, Nat.add_sub_cancel, pz_wi_else, pz_wl_else, vu_eq, vu_ne, pz_wi_gc, pz_wi_ga, pz_wi_gn, pz_wi_gl, pz_wi_gr, pz_wi_same, pz_wi_X, pz_wl_gc, pz_wl_ga, pz_wl_gn, pz_wl_gi, pz_wl_gr, pz_wl_same, pz_wl_X, pz_wr_gc, pz_wr_ga, pz_wr_gn, pz_wr_gi, pz_wr_gl, pz_wr_same, pz_wr_X, x5])
    (try refine po_gP (Nat.le_of_ble_eq_true rfl) ?_)
    refine po_call (by omega) (r_many x1 x2 ?_)
    refine pw_blk (mi := mz_28) (b := bz_28_14) rfl rfl ?_
    simp only [bz_28_14, pz_cut_t, pz_cut_f, pz_cut_n, pv_gt, pv_ts, pv_tn, ev_ic1, ev_isub, ev_cs3, pz_wi_gc, pz_wi_ga, pz_wi_gn, pz_wi_gl, pz_wi_gr, pz_wi_same, pz_wi_X, pz_wl_gc, pz_wl_ga, pz_wl_gn, pz_wl_gi, pz_wl_gr, pz_wl_same, pz_wl_X, pz_wr_gc, pz_wr_ga, pz_wr_gn, pz_wr_gi, pz_wr_gl, pz_wr_same, pz_wr_X, x5]
    (try simp (disch := omega) only [nI_clamp, pz_in_nI2, pz_in_nI2L, pv_gt, nI_add, nI_addL, nI_Ladd, pk_mul, nI_mulL, nI_Lmul, pk_sub, nI_subL, nI_Lsub, nI_inc, nI_clampL, Nat.add_sub_cancel, pz_wi_else, pz_wl_else, vu_eq, vu_ne, pz_wi_gc, pz_wi_ga, pz_wi_gn, pz_wi_gl, pz_wi_gr, pz_wi_same, pz_wi_X, pz_wl_gc, pz_wl_ga, pz_wl_gn, pz_wl_gi, pz_wl_gr, pz_wl_same, pz_wl_X, pz_wr_gc, pz_wr_ga, pz_wr_gn, pz_wr_gi, pz_wr_gl, pz_wr_same, pz_wr_X, x5])
    (try refine po_gP (Nat.le_of_ble_eq_true rfl) ?_)
    refine po_call (by omega) (r_isIn1 (nI_le hat (by omega)) (nI_le (by omega) (by omega)) ?_)
    refine pw_blk (mi := mz_28) (b := bz_28_19) rfl rfl ?_
    simp only [bz_28_19, pz_cut_t, pz_cut_f, pz_cut_n, pv_gt, pv_ts, pv_tn, ev_ifne, pz_wi_gc, pz_wi_ga, pz_wi_gn, pz_wi_gl, pz_wi_gr, pz_wi_same, pz_wi_X, pz_wl_gc, pz_wl_ga, pz_wl_gn, pz_wl_gi, pz_wl_gr, pz_wl_same, pz_wl_X, pz_wr_gc, pz_wr_ga, pz_wr_gn, pz_wr_gi, pz_wr_gl, pz_wr_same, pz_wr_X, x5]
    (try simp (disch := omega) only [nI_clamp, pz_in_nI2, pz_in_nI2L, pv_gt, nI_add, nI_addL, nI_Ladd, pk_mul, nI_mulL, nI_Lmul, pk_sub, nI_subL, nI_Lsub, nI_inc, nI_clampL, Nat.add_sub_cancel, pz_wi_else, pz_wl_else, vu_eq, vu_ne, pz_wi_gc, pz_wi_ga, pz_wi_gn, pz_wi_gl, pz_wi_gr, pz_wi_same, pz_wi_X, pz_wl_gc, pz_wl_ga, pz_wl_gn, pz_wl_gi, pz_wl_gr, pz_wl_same, pz_wl_X, pz_wr_gc, pz_wr_ga, pz_wr_gn, pz_wr_gi, pz_wr_gl, pz_wr_same, pz_wr_X, x5])
    refine po_brP (fun q19 => ?_) (fun q19 => ?_)
    · skip
      (try simp (disch := omega) only [nI_ltI, nI_leI, nI_eq, nI_ltL, nI_leL, nI_eqL, nI_Llt, nI_Lle, nI_Leq, nI_eqm, nI_meq, nI_ltm, nI_lem, nI_mlt, nI_mle, lg0, lgl, lgg, lgle, lgge, Int32.not_lt, Int32.not_le, Int64.not_lt, Int64.not_le, not_false_eq_true, not_true_eq_false, Decidable.not_not, ge_iff_le, gt_iff_lt] at q19)
      refine pw_blk (mi := mz_28) (b := bz_28_24) rfl rfl ?_
      simp only [bz_28_24, pz_cut_t, pz_cut_f, pz_cut_n, pv_gt, pv_ts, pv_tn, ev_ald0, ev_eld0, ev_icm1, ev_pf11_0, ev_ic0, ev_ild1, ev_ist3n, ev_ist3i, ev_ist3r, ev_ist3e, ev_ist3l, ev_ist4n, ev_ist4i, ev_ist4r, ev_ist4e, ev_ist4l, ev_nil, pz_wi_gc, pz_wi_ga, pz_wi_gn, pz_wi_gl, pz_wi_gr, pz_wi_same, pz_wi_X, pz_wl_gc, pz_wl_ga, pz_wl_gn, pz_wl_gi, pz_wl_gr, pz_wl_same, pz_wl_X, pz_wr_gc, pz_wr_ga, pz_wr_gn, pz_wr_gi, pz_wr_gl, pz_wr_same, pz_wr_X, so_120 x1, x5]
      (try simp (disch := omega) only [nI_clamp, pz_in_nI2, pz_in_nI2L, pv_gt, nI_add, nI_addL, nI_Ladd, pk_mul, nI_mulL, nI_Lmul, pk_sub, nI_subL, nI_Lsub, nI_inc, nI_clampL, Nat.add_sub_cancel, pz_wi_else, pz_wl_else, vu_eq, vu_ne, pz_wi_gc, pz_wi_ga, pz_wi_gn, pz_wi_gl, pz_wi_gr, pz_wi_same, pz_wi_X, pz_wl_gc, pz_wl_ga, pz_wl_gn, pz_wl_gi, pz_wl_gr, pz_wl_same, pz_wl_X, pz_wr_gc, pz_wr_ga, pz_wr_gn, pz_wr_gi, pz_wr_gl, pz_wr_same, pz_wr_X, x5])
      refine po_go ?_
      refine pw_cut (mi := mz_28) (b := bz_28_54) rfl rfl (key 99 0 R w c a _ (by omega) (by omega) hu hR (sm.wi (sm.wi (sm.wi (sm.wi (sm.wi sm.rf (by simp)) (by simp)) (by simp)) (by simp)) (by simp)) (fun j h1 h2 h3 h4 => ?_) ?_ (hT.sm (K := [120]) (sm.wi (sm.wi (sm.wi (sm.wi (sm.wi sm.rf (by simp)) (by simp)) (by simp)) (by simp)) (by simp)) (by decide) (by decide) (by decide)) ⟨?_, ?_, ?_, ?_⟩ ?_ (fun M2 s2 a1 a2 a3 a4 a5 => by rw [Nat.zero_add]; exact k M2 s2 a1 a2 a3 a4 a5)) rfl
      · rw [pz_wi_same, vu_ne (by omega), vu_ne (by omega), vu_ne (by omega), vu_ne (by omega), vu_ne (by omega)]
      · rw [pz_wi_same, vk (by decide), vk (by decide), vk (by decide), vk (by decide), vk (by decide)]; exact hw
      · rw [pz_wi_same, vk (by decide), vk (by decide), vk (by decide), vu_eq, hc 2 (by decide) (by decide)]
      · rw [pz_wi_same, vk (by decide), vk (by decide), vu_eq, hc 3 (by decide) (by decide)]
      · rw [pz_wi_same, vk (by decide), vu_eq, hc 4 (by decide) (by decide)]
      · rw [pz_wi_same, vu_eq, hc 5 (by decide) (by decide)]
      · rw [pz_wi_same, vk (by decide), vk (by decide), vk (by decide), vk (by decide), vu_eq]
    · first
      | exact absurd q19 (by decide)
      | exact absurd trivial q19
      | exact q19.elim
      | (exfalso; (try simp (disch := omega) only [nI_ltI, nI_leI, nI_eq, nI_ltL, nI_leL, nI_eqL, nI_Llt, nI_Lle, nI_Leq, nI_eqm, nI_meq, nI_ltm, nI_lem, nI_mlt, nI_mle, lg0, lgl, lgg, lgle, lgge, Int32.not_lt, Int32.not_le, Int64.not_lt, Int64.not_le, not_false_eq_true, not_true_eq_false, Decidable.not_not, ge_iff_le, gt_iff_lt] at q19) <;> omega)
      | exact absurd q19 (by with_reducible assumption)
      | exact absurd (by with_reducible assumption) q19
      | exact absurd (Decidable.not_not.mp q19) (by with_reducible assumption)
      | exact absurd (by with_reducible assumption) (Int32.not_le.mpr q19)
      | exact absurd (by with_reducible assumption) (Int32.not_lt.mpr q19)
end PLAY8
