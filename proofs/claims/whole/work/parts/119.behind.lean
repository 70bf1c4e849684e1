/-! ===== behind a bar ===== -/
section BEH
variable {d : Nat} {M M' : pz_M} {Q : Option Value × pz_M → Prop}
def pj (al : Nat → Nat → Nat) (i j : Nat) : Bool := decide (j ≠ i) && decide (0 < al i j)
def lkA (al : Nat → Nat → Nat) (B i : Nat) : List Nat := (List.range B).filter (pj al i)
def lkG (al : Nat → Nat → Nat) (B i k : Nat) : Nat := (lkA al B i).getD k 0
theorem gD_l {l l' : List Nat} {k : Nat} (h : k < l.length) : (l ++ l').getD k 0 = l.getD k 0 := by rw [List.getD_eq_getElem?_getD, List.getD_eq_getElem?_getD, List.getElem?_append_left h]
theorem gD_r {l l' : List Nat} {k : Nat} (h : l.length ≤ k) : (l ++ l').getD k 0 = l'.getD (k - l.length) 0 := by rw [List.getD_eq_getElem?_getD, List.getD_eq_getElem?_getD, List.getElem?_append_right h]
theorem lkA_s {al : Nat → Nat → Nat} {B i : Nat} : lkA al (B + 1) i = lkA al B i ++ (if pj al i B = true then [B] else []) := by
  unfold lkA
  rw [List.range_succ, List.filter_append]
  congr 1
  simp only [List.filter_cons, List.filter_nil]
theorem lkA_len {al : Nat → Nat → Nat} {i : Nat} : ∀ B, (lkA al B i).length = cnt (pj al i) B
  | 0 => rfl
  | B + 1 => by
    rw [lkA_s, List.length_append, lkA_len B, cnt]
    split <;> rfl
theorem lkG_at {al : Nat → Nat → Nat} {i j : Nat} (hp : pj al i j = true) : ∀ B, j < B → lkG al B i (cnt (pj al i) j) = j ∧ cnt (pj al i) j < cnt (pj al i) B
  | 0, h => by omega
  | B + 1, h => by
    by_cases q : j = B
    · subst q
      refine ⟨?_, ?_⟩
      · unfold lkG
        rw [lkA_s, if_pos hp, gD_r (by rw [lkA_len]; exact Nat.le_refl _), lkA_len, Nat.sub_self]
        rfl
      · rw [cnt_t hp]
        omega
    · obtain ⟨h1, h2⟩ := lkG_at hp B (by omega)
      refine ⟨?_, ?_⟩
      · unfold lkG
        rw [lkA_s, gD_l (by rw [lkA_len]; exact h2)]
        exact h1
      · rw [cnt]
        omega
theorem lkG_inv {al : Nat → Nat → Nat} {i : Nat} : ∀ B k, k < cnt (pj al i) B → pj al i (lkG al B i k) = true ∧ lkG al B i k < B ∧ cnt (pj al i) (lkG al B i k) = k
  | 0, k, h => by
    have : cnt (pj al i) 0 = 0 := rfl
    omega
  | B + 1, k, h => by
    by_cases q : k < cnt (pj al i) B
    · obtain ⟨h1, h2, h3⟩ := lkG_inv B k q
      have e : lkG al (B + 1) i k = lkG al B i k := by
        unfold lkG
        rw [lkA_s, gD_l (by rw [lkA_len]; exact q)]
      rw [e]
      exact ⟨h1, by omega, h3⟩
    · rw [cnt] at h
      by_cases hp : pj al i B = true
      · rw [if_pos hp] at h
        have hk : k = cnt (pj al i) B := by omega
        have e : lkG al (B + 1) i k = B := by
          unfold lkG
          rw [lkA_s, if_pos hp, gD_r (by rw [lkA_len]; omega), lkA_len, hk, Nat.sub_self]
          rfl
        rw [e]
        exact ⟨hp, by omega, hk.symm⟩
      · rw [if_neg hp] at h
        omega
def mn (a r : Int32) : Int32 := if a < r then a else r
/-- what is left ahead of the k-th -/
def rsq (f : Nat → Int32) (s0 : Int32) : Nat → Int32
  | 0 => s0
  | k + 1 => rsq f s0 k - mn (f k) (rsq f s0 k)
def xsq (f : Nat → Int32) (s0 : Int32) (k : Nat) : Int32 := mn (f k) (rsq f s0 k)
def stp (wk : Nat) (x : Int32) : Int32 := (1000 - x) * nI wk / 1000
def shr (al : Nat → Nat → Nat) (cr B i : Nat) (h : Nat → Int32) (k : Nat) : Int32 := h (lkG al B i k) * nI (al i (lkG al B i k)) * nI cr / 1000
theorem stp_nI {wk : Nat} {x : Int32} (hw : wk ≤ 1000) (hx : r1k x) : ∃ a, a ≤ 1000 ∧ stp wk x = nI a ∧ 1000 - stp wk x = nI (1000 - a) := by
  obtain ⟨b, hb, rfl⟩ := hx
  have h1 : (1000 - b) * wk ≤ 1000 * 1000 := Nat.mul_le_mul (by omega) hw
  have h2 : (1000 - b) * wk / 1000 ≤ 1000 := Nat.div_le_of_le_mul (by omega)
  have e : stp wk (nI b) = nI ((1000 - b) * wk / 1000) := by
    unfold stp
    rw [show (1000 : Int32) = nI 1000 from rfl, pk_sub (by omega), pk_mul, pk_div (by omega) (by decide) (by decide)]
  refine ⟨_, h2, e, ?_⟩
  rw [e, show (1000 : Int32) = nI 1000 from rfl, pk_sub (by omega)]
theorem rsq_nI {f : Nat → Int32} {s : Nat} (hs : s ≤ 1000) (hf : ∀ k, ∃ a, a < 2 ^ 31 ∧ f k = nI a) : ∀ k, ∃ b, b ≤ 1000 ∧ rsq f (nI s) k = nI b
  | 0 => ⟨s, hs, rfl⟩
  | k + 1 => by
    obtain ⟨b, hb, e⟩ := rsq_nI hs hf k
    obtain ⟨a, ha, ea⟩ := hf k
    rw [rsq, e, ea]
    unfold mn
    split
    · rename_i q
      have := (nI_ltI ha (by omega)).mp q
      exact ⟨b - a, by omega, pk_sub (by omega)⟩
    · exact ⟨0, by omega, by rw [pk_sub (Nat.le_refl b), Nat.sub_self]⟩
theorem shr_nI {al : Nat → Nat → Nat} {cr B i : Nat} {h : Nat → Int32} (hal : ∀ i j, al i j ≤ 9) (hc : cr ≤ 100) (hh : ∀ i, r1k (h i)) (k : Nat) : ∃ a, a < 2 ^ 31 ∧ shr al cr B i h k = nI a := by
  obtain ⟨b, hb, e⟩ := hh (lkG al B i k)
  have h1 : b * al i (lkG al B i k) ≤ 1000 * 9 := Nat.mul_le_mul hb (hal _ _)
  have h2 : b * al i (lkG al B i k) * cr ≤ 9000 * 100 := Nat.mul_le_mul h1 hc
  have h3 : b * al i (lkG al B i k) * cr / 1000 ≤ b * al i (lkG al B i k) * cr := Nat.div_le_self _ _
  refine ⟨b * al i (lkG al B i k) * cr / 1000, by omega, ?_⟩
  unfold shr
  rw [e, pk_mul, pk_mul, show (1000 : Int32) = nI 1000 from rfl, pk_div (by omega) (by decide) (by decide)]
/-- the class's cache of what is alike -/
def RFa (M : pz_M) (al : Nat → Nat → Nat) (B : Nat) : Prop := ∀ i, i < B → gi M 40 i = nI (cnt (pj al i) B) ∧ ∀ k, k < cnt (pj al i) B → gi M 41 (24 * i + k) = nI (lkG al B i k) ∧ gi M 42 (24 * i + k) = nI (al i (lkG al B i k))
theorem RFl.a {B : Nat} (h : RFl M B) : RFa M (fun i j => alk (gl M 5) i j 9 0) B := fun i hi => by
  obtain ⟨h1, h2⟩ := h i hi
  have e : lks (gl M 5) B i = lkA (fun i j => alk (gl M 5) i j 9 0) B i := rfl
  rw [e, lkA_len] at h1 h2
  exact ⟨h1, h2⟩
theorem RFa.fr {al : Nat → Nat → Nat} {B : Nat} (h : RFa M al B) (e40 : gi M' 40 = gi M 40) (e41 : gi M' 41 = gi M 41) (e42 : gi M' 42 = gi M 42) : RFa M' al B := by
  unfold RFa
  rw [e40, e41, e42]
  exact h
/-- what weigh leaves behind of a bar: stop, shares, the rest -/
def isW (M : pz_M) (al : Nat → Nat → Nat) (cr wk B i : Nat) (h : Nat → Int32) : Prop := gi M 44 i = stp wk (h i) ∧ gi M 45 i = rsq (shr al cr B i h) (1000 - stp wk (h i)) (cnt (pj al i) B) ∧ ∀ k, k < cnt (pj al i) B → gi M 43 (24 * i + k) = xsq (shr al cr B i h) (1000 - stp wk (h i)) k
theorem cnt_lt24 {al : Nat → Nat → Nat} {i : Nat} : ∀ B, i < B → cnt (pj al i) B < B
  | 0, h => by omega
  | B + 1, h => by
    rw [cnt]
    have h0 := cnt_le (pj al i) B
    by_cases q : i = B
    · subst q
      have : pj al i i = false := by simp [pj]
      rw [this]
      simp
      omega
    · have := cnt_lt24 B (i := i) (by omega) (al := al)
      split <;> omega
theorem m_weigh {al : Nat → Nat → Nat} {cr wk B i hk : Nat} {h : Nat → Int32} (hS : SH M) (hF : RFa M al B) (hB : B ≤ 24) (hi : i < B) (hcr : gi M 17 2 = nI cr) (hwk : gi M 17 3 = nI wk) (hh : gi M hk = h) (hka : ga M hk = some 0) (hkn : gn M hk = 24) (hk2 : hk ≠ 43 ∧ hk ≠ 44 ∧ hk ≠ 45) (k : ∀ M', sm [43, 44, 45] M M' → isW M' al cr wk B i h → (∀ i', i' ≠ i → gi M' 44 i' = gi M 44 i' ∧ gi M' 45 i' = gi M 45 i') → (∀ q, q < 24 * i ∨ 24 * i + 24 ≤ q → gi M' 43 q = gi M 43 q) → Q (none, M')) : pm d 115 [.ref 39, .int (nI i), .ref hk] M Q := by
  have hlen := cnt_lt24 (al := al) B hi
  have key : ∀ j, j ≤ cnt (pj al i) B → ∀ M', sm [43, 44, 45] M M' → gi M' 44 = va_up (gi M 44) i (stp wk (h i)) → gi M' 45 = gi M 45 → (∀ q, q < 24 * i ∨ 24 * i + 24 ≤ q → gi M' 43 q = gi M 43 q) → (∀ k, k < j → gi M' 43 (24 * i + k) = xsq (shr al cr B i h) (1000 - stp wk (h i)) k) → pw d 115 (48, [some (.ref 39), some (.int (nI i)), some (.ref hk), some (.int (rsq (shr al cr B i h) (1000 - stp wk (h i)) j)), some (.int (nI (i * 24))), some (.int (nI (i * 24 + j))), none], [], M') Q := by
    refine upto (fun j hj ih => ?_)
    intro M' s e44 e45 e43 ex
    have hS' := hS.sm s
    have f40 : gi M' 40 = gi M 40 := s.i (by decide)
    have f41 : gi M' 41 = gi M 41 := s.i (by decide)
    have f42 : gi M' 42 = gi M 42 := s.i (by decide)
    have f17 : gi M' 17 = gi M 17 := s.i (by decide)
    have fh : gi M' hk = h := by rw [s.i (by simp; omega)]; exact hh
    have fa : ga M' hk = some 0 := by rw [s.a]; exact hka
    have fn : gn M' hk = 24 := by rw [s.n]; exact hkn
    obtain ⟨c40, c41⟩ := hF i hi
    by_cases hjc : j = cnt (pj al i) B
    · subst hjc
      refine pw_blk (mi := mz_115) (b := bz_115_48) rfl rfl ?_
      simp only [bz_115_48, pz_cut_t, pz_cut_f, pz_cut_n, pv_gt, pv_ts, pv_tn, ev_ild5, ev_ild4, ev_ald0, ev_eld0, ev_gf1_2, ev_ild1, ea_iald, ev_iadd, ev_ic_ge, pz_wi_gc, pz_wi_ga, pz_wi_gn, pz_wi_gl, pz_wi_gr, pz_wi_same, pz_wi_X, pz_wl_gc, pz_wl_ga, pz_wl_gn, pz_wl_gi, pz_wl_gr, pz_wl_same, pz_wl_X, pz_wr_gc, pz_wr_ga, pz_wr_gn, pz_wr_gi, pz_wr_gl, pz_wr_same, pz_wr_X, so_39 hS', sr_39_1 hS', sa_40 hS', sn_40 hS', f40, c40, sa_44 hS', sn_44 hS', sa_17 hS', sn_17 hS', sa_41 hS', sn_41 hS', sa_42 hS', sn_42 hS', sa_43 hS', sn_43 hS', sa_45 hS', sn_45 hS']
      (try simp (disch := omega) only [nI_clamp, pz_in_nI2, pz_in_nI2L, pv_gt, nI_add, nI_addL, nI_Ladd, pk_mul, nI_mulL, nI_Lmul, pk_sub, nI_subL, nI_Lsub, nI_inc, nI_clampL, Nat.add_sub_cancel, pz_wi_else, pz_wl_else, vu_eq, vu_ne, pz_wi_gc, pz_wi_ga, pz_wi_gn, pz_wi_gl, pz_wi_gr, pz_wi_same, pz_wi_X, pz_wl_gc, pz_wl_ga, pz_wl_gn, pz_wl_gi, pz_wl_gr, pz_wl_same, pz_wl_X, pz_wr_gc, pz_wr_ga, pz_wr_gn, pz_wr_gi, pz_wr_gl, pz_wr_same, pz_wr_X, f40, c40])
      (try refine po_gI (by first | exact pz_in_nI (by omega) (by decide) | decide | assumption) ?_)
      refine po_brP (fun q48 => ?_) (fun q48 => ?_)
      · skip
        (try simp (disch := omega) only [nI_ltI, nI_leI, nI_eq, nI_ltL, nI_leL, nI_eqL, nI_Llt, nI_Lle, nI_Leq, nI_eqm, nI_meq, nI_ltm, nI_lem, nI_mlt, nI_mle, lg0, lgl, lgg, lgle, lgge, Int32.not_lt, Int32.not_le, Int64.not_lt, Int64.not_le, not_false_eq_true, not_true_eq_false, Decidable.not_not, ge_iff_le, gt_iff_lt] at q48)
        refine pw_blk (mi := mz_115) (b := bz_115_124) rfl rfl ?_
        simp only [bz_115_124, pz_cut_t, pz_cut_f, pz_cut_n, pv_gt, pv_ts, pv_tn, ev_ald0, ev_eld0, ev_gf1_2, ev_ild1, ev_ild3, ea_iast, ev_ret, pz_wi_gc, pz_wi_ga, pz_wi_gn, pz_wi_gl, pz_wi_gr, pz_wi_same, pz_wi_X, pz_wl_gc, pz_wl_ga, pz_wl_gn, pz_wl_gi, pz_wl_gr, pz_wl_same, pz_wl_X, pz_wr_gc, pz_wr_ga, pz_wr_gn, pz_wr_gi, pz_wr_gl, pz_wr_same, pz_wr_X, so_39 hS', sr_39_6 hS', sa_45 hS', sn_45 hS', f40, c40, sa_44 hS', sn_44 hS', sa_17 hS', sn_17 hS', sa_40 hS', sn_40 hS', sa_41 hS', sn_41 hS', sa_42 hS', sn_42 hS', sa_43 hS', sn_43 hS']
        (try simp (disch := omega) only [nI_clamp, pz_in_nI2, pz_in_nI2L, pv_gt, nI_add, nI_addL, nI_Ladd, pk_mul, nI_mulL, nI_Lmul, pk_sub, nI_subL, nI_Lsub, nI_inc, nI_clampL, Nat.add_sub_cancel, pz_wi_else, pz_wl_else, vu_eq, vu_ne, pz_wi_gc, pz_wi_ga, pz_wi_gn, pz_wi_gl, pz_wi_gr, pz_wi_same, pz_wi_X, pz_wl_gc, pz_wl_ga, pz_wl_gn, pz_wl_gi, pz_wl_gr, pz_wl_same, pz_wl_X, pz_wr_gc, pz_wr_ga, pz_wr_gn, pz_wr_gi, pz_wr_gl, pz_wr_same, pz_wr_X, f40, c40])
        (try refine po_gI (by first | exact pz_in_nI (by omega) (by decide) | decide | assumption) ?_)
        refine po_ret (k _ (s.wi (by simp)) ⟨?_, ?_, ?_⟩ ?_ ?_)
        · rw [pz_wi_else (by decide), e44, vu_eq]
        · rw [pz_wi_same, vu_eq]
        · intro k hk
          rw [pz_wi_else (by decide)]
          exact ex k hk
        · intro i' hi'
          rw [pz_wi_else (by decide), pz_wi_same, e44, e45, vu_ne hi', vu_ne hi']
          exact ⟨rfl, rfl⟩
        · intro q hq
          rw [pz_wi_else (by decide)]
          exact e43 q hq
      · first
        | exact absurd q48 (by decide)
        | exact absurd trivial q48
        | exact q48.elim
        | (exfalso; (try simp (disch := omega) only [nI_ltI, nI_leI, nI_eq, nI_ltL, nI_leL, nI_eqL, nI_Llt, nI_Lle, nI_Leq, nI_eqm, nI_meq, nI_ltm, nI_lem, nI_mlt, nI_mle, lg0, lgl, lgg, lgle, lgge, Int32.not_lt, Int32.not_le, Int64.not_lt, Int64.not_le, not_false_eq_true, not_true_eq_false, Decidable.not_not, ge_iff_le, gt_iff_lt] at q48) <;> omega)
        | exact absurd q48 (by with_reducible assumption)
        | exact absurd (by with_reducible assumption) q48
        | exact absurd (Decidable.not_not.mp q48) (by with_reducible assumption)
        | exact absurd (by with_reducible assumption) (Int32.not_le.mpr q48)
        | exact absurd (by with_reducible assumption) (Int32.not_lt.mpr q48)
    · obtain ⟨d41, d42⟩ := c41 j (by omega)
      have g1 : i * 24 + j = 24 * i + j := by omega
      have d41' : gi M 41 (i * 24 + j) = nI (lkG al B i j) := by rw [g1]; exact d41
      have d42' : gi M 42 (i * 24 + j) = nI (al i (lkG al B i j)) := by rw [g1]; exact d42
      have hl24 : lkG al B i j < 24 := by have := (lkG_inv (al := al) (i := i) B j (by omega)).2.1; omega
      refine pw_blk (mi := mz_115) (b := bz_115_48) rfl rfl ?_
      simp only [bz_115_48, pz_cut_t, pz_cut_f, pz_cut_n, pv_gt, pv_ts, pv_tn, ev_ild5, ev_ild4, ev_ald0, ev_eld0, ev_gf1_2, ev_ild1, ea_iald, ev_iadd, ev_ic_ge, pz_wi_gc, pz_wi_ga, pz_wi_gn, pz_wi_gl, pz_wi_gr, pz_wi_same, pz_wi_X, pz_wl_gc, pz_wl_ga, pz_wl_gn, pz_wl_gi, pz_wl_gr, pz_wl_same, pz_wl_X, pz_wr_gc, pz_wr_ga, pz_wr_gn, pz_wr_gi, pz_wr_gl, pz_wr_same, pz_wr_X, so_39 hS', sr_39_1 hS', sa_40 hS', sn_40 hS', f40, f41, f42, f17, fh, fa, fn, c40, d41', d42', hcr, sa_44 hS', sn_44 hS', sa_17 hS', sn_17 hS', sa_41 hS', sn_41 hS', sa_42 hS', sn_42 hS', sa_43 hS', sn_43 hS', sa_45 hS', sn_45 hS']
      (try simp (disch := omega) only [nI_clamp, pz_in_nI2, pz_in_nI2L, pv_gt, nI_add, nI_addL, nI_Ladd, pk_mul, nI_mulL, nI_Lmul, pk_sub, nI_subL, nI_Lsub, nI_inc, nI_clampL, Nat.add_sub_cancel, pz_wi_else, pz_wl_else, vu_eq, vu_ne, pz_wi_gc, pz_wi_ga, pz_wi_gn, pz_wi_gl, pz_wi_gr, pz_wi_same, pz_wi_X, pz_wl_gc, pz_wl_ga, pz_wl_gn, pz_wl_gi, pz_wl_gr, pz_wl_same, pz_wl_X, pz_wr_gc, pz_wr_ga, pz_wr_gn, pz_wr_gi, pz_wr_gl, pz_wr_same, pz_wr_X, f40, f41, f42, f17, fh, fa, fn, c40, d41', d42', hcr])
      (try refine po_gI (by first | exact pz_in_nI (by omega) (by decide) | decide | assumption) ?_)
      refine po_brP (fun q48 => ?_) (fun q48 => ?_)
      · first
        | exact absurd q48 (by decide)
        | exact absurd trivial q48
        | exact q48.elim
        | (exfalso; (try simp (disch := omega) only [nI_ltI, nI_leI, nI_eq, nI_ltL, nI_leL, nI_eqL, nI_Llt, nI_Lle, nI_Leq, nI_eqm, nI_meq, nI_ltm, nI_lem, nI_mlt, nI_mle, lg0, lgl, lgg, lgle, lgge, Int32.not_lt, Int32.not_le, Int64.not_lt, Int64.not_le, not_false_eq_true, not_true_eq_false, Decidable.not_not, ge_iff_le, gt_iff_lt] at q48) <;> omega)
        | exact absurd q48 (by with_reducible assumption)
        | exact absurd (by with_reducible assumption) q48
        | exact absurd (Decidable.not_not.mp q48) (by with_reducible assumption)
        | exact absurd (by with_reducible assumption) (Int32.not_le.mpr q48)
        | exact absurd (by with_reducible assumption) (Int32.not_lt.mpr q48)
      · skip
        (try simp (disch := omega) only [nI_ltI, nI_leI, nI_eq, nI_ltL, nI_leL, nI_eqL, nI_Llt, nI_Lle, nI_Leq, nI_eqm, nI_meq, nI_ltm, nI_lem, nI_mlt, nI_mle, lg0, lgl, lgg, lgle, lgge, Int32.not_lt, Int32.not_le, Int64.not_lt, Int64.not_le, not_false_eq_true, not_true_eq_false, Decidable.not_not, ge_iff_le, gt_iff_lt] at q48)
        refine pw_blk (mi := mz_115) (b := bz_115_62) rfl rfl ?_
        simp only [bz_115_62, pz_cut_t, pz_cut_f, pz_cut_n, pv_gt, pv_ts, pv_tn, ev_ald2, ev_eld2, ev_ald0, ev_eld0, ev_gf1_2, ev_ild5, ea_iald, ev_imul, ev_gf8_2, ev_ic2, ev_sp1000, ev_idiv, ev_ist6n, ev_ist6i, ev_ist6r, ev_ist6e, ev_ist6l, ev_ild3, ev_ild6, ev_mmin, ea_iast, ev_isub, ev_ist3n, ev_ist3i, ev_ist3r, ev_ist3e, ev_ist3l, ev_inc5n, ev_inc5i, ev_inc5r, ev_inc5e, ev_goto, pz_wi_gc, pz_wi_ga, pz_wi_gn, pz_wi_gl, pz_wi_gr, pz_wi_same, pz_wi_X, pz_wl_gc, pz_wl_ga, pz_wl_gn, pz_wl_gi, pz_wl_gr, pz_wl_same, pz_wl_X, pz_wr_gc, pz_wr_ga, pz_wr_gn, pz_wr_gi, pz_wr_gl, pz_wr_same, pz_wr_X, so_39 hS', sr_39_2 hS', sa_41 hS', sn_41 hS', sr_39_3 hS', sa_42 hS', sn_42 hS', sr_39_0 hS', so_4 hS', sr_4_19 hS', sa_17 hS', sn_17 hS', sr_39_4 hS', sa_43 hS', sn_43 hS', f40, f41, f42, f17, fh, fa, fn, c40, d41', d42', hcr, sa_44 hS', sn_44 hS', sa_40 hS', sn_40 hS', sa_45 hS', sn_45 hS']
        (try simp (disch := omega) only [nI_clamp, pz_in_nI2, pz_in_nI2L, pv_gt, nI_add, nI_addL, nI_Ladd, pk_mul, nI_mulL, nI_Lmul, pk_sub, nI_subL, nI_Lsub, nI_inc, nI_clampL, Nat.add_sub_cancel, pz_wi_else, pz_wl_else, vu_eq, vu_ne, pz_wi_gc, pz_wi_ga, pz_wi_gn, pz_wi_gl, pz_wi_gr, pz_wi_same, pz_wi_X, pz_wl_gc, pz_wl_ga, pz_wl_gn, pz_wl_gi, pz_wl_gr, pz_wl_same, pz_wl_X, pz_wr_gc, pz_wr_ga, pz_wr_gn, pz_wr_gi, pz_wr_gl, pz_wr_same, pz_wr_X, f40, f41, f42, f17, fh, fa, fn, c40, d41', d42', hcr])
        (try refine po_gI (by first | exact pz_in_nI (by omega) (by decide) | decide | assumption) ?_)
        (try refine po_gI (by first | exact pz_in_nI (by omega) (by decide) | decide | assumption) ?_)
        (try refine po_gI (by first | exact pz_in_nI (by omega) (by decide) | decide | assumption) ?_)
        (try refine po_gI (by first | exact pz_in_nI (by omega) (by decide) | decide | assumption) ?_)
        (try refine po_gP (by first | decide | assumption) ?_)
        (try refine po_gP (Nat.le_of_ble_eq_true rfl) ?_)
        (try refine po_gI (by first | exact pz_in_nI (by omega) (by decide) | decide | assumption) ?_)
        (try refine po_gI (by first | exact pz_in_nI (by omega) (by decide) | decide | assumption) ?_)
        refine po_go ?_
        refine pw_cut (mi := mz_115) (b := bz_115_48) rfl rfl (ih (j + 1) (by omega) (by omega) _ (s.wi (by simp)) ?_ ?_ ?_ ?_) rfl
        · rw [pz_wi_else (by decide)]; exact e44
        · rw [pz_wi_else (by decide)]; exact e45
        · intro q hq
          rw [pz_wi_same, vu_ne (by omega)]
          exact e43 q hq
        · intro k hk
          rw [pz_wi_same]
          by_cases hkj : k = j
          · subst hkj
            rw [g1, vu_eq]
            rfl
          · rw [vu_ne (by omega)]
            exact ex k (by omega)
  refine pm_ent (L := [some (.ref 39), some (.int (nI i)), some (.ref hk), none, none, none, none]) rfl (Nat.le_of_ble_eq_true rfl) ?_
  refine pw_blk (mi := mz_115) (b := bz_115_0) rfl rfl ?_
  simp only [bz_115_0, pz_cut_t, pz_cut_f, pz_cut_n, pv_gt, pv_ts, pv_tn, ev_ald0, ev_eld0, ev_gf1_2, ev_ild1, ev_sp1000, ev_ald2, ev_eld2, ea_iald, ev_isub, ev_gf8_2, ev_ic3, ev_imul, ev_idiv, ea_iast, ev_ist3n, ev_ist3i, ev_ist3r, ev_ist3e, ev_ist3l, ev_bp24, ev_ist4n, ev_ist4i, ev_ist4r, ev_ist4e, ev_ist4l, ev_ild4, ev_ist5n, ev_ist5i, ev_ist5r, ev_ist5e, ev_ist5l, ev_nil, pz_wi_gc, pz_wi_ga, pz_wi_gn, pz_wi_gl, pz_wi_gr, pz_wi_same, pz_wi_X, pz_wl_gc, pz_wl_ga, pz_wl_gn, pz_wl_gi, pz_wl_gr, pz_wl_same, pz_wl_X, pz_wr_gc, pz_wr_ga, pz_wr_gn, pz_wr_gi, pz_wr_gl, pz_wr_same, pz_wr_X, so_39 hS, sr_39_5 hS, sa_44 hS, sn_44 hS, sr_39_0 hS, so_4 hS, sr_4_19 hS, sa_17 hS, sn_17 hS, hh, hka, hkn, hwk, sa_40 hS, sn_40 hS, sa_41 hS, sn_41 hS, sa_42 hS, sn_42 hS, sa_43 hS, sn_43 hS, sa_45 hS, sn_45 hS]
  (try simp (disch := omega) only [nI_clamp, pz_in_nI2, pz_in_nI2L, pv_gt, nI_add, nI_addL, nI_Ladd, pk_mul, nI_mulL, nI_Lmul, pk_sub, nI_subL, nI_Lsub, nI_inc, nI_clampL, Nat.add_sub_cancel, pz_wi_else, pz_wl_else, vu_eq, vu_ne, pz_wi_gc, pz_wi_ga, pz_wi_gn, pz_wi_gl, pz_wi_gr, pz_wi_same, pz_wi_X, pz_wl_gc, pz_wl_ga, pz_wl_gn, pz_wl_gi, pz_wl_gr, pz_wl_same, pz_wl_X, pz_wr_gc, pz_wr_ga, pz_wr_gn, pz_wr_gi, pz_wr_gl, pz_wr_same, pz_wr_X, hh, hka, hkn, hwk])
  (try refine po_gI (by first | exact pz_in_nI (by omega) (by decide) | decide | assumption) ?_)
  (try refine po_gI (by first | exact pz_in_nI (by omega) (by decide) | decide | assumption) ?_)
  (try refine po_gP (by first | decide | assumption) ?_)
  (try refine po_gI (by first | exact pz_in_nI (by omega) (by decide) | decide | assumption) ?_)
  (try refine po_gI (by first | exact pz_in_nI (by omega) (by decide) | decide | assumption) ?_)
  refine po_go ?_
  refine key 0 (by omega) _ (sm.wi sm.rf (by simp)) ?_ ?_ ?_ ?_
  · rw [pz_wi_same]
    rfl
  · rw [pz_wi_else (by decide)]
  · intro q _
    rw [pz_wi_else (by decide)]
  · intro k hk
    omega
theorem m_goesOn {i : Nat} {mk : Bool} (hS : SH M) (hi : i < 24) (h : Q (some (.int (if mk = true then 1000 - gi M 44 i else gi M 45 i)), M)) : pm d 116 [.ref 39, .int (nI i), .int (bI mk)] M Q := by
  cases mk with
  | true =>
    refine pm_ent (L := [some (.ref 39), some (.int (nI i)), some (.int (bI true))]) rfl (Nat.le_of_ble_eq_true rfl) ?_
    refine pw_blk (mi := mz_116) (b := bz_116_0) rfl rfl ?_
    simp only [bz_116_0, pz_cut_t, pz_cut_f, pz_cut_n, pv_gt, pv_ts, pv_tn, ev_ild2, ev_ifeq, pz_wi_gc, pz_wi_ga, pz_wi_gn, pz_wi_gl, pz_wi_gr, pz_wi_same, pz_wi_X, pz_wl_gc, pz_wl_ga, pz_wl_gn, pz_wl_gi, pz_wl_gr, pz_wl_same, pz_wl_X, pz_wr_gc, pz_wr_ga, pz_wr_gn, pz_wr_gi, pz_wr_gl, pz_wr_same, pz_wr_X, bI_t]
    (try simp (disch := omega) only [nI_clamp, pz_in_nI2, pz_in_nI2L, pv_gt, nI_add, nI_addL, nI_Ladd, pk_mul, nI_mulL, nI_Lmul, pk_sub, nI_subL, nI_Lsub, nI_inc, nI_clampL, Nat.add_sub_cancel, pz_wi_else, pz_wl_else, vu_eq, vu_ne, pz_wi_gc, pz_wi_ga, pz_wi_gn, pz_wi_gl, pz_wi_gr, pz_wi_same, pz_wi_X, pz_wl_gc, pz_wl_ga, pz_wl_gn, pz_wl_gi, pz_wl_gr, pz_wl_same, pz_wl_X, pz_wr_gc, pz_wr_ga, pz_wr_gn, pz_wr_gi, pz_wr_gl, pz_wr_same, pz_wr_X, bI_t])
    refine po_brP (fun q0 => ?_) (fun q0 => ?_)
    · first
      | exact absurd q0 (by decide)
      | exact absurd trivial q0
      | exact q0.elim
      | (exfalso; (try simp (disch := omega) only [nI_ltI, nI_leI, nI_eq, nI_ltL, nI_leL, nI_eqL, nI_Llt, nI_Lle, nI_Leq, nI_eqm, nI_meq, nI_ltm, nI_lem, nI_mlt, nI_mle, lg0, lgl, lgg, lgle, lgge, Int32.not_lt, Int32.not_le, Int64.not_lt, Int64.not_le, not_false_eq_true, not_true_eq_false, Decidable.not_not, ge_iff_le, gt_iff_lt] at q0) <;> omega)
      | exact absurd q0 (by with_reducible assumption)
      | exact absurd (by with_reducible assumption) q0
      | exact absurd (Decidable.not_not.mp q0) (by with_reducible assumption)
      | exact absurd (by with_reducible assumption) (Int32.not_le.mpr q0)
      | exact absurd (by with_reducible assumption) (Int32.not_lt.mpr q0)
    · skip
      (try simp (disch := omega) only [nI_ltI, nI_leI, nI_eq, nI_ltL, nI_leL, nI_eqL, nI_Llt, nI_Lle, nI_Leq, nI_eqm, nI_meq, nI_ltm, nI_lem, nI_mlt, nI_mle, lg0, lgl, lgg, lgle, lgge, Int32.not_lt, Int32.not_le, Int64.not_lt, Int64.not_le, not_false_eq_true, not_true_eq_false, Decidable.not_not, ge_iff_le, gt_iff_lt] at q0)
      refine pw_blk (mi := mz_116) (b := bz_116_4) rfl rfl ?_
      simp only [bz_116_4, pz_cut_t, pz_cut_f, pz_cut_n, pv_gt, pv_ts, pv_tn, ev_sp1000, ev_ald0, ev_eld0, ev_gf1_2, ev_ild1, ea_iald, ev_isub, ev_goto, pz_wi_gc, pz_wi_ga, pz_wi_gn, pz_wi_gl, pz_wi_gr, pz_wi_same, pz_wi_X, pz_wl_gc, pz_wl_ga, pz_wl_gn, pz_wl_gi, pz_wl_gr, pz_wl_same, pz_wl_X, pz_wr_gc, pz_wr_ga, pz_wr_gn, pz_wr_gi, pz_wr_gl, pz_wr_same, pz_wr_X, so_39 hS, sr_39_5 hS, sa_44 hS, sn_44 hS, bI_t, sa_45 hS, sn_45 hS]
      (try simp (disch := omega) only [nI_clamp, pz_in_nI2, pz_in_nI2L, pv_gt, nI_add, nI_addL, nI_Ladd, pk_mul, nI_mulL, nI_Lmul, pk_sub, nI_subL, nI_Lsub, nI_inc, nI_clampL, Nat.add_sub_cancel, pz_wi_else, pz_wl_else, vu_eq, vu_ne, pz_wi_gc, pz_wi_ga, pz_wi_gn, pz_wi_gl, pz_wi_gr, pz_wi_same, pz_wi_X, pz_wl_gc, pz_wl_ga, pz_wl_gn, pz_wl_gi, pz_wl_gr, pz_wl_same, pz_wl_X, pz_wr_gc, pz_wr_ga, pz_wr_gn, pz_wr_gi, pz_wr_gl, pz_wr_same, pz_wr_X, bI_t])
      (try refine po_gI (by first | exact pz_in_nI (by omega) (by decide) | decide | assumption) ?_)
      refine po_go ?_
      refine pw_blk (mi := mz_116) (b := bz_116_23) rfl rfl ?_
      simp only [bz_116_23, pz_cut_t, pz_cut_f, pz_cut_n, pv_gt, pv_ts, pv_tn, ev_iret0, pz_wi_gc, pz_wi_ga, pz_wi_gn, pz_wi_gl, pz_wi_gr, pz_wi_same, pz_wi_X, pz_wl_gc, pz_wl_ga, pz_wl_gn, pz_wl_gi, pz_wl_gr, pz_wl_same, pz_wl_X, pz_wr_gc, pz_wr_ga, pz_wr_gn, pz_wr_gi, pz_wr_gl, pz_wr_same, pz_wr_X, bI_t]
      (try simp (disch := omega) only [nI_clamp, pz_in_nI2, pz_in_nI2L, pv_gt, nI_add, nI_addL, nI_Ladd, pk_mul, nI_mulL, nI_Lmul, pk_sub, nI_subL, nI_Lsub, nI_inc, nI_clampL, Nat.add_sub_cancel, pz_wi_else, pz_wl_else, vu_eq, vu_ne, pz_wi_gc, pz_wi_ga, pz_wi_gn, pz_wi_gl, pz_wi_gr, pz_wi_same, pz_wi_X, pz_wl_gc, pz_wl_ga, pz_wl_gn, pz_wl_gi, pz_wl_gr, pz_wl_same, pz_wl_X, pz_wr_gc, pz_wr_ga, pz_wr_gn, pz_wr_gi, pz_wr_gl, pz_wr_same, pz_wr_X, bI_t])
      exact po_ret h
  | false =>
    refine pm_ent (L := [some (.ref 39), some (.int (nI i)), some (.int (bI false))]) rfl (Nat.le_of_ble_eq_true rfl) ?_
    refine pw_blk (mi := mz_116) (b := bz_116_0) rfl rfl ?_
    simp only [bz_116_0, pz_cut_t, pz_cut_f, pz_cut_n, pv_gt, pv_ts, pv_tn, ev_ild2, ev_ifeq, pz_wi_gc, pz_wi_ga, pz_wi_gn, pz_wi_gl, pz_wi_gr, pz_wi_same, pz_wi_X, pz_wl_gc, pz_wl_ga, pz_wl_gn, pz_wl_gi, pz_wl_gr, pz_wl_same, pz_wl_X, pz_wr_gc, pz_wr_ga, pz_wr_gn, pz_wr_gi, pz_wr_gl, pz_wr_same, pz_wr_X, bI_f]
    (try simp (disch := omega) only [nI_clamp, pz_in_nI2, pz_in_nI2L, pv_gt, nI_add, nI_addL, nI_Ladd, pk_mul, nI_mulL, nI_Lmul, pk_sub, nI_subL, nI_Lsub, nI_inc, nI_clampL, Nat.add_sub_cancel, pz_wi_else, pz_wl_else, vu_eq, vu_ne, pz_wi_gc, pz_wi_ga, pz_wi_gn, pz_wi_gl, pz_wi_gr, pz_wi_same, pz_wi_X, pz_wl_gc, pz_wl_ga, pz_wl_gn, pz_wl_gi, pz_wl_gr, pz_wl_same, pz_wl_X, pz_wr_gc, pz_wr_ga, pz_wr_gn, pz_wr_gi, pz_wr_gl, pz_wr_same, pz_wr_X, bI_f])
    refine po_brP (fun q0 => ?_) (fun q0 => ?_)
    · skip
      (try simp (disch := omega) only [nI_ltI, nI_leI, nI_eq, nI_ltL, nI_leL, nI_eqL, nI_Llt, nI_Lle, nI_Leq, nI_eqm, nI_meq, nI_ltm, nI_lem, nI_mlt, nI_mle, lg0, lgl, lgg, lgle, lgge, Int32.not_lt, Int32.not_le, Int64.not_lt, Int64.not_le, not_false_eq_true, not_true_eq_false, Decidable.not_not, ge_iff_le, gt_iff_lt] at q0)
      refine pw_blk (mi := mz_116) (b := bz_116_17) rfl rfl ?_
      simp only [bz_116_17, pz_cut_t, pz_cut_f, pz_cut_n, pv_gt, pv_ts, pv_tn, ev_ald0, ev_eld0, ev_gf1_2, ev_ild1, ea_iald, ev_nil, pz_wi_gc, pz_wi_ga, pz_wi_gn, pz_wi_gl, pz_wi_gr, pz_wi_same, pz_wi_X, pz_wl_gc, pz_wl_ga, pz_wl_gn, pz_wl_gi, pz_wl_gr, pz_wl_same, pz_wl_X, pz_wr_gc, pz_wr_ga, pz_wr_gn, pz_wr_gi, pz_wr_gl, pz_wr_same, pz_wr_X, so_39 hS, sr_39_6 hS, sa_45 hS, sn_45 hS, bI_f, sa_44 hS, sn_44 hS]
      (try simp (disch := omega) only [nI_clamp, pz_in_nI2, pz_in_nI2L, pv_gt, nI_add, nI_addL, nI_Ladd, pk_mul, nI_mulL, nI_Lmul, pk_sub, nI_subL, nI_Lsub, nI_inc, nI_clampL, Nat.add_sub_cancel, pz_wi_else, pz_wl_else, vu_eq, vu_ne, pz_wi_gc, pz_wi_ga, pz_wi_gn, pz_wi_gl, pz_wi_gr, pz_wi_same, pz_wi_X, pz_wl_gc, pz_wl_ga, pz_wl_gn, pz_wl_gi, pz_wl_gr, pz_wl_same, pz_wl_X, pz_wr_gc, pz_wr_ga, pz_wr_gn, pz_wr_gi, pz_wr_gl, pz_wr_same, pz_wr_X, bI_f])
      (try refine po_gI (by first | exact pz_in_nI (by omega) (by decide) | decide | assumption) ?_)
      refine po_go ?_
      refine pw_blk (mi := mz_116) (b := bz_116_23) rfl rfl ?_
      simp only [bz_116_23, pz_cut_t, pz_cut_f, pz_cut_n, pv_gt, pv_ts, pv_tn, ev_iret0, pz_wi_gc, pz_wi_ga, pz_wi_gn, pz_wi_gl, pz_wi_gr, pz_wi_same, pz_wi_X, pz_wl_gc, pz_wl_ga, pz_wl_gn, pz_wl_gi, pz_wl_gr, pz_wl_same, pz_wl_X, pz_wr_gc, pz_wr_ga, pz_wr_gn, pz_wr_gi, pz_wr_gl, pz_wr_same, pz_wr_X, bI_f]
      (try simp (disch := omega) only [nI_clamp, pz_in_nI2, pz_in_nI2L, pv_gt, nI_add, nI_addL, nI_Ladd, pk_mul, nI_mulL, nI_Lmul, pk_sub, nI_subL, nI_Lsub, nI_inc, nI_clampL, Nat.add_sub_cancel, pz_wi_else, pz_wl_else, vu_eq, vu_ne, pz_wi_gc, pz_wi_ga, pz_wi_gn, pz_wi_gl, pz_wi_gr, pz_wi_same, pz_wi_X, pz_wl_gc, pz_wl_ga, pz_wl_gn, pz_wl_gi, pz_wl_gr, pz_wl_same, pz_wl_X, pz_wr_gc, pz_wr_ga, pz_wr_gn, pz_wr_gi, pz_wr_gl, pz_wr_same, pz_wr_X, bI_f])
      exact po_ret h
    · first
      | exact absurd q0 (by decide)
      | exact absurd trivial q0
      | exact q0.elim
      | (exfalso; (try simp (disch := omega) only [nI_ltI, nI_leI, nI_eq, nI_ltL, nI_leL, nI_eqL, nI_Llt, nI_Lle, nI_Leq, nI_eqm, nI_meq, nI_ltm, nI_lem, nI_mlt, nI_mle, lg0, lgl, lgg, lgle, lgge, Int32.not_lt, Int32.not_le, Int64.not_lt, Int64.not_le, not_false_eq_true, not_true_eq_false, Decidable.not_not, ge_iff_le, gt_iff_lt] at q0) <;> omega)
      | exact absurd q0 (by with_reducible assumption)
      | exact absurd (by with_reducible assumption) q0
      | exact absurd (Decidable.not_not.mp q0) (by with_reducible assumption)
      | exact absurd (by with_reducible assumption) (Int32.not_le.mpr q0)
      | exact absurd (by with_reducible assumption) (Int32.not_lt.mpr q0)
/-- what crosses to j -/
def crs (al : Nat → Nat → Nat) (cr wk B i : Nat) (h : Nat → Int32) (mk : Bool) (j : Nat) : Int32 := if mk = true then 0 else if pj al i j = true then xsq (shr al cr B i h) (1000 - stp wk (h i)) (cnt (pj al i) j) else 0
def onN (al : Nat → Nat → Nat) (cr wk B i : Nat) (h : Nat → Int32) (mk : Bool) : Int32 := if mk = true then 1000 - stp wk (h i) else rsq (shr al cr B i h) (1000 - stp wk (h i)) (cnt (pj al i) B)
theorem m_crossesTo {al : Nat → Nat → Nat} {cr wk B i j : Nat} {h : Nat → Int32} {mk : Bool} (hS : SH M) (hF : RFa M al B) (hB : B ≤ 24) (hi : i < B) (hj : j < B) (hW : isW M al cr wk B i h) (k : Q (some (.int (crs al cr wk B i h mk j)), M)) : pm d 117 [.ref 39, .int (nI i), .int (nI j), .int (bI mk)] M Q := by
  have hlen := cnt_lt24 (al := al) B hi
  obtain ⟨c40, c41⟩ := hF i hi
  cases mk with
  | true =>
    rw [crs, if_pos rfl] at k
    refine pm_ent (L := [some (.ref 39), some (.int (nI i)), some (.int (nI j)), some (.int (bI true)), none, none]) rfl (Nat.le_of_ble_eq_true rfl) ?_
    refine pw_blk (mi := mz_117) (b := bz_117_0) rfl rfl ?_
    simp only [bz_117_0, pz_cut_t, pz_cut_f, pz_cut_n, pv_gt, pv_ts, pv_tn, ev_ild1, ev_bp24, ev_imul, ev_ist4n, ev_ist4i, ev_ist4r, ev_ist4e, ev_ist4l, ev_ild4, ev_ist5n, ev_ist5i, ev_ist5r, ev_ist5e, ev_ist5l, ev_nil, pz_wi_gc, pz_wi_ga, pz_wi_gn, pz_wi_gl, pz_wi_gr, pz_wi_same, pz_wi_X, pz_wl_gc, pz_wl_ga, pz_wl_gn, pz_wl_gi, pz_wl_gr, pz_wl_same, pz_wl_X, pz_wr_gc, pz_wr_ga, pz_wr_gn, pz_wr_gi, pz_wr_gl, pz_wr_same, pz_wr_X, c40, bI_t]
    (try simp (disch := omega) only [nI_clamp, pz_in_nI2, pz_in_nI2L, pv_gt, nI_add, nI_addL, nI_Ladd, pk_mul, nI_mulL, nI_Lmul, pk_sub, nI_subL, nI_Lsub, nI_inc, nI_clampL, Nat.add_sub_cancel, pz_wi_else, pz_wl_else, vu_eq, vu_ne, pz_wi_gc, pz_wi_ga, pz_wi_gn, pz_wi_gl, pz_wi_gr, pz_wi_same, pz_wi_X, pz_wl_gc, pz_wl_ga, pz_wl_gn, pz_wl_gi, pz_wl_gr, pz_wl_same, pz_wl_X, pz_wr_gc, pz_wr_ga, pz_wr_gn, pz_wr_gi, pz_wr_gl, pz_wr_same, pz_wr_X, c40, bI_t])
    refine po_go ?_
    refine pw_blk (mi := mz_117) (b := bz_117_10) rfl rfl ?_
    simp only [bz_117_10, pz_cut_t, pz_cut_f, pz_cut_n, pv_gt, pv_ts, pv_tn, ev_ild5, ev_ild4, ev_ald0, ev_eld0, ev_gf1_2, ev_ild1, ea_iald, ev_iadd, ev_ic_ge, pz_wi_gc, pz_wi_ga, pz_wi_gn, pz_wi_gl, pz_wi_gr, pz_wi_same, pz_wi_X, pz_wl_gc, pz_wl_ga, pz_wl_gn, pz_wl_gi, pz_wl_gr, pz_wl_same, pz_wl_X, pz_wr_gc, pz_wr_ga, pz_wr_gn, pz_wr_gi, pz_wr_gl, pz_wr_same, pz_wr_X, so_39 hS, sr_39_1 hS, sa_40 hS, sn_40 hS, c40, bI_t, sa_41 hS, sn_41 hS, sa_43 hS, sn_43 hS]
    (try simp (disch := omega) only [nI_clamp, pz_in_nI2, pz_in_nI2L, pv_gt, nI_add, nI_addL, nI_Ladd, pk_mul, nI_mulL, nI_Lmul, pk_sub, nI_subL, nI_Lsub, nI_inc, nI_clampL, Nat.add_sub_cancel, pz_wi_else, pz_wl_else, vu_eq, vu_ne, pz_wi_gc, pz_wi_ga, pz_wi_gn, pz_wi_gl, pz_wi_gr, pz_wi_same, pz_wi_X, pz_wl_gc, pz_wl_ga, pz_wl_gn, pz_wl_gi, pz_wl_gr, pz_wl_same, pz_wl_X, pz_wr_gc, pz_wr_ga, pz_wr_gn, pz_wr_gi, pz_wr_gl, pz_wr_same, pz_wr_X, c40, bI_t])
    (try refine po_gI (by first | exact pz_in_nI (by omega) (by decide) | decide | assumption) ?_)
    refine po_brP (fun q10 => ?_) (fun q10 => ?_)
    · first
      | exact absurd q10 (by decide)
      | exact absurd trivial q10
      | exact q10.elim
      | (exfalso; (try simp (disch := omega) only [nI_ltI, nI_leI, nI_eq, nI_ltL, nI_leL, nI_eqL, nI_Llt, nI_Lle, nI_Leq, nI_eqm, nI_meq, nI_ltm, nI_lem, nI_mlt, nI_mle, lg0, lgl, lgg, lgle, lgge, Int32.not_lt, Int32.not_le, Int64.not_lt, Int64.not_le, not_false_eq_true, not_true_eq_false, Decidable.not_not, ge_iff_le, gt_iff_lt] at q10) <;> omega)
      | exact absurd q10 (by with_reducible assumption)
      | exact absurd (by with_reducible assumption) q10
      | exact absurd (Decidable.not_not.mp q10) (by with_reducible assumption)
      | exact absurd (by with_reducible assumption) (Int32.not_le.mpr q10)
      | exact absurd (by with_reducible assumption) (Int32.not_lt.mpr q10)
      | skip
        (try simp (disch := omega) only [nI_ltI, nI_leI, nI_eq, nI_ltL, nI_leL, nI_eqL, nI_Llt, nI_Lle, nI_Leq, nI_eqm, nI_meq, nI_ltm, nI_lem, nI_mlt, nI_mle, lg0, lgl, lgg, lgle, lgge, Int32.not_lt, Int32.not_le, Int64.not_lt, Int64.not_le, not_false_eq_true, not_true_eq_false, Decidable.not_not, ge_iff_le, gt_iff_lt] at q10)
        refine pw_blk (mi := mz_117) (b := bz_117_53) rfl rfl ?_
        simp only [bz_117_53, pz_cut_t, pz_cut_f, pz_cut_n, pv_gt, pv_ts, pv_tn, ev_ic0, ev_iret0, pz_wi_gc, pz_wi_ga, pz_wi_gn, pz_wi_gl, pz_wi_gr, pz_wi_same, pz_wi_X, pz_wl_gc, pz_wl_ga, pz_wl_gn, pz_wl_gi, pz_wl_gr, pz_wl_same, pz_wl_X, pz_wr_gc, pz_wr_ga, pz_wr_gn, pz_wr_gi, pz_wr_gl, pz_wr_same, pz_wr_X, c40, bI_t]
        (try simp (disch := omega) only [nI_clamp, pz_in_nI2, pz_in_nI2L, pv_gt, nI_add, nI_addL, nI_Ladd, pk_mul, nI_mulL, nI_Lmul, pk_sub, nI_subL, nI_Lsub, nI_inc, nI_clampL, Nat.add_sub_cancel, pz_wi_else, pz_wl_else, vu_eq, vu_ne, pz_wi_gc, pz_wi_ga, pz_wi_gn, pz_wi_gl, pz_wi_gr, pz_wi_same, pz_wi_X, pz_wl_gc, pz_wl_ga, pz_wl_gn, pz_wl_gi, pz_wl_gr, pz_wl_same, pz_wl_X, pz_wr_gc, pz_wr_ga, pz_wr_gn, pz_wr_gi, pz_wr_gl, pz_wr_same, pz_wr_X, c40, bI_t])
        exact po_ret k
    · first
      | exact absurd q10 (by decide)
      | exact absurd trivial q10
      | exact q10.elim
      | (exfalso; (try simp (disch := omega) only [nI_ltI, nI_leI, nI_eq, nI_ltL, nI_leL, nI_eqL, nI_Llt, nI_Lle, nI_Leq, nI_eqm, nI_meq, nI_ltm, nI_lem, nI_mlt, nI_mle, lg0, lgl, lgg, lgle, lgge, Int32.not_lt, Int32.not_le, Int64.not_lt, Int64.not_le, not_false_eq_true, not_true_eq_false, Decidable.not_not, ge_iff_le, gt_iff_lt] at q10) <;> omega)
      | exact absurd q10 (by with_reducible assumption)
      | exact absurd (by with_reducible assumption) q10
      | exact absurd (Decidable.not_not.mp q10) (by with_reducible assumption)
      | exact absurd (by with_reducible assumption) (Int32.not_le.mpr q10)
      | exact absurd (by with_reducible assumption) (Int32.not_lt.mpr q10)
      | skip
        (try simp (disch := omega) only [nI_ltI, nI_leI, nI_eq, nI_ltL, nI_leL, nI_eqL, nI_Llt, nI_Lle, nI_Leq, nI_eqm, nI_meq, nI_ltm, nI_lem, nI_mlt, nI_mle, lg0, lgl, lgg, lgle, lgge, Int32.not_lt, Int32.not_le, Int64.not_lt, Int64.not_le, not_false_eq_true, not_true_eq_false, Decidable.not_not, ge_iff_le, gt_iff_lt] at q10)
        refine pw_blk (mi := mz_117) (b := bz_117_24) rfl rfl ?_
        simp only [bz_117_24, pz_cut_t, pz_cut_f, pz_cut_n, pv_gt, pv_ts, pv_tn, ev_ild3, ev_ifne, pz_wi_gc, pz_wi_ga, pz_wi_gn, pz_wi_gl, pz_wi_gr, pz_wi_same, pz_wi_X, pz_wl_gc, pz_wl_ga, pz_wl_gn, pz_wl_gi, pz_wl_gr, pz_wl_same, pz_wl_X, pz_wr_gc, pz_wr_ga, pz_wr_gn, pz_wr_gi, pz_wr_gl, pz_wr_same, pz_wr_X, c40, bI_t]
        (try simp (disch := omega) only [nI_clamp, pz_in_nI2, pz_in_nI2L, pv_gt, nI_add, nI_addL, nI_Ladd, pk_mul, nI_mulL, nI_Lmul, pk_sub, nI_subL, nI_Lsub, nI_inc, nI_clampL, Nat.add_sub_cancel, pz_wi_else, pz_wl_else, vu_eq, vu_ne, pz_wi_gc, pz_wi_ga, pz_wi_gn, pz_wi_gl, pz_wi_gr, pz_wi_same, pz_wi_X, pz_wl_gc, pz_wl_ga, pz_wl_gn, pz_wl_gi, pz_wl_gr, pz_wl_same, pz_wl_X, pz_wr_gc, pz_wr_ga, pz_wr_gn, pz_wr_gi, pz_wr_gl, pz_wr_same, pz_wr_X, c40, bI_t])
        refine po_brP (fun q24 => ?_) (fun q24 => ?_)
        · skip
          (try simp (disch := omega) only [nI_ltI, nI_leI, nI_eq, nI_ltL, nI_leL, nI_eqL, nI_Llt, nI_Lle, nI_Leq, nI_eqm, nI_meq, nI_ltm, nI_lem, nI_mlt, nI_mle, lg0, lgl, lgg, lgle, lgge, Int32.not_lt, Int32.not_le, Int64.not_lt, Int64.not_le, not_false_eq_true, not_true_eq_false, Decidable.not_not, ge_iff_le, gt_iff_lt] at q24)
          refine pw_blk (mi := mz_117) (b := bz_117_53) rfl rfl ?_
          simp only [bz_117_53, pz_cut_t, pz_cut_f, pz_cut_n, pv_gt, pv_ts, pv_tn, ev_ic0, ev_iret0, pz_wi_gc, pz_wi_ga, pz_wi_gn, pz_wi_gl, pz_wi_gr, pz_wi_same, pz_wi_X, pz_wl_gc, pz_wl_ga, pz_wl_gn, pz_wl_gi, pz_wl_gr, pz_wl_same, pz_wl_X, pz_wr_gc, pz_wr_ga, pz_wr_gn, pz_wr_gi, pz_wr_gl, pz_wr_same, pz_wr_X, c40, bI_t]
          (try simp (disch := omega) only [nI_clamp, pz_in_nI2, pz_in_nI2L, pv_gt, nI_add, nI_addL, nI_Ladd, pk_mul, nI_mulL, nI_Lmul, pk_sub, nI_subL, nI_Lsub, nI_inc, nI_clampL, Nat.add_sub_cancel, pz_wi_else, pz_wl_else, vu_eq, vu_ne, pz_wi_gc, pz_wi_ga, pz_wi_gn, pz_wi_gl, pz_wi_gr, pz_wi_same, pz_wi_X, pz_wl_gc, pz_wl_ga, pz_wl_gn, pz_wl_gi, pz_wl_gr, pz_wl_same, pz_wl_X, pz_wr_gc, pz_wr_ga, pz_wr_gn, pz_wr_gi, pz_wr_gl, pz_wr_same, pz_wr_X, c40, bI_t])
          exact po_ret k
        · first
          | exact absurd q24 (by decide)
          | exact absurd trivial q24
          | exact q24.elim
          | (exfalso; (try simp (disch := omega) only [nI_ltI, nI_leI, nI_eq, nI_ltL, nI_leL, nI_eqL, nI_Llt, nI_Lle, nI_Leq, nI_eqm, nI_meq, nI_ltm, nI_lem, nI_mlt, nI_mle, lg0, lgl, lgg, lgle, lgge, Int32.not_lt, Int32.not_le, Int64.not_lt, Int64.not_le, not_false_eq_true, not_true_eq_false, Decidable.not_not, ge_iff_le, gt_iff_lt] at q24) <;> omega)
          | exact absurd q24 (by with_reducible assumption)
          | exact absurd (by with_reducible assumption) q24
          | exact absurd (Decidable.not_not.mp q24) (by with_reducible assumption)
          | exact absurd (by with_reducible assumption) (Int32.not_le.mpr q24)
          | exact absurd (by with_reducible assumption) (Int32.not_lt.mpr q24)
  | false =>
    rw [crs, if_neg (by decide)] at k
    have key : ∀ q, q ≤ cnt (pj al i) B → (∀ q', q' < q → ¬ lkG al B i q' = j) → pw d 117 (10, [some (.ref 39), some (.int (nI i)), some (.int (nI j)), some (.int (bI false)), some (.int (nI (i * 24))), some (.int (nI (i * 24 + q)))], [], M) Q := by
      refine upto (fun q hq ih => ?_)
      intro hno
      by_cases hqc : q = cnt (pj al i) B
      · subst hqc
        have hpn : ¬ pj al i j = true := fun hp => by
          obtain ⟨h1, h2⟩ := lkG_at hp B hj
          exact hno _ h2 h1
        rw [if_neg hpn] at k
        refine pw_blk (mi := mz_117) (b := bz_117_10) rfl rfl ?_
        simp only [bz_117_10, pz_cut_t, pz_cut_f, pz_cut_n, pv_gt, pv_ts, pv_tn, ev_ild5, ev_ild4, ev_ald0, ev_eld0, ev_gf1_2, ev_ild1, ea_iald, ev_iadd, ev_ic_ge, pz_wi_gc, pz_wi_ga, pz_wi_gn, pz_wi_gl, pz_wi_gr, pz_wi_same, pz_wi_X, pz_wl_gc, pz_wl_ga, pz_wl_gn, pz_wl_gi, pz_wl_gr, pz_wl_same, pz_wl_X, pz_wr_gc, pz_wr_ga, pz_wr_gn, pz_wr_gi, pz_wr_gl, pz_wr_same, pz_wr_X, so_39 hS, sr_39_1 hS, sa_40 hS, sn_40 hS, c40, bI_f, sa_41 hS, sn_41 hS, sa_43 hS, sn_43 hS]
        (try simp (disch := omega) only [nI_clamp, pz_in_nI2, pz_in_nI2L, pv_gt, nI_add, nI_addL, nI_Ladd, pk_mul, nI_mulL, nI_Lmul, pk_sub, nI_subL, nI_Lsub, nI_inc, nI_clampL, Nat.add_sub_cancel, pz_wi_else, pz_wl_else, vu_eq, vu_ne, pz_wi_gc, pz_wi_ga, pz_wi_gn, pz_wi_gl, pz_wi_gr, pz_wi_same, pz_wi_X, pz_wl_gc, pz_wl_ga, pz_wl_gn, pz_wl_gi, pz_wl_gr, pz_wl_same, pz_wl_X, pz_wr_gc, pz_wr_ga, pz_wr_gn, pz_wr_gi, pz_wr_gl, pz_wr_same, pz_wr_X, c40, bI_f])
        (try refine po_gI (by first | exact pz_in_nI (by omega) (by decide) | decide | assumption) ?_)
        refine po_brP (fun q10 => ?_) (fun q10 => ?_)
        · skip
          (try simp (disch := omega) only [nI_ltI, nI_leI, nI_eq, nI_ltL, nI_leL, nI_eqL, nI_Llt, nI_Lle, nI_Leq, nI_eqm, nI_meq, nI_ltm, nI_lem, nI_mlt, nI_mle, lg0, lgl, lgg, lgle, lgge, Int32.not_lt, Int32.not_le, Int64.not_lt, Int64.not_le, not_false_eq_true, not_true_eq_false, Decidable.not_not, ge_iff_le, gt_iff_lt] at q10)
          refine pw_blk (mi := mz_117) (b := bz_117_53) rfl rfl ?_
          simp only [bz_117_53, pz_cut_t, pz_cut_f, pz_cut_n, pv_gt, pv_ts, pv_tn, ev_ic0, ev_iret0, pz_wi_gc, pz_wi_ga, pz_wi_gn, pz_wi_gl, pz_wi_gr, pz_wi_same, pz_wi_X, pz_wl_gc, pz_wl_ga, pz_wl_gn, pz_wl_gi, pz_wl_gr, pz_wl_same, pz_wl_X, pz_wr_gc, pz_wr_ga, pz_wr_gn, pz_wr_gi, pz_wr_gl, pz_wr_same, pz_wr_X, c40, bI_f]
          (try simp (disch := omega) only [nI_clamp, pz_in_nI2, pz_in_nI2L, pv_gt, nI_add, nI_addL, nI_Ladd, pk_mul, nI_mulL, nI_Lmul, pk_sub, nI_subL, nI_Lsub, nI_inc, nI_clampL, Nat.add_sub_cancel, pz_wi_else, pz_wl_else, vu_eq, vu_ne, pz_wi_gc, pz_wi_ga, pz_wi_gn, pz_wi_gl, pz_wi_gr, pz_wi_same, pz_wi_X, pz_wl_gc, pz_wl_ga, pz_wl_gn, pz_wl_gi, pz_wl_gr, pz_wl_same, pz_wl_X, pz_wr_gc, pz_wr_ga, pz_wr_gn, pz_wr_gi, pz_wr_gl, pz_wr_same, pz_wr_X, c40, bI_f])
          exact po_ret k
        · first
          | exact absurd q10 (by decide)
          | exact absurd trivial q10
          | exact q10.elim
          | (exfalso; (try simp (disch := omega) only [nI_ltI, nI_leI, nI_eq, nI_ltL, nI_leL, nI_eqL, nI_Llt, nI_Lle, nI_Leq, nI_eqm, nI_meq, nI_ltm, nI_lem, nI_mlt, nI_mle, lg0, lgl, lgg, lgle, lgge, Int32.not_lt, Int32.not_le, Int64.not_lt, Int64.not_le, not_false_eq_true, not_true_eq_false, Decidable.not_not, ge_iff_le, gt_iff_lt] at q10) <;> omega)
          | exact absurd q10 (by with_reducible assumption)
          | exact absurd (by with_reducible assumption) q10
          | exact absurd (Decidable.not_not.mp q10) (by with_reducible assumption)
          | exact absurd (by with_reducible assumption) (Int32.not_le.mpr q10)
          | exact absurd (by with_reducible assumption) (Int32.not_lt.mpr q10)
      · obtain ⟨d41, d42⟩ := c41 q (by omega)
        have g1 : i * 24 + q = 24 * i + q := by omega
        have d41' : gi M 41 (i * 24 + q) = nI (lkG al B i q) := by rw [g1]; exact d41
        obtain ⟨v1, v2, v3⟩ := lkG_inv (al := al) (i := i) B q (by omega)
        have hx := hW.2.2 q (by omega)
        have hx' : gi M 43 (i * 24 + q) = xsq (shr al cr B i h) (1000 - stp wk (h i)) q := by rw [g1]; exact hx
        refine pw_blk (mi := mz_117) (b := bz_117_10) rfl rfl ?_
        simp only [bz_117_10, pz_cut_t, pz_cut_f, pz_cut_n, pv_gt, pv_ts, pv_tn, ev_ild5, ev_ild4, ev_ald0, ev_eld0, ev_gf1_2, ev_ild1, ea_iald, ev_iadd, ev_ic_ge, pz_wi_gc, pz_wi_ga, pz_wi_gn, pz_wi_gl, pz_wi_gr, pz_wi_same, pz_wi_X, pz_wl_gc, pz_wl_ga, pz_wl_gn, pz_wl_gi, pz_wl_gr, pz_wl_same, pz_wl_X, pz_wr_gc, pz_wr_ga, pz_wr_gn, pz_wr_gi, pz_wr_gl, pz_wr_same, pz_wr_X, so_39 hS, sr_39_1 hS, sa_40 hS, sn_40 hS, c40, d41', hx', bI_f, sa_41 hS, sn_41 hS, sa_43 hS, sn_43 hS]
        (try simp (disch := omega) only [nI_clamp, pz_in_nI2, pz_in_nI2L, pv_gt, nI_add, nI_addL, nI_Ladd, pk_mul, nI_mulL, nI_Lmul, pk_sub, nI_subL, nI_Lsub, nI_inc, nI_clampL, Nat.add_sub_cancel, pz_wi_else, pz_wl_else, vu_eq, vu_ne, pz_wi_gc, pz_wi_ga, pz_wi_gn, pz_wi_gl, pz_wi_gr, pz_wi_same, pz_wi_X, pz_wl_gc, pz_wl_ga, pz_wl_gn, pz_wl_gi, pz_wl_gr, pz_wl_same, pz_wl_X, pz_wr_gc, pz_wr_ga, pz_wr_gn, pz_wr_gi, pz_wr_gl, pz_wr_same, pz_wr_X, c40, d41', hx', bI_f])
        (try refine po_gI (by first | exact pz_in_nI (by omega) (by decide) | decide | assumption) ?_)
        refine po_brP (fun q10 => ?_) (fun q10 => ?_)
        · first
          | exact absurd q10 (by decide)
          | exact absurd trivial q10
          | exact q10.elim
          | (exfalso; (try simp (disch := omega) only [nI_ltI, nI_leI, nI_eq, nI_ltL, nI_leL, nI_eqL, nI_Llt, nI_Lle, nI_Leq, nI_eqm, nI_meq, nI_ltm, nI_lem, nI_mlt, nI_mle, lg0, lgl, lgg, lgle, lgge, Int32.not_lt, Int32.not_le, Int64.not_lt, Int64.not_le, not_false_eq_true, not_true_eq_false, Decidable.not_not, ge_iff_le, gt_iff_lt] at q10) <;> omega)
          | exact absurd q10 (by with_reducible assumption)
          | exact absurd (by with_reducible assumption) q10
          | exact absurd (Decidable.not_not.mp q10) (by with_reducible assumption)
          | exact absurd (by with_reducible assumption) (Int32.not_le.mpr q10)
          | exact absurd (by with_reducible assumption) (Int32.not_lt.mpr q10)
        · skip
          (try simp (disch := omega) only [nI_ltI, nI_leI, nI_eq, nI_ltL, nI_leL, nI_eqL, nI_Llt, nI_Lle, nI_Leq, nI_eqm, nI_meq, nI_ltm, nI_lem, nI_mlt, nI_mle, lg0, lgl, lgg, lgle, lgge, Int32.not_lt, Int32.not_le, Int64.not_lt, Int64.not_le, not_false_eq_true, not_true_eq_false, Decidable.not_not, ge_iff_le, gt_iff_lt] at q10)
          refine pw_blk (mi := mz_117) (b := bz_117_24) rfl rfl ?_
          simp only [bz_117_24, pz_cut_t, pz_cut_f, pz_cut_n, pv_gt, pv_ts, pv_tn, ev_ild3, ev_ifne, pz_wi_gc, pz_wi_ga, pz_wi_gn, pz_wi_gl, pz_wi_gr, pz_wi_same, pz_wi_X, pz_wl_gc, pz_wl_ga, pz_wl_gn, pz_wl_gi, pz_wl_gr, pz_wl_same, pz_wl_X, pz_wr_gc, pz_wr_ga, pz_wr_gn, pz_wr_gi, pz_wr_gl, pz_wr_same, pz_wr_X, c40, d41', hx', bI_f]
          (try simp (disch := omega) only [nI_clamp, pz_in_nI2, pz_in_nI2L, pv_gt, nI_add, nI_addL, nI_Ladd, pk_mul, nI_mulL, nI_Lmul, pk_sub, nI_subL, nI_Lsub, nI_inc, nI_clampL, Nat.add_sub_cancel, pz_wi_else, pz_wl_else, vu_eq, vu_ne, pz_wi_gc, pz_wi_ga, pz_wi_gn, pz_wi_gl, pz_wi_gr, pz_wi_same, pz_wi_X, pz_wl_gc, pz_wl_ga, pz_wl_gn, pz_wl_gi, pz_wl_gr, pz_wl_same, pz_wl_X, pz_wr_gc, pz_wr_ga, pz_wr_gn, pz_wr_gi, pz_wr_gl, pz_wr_same, pz_wr_X, c40, d41', hx', bI_f])
          refine po_brP (fun q24 => ?_) (fun q24 => ?_)
          · first
            | exact absurd q24 (by decide)
            | exact absurd trivial q24
            | exact q24.elim
            | (exfalso; (try simp (disch := omega) only [nI_ltI, nI_leI, nI_eq, nI_ltL, nI_leL, nI_eqL, nI_Llt, nI_Lle, nI_Leq, nI_eqm, nI_meq, nI_ltm, nI_lem, nI_mlt, nI_mle, lg0, lgl, lgg, lgle, lgge, Int32.not_lt, Int32.not_le, Int64.not_lt, Int64.not_le, not_false_eq_true, not_true_eq_false, Decidable.not_not, ge_iff_le, gt_iff_lt] at q24) <;> omega)
            | exact absurd q24 (by with_reducible assumption)
            | exact absurd (by with_reducible assumption) q24
            | exact absurd (Decidable.not_not.mp q24) (by with_reducible assumption)
            | exact absurd (by with_reducible assumption) (Int32.not_le.mpr q24)
            | exact absurd (by with_reducible assumption) (Int32.not_lt.mpr q24)
          · skip
            (try simp (disch := omega) only [nI_ltI, nI_leI, nI_eq, nI_ltL, nI_leL, nI_eqL, nI_Llt, nI_Lle, nI_Leq, nI_eqm, nI_meq, nI_ltm, nI_lem, nI_mlt, nI_mle, lg0, lgl, lgg, lgle, lgge, Int32.not_lt, Int32.not_le, Int64.not_lt, Int64.not_le, not_false_eq_true, not_true_eq_false, Decidable.not_not, ge_iff_le, gt_iff_lt] at q24)
            refine pw_blk (mi := mz_117) (b := bz_117_28) rfl rfl ?_
            simp only [bz_117_28, pz_cut_t, pz_cut_f, pz_cut_n, pv_gt, pv_ts, pv_tn, ev_ald0, ev_eld0, ev_gf1_2, ev_ild5, ea_iald, ev_ild2, ev_ic_ne, pz_wi_gc, pz_wi_ga, pz_wi_gn, pz_wi_gl, pz_wi_gr, pz_wi_same, pz_wi_X, pz_wl_gc, pz_wl_ga, pz_wl_gn, pz_wl_gi, pz_wl_gr, pz_wl_same, pz_wl_X, pz_wr_gc, pz_wr_ga, pz_wr_gn, pz_wr_gi, pz_wr_gl, pz_wr_same, pz_wr_X, so_39 hS, sr_39_2 hS, sa_41 hS, sn_41 hS, c40, d41', hx', bI_f, sa_40 hS, sn_40 hS, sa_43 hS, sn_43 hS]
            (try simp (disch := omega) only [nI_clamp, pz_in_nI2, pz_in_nI2L, pv_gt, nI_add, nI_addL, nI_Ladd, pk_mul, nI_mulL, nI_Lmul, pk_sub, nI_subL, nI_Lsub, nI_inc, nI_clampL, Nat.add_sub_cancel, pz_wi_else, pz_wl_else, vu_eq, vu_ne, pz_wi_gc, pz_wi_ga, pz_wi_gn, pz_wi_gl, pz_wi_gr, pz_wi_same, pz_wi_X, pz_wl_gc, pz_wl_ga, pz_wl_gn, pz_wl_gi, pz_wl_gr, pz_wl_same, pz_wl_X, pz_wr_gc, pz_wr_ga, pz_wr_gn, pz_wr_gi, pz_wr_gl, pz_wr_same, pz_wr_X, c40, d41', hx', bI_f])
            (try refine po_gI (by first | exact pz_in_nI (by omega) (by decide) | decide | assumption) ?_)
            refine po_brP (fun q28 => ?_) (fun q28 => ?_)
            · first
              | exact absurd q28 (by decide)
              | exact absurd trivial q28
              | exact q28.elim
              | (exfalso; (try simp (disch := omega) only [nI_ltI, nI_leI, nI_eq, nI_ltL, nI_leL, nI_eqL, nI_Llt, nI_Lle, nI_Leq, nI_eqm, nI_meq, nI_ltm, nI_lem, nI_mlt, nI_mle, lg0, lgl, lgg, lgle, lgge, Int32.not_lt, Int32.not_le, Int64.not_lt, Int64.not_le, not_false_eq_true, not_true_eq_false, Decidable.not_not, ge_iff_le, gt_iff_lt] at q28) <;> omega)
              | exact absurd q28 (by with_reducible assumption)
              | exact absurd (by with_reducible assumption) q28
              | exact absurd (Decidable.not_not.mp q28) (by with_reducible assumption)
              | exact absurd (by with_reducible assumption) (Int32.not_le.mpr q28)
              | exact absurd (by with_reducible assumption) (Int32.not_lt.mpr q28)
              | skip
                (try simp (disch := omega) only [nI_ltI, nI_leI, nI_eq, nI_ltL, nI_leL, nI_eqL, nI_Llt, nI_Lle, nI_Leq, nI_eqm, nI_meq, nI_ltm, nI_lem, nI_mlt, nI_mle, lg0, lgl, lgg, lgle, lgge, Int32.not_lt, Int32.not_le, Int64.not_lt, Int64.not_le, not_false_eq_true, not_true_eq_false, Decidable.not_not, ge_iff_le, gt_iff_lt] at q28)
                refine pw_blk (mi := mz_117) (b := bz_117_47) rfl rfl ?_
                simp only [bz_117_47, pz_cut_t, pz_cut_f, pz_cut_n, pv_gt, pv_ts, pv_tn, ev_inc5n, ev_inc5i, ev_inc5r, ev_inc5e, ev_goto, pz_wi_gc, pz_wi_ga, pz_wi_gn, pz_wi_gl, pz_wi_gr, pz_wi_same, pz_wi_X, pz_wl_gc, pz_wl_ga, pz_wl_gn, pz_wl_gi, pz_wl_gr, pz_wl_same, pz_wl_X, pz_wr_gc, pz_wr_ga, pz_wr_gn, pz_wr_gi, pz_wr_gl, pz_wr_same, pz_wr_X, c40, d41', hx', bI_f]
                (try simp (disch := omega) only [nI_clamp, pz_in_nI2, pz_in_nI2L, pv_gt, nI_add, nI_addL, nI_Ladd, pk_mul, nI_mulL, nI_Lmul, pk_sub, nI_subL, nI_Lsub, nI_inc, nI_clampL, Nat.add_sub_cancel, pz_wi_else, pz_wl_else, vu_eq, vu_ne, pz_wi_gc, pz_wi_ga, pz_wi_gn, pz_wi_gl, pz_wi_gr, pz_wi_same, pz_wi_X, pz_wl_gc, pz_wl_ga, pz_wl_gn, pz_wl_gi, pz_wl_gr, pz_wl_same, pz_wl_X, pz_wr_gc, pz_wr_ga, pz_wr_gn, pz_wr_gi, pz_wr_gl, pz_wr_same, pz_wr_X, c40, d41', hx', bI_f])
                refine po_go ?_
                exact ih (q + 1) (by omega) (by omega) (fun q' hq' => by by_cases e : q' = q; (rw [e]; omega); exact hno q' (by omega))
            · first
              | exact absurd q28 (by decide)
              | exact absurd trivial q28
              | exact q28.elim
              | (exfalso; (try simp (disch := omega) only [nI_ltI, nI_leI, nI_eq, nI_ltL, nI_leL, nI_eqL, nI_Llt, nI_Lle, nI_Leq, nI_eqm, nI_meq, nI_ltm, nI_lem, nI_mlt, nI_mle, lg0, lgl, lgg, lgle, lgge, Int32.not_lt, Int32.not_le, Int64.not_lt, Int64.not_le, not_false_eq_true, not_true_eq_false, Decidable.not_not, ge_iff_le, gt_iff_lt] at q28) <;> omega)
              | exact absurd q28 (by with_reducible assumption)
              | exact absurd (by with_reducible assumption) q28
              | exact absurd (Decidable.not_not.mp q28) (by with_reducible assumption)
              | exact absurd (by with_reducible assumption) (Int32.not_le.mpr q28)
              | exact absurd (by with_reducible assumption) (Int32.not_lt.mpr q28)
              | skip
                (try simp (disch := omega) only [nI_ltI, nI_leI, nI_eq, nI_ltL, nI_leL, nI_eqL, nI_Llt, nI_Lle, nI_Leq, nI_eqm, nI_meq, nI_ltm, nI_lem, nI_mlt, nI_mle, lg0, lgl, lgg, lgle, lgge, Int32.not_lt, Int32.not_le, Int64.not_lt, Int64.not_le, not_false_eq_true, not_true_eq_false, Decidable.not_not, ge_iff_le, gt_iff_lt] at q28)
                rw [q28] at v1 v3; rw [if_pos v1, v3] at k
                refine pw_blk (mi := mz_117) (b := bz_117_39) rfl rfl ?_
                simp only [bz_117_39, pz_cut_t, pz_cut_f, pz_cut_n, pv_gt, pv_ts, pv_tn, ev_ald0, ev_eld0, ev_gf1_2, ev_ild5, ea_iald, ev_iret0, pz_wi_gc, pz_wi_ga, pz_wi_gn, pz_wi_gl, pz_wi_gr, pz_wi_same, pz_wi_X, pz_wl_gc, pz_wl_ga, pz_wl_gn, pz_wl_gi, pz_wl_gr, pz_wl_same, pz_wl_X, pz_wr_gc, pz_wr_ga, pz_wr_gn, pz_wr_gi, pz_wr_gl, pz_wr_same, pz_wr_X, so_39 hS, sr_39_4 hS, sa_43 hS, sn_43 hS, c40, d41', hx', bI_f, sa_40 hS, sn_40 hS, sa_41 hS, sn_41 hS]
                (try simp (disch := omega) only [nI_clamp, pz_in_nI2, pz_in_nI2L, pv_gt, nI_add, nI_addL, nI_Ladd, pk_mul, nI_mulL, nI_Lmul, pk_sub, nI_subL, nI_Lsub, nI_inc, nI_clampL, Nat.add_sub_cancel, pz_wi_else, pz_wl_else, vu_eq, vu_ne, pz_wi_gc, pz_wi_ga, pz_wi_gn, pz_wi_gl, pz_wi_gr, pz_wi_same, pz_wi_X, pz_wl_gc, pz_wl_ga, pz_wl_gn, pz_wl_gi, pz_wl_gr, pz_wl_same, pz_wl_X, pz_wr_gc, pz_wr_ga, pz_wr_gn, pz_wr_gi, pz_wr_gl, pz_wr_same, pz_wr_X, c40, d41', hx', bI_f])
                (try refine po_gI (by first | exact pz_in_nI (by omega) (by decide) | decide | assumption) ?_)
                exact po_ret k
    refine pm_ent (L := [some (.ref 39), some (.int (nI i)), some (.int (nI j)), some (.int (bI false)), none, none]) rfl (Nat.le_of_ble_eq_true rfl) ?_
    refine pw_blk (mi := mz_117) (b := bz_117_0) rfl rfl ?_
    simp only [bz_117_0, pz_cut_t, pz_cut_f, pz_cut_n, pv_gt, pv_ts, pv_tn, ev_ild1, ev_bp24, ev_imul, ev_ist4n, ev_ist4i, ev_ist4r, ev_ist4e, ev_ist4l, ev_ild4, ev_ist5n, ev_ist5i, ev_ist5r, ev_ist5e, ev_ist5l, ev_nil, pz_wi_gc, pz_wi_ga, pz_wi_gn, pz_wi_gl, pz_wi_gr, pz_wi_same, pz_wi_X, pz_wl_gc, pz_wl_ga, pz_wl_gn, pz_wl_gi, pz_wl_gr, pz_wl_same, pz_wl_X, pz_wr_gc, pz_wr_ga, pz_wr_gn, pz_wr_gi, pz_wr_gl, pz_wr_same, pz_wr_X, bI_f]
    (try simp (disch := omega) only [nI_clamp, pz_in_nI2, pz_in_nI2L, pv_gt, nI_add, nI_addL, nI_Ladd, pk_mul, nI_mulL, nI_Lmul, pk_sub, nI_subL, nI_Lsub, nI_inc, nI_clampL, Nat.add_sub_cancel, pz_wi_else, pz_wl_else, vu_eq, vu_ne, pz_wi_gc, pz_wi_ga, pz_wi_gn, pz_wi_gl, pz_wi_gr, pz_wi_same, pz_wi_X, pz_wl_gc, pz_wl_ga, pz_wl_gn, pz_wl_gi, pz_wl_gr, pz_wl_same, pz_wl_X, pz_wr_gc, pz_wr_ga, pz_wr_gn, pz_wr_gi, pz_wr_gl, pz_wr_same, pz_wr_X, bI_f])
    refine po_go ?_
    exact key 0 (by omega) (fun q' hq' => absurd hq' (by omega))
theorem r_layBehind (hd : 3 ≤ d) {al : Nat → Nat → Nat} {cr wk B i r : Nat} {h : Nat → Int32} {mk : Bool} (hS : SH M) (hO : okB M) (hbank : gi M 120 38 = nI r) (hr : r ≤ 1) (b2 : nb M = nI B) (hB : B ≤ 24) (hi : i < B) (hal : ∀ i j, i < B → j < B → alk (rlk M) i j 9 0 = al i j) (hal9 : ∀ i j, al i j ≤ 9) (hh : gi M 149 = h) (hhr : ∀ i, r1k (h i)) (hcr : gi M 129 r = nI cr) (hwk : gi M 130 r = nI wk) (hcr1 : cr ≤ 100) (hwk1 : wk ≤ 1000) (hm : gi M 154 i = bI mk) (k : ∀ M', sm [120, 155] M M' → gi M' 120 = va_up (va_up (gi M 120) 49 (stp wk (h i))) 50 (onN al cr wk B i h mk) → (∀ j, j < B → gi M' 155 j = crs al cr wk B i h mk j) → Q (none, M')) : pm d 118 [.ref 120, .int (nI i)] M Q := by
  obtain ⟨a, ha, ea, eb⟩ := stp_nI hwk1 (hhr i)
  have hrs := rsq_nI (f := shr al cr B i h) (s := 1000 - a) (by omega) (shr_nI hal9 hcr1 hhr)
  rw [← eb] at hrs
  let lf : Nat → Int32 := fun j => if mk = true then 1000 - stp wk (h i) else rsq (shr al cr B i h) (1000 - stp wk (h i)) (cnt (pj al i) j)
  have key : ∀ j, j ≤ B → ∀ M', sm [120, 155] M M' → gi M' 120 = va_up (gi M 120) 49 (stp wk (h i)) → (∀ j', j' < j → gi M' 155 j' = crs al cr wk B i h mk j') → pw d 118 (39, [some (.ref 120), some (.int (nI i)), some (.int (lf j)), some (.int (nI j)), none], [], M') Q := by
    refine upto (fun j hj ih => ?_)
    intro M' s e120 e155
    have hS' := hS.sm s
    have f38 : gi M' 120 38 = nI r := by rw [e120, vu_ne (by decide)]; exact hbank
    have ebk : bk M' = bk M := by
      unfold bk bank
      rw [e120, vu_ne (by decide)]
    have hO' : okB M' := by
      unfold okB bank
      rw [e120, vu_ne (by decide)]
      exact hO
    have b2' : nb M' = nI B := by
      unfold nb
      rw [ebk, s.i (k := 123) (by decide)]
      exact b2
    have hal' : alk (rlk M') i j 9 0 = alk (rlk M) i j 9 0 := by
      have : rlk M' = rlk M := by
        funext b
        unfold rlk
        rw [ebk, s.l (k := 136) (by decide)]
      rw [this]
    have f149 : gi M' 149 = h := by rw [s.i (k := 149) (by decide)]; exact hh
    have f154 : gi M' 154 i = bI mk := by rw [s.i (k := 154) (by decide)]; exact hm
    have f129 : gi M' 129 r = nI cr := by rw [s.i (k := 129) (by decide)]; exact hcr
    by_cases hjB : j = B
    · subst hjB
      refine pw_blk (mi := mz_118) (b := bz_118_39) rfl rfl ?_
      simp only [bz_118_39, pz_cut_t, pz_cut_f, pz_cut_n, pv_gt, pv_ts, pv_tn, ev_ild3, ev_ald0, ev_eld0, ev_cv0_11, pz_wi_gc, pz_wi_ga, pz_wi_gn, pz_wi_gl, pz_wi_gr, pz_wi_same, pz_wi_X, pz_wl_gc, pz_wl_ga, pz_wl_gn, pz_wl_gi, pz_wl_gr, pz_wl_same, pz_wl_X, pz_wr_gc, pz_wr_ga, pz_wr_gn, pz_wr_gi, pz_wr_gl, pz_wr_same, pz_wr_X, so_120 hS', b2']
      (try simp (disch := omega) only [nI_clamp, pz_in_nI2, pz_in_nI2L, pv_gt, nI_add, nI_addL, nI_Ladd, pk_mul, nI_mulL, nI_Lmul, pk_sub, nI_subL, nI_Lsub, nI_inc, nI_clampL, Nat.add_sub_cancel, pz_wi_else, pz_wl_else, vu_eq, vu_ne, pz_wi_gc, pz_wi_ga, pz_wi_gn, pz_wi_gl, pz_wi_gr, pz_wi_same, pz_wi_X, pz_wl_gc, pz_wl_ga, pz_wl_gn, pz_wl_gi, pz_wl_gr, pz_wl_same, pz_wl_X, pz_wr_gc, pz_wr_ga, pz_wr_gn, pz_wr_gi, pz_wr_gl, pz_wr_same, pz_wr_X, b2'])
      (try refine po_gP (Nat.le_of_ble_eq_true rfl) ?_)
      refine po_call (by omega) (r_many hS' hO' ?_)
      refine pw_blk (mi := mz_118) (b := bz_118_44) rfl rfl ?_
      simp only [bz_118_44, pz_cut_t, pz_cut_f, pz_cut_n, pv_gt, pv_ts, pv_tn, ev_ic_ge, pz_wi_gc, pz_wi_ga, pz_wi_gn, pz_wi_gl, pz_wi_gr, pz_wi_same, pz_wi_X, pz_wl_gc, pz_wl_ga, pz_wl_gn, pz_wl_gi, pz_wl_gr, pz_wl_same, pz_wl_X, pz_wr_gc, pz_wr_ga, pz_wr_gn, pz_wr_gi, pz_wr_gl, pz_wr_same, pz_wr_X, b2']
      (try simp (disch := omega) only [nI_clamp, pz_in_nI2, pz_in_nI2L, pv_gt, nI_add, nI_addL, nI_Ladd, pk_mul, nI_mulL, nI_Lmul, pk_sub, nI_subL, nI_Lsub, nI_inc, nI_clampL, Nat.add_sub_cancel, pz_wi_else, pz_wl_else, vu_eq, vu_ne, pz_wi_gc, pz_wi_ga, pz_wi_gn, pz_wi_gl, pz_wi_gr, pz_wi_same, pz_wi_X, pz_wl_gc, pz_wl_ga, pz_wl_gn, pz_wl_gi, pz_wl_gr, pz_wl_same, pz_wl_X, pz_wr_gc, pz_wr_ga, pz_wr_gn, pz_wr_gi, pz_wr_gl, pz_wr_same, pz_wr_X, b2'])
      refine po_brP (fun q44 => ?_) (fun q44 => ?_)
      · skip
        (try simp (disch := omega) only [nI_ltI, nI_leI, nI_eq, nI_ltL, nI_leL, nI_eqL, nI_Llt, nI_Lle, nI_Leq, nI_eqm, nI_meq, nI_ltm, nI_lem, nI_mlt, nI_mle, lg0, lgl, lgg, lgle, lgge, Int32.not_lt, Int32.not_le, Int64.not_lt, Int64.not_le, not_false_eq_true, not_true_eq_false, Decidable.not_not, ge_iff_le, gt_iff_lt] at q44)
        refine pw_blk (mi := mz_118) (b := bz_118_133) rfl rfl ?_
        simp only [bz_118_133, pz_cut_t, pz_cut_f, pz_cut_n, pv_gt, pv_ts, pv_tn, ev_ald0, ev_eld0, ev_ild2, ev_pf11_0, ev_ret, pz_wi_gc, pz_wi_ga, pz_wi_gn, pz_wi_gl, pz_wi_gr, pz_wi_same, pz_wi_X, pz_wl_gc, pz_wl_ga, pz_wl_gn, pz_wl_gi, pz_wl_gr, pz_wl_same, pz_wl_X, pz_wr_gc, pz_wr_ga, pz_wr_gn, pz_wr_gi, pz_wr_gl, pz_wr_same, pz_wr_X, so_120 hS', b2']
        (try simp (disch := omega) only [nI_clamp, pz_in_nI2, pz_in_nI2L, pv_gt, nI_add, nI_addL, nI_Ladd, pk_mul, nI_mulL, nI_Lmul, pk_sub, nI_subL, nI_Lsub, nI_inc, nI_clampL, Nat.add_sub_cancel, pz_wi_else, pz_wl_else, vu_eq, vu_ne, pz_wi_gc, pz_wi_ga, pz_wi_gn, pz_wi_gl, pz_wi_gr, pz_wi_same, pz_wi_X, pz_wl_gc, pz_wl_ga, pz_wl_gn, pz_wl_gi, pz_wl_gr, pz_wl_same, pz_wl_X, pz_wr_gc, pz_wr_ga, pz_wr_gn, pz_wr_gi, pz_wr_gl, pz_wr_same, pz_wr_X, b2'])
        refine po_ret (k _ (s.wi (by simp)) ?_ ?_)
        · rw [pz_wi_same, e120]
          rfl
        · intro j' hj'
          rw [pz_wi_else (by decide)]
          exact e155 j' hj'
      · first
        | exact absurd q44 (by decide)
        | exact absurd trivial q44
        | exact q44.elim
        | (exfalso; (try simp (disch := omega) only [nI_ltI, nI_leI, nI_eq, nI_ltL, nI_leL, nI_eqL, nI_Llt, nI_Lle, nI_Leq, nI_eqm, nI_meq, nI_ltm, nI_lem, nI_mlt, nI_mle, lg0, lgl, lgg, lgle, lgge, Int32.not_lt, Int32.not_le, Int64.not_lt, Int64.not_le, not_false_eq_true, not_true_eq_false, Decidable.not_not, ge_iff_le, gt_iff_lt] at q44) <;> omega)
        | exact absurd q44 (by with_reducible assumption)
        | exact absurd (by with_reducible assumption) q44
        | exact absurd (Decidable.not_not.mp q44) (by with_reducible assumption)
        | exact absurd (by with_reducible assumption) (Int32.not_le.mpr q44)
        | exact absurd (by with_reducible assumption) (Int32.not_lt.mpr q44)
    · have hmore : ∀ M2, sm [120, 155] M M2 → gi M2 120 = va_up (gi M 120) 49 (stp wk (h i)) → gi M2 155 = va_up (gi M' 155) j (crs al cr wk B i h mk j) → pw d 118 (39, [some (.ref 120), some (.int (nI i)), some (.int (lf (j + 1))), some (.int (nI (j + 1))), none], [], M2) Q := by
        intro M2 s2 g1 g2
        refine ih (j + 1) (by omega) (by omega) M2 s2 g1 (fun j' hj' => ?_)
        rw [g2]
        by_cases e : j' = j
        · subst e
          rw [vu_eq]
        · rw [vu_ne e]
          exact e155 j' (by omega)
      cases mk with
      | true =>
        have hc0 : crs al cr wk B i h true j = 0 := by rw [crs, if_pos rfl]
        have hlf : lf (j + 1) = lf j := rfl
        rw [hc0, hlf] at hmore
        refine pw_blk (mi := mz_118) (b := bz_118_39) rfl rfl ?_
        simp only [bz_118_39, pz_cut_t, pz_cut_f, pz_cut_n, pv_gt, pv_ts, pv_tn, ev_ild3, ev_ald0, ev_eld0, ev_cv0_11, pz_wi_gc, pz_wi_ga, pz_wi_gn, pz_wi_gl, pz_wi_gr, pz_wi_same, pz_wi_X, pz_wl_gc, pz_wl_ga, pz_wl_gn, pz_wl_gi, pz_wl_gr, pz_wl_same, pz_wl_X, pz_wr_gc, pz_wr_ga, pz_wr_gn, pz_wr_gi, pz_wr_gl, pz_wr_same, pz_wr_X, so_120 hS', b2', f154, bI_t]
        (try simp (disch := omega) only [nI_clamp, pz_in_nI2, pz_in_nI2L, pv_gt, nI_add, nI_addL, nI_Ladd, pk_mul, nI_mulL, nI_Lmul, pk_sub, nI_subL, nI_Lsub, nI_inc, nI_clampL, Nat.add_sub_cancel, pz_wi_else, pz_wl_else, vu_eq, vu_ne, pz_wi_gc, pz_wi_ga, pz_wi_gn, pz_wi_gl, pz_wi_gr, pz_wi_same, pz_wi_X, pz_wl_gc, pz_wl_ga, pz_wl_gn, pz_wl_gi, pz_wl_gr, pz_wl_same, pz_wl_X, pz_wr_gc, pz_wr_ga, pz_wr_gn, pz_wr_gi, pz_wr_gl, pz_wr_same, pz_wr_X, b2', f154, bI_t])
        (try refine po_gP (Nat.le_of_ble_eq_true rfl) ?_)
        refine po_call (by omega) (r_many hS' hO' ?_)
        refine pw_blk (mi := mz_118) (b := bz_118_44) rfl rfl ?_
        simp only [bz_118_44, pz_cut_t, pz_cut_f, pz_cut_n, pv_gt, pv_ts, pv_tn, ev_ic_ge, pz_wi_gc, pz_wi_ga, pz_wi_gn, pz_wi_gl, pz_wi_gr, pz_wi_same, pz_wi_X, pz_wl_gc, pz_wl_ga, pz_wl_gn, pz_wl_gi, pz_wl_gr, pz_wl_same, pz_wl_X, pz_wr_gc, pz_wr_ga, pz_wr_gn, pz_wr_gi, pz_wr_gl, pz_wr_same, pz_wr_X, b2', f154, bI_t]
        (try simp (disch := omega) only [nI_clamp, pz_in_nI2, pz_in_nI2L, pv_gt, nI_add, nI_addL, nI_Ladd, pk_mul, nI_mulL, nI_Lmul, pk_sub, nI_subL, nI_Lsub, nI_inc, nI_clampL, Nat.add_sub_cancel, pz_wi_else, pz_wl_else, vu_eq, vu_ne, pz_wi_gc, pz_wi_ga, pz_wi_gn, pz_wi_gl, pz_wi_gr, pz_wi_same, pz_wi_X, pz_wl_gc, pz_wl_ga, pz_wl_gn, pz_wl_gi, pz_wl_gr, pz_wl_same, pz_wl_X, pz_wr_gc, pz_wr_ga, pz_wr_gn, pz_wr_gi, pz_wr_gl, pz_wr_same, pz_wr_X, b2', f154, bI_t])
        refine po_brP (fun q44 => ?_) (fun q44 => ?_)
        · first
          | exact absurd q44 (by decide)
          | exact absurd trivial q44
          | exact q44.elim
          | (exfalso; (try simp (disch := omega) only [nI_ltI, nI_leI, nI_eq, nI_ltL, nI_leL, nI_eqL, nI_Llt, nI_Lle, nI_Leq, nI_eqm, nI_meq, nI_ltm, nI_lem, nI_mlt, nI_mle, lg0, lgl, lgg, lgle, lgge, Int32.not_lt, Int32.not_le, Int64.not_lt, Int64.not_le, not_false_eq_true, not_true_eq_false, Decidable.not_not, ge_iff_le, gt_iff_lt] at q44) <;> omega)
          | exact absurd q44 (by with_reducible assumption)
          | exact absurd (by with_reducible assumption) q44
          | exact absurd (Decidable.not_not.mp q44) (by with_reducible assumption)
          | exact absurd (by with_reducible assumption) (Int32.not_le.mpr q44)
          | exact absurd (by with_reducible assumption) (Int32.not_lt.mpr q44)
        · skip
          (try simp (disch := omega) only [nI_ltI, nI_leI, nI_eq, nI_ltL, nI_leL, nI_eqL, nI_Llt, nI_Lle, nI_Leq, nI_eqm, nI_meq, nI_ltm, nI_lem, nI_mlt, nI_mle, lg0, lgl, lgg, lgle, lgge, Int32.not_lt, Int32.not_le, Int64.not_lt, Int64.not_le, not_false_eq_true, not_true_eq_false, Decidable.not_not, ge_iff_le, gt_iff_lt] at q44)
          refine pw_blk (mi := mz_118) (b := bz_118_47) rfl rfl ?_
          simp only [bz_118_47, pz_cut_t, pz_cut_f, pz_cut_n, pv_gt, pv_ts, pv_tn, ev_ald0, ev_eld0, ev_gf11_2, ev_ild3, ev_ic0, ea_iast, ev_ild1, ev_ic_eq, pz_wi_gc, pz_wi_ga, pz_wi_gn, pz_wi_gl, pz_wi_gr, pz_wi_same, pz_wi_X, pz_wl_gc, pz_wl_ga, pz_wl_gn, pz_wl_gi, pz_wl_gr, pz_wl_same, pz_wl_X, pz_wr_gc, pz_wr_ga, pz_wr_gn, pz_wr_gi, pz_wr_gl, pz_wr_same, pz_wr_X, so_120 hS', sr_120_48 hS', sa_155 hS', sn_155 hS', b2', f154, bI_t, sa_149 hS', sn_149 hS', sa_130 hS', sn_130 hS', sa_154 hS', sn_154 hS', sa_129 hS', sn_129 hS']
          (try simp (disch := omega) only [nI_clamp, pz_in_nI2, pz_in_nI2L, pv_gt, nI_add, nI_addL, nI_Ladd, pk_mul, nI_mulL, nI_Lmul, pk_sub, nI_subL, nI_Lsub, nI_inc, nI_clampL, Nat.add_sub_cancel, pz_wi_else, pz_wl_else, vu_eq, vu_ne, pz_wi_gc, pz_wi_ga, pz_wi_gn, pz_wi_gl, pz_wi_gr, pz_wi_same, pz_wi_X, pz_wl_gc, pz_wl_ga, pz_wl_gn, pz_wl_gi, pz_wl_gr, pz_wl_same, pz_wl_X, pz_wr_gc, pz_wr_ga, pz_wr_gn, pz_wr_gi, pz_wr_gl, pz_wr_same, pz_wr_X, b2', f154, bI_t])
          (try refine po_gI (by first | exact pz_in_nI (by omega) (by decide) | decide | assumption) ?_)
          refine po_brP (fun q47 => ?_) (fun q47 => ?_)
          · first
            | exact absurd q47 (by decide)
            | exact absurd trivial q47
            | exact q47.elim
            | (exfalso; (try simp (disch := omega) only [nI_ltI, nI_leI, nI_eq, nI_ltL, nI_leL, nI_eqL, nI_Llt, nI_Lle, nI_Leq, nI_eqm, nI_meq, nI_ltm, nI_lem, nI_mlt, nI_mle, lg0, lgl, lgg, lgle, lgge, Int32.not_lt, Int32.not_le, Int64.not_lt, Int64.not_le, not_false_eq_true, not_true_eq_false, Decidable.not_not, ge_iff_le, gt_iff_lt] at q47) <;> omega)
            | exact absurd q47 (by with_reducible assumption)
            | exact absurd (by with_reducible assumption) q47
            | exact absurd (Decidable.not_not.mp q47) (by with_reducible assumption)
            | exact absurd (by with_reducible assumption) (Int32.not_le.mpr q47)
            | exact absurd (by with_reducible assumption) (Int32.not_lt.mpr q47)
            | skip
              (try simp (disch := omega) only [nI_ltI, nI_leI, nI_eq, nI_ltL, nI_leL, nI_eqL, nI_Llt, nI_Lle, nI_Leq, nI_eqm, nI_meq, nI_ltm, nI_lem, nI_mlt, nI_mle, lg0, lgl, lgg, lgle, lgge, Int32.not_lt, Int32.not_le, Int64.not_lt, Int64.not_le, not_false_eq_true, not_true_eq_false, Decidable.not_not, ge_iff_le, gt_iff_lt] at q47)
              refine pw_blk (mi := mz_118) (b := bz_118_127) rfl rfl ?_
              simp only [bz_118_127, pz_cut_t, pz_cut_f, pz_cut_n, pv_gt, pv_ts, pv_tn, ev_inc3n, ev_inc3i, ev_inc3r, ev_inc3e, ev_goto, pz_wi_gc, pz_wi_ga, pz_wi_gn, pz_wi_gl, pz_wi_gr, pz_wi_same, pz_wi_X, pz_wl_gc, pz_wl_ga, pz_wl_gn, pz_wl_gi, pz_wl_gr, pz_wl_same, pz_wl_X, pz_wr_gc, pz_wr_ga, pz_wr_gn, pz_wr_gi, pz_wr_gl, pz_wr_same, pz_wr_X, b2', f154, bI_t]
              (try simp (disch := omega) only [nI_clamp, pz_in_nI2, pz_in_nI2L, pv_gt, nI_add, nI_addL, nI_Ladd, pk_mul, nI_mulL, nI_Lmul, pk_sub, nI_subL, nI_Lsub, nI_inc, nI_clampL, Nat.add_sub_cancel, pz_wi_else, pz_wl_else, vu_eq, vu_ne, pz_wi_gc, pz_wi_ga, pz_wi_gn, pz_wi_gl, pz_wi_gr, pz_wi_same, pz_wi_X, pz_wl_gc, pz_wl_ga, pz_wl_gn, pz_wl_gi, pz_wl_gr, pz_wl_same, pz_wl_X, pz_wr_gc, pz_wr_ga, pz_wr_gn, pz_wr_gi, pz_wr_gl, pz_wr_same, pz_wr_X, b2', f154, bI_t])
              refine po_go ?_
              exact hmore _ (s.wi (by simp)) (by rw [pz_wi_else (by decide)]; exact e120) (by rw [pz_wi_same])
          · first
            | exact absurd q47 (by decide)
            | exact absurd trivial q47
            | exact q47.elim
            | (exfalso; (try simp (disch := omega) only [nI_ltI, nI_leI, nI_eq, nI_ltL, nI_leL, nI_eqL, nI_Llt, nI_Lle, nI_Leq, nI_eqm, nI_meq, nI_ltm, nI_lem, nI_mlt, nI_mle, lg0, lgl, lgg, lgle, lgge, Int32.not_lt, Int32.not_le, Int64.not_lt, Int64.not_le, not_false_eq_true, not_true_eq_false, Decidable.not_not, ge_iff_le, gt_iff_lt] at q47) <;> omega)
            | exact absurd q47 (by with_reducible assumption)
            | exact absurd (by with_reducible assumption) q47
            | exact absurd (Decidable.not_not.mp q47) (by with_reducible assumption)
            | exact absurd (by with_reducible assumption) (Int32.not_le.mpr q47)
            | exact absurd (by with_reducible assumption) (Int32.not_lt.mpr q47)
            | skip
              (try simp (disch := omega) only [nI_ltI, nI_leI, nI_eq, nI_ltL, nI_leL, nI_eqL, nI_Llt, nI_Lle, nI_Leq, nI_eqm, nI_meq, nI_ltm, nI_lem, nI_mlt, nI_mle, lg0, lgl, lgg, lgle, lgge, Int32.not_lt, Int32.not_le, Int64.not_lt, Int64.not_le, not_false_eq_true, not_true_eq_false, Decidable.not_not, ge_iff_le, gt_iff_lt] at q47)
              refine pw_blk (mi := mz_118) (b := bz_118_59) rfl rfl ?_
              simp only [bz_118_59, pz_cut_t, pz_cut_f, pz_cut_n, pv_gt, pv_ts, pv_tn, ev_ald0, ev_eld0, ev_gf11_2, ev_ild1, ea_bald, ea_zald, ev_ifeq, pz_wi_gc, pz_wi_ga, pz_wi_gn, pz_wi_gl, pz_wi_gr, pz_wi_same, pz_wi_X, pz_wl_gc, pz_wl_ga, pz_wl_gn, pz_wl_gi, pz_wl_gr, pz_wl_same, pz_wl_X, pz_wr_gc, pz_wr_ga, pz_wr_gn, pz_wr_gi, pz_wr_gl, pz_wr_same, pz_wr_X, so_120 hS', sr_120_45 hS', sa_154 hS', sn_154 hS', b2', f154, bI_t, pz_wi_else (show (154 : Nat) ≠ 155 by decide), sa_149 hS', sn_149 hS', sa_130 hS', sn_130 hS', sa_155 hS', sn_155 hS', sa_129 hS', sn_129 hS']
              (try simp (disch := omega) only [nI_clamp, pz_in_nI2, pz_in_nI2L, pv_gt, nI_add, nI_addL, nI_Ladd, pk_mul, nI_mulL, nI_Lmul, pk_sub, nI_subL, nI_Lsub, nI_inc, nI_clampL, Nat.add_sub_cancel, pz_wi_else, pz_wl_else, vu_eq, vu_ne, pz_wi_gc, pz_wi_ga, pz_wi_gn, pz_wi_gl, pz_wi_gr, pz_wi_same, pz_wi_X, pz_wl_gc, pz_wl_ga, pz_wl_gn, pz_wl_gi, pz_wl_gr, pz_wl_same, pz_wl_X, pz_wr_gc, pz_wr_ga, pz_wr_gn, pz_wr_gi, pz_wr_gl, pz_wr_same, pz_wr_X, b2', f154, bI_t, pz_wi_else (show (154 : Nat) ≠ 155 by decide)])
              (try refine po_gI (by first | exact pz_in_nI (by omega) (by decide) | decide | assumption) ?_)
              refine po_brP (fun q59 => ?_) (fun q59 => ?_)
              · first
                | exact absurd q59 (by decide)
                | exact absurd trivial q59
                | exact q59.elim
                | (exfalso; (try simp (disch := omega) only [nI_ltI, nI_leI, nI_eq, nI_ltL, nI_leL, nI_eqL, nI_Llt, nI_Lle, nI_Leq, nI_eqm, nI_meq, nI_ltm, nI_lem, nI_mlt, nI_mle, lg0, lgl, lgg, lgle, lgge, Int32.not_lt, Int32.not_le, Int64.not_lt, Int64.not_le, not_false_eq_true, not_true_eq_false, Decidable.not_not, ge_iff_le, gt_iff_lt] at q59) <;> omega)
                | exact absurd q59 (by with_reducible assumption)
                | exact absurd (by with_reducible assumption) q59
                | exact absurd (Decidable.not_not.mp q59) (by with_reducible assumption)
                | exact absurd (by with_reducible assumption) (Int32.not_le.mpr q59)
                | exact absurd (by with_reducible assumption) (Int32.not_lt.mpr q59)
              · skip
                (try simp (disch := omega) only [nI_ltI, nI_leI, nI_eq, nI_ltL, nI_leL, nI_eqL, nI_Llt, nI_Lle, nI_Leq, nI_eqm, nI_meq, nI_ltm, nI_lem, nI_mlt, nI_mle, lg0, lgl, lgg, lgle, lgge, Int32.not_lt, Int32.not_le, Int64.not_lt, Int64.not_le, not_false_eq_true, not_true_eq_false, Decidable.not_not, ge_iff_le, gt_iff_lt] at q59)
                refine pw_blk (mi := mz_118) (b := bz_118_68) rfl rfl ?_
                simp only [bz_118_68, pz_cut_t, pz_cut_f, pz_cut_n, pv_gt, pv_ts, pv_tn, ev_goto, pz_wi_gc, pz_wi_ga, pz_wi_gn, pz_wi_gl, pz_wi_gr, pz_wi_same, pz_wi_X, pz_wl_gc, pz_wl_ga, pz_wl_gn, pz_wl_gi, pz_wl_gr, pz_wl_same, pz_wl_X, pz_wr_gc, pz_wr_ga, pz_wr_gn, pz_wr_gi, pz_wr_gl, pz_wr_same, pz_wr_X, b2', f154, bI_t]
                (try simp (disch := omega) only [nI_clamp, pz_in_nI2, pz_in_nI2L, pv_gt, nI_add, nI_addL, nI_Ladd, pk_mul, nI_mulL, nI_Lmul, pk_sub, nI_subL, nI_Lsub, nI_inc, nI_clampL, Nat.add_sub_cancel, pz_wi_else, pz_wl_else, vu_eq, vu_ne, pz_wi_gc, pz_wi_ga, pz_wi_gn, pz_wi_gl, pz_wi_gr, pz_wi_same, pz_wi_X, pz_wl_gc, pz_wl_ga, pz_wl_gn, pz_wl_gi, pz_wl_gr, pz_wl_same, pz_wl_X, pz_wr_gc, pz_wr_ga, pz_wr_gn, pz_wr_gi, pz_wr_gl, pz_wr_same, pz_wr_X, b2', f154, bI_t])
                refine po_go ?_
                refine pw_blk (mi := mz_118) (b := bz_118_127) rfl rfl ?_
                simp only [bz_118_127, pz_cut_t, pz_cut_f, pz_cut_n, pv_gt, pv_ts, pv_tn, ev_inc3n, ev_inc3i, ev_inc3r, ev_inc3e, ev_goto, pz_wi_gc, pz_wi_ga, pz_wi_gn, pz_wi_gl, pz_wi_gr, pz_wi_same, pz_wi_X, pz_wl_gc, pz_wl_ga, pz_wl_gn, pz_wl_gi, pz_wl_gr, pz_wl_same, pz_wl_X, pz_wr_gc, pz_wr_ga, pz_wr_gn, pz_wr_gi, pz_wr_gl, pz_wr_same, pz_wr_X, b2', f154, bI_t]
                (try simp (disch := omega) only [nI_clamp, pz_in_nI2, pz_in_nI2L, pv_gt, nI_add, nI_addL, nI_Ladd, pk_mul, nI_mulL, nI_Lmul, pk_sub, nI_subL, nI_Lsub, nI_inc, nI_clampL, Nat.add_sub_cancel, pz_wi_else, pz_wl_else, vu_eq, vu_ne, pz_wi_gc, pz_wi_ga, pz_wi_gn, pz_wi_gl, pz_wi_gr, pz_wi_same, pz_wi_X, pz_wl_gc, pz_wl_ga, pz_wl_gn, pz_wl_gi, pz_wl_gr, pz_wl_same, pz_wl_X, pz_wr_gc, pz_wr_ga, pz_wr_gn, pz_wr_gi, pz_wr_gl, pz_wr_same, pz_wr_X, b2', f154, bI_t])
                refine po_go ?_
                exact hmore _ (s.wi (by simp)) (by rw [pz_wi_else (by decide)]; exact e120) (by rw [pz_wi_same])
      | false =>
        by_cases hji : j = i
        · subst hji
          have hpn : pj al j j = false := by simp [pj]
          have hc0 : crs al cr wk B j h false j = 0 := by rw [crs, if_neg (by decide), if_neg (by rw [hpn]; decide)]
          have hlf : lf (j + 1) = lf j := by
            show rsq _ _ (cnt (pj al j) (j + 1)) = rsq _ _ (cnt (pj al j) j)
            rw [cnt_f hpn]
          rw [hc0, hlf] at hmore
          refine pw_blk (mi := mz_118) (b := bz_118_39) rfl rfl ?_
          simp only [bz_118_39, pz_cut_t, pz_cut_f, pz_cut_n, pv_gt, pv_ts, pv_tn, ev_ild3, ev_ald0, ev_eld0, ev_cv0_11, pz_wi_gc, pz_wi_ga, pz_wi_gn, pz_wi_gl, pz_wi_gr, pz_wi_same, pz_wi_X, pz_wl_gc, pz_wl_ga, pz_wl_gn, pz_wl_gi, pz_wl_gr, pz_wl_same, pz_wl_X, pz_wr_gc, pz_wr_ga, pz_wr_gn, pz_wr_gi, pz_wr_gl, pz_wr_same, pz_wr_X, so_120 hS', b2']
          (try simp (disch := omega) only [nI_clamp, pz_in_nI2, pz_in_nI2L, pv_gt, nI_add, nI_addL, nI_Ladd, pk_mul, nI_mulL, nI_Lmul, pk_sub, nI_subL, nI_Lsub, nI_inc, nI_clampL, Nat.add_sub_cancel, pz_wi_else, pz_wl_else, vu_eq, vu_ne, pz_wi_gc, pz_wi_ga, pz_wi_gn, pz_wi_gl, pz_wi_gr, pz_wi_same, pz_wi_X, pz_wl_gc, pz_wl_ga, pz_wl_gn, pz_wl_gi, pz_wl_gr, pz_wl_same, pz_wl_X, pz_wr_gc, pz_wr_ga, pz_wr_gn, pz_wr_gi, pz_wr_gl, pz_wr_same, pz_wr_X, b2'])
          (try refine po_gP (Nat.le_of_ble_eq_true rfl) ?_)
          refine po_call (by omega) (r_many hS' hO' ?_)
          refine pw_blk (mi := mz_118) (b := bz_118_44) rfl rfl ?_
          simp only [bz_118_44, pz_cut_t, pz_cut_f, pz_cut_n, pv_gt, pv_ts, pv_tn, ev_ic_ge, pz_wi_gc, pz_wi_ga, pz_wi_gn, pz_wi_gl, pz_wi_gr, pz_wi_same, pz_wi_X, pz_wl_gc, pz_wl_ga, pz_wl_gn, pz_wl_gi, pz_wl_gr, pz_wl_same, pz_wl_X, pz_wr_gc, pz_wr_ga, pz_wr_gn, pz_wr_gi, pz_wr_gl, pz_wr_same, pz_wr_X, b2']
          (try simp (disch := omega) only [nI_clamp, pz_in_nI2, pz_in_nI2L, pv_gt, nI_add, nI_addL, nI_Ladd, pk_mul, nI_mulL, nI_Lmul, pk_sub, nI_subL, nI_Lsub, nI_inc, nI_clampL, Nat.add_sub_cancel, pz_wi_else, pz_wl_else, vu_eq, vu_ne, pz_wi_gc, pz_wi_ga, pz_wi_gn, pz_wi_gl, pz_wi_gr, pz_wi_same, pz_wi_X, pz_wl_gc, pz_wl_ga, pz_wl_gn, pz_wl_gi, pz_wl_gr, pz_wl_same, pz_wl_X, pz_wr_gc, pz_wr_ga, pz_wr_gn, pz_wr_gi, pz_wr_gl, pz_wr_same, pz_wr_X, b2'])
          refine po_brP (fun q44 => ?_) (fun q44 => ?_)
          · first
            | exact absurd q44 (by decide)
            | exact absurd trivial q44
            | exact q44.elim
            | (exfalso; (try simp (disch := omega) only [nI_ltI, nI_leI, nI_eq, nI_ltL, nI_leL, nI_eqL, nI_Llt, nI_Lle, nI_Leq, nI_eqm, nI_meq, nI_ltm, nI_lem, nI_mlt, nI_mle, lg0, lgl, lgg, lgle, lgge, Int32.not_lt, Int32.not_le, Int64.not_lt, Int64.not_le, not_false_eq_true, not_true_eq_false, Decidable.not_not, ge_iff_le, gt_iff_lt] at q44) <;> omega)
            | exact absurd q44 (by with_reducible assumption)
            | exact absurd (by with_reducible assumption) q44
            | exact absurd (Decidable.not_not.mp q44) (by with_reducible assumption)
            | exact absurd (by with_reducible assumption) (Int32.not_le.mpr q44)
            | exact absurd (by with_reducible assumption) (Int32.not_lt.mpr q44)
          · skip
            (try simp (disch := omega) only [nI_ltI, nI_leI, nI_eq, nI_ltL, nI_leL, nI_eqL, nI_Llt, nI_Lle, nI_Leq, nI_eqm, nI_meq, nI_ltm, nI_lem, nI_mlt, nI_mle, lg0, lgl, lgg, lgle, lgge, Int32.not_lt, Int32.not_le, Int64.not_lt, Int64.not_le, not_false_eq_true, not_true_eq_false, Decidable.not_not, ge_iff_le, gt_iff_lt] at q44)
            refine pw_blk (mi := mz_118) (b := bz_118_47) rfl rfl ?_
            simp only [bz_118_47, pz_cut_t, pz_cut_f, pz_cut_n, pv_gt, pv_ts, pv_tn, ev_ald0, ev_eld0, ev_gf11_2, ev_ild3, ev_ic0, ea_iast, ev_ild1, ev_ic_eq, pz_wi_gc, pz_wi_ga, pz_wi_gn, pz_wi_gl, pz_wi_gr, pz_wi_same, pz_wi_X, pz_wl_gc, pz_wl_ga, pz_wl_gn, pz_wl_gi, pz_wl_gr, pz_wl_same, pz_wl_X, pz_wr_gc, pz_wr_ga, pz_wr_gn, pz_wr_gi, pz_wr_gl, pz_wr_same, pz_wr_X, so_120 hS', sr_120_48 hS', sa_155 hS', sn_155 hS', b2', sa_149 hS', sn_149 hS', sa_130 hS', sn_130 hS', sa_154 hS', sn_154 hS', sa_129 hS', sn_129 hS']
            (try simp (disch := omega) only [nI_clamp, pz_in_nI2, pz_in_nI2L, pv_gt, nI_add, nI_addL, nI_Ladd, pk_mul, nI_mulL, nI_Lmul, pk_sub, nI_subL, nI_Lsub, nI_inc, nI_clampL, Nat.add_sub_cancel, pz_wi_else, pz_wl_else, vu_eq, vu_ne, pz_wi_gc, pz_wi_ga, pz_wi_gn, pz_wi_gl, pz_wi_gr, pz_wi_same, pz_wi_X, pz_wl_gc, pz_wl_ga, pz_wl_gn, pz_wl_gi, pz_wl_gr, pz_wl_same, pz_wl_X, pz_wr_gc, pz_wr_ga, pz_wr_gn, pz_wr_gi, pz_wr_gl, pz_wr_same, pz_wr_X, b2'])
            (try refine po_gI (by first | exact pz_in_nI (by omega) (by decide) | decide | assumption) ?_)
            refine po_brP (fun q47 => ?_) (fun q47 => ?_)
            · skip
              (try simp (disch := omega) only [nI_ltI, nI_leI, nI_eq, nI_ltL, nI_leL, nI_eqL, nI_Llt, nI_Lle, nI_Leq, nI_eqm, nI_meq, nI_ltm, nI_lem, nI_mlt, nI_mle, lg0, lgl, lgg, lgle, lgge, Int32.not_lt, Int32.not_le, Int64.not_lt, Int64.not_le, not_false_eq_true, not_true_eq_false, Decidable.not_not, ge_iff_le, gt_iff_lt] at q47)
              refine pw_blk (mi := mz_118) (b := bz_118_127) rfl rfl ?_
              simp only [bz_118_127, pz_cut_t, pz_cut_f, pz_cut_n, pv_gt, pv_ts, pv_tn, ev_inc3n, ev_inc3i, ev_inc3r, ev_inc3e, ev_goto, pz_wi_gc, pz_wi_ga, pz_wi_gn, pz_wi_gl, pz_wi_gr, pz_wi_same, pz_wi_X, pz_wl_gc, pz_wl_ga, pz_wl_gn, pz_wl_gi, pz_wl_gr, pz_wl_same, pz_wl_X, pz_wr_gc, pz_wr_ga, pz_wr_gn, pz_wr_gi, pz_wr_gl, pz_wr_same, pz_wr_X, b2']
              (try simp (disch := omega) only [nI_clamp, pz_in_nI2, pz_in_nI2L, pv_gt, nI_add, nI_addL, nI_Ladd, pk_mul, nI_mulL, nI_Lmul, pk_sub, nI_subL, nI_Lsub, nI_inc, nI_clampL, Nat.add_sub_cancel, pz_wi_else, pz_wl_else, vu_eq, vu_ne, pz_wi_gc, pz_wi_ga, pz_wi_gn, pz_wi_gl, pz_wi_gr, pz_wi_same, pz_wi_X, pz_wl_gc, pz_wl_ga, pz_wl_gn, pz_wl_gi, pz_wl_gr, pz_wl_same, pz_wl_X, pz_wr_gc, pz_wr_ga, pz_wr_gn, pz_wr_gi, pz_wr_gl, pz_wr_same, pz_wr_X, b2'])
              refine po_go ?_
              exact hmore _ (s.wi (by simp)) (by rw [pz_wi_else (by decide)]; exact e120) (by rw [pz_wi_same])
            · first
              | exact absurd q47 (by decide)
              | exact absurd trivial q47
              | exact q47.elim
              | (exfalso; (try simp (disch := omega) only [nI_ltI, nI_leI, nI_eq, nI_ltL, nI_leL, nI_eqL, nI_Llt, nI_Lle, nI_Leq, nI_eqm, nI_meq, nI_ltm, nI_lem, nI_mlt, nI_mle, lg0, lgl, lgg, lgle, lgge, Int32.not_lt, Int32.not_le, Int64.not_lt, Int64.not_le, not_false_eq_true, not_true_eq_false, Decidable.not_not, ge_iff_le, gt_iff_lt] at q47) <;> omega)
              | exact absurd q47 (by with_reducible assumption)
              | exact absurd (by with_reducible assumption) q47
              | exact absurd (Decidable.not_not.mp q47) (by with_reducible assumption)
              | exact absurd (by with_reducible assumption) (Int32.not_le.mpr q47)
              | exact absurd (by with_reducible assumption) (Int32.not_lt.mpr q47)
        · obtain ⟨b, hb, elf⟩ := hrs (cnt (pj al i) j)
          have elf' : lf j = nI b := elf
          have ea2 : alk (rlk M) i j 9 0 = al i j := hal i j hi (by omega)
          have hS2 : SH (pz_wi M' 155 (va_up (gi M' 155) j 0)) := hS'.sm (K := [155]) (sm.wi sm.rf (by simp))
          have hO2 : okB (pz_wi M' 155 (va_up (gi M' 155) j 0)) := by
            unfold okB bank
            rw [pz_wi_else (by decide)]
            exact hO'
          have hal2 : alk (rlk (pz_wi M' 155 (va_up (gi M' 155) j 0))) i j 9 0 = al i j := by
            have : rlk (pz_wi M' 155 (va_up (gi M' 155) j 0)) = rlk M' := by
              funext b
              unfold rlk bk bank
              rw [pz_wi_gl, pz_wi_else (by decide)]
            rw [this, hal', ea2]
          have vv : ∀ x y : Int32, va_up (va_up (gi M' 155) j x) j y = va_up (gi M' 155) j y := fun x y => by
            funext q
            unfold va_up
            split <;> rfl
          by_cases hp : pj al i j = true
          · have hlk := (lkG_at hp B (by omega)).1
            have hsh : h j * nI (al i j) * nI cr / 1000 = shr al cr B i h (cnt (pj al i) j) := by
              unfold shr
              rw [hlk]
            have hc0 : crs al cr wk B i h false j = mn (h j * nI (al i j) * nI cr / 1000) (lf j) := by
              rw [crs, if_neg (by decide), if_pos hp, hsh]
              rfl
            have hlf : lf (j + 1) = lf j - mn (h j * nI (al i j) * nI cr / 1000) (lf j) := by
              show rsq _ _ (cnt (pj al i) (j + 1)) = _
              rw [cnt_t hp, rsq, hsh]
              rfl
            rw [hc0, hlf] at hmore
            generalize lf j = lj at *
            refine pw_blk (mi := mz_118) (b := bz_118_39) rfl rfl ?_
            simp only [bz_118_39, pz_cut_t, pz_cut_f, pz_cut_n, pv_gt, pv_ts, pv_tn, ev_ild3, ev_ald0, ev_eld0, ev_cv0_11, pz_wi_gc, pz_wi_ga, pz_wi_gn, pz_wi_gl, pz_wi_gr, pz_wi_same, pz_wi_X, pz_wl_gc, pz_wl_ga, pz_wl_gn, pz_wl_gi, pz_wl_gr, pz_wl_same, pz_wl_X, pz_wr_gc, pz_wr_ga, pz_wr_gn, pz_wr_gi, pz_wr_gl, pz_wr_same, pz_wr_X, so_120 hS', b2', f154, bI_f, f149, f129, f38]
            (try simp (disch := omega) only [nI_clamp, pz_in_nI2, pz_in_nI2L, pv_gt, nI_add, nI_addL, nI_Ladd, pk_mul, nI_mulL, nI_Lmul, pk_sub, nI_subL, nI_Lsub, nI_inc, nI_clampL, Nat.add_sub_cancel, pz_wi_else, pz_wl_else, vu_eq, vu_ne, pz_wi_gc, pz_wi_ga, pz_wi_gn, pz_wi_gl, pz_wi_gr, pz_wi_same, pz_wi_X, pz_wl_gc, pz_wl_ga, pz_wl_gn, pz_wl_gi, pz_wl_gr, pz_wl_same, pz_wl_X, pz_wr_gc, pz_wr_ga, pz_wr_gn, pz_wr_gi, pz_wr_gl, pz_wr_same, pz_wr_X, b2', f154, bI_f, f149, f129, f38])
            (try refine po_gP (Nat.le_of_ble_eq_true rfl) ?_)
            refine po_call (by omega) (r_many hS' hO' ?_)
            refine pw_blk (mi := mz_118) (b := bz_118_44) rfl rfl ?_
            simp only [bz_118_44, pz_cut_t, pz_cut_f, pz_cut_n, pv_gt, pv_ts, pv_tn, ev_ic_ge, pz_wi_gc, pz_wi_ga, pz_wi_gn, pz_wi_gl, pz_wi_gr, pz_wi_same, pz_wi_X, pz_wl_gc, pz_wl_ga, pz_wl_gn, pz_wl_gi, pz_wl_gr, pz_wl_same, pz_wl_X, pz_wr_gc, pz_wr_ga, pz_wr_gn, pz_wr_gi, pz_wr_gl, pz_wr_same, pz_wr_X, b2', f154, bI_f, f149, f129, f38]
            (try simp (disch := omega) only [nI_clamp, pz_in_nI2, pz_in_nI2L, pv_gt, nI_add, nI_addL, nI_Ladd, pk_mul, nI_mulL, nI_Lmul, pk_sub, nI_subL, nI_Lsub, nI_inc, nI_clampL, Nat.add_sub_cancel, pz_wi_else, pz_wl_else, vu_eq, vu_ne, pz_wi_gc, pz_wi_ga, pz_wi_gn, pz_wi_gl, pz_wi_gr, pz_wi_same, pz_wi_X, pz_wl_gc, pz_wl_ga, pz_wl_gn, pz_wl_gi, pz_wl_gr, pz_wl_same, pz_wl_X, pz_wr_gc, pz_wr_ga, pz_wr_gn, pz_wr_gi, pz_wr_gl, pz_wr_same, pz_wr_X, b2', f154, bI_f, f149, f129, f38])
            refine po_brP (fun q44 => ?_) (fun q44 => ?_)
            · first
              | exact absurd q44 (by decide)
              | exact absurd trivial q44
              | exact q44.elim
              | (exfalso; (try simp (disch := omega) only [nI_ltI, nI_leI, nI_eq, nI_ltL, nI_leL, nI_eqL, nI_Llt, nI_Lle, nI_Leq, nI_eqm, nI_meq, nI_ltm, nI_lem, nI_mlt, nI_mle, lg0, lgl, lgg, lgle, lgge, Int32.not_lt, Int32.not_le, Int64.not_lt, Int64.not_le, not_false_eq_true, not_true_eq_false, Decidable.not_not, ge_iff_le, gt_iff_lt] at q44) <;> omega)
              | exact absurd q44 (by with_reducible assumption)
              | exact absurd (by with_reducible assumption) q44
              | exact absurd (Decidable.not_not.mp q44) (by with_reducible assumption)
              | exact absurd (by with_reducible assumption) (Int32.not_le.mpr q44)
              | exact absurd (by with_reducible assumption) (Int32.not_lt.mpr q44)
            · skip
              (try simp (disch := omega) only [nI_ltI, nI_leI, nI_eq, nI_ltL, nI_leL, nI_eqL, nI_Llt, nI_Lle, nI_Leq, nI_eqm, nI_meq, nI_ltm, nI_lem, nI_mlt, nI_mle, lg0, lgl, lgg, lgle, lgge, Int32.not_lt, Int32.not_le, Int64.not_lt, Int64.not_le, not_false_eq_true, not_true_eq_false, Decidable.not_not, ge_iff_le, gt_iff_lt] at q44)
              refine pw_blk (mi := mz_118) (b := bz_118_47) rfl rfl ?_
              simp only [bz_118_47, pz_cut_t, pz_cut_f, pz_cut_n, pv_gt, pv_ts, pv_tn, ev_ald0, ev_eld0, ev_gf11_2, ev_ild3, ev_ic0, ea_iast, ev_ild1, ev_ic_eq, pz_wi_gc, pz_wi_ga, pz_wi_gn, pz_wi_gl, pz_wi_gr, pz_wi_same, pz_wi_X, pz_wl_gc, pz_wl_ga, pz_wl_gn, pz_wl_gi, pz_wl_gr, pz_wl_same, pz_wl_X, pz_wr_gc, pz_wr_ga, pz_wr_gn, pz_wr_gi, pz_wr_gl, pz_wr_same, pz_wr_X, so_120 hS', sr_120_48 hS', sa_155 hS', sn_155 hS', b2', f154, bI_f, f149, f129, f38, sa_149 hS', sn_149 hS', sa_130 hS', sn_130 hS', sa_154 hS', sn_154 hS', sa_129 hS', sn_129 hS']
              (try simp (disch := omega) only [nI_clamp, pz_in_nI2, pz_in_nI2L, pv_gt, nI_add, nI_addL, nI_Ladd, pk_mul, nI_mulL, nI_Lmul, pk_sub, nI_subL, nI_Lsub, nI_inc, nI_clampL, Nat.add_sub_cancel, pz_wi_else, pz_wl_else, vu_eq, vu_ne, pz_wi_gc, pz_wi_ga, pz_wi_gn, pz_wi_gl, pz_wi_gr, pz_wi_same, pz_wi_X, pz_wl_gc, pz_wl_ga, pz_wl_gn, pz_wl_gi, pz_wl_gr, pz_wl_same, pz_wl_X, pz_wr_gc, pz_wr_ga, pz_wr_gn, pz_wr_gi, pz_wr_gl, pz_wr_same, pz_wr_X, b2', f154, bI_f, f149, f129, f38])
              (try refine po_gI (by first | exact pz_in_nI (by omega) (by decide) | decide | assumption) ?_)
              refine po_brP (fun q47 => ?_) (fun q47 => ?_)
              · first
                | exact absurd q47 (by decide)
                | exact absurd trivial q47
                | exact q47.elim
                | (exfalso; (try simp (disch := omega) only [nI_ltI, nI_leI, nI_eq, nI_ltL, nI_leL, nI_eqL, nI_Llt, nI_Lle, nI_Leq, nI_eqm, nI_meq, nI_ltm, nI_lem, nI_mlt, nI_mle, lg0, lgl, lgg, lgle, lgge, Int32.not_lt, Int32.not_le, Int64.not_lt, Int64.not_le, not_false_eq_true, not_true_eq_false, Decidable.not_not, ge_iff_le, gt_iff_lt] at q47) <;> omega)
                | exact absurd q47 (by with_reducible assumption)
                | exact absurd (by with_reducible assumption) q47
                | exact absurd (Decidable.not_not.mp q47) (by with_reducible assumption)
                | exact absurd (by with_reducible assumption) (Int32.not_le.mpr q47)
                | exact absurd (by with_reducible assumption) (Int32.not_lt.mpr q47)
              · skip
                (try simp (disch := omega) only [nI_ltI, nI_leI, nI_eq, nI_ltL, nI_leL, nI_eqL, nI_Llt, nI_Lle, nI_Leq, nI_eqm, nI_meq, nI_ltm, nI_lem, nI_mlt, nI_mle, lg0, lgl, lgg, lgle, lgge, Int32.not_lt, Int32.not_le, Int64.not_lt, Int64.not_le, not_false_eq_true, not_true_eq_false, Decidable.not_not, ge_iff_le, gt_iff_lt] at q47)
                refine pw_blk (mi := mz_118) (b := bz_118_59) rfl rfl ?_
                simp only [bz_118_59, pz_cut_t, pz_cut_f, pz_cut_n, pv_gt, pv_ts, pv_tn, ev_ald0, ev_eld0, ev_gf11_2, ev_ild1, ea_bald, ea_zald, ev_ifeq, pz_wi_gc, pz_wi_ga, pz_wi_gn, pz_wi_gl, pz_wi_gr, pz_wi_same, pz_wi_X, pz_wl_gc, pz_wl_ga, pz_wl_gn, pz_wl_gi, pz_wl_gr, pz_wl_same, pz_wl_X, pz_wr_gc, pz_wr_ga, pz_wr_gn, pz_wr_gi, pz_wr_gl, pz_wr_same, pz_wr_X, so_120 hS', sr_120_45 hS', sa_154 hS', sn_154 hS', b2', f154, bI_f, f149, f129, f38, pz_wi_else (show (154 : Nat) ≠ 155 by decide), sa_149 hS', sn_149 hS', sa_130 hS', sn_130 hS', sa_155 hS', sn_155 hS', sa_129 hS', sn_129 hS']
                (try simp (disch := omega) only [nI_clamp, pz_in_nI2, pz_in_nI2L, pv_gt, nI_add, nI_addL, nI_Ladd, pk_mul, nI_mulL, nI_Lmul, pk_sub, nI_subL, nI_Lsub, nI_inc, nI_clampL, Nat.add_sub_cancel, pz_wi_else, pz_wl_else, vu_eq, vu_ne, pz_wi_gc, pz_wi_ga, pz_wi_gn, pz_wi_gl, pz_wi_gr, pz_wi_same, pz_wi_X, pz_wl_gc, pz_wl_ga, pz_wl_gn, pz_wl_gi, pz_wl_gr, pz_wl_same, pz_wl_X, pz_wr_gc, pz_wr_ga, pz_wr_gn, pz_wr_gi, pz_wr_gl, pz_wr_same, pz_wr_X, b2', f154, bI_f, f149, f129, f38, pz_wi_else (show (154 : Nat) ≠ 155 by decide)])
                (try refine po_gI (by first | exact pz_in_nI (by omega) (by decide) | decide | assumption) ?_)
                refine po_brP (fun q59 => ?_) (fun q59 => ?_)
                · skip
                  (try simp (disch := omega) only [nI_ltI, nI_leI, nI_eq, nI_ltL, nI_leL, nI_eqL, nI_Llt, nI_Lle, nI_Leq, nI_eqm, nI_meq, nI_ltm, nI_lem, nI_mlt, nI_mle, lg0, lgl, lgg, lgle, lgge, Int32.not_lt, Int32.not_le, Int64.not_lt, Int64.not_le, not_false_eq_true, not_true_eq_false, Decidable.not_not, ge_iff_le, gt_iff_lt] at q59)
                  refine pw_blk (mi := mz_118) (b := bz_118_71) rfl rfl ?_
                  simp only [bz_118_71, pz_cut_t, pz_cut_f, pz_cut_n, pv_gt, pv_ts, pv_tn, ev_ald0, ev_eld0, ev_gf11_2, ev_ild3, ea_iald, ev_ild1, ev_cv2_11, pz_wi_gc, pz_wi_ga, pz_wi_gn, pz_wi_gl, pz_wi_gr, pz_wi_same, pz_wi_X, pz_wl_gc, pz_wl_ga, pz_wl_gn, pz_wl_gi, pz_wl_gr, pz_wl_same, pz_wl_X, pz_wr_gc, pz_wr_ga, pz_wr_gn, pz_wr_gi, pz_wr_gl, pz_wr_same, pz_wr_X, so_120 hS', sr_120_40 hS', sa_149 hS', sn_149 hS', b2', f154, bI_f, f149, f129, f38, pz_wi_else (show (149 : Nat) ≠ 155 by decide), sa_130 hS', sn_130 hS', sa_155 hS', sn_155 hS', sa_154 hS', sn_154 hS', sa_129 hS', sn_129 hS']
                  (try simp (disch := omega) only [nI_clamp, pz_in_nI2, pz_in_nI2L, pv_gt, nI_add, nI_addL, nI_Ladd, pk_mul, nI_mulL, nI_Lmul, pk_sub, nI_subL, nI_Lsub, nI_inc, nI_clampL, Nat.add_sub_cancel, pz_wi_else, pz_wl_else, vu_eq, vu_ne, pz_wi_gc, pz_wi_ga, pz_wi_gn, pz_wi_gl, pz_wi_gr, pz_wi_same, pz_wi_X, pz_wl_gc, pz_wl_ga, pz_wl_gn, pz_wl_gi, pz_wl_gr, pz_wl_same, pz_wl_X, pz_wr_gc, pz_wr_ga, pz_wr_gn, pz_wr_gi, pz_wr_gl, pz_wr_same, pz_wr_X, b2', f154, bI_f, f149, f129, f38, pz_wi_else (show (149 : Nat) ≠ 155 by decide)])
                  (try refine po_gI (by first | exact pz_in_nI (by omega) (by decide) | decide | assumption) ?_)
                  (try refine po_gP (Nat.le_of_ble_eq_true rfl) ?_)
                  refine po_call (by omega) (r_alikeOf (by omega) hS2 hO2 (by omega) (by omega) ?_)
                  refine pw_blk (mi := mz_118) (b := bz_118_83) rfl rfl ?_
                  simp only [bz_118_83, pz_cut_t, pz_cut_f, pz_cut_n, pv_gt, pv_ts, pv_tn, ev_imul, ev_ald0, ev_eld0, ev_gf11_2, ev_gf11_0, ea_iald, ev_sp1000, ev_idiv, ev_ist4n, ev_ist4i, ev_ist4r, ev_ist4e, ev_ist4l, ev_ild3, ev_ild4, ev_ild2, ev_ic_le, pz_wi_gc, pz_wi_ga, pz_wi_gn, pz_wi_gl, pz_wi_gr, pz_wi_same, pz_wi_X, pz_wl_gc, pz_wl_ga, pz_wl_gn, pz_wl_gi, pz_wl_gr, pz_wl_same, pz_wl_X, pz_wr_gc, pz_wr_ga, pz_wr_gn, pz_wr_gi, pz_wr_gl, pz_wr_same, pz_wr_X, so_120 hS', sr_120_18 hS', sa_129 hS', sn_129 hS', sr_120_48 hS', sa_155 hS', sn_155 hS', b2', f154, bI_f, f149, f129, f38, hal2, pz_wi_else (show (120 : Nat) ≠ 155 by decide), pz_wi_else (show (129 : Nat) ≠ 155 by decide), sa_149 hS', sn_149 hS', sa_130 hS', sn_130 hS', sa_154 hS', sn_154 hS']
                  (try simp (disch := omega) only [nI_clamp, pz_in_nI2, pz_in_nI2L, pv_gt, nI_add, nI_addL, nI_Ladd, pk_mul, nI_mulL, nI_Lmul, pk_sub, nI_subL, nI_Lsub, nI_inc, nI_clampL, Nat.add_sub_cancel, pz_wi_else, pz_wl_else, vu_eq, vu_ne, pz_wi_gc, pz_wi_ga, pz_wi_gn, pz_wi_gl, pz_wi_gr, pz_wi_same, pz_wi_X, pz_wl_gc, pz_wl_ga, pz_wl_gn, pz_wl_gi, pz_wl_gr, pz_wl_same, pz_wl_X, pz_wr_gc, pz_wr_ga, pz_wr_gn, pz_wr_gi, pz_wr_gl, pz_wr_same, pz_wr_X, b2', f154, bI_f, f149, f129, f38, hal2, pz_wi_else (show (120 : Nat) ≠ 155 by decide), pz_wi_else (show (129 : Nat) ≠ 155 by decide)])
                  (try refine po_gI (by first | exact pz_in_nI (by omega) (by decide) | decide | assumption) ?_)
                  (try refine po_gP (by first | decide | assumption) ?_)
                  refine po_brP (fun q83 => ?_) (fun q83 => ?_)
                  · first
                    | exact absurd q83 (by decide)
                    | exact absurd trivial q83
                    | exact q83.elim
                    | (exfalso; (try simp (disch := omega) only [nI_ltI, nI_leI, nI_eq, nI_ltL, nI_leL, nI_eqL, nI_Llt, nI_Lle, nI_Leq, nI_eqm, nI_meq, nI_ltm, nI_lem, nI_mlt, nI_mle, lg0, lgl, lgg, lgle, lgge, Int32.not_lt, Int32.not_le, Int64.not_lt, Int64.not_le, not_false_eq_true, not_true_eq_false, Decidable.not_not, ge_iff_le, gt_iff_lt] at q83) <;> omega)
                    | exact absurd q83 (by with_reducible assumption)
                    | exact absurd (by with_reducible assumption) q83
                    | exact absurd (Decidable.not_not.mp q83) (by with_reducible assumption)
                    | exact absurd (by with_reducible assumption) (Int32.not_le.mpr q83)
                    | exact absurd (by with_reducible assumption) (Int32.not_lt.mpr q83)
                    | skip
                      (try simp (disch := omega) only [nI_ltI, nI_leI, nI_eq, nI_ltL, nI_leL, nI_eqL, nI_Llt, nI_Lle, nI_Leq, nI_eqm, nI_meq, nI_ltm, nI_lem, nI_mlt, nI_mle, lg0, lgl, lgg, lgle, lgge, Int32.not_lt, Int32.not_le, Int64.not_lt, Int64.not_le, not_false_eq_true, not_true_eq_false, Decidable.not_not, ge_iff_le, gt_iff_lt] at q83)
                      have hmn : mn (h j * nI (al i j) * nI cr / 1000) lj = h j * nI (al i j) * nI cr / 1000 := by
                        unfold mn
                        split
                        · rfl
                        · rename_i z
                          exact Int32.le_antisymm (Int32.not_lt.mp z) q83
                      refine pw_blk (mi := mz_118) (b := bz_118_115) rfl rfl ?_
                      simp only [bz_118_115, pz_cut_t, pz_cut_f, pz_cut_n, pv_gt, pv_ts, pv_tn, ev_ild4, ev_nil, pz_wi_gc, pz_wi_ga, pz_wi_gn, pz_wi_gl, pz_wi_gr, pz_wi_same, pz_wi_X, pz_wl_gc, pz_wl_ga, pz_wl_gn, pz_wl_gi, pz_wl_gr, pz_wl_same, pz_wl_X, pz_wr_gc, pz_wr_ga, pz_wr_gn, pz_wr_gi, pz_wr_gl, pz_wr_same, pz_wr_X, b2', f154, bI_f, f149, f129, f38]
                      (try simp (disch := omega) only [nI_clamp, pz_in_nI2, pz_in_nI2L, pv_gt, nI_add, nI_addL, nI_Ladd, pk_mul, nI_mulL, nI_Lmul, pk_sub, nI_subL, nI_Lsub, nI_inc, nI_clampL, Nat.add_sub_cancel, pz_wi_else, pz_wl_else, vu_eq, vu_ne, pz_wi_gc, pz_wi_ga, pz_wi_gn, pz_wi_gl, pz_wi_gr, pz_wi_same, pz_wi_X, pz_wl_gc, pz_wl_ga, pz_wl_gn, pz_wl_gi, pz_wl_gr, pz_wl_same, pz_wl_X, pz_wr_gc, pz_wr_ga, pz_wr_gn, pz_wr_gi, pz_wr_gl, pz_wr_same, pz_wr_X, b2', f154, bI_f, f149, f129, f38])
                      refine po_go ?_
                      refine pw_blk (mi := mz_118) (b := bz_118_117) rfl rfl ?_
                      simp only [bz_118_117, pz_cut_t, pz_cut_f, pz_cut_n, pv_gt, pv_ts, pv_tn, ea_iast, ev_ild2, ev_ald0, ev_eld0, ev_gf11_2, ev_ild3, ea_iald, ev_isub, ev_ist2n, ev_ist2i, ev_ist2r, ev_ist2e, ev_ist2l, ev_nil, pz_wi_gc, pz_wi_ga, pz_wi_gn, pz_wi_gl, pz_wi_gr, pz_wi_same, pz_wi_X, pz_wl_gc, pz_wl_ga, pz_wl_gn, pz_wl_gi, pz_wl_gr, pz_wl_same, pz_wl_X, pz_wr_gc, pz_wr_ga, pz_wr_gn, pz_wr_gi, pz_wr_gl, pz_wr_same, pz_wr_X, so_120 hS', sr_120_48 hS', sa_155 hS', sn_155 hS', b2', f154, bI_f, f149, f129, f38, sa_149 hS', sn_149 hS', sa_130 hS', sn_130 hS', sa_154 hS', sn_154 hS', sa_129 hS', sn_129 hS']
                      (try simp (disch := omega) only [nI_clamp, pz_in_nI2, pz_in_nI2L, pv_gt, nI_add, nI_addL, nI_Ladd, pk_mul, nI_mulL, nI_Lmul, pk_sub, nI_subL, nI_Lsub, nI_inc, nI_clampL, Nat.add_sub_cancel, pz_wi_else, pz_wl_else, vu_eq, vu_ne, pz_wi_gc, pz_wi_ga, pz_wi_gn, pz_wi_gl, pz_wi_gr, pz_wi_same, pz_wi_X, pz_wl_gc, pz_wl_ga, pz_wl_gn, pz_wl_gi, pz_wl_gr, pz_wl_same, pz_wl_X, pz_wr_gc, pz_wr_ga, pz_wr_gn, pz_wr_gi, pz_wr_gl, pz_wr_same, pz_wr_X, b2', f154, bI_f, f149, f129, f38])
                      (try refine po_gI (by first | exact pz_in_nI (by omega) (by decide) | decide | assumption) ?_)
                      (try refine po_gI (by first | exact pz_in_nI (by omega) (by decide) | decide | assumption) ?_)
                      refine po_go ?_
                      refine pw_blk (mi := mz_118) (b := bz_118_127) rfl rfl ?_
                      simp only [bz_118_127, pz_cut_t, pz_cut_f, pz_cut_n, pv_gt, pv_ts, pv_tn, ev_inc3n, ev_inc3i, ev_inc3r, ev_inc3e, ev_goto, pz_wi_gc, pz_wi_ga, pz_wi_gn, pz_wi_gl, pz_wi_gr, pz_wi_same, pz_wi_X, pz_wl_gc, pz_wl_ga, pz_wl_gn, pz_wl_gi, pz_wl_gr, pz_wl_same, pz_wl_X, pz_wr_gc, pz_wr_ga, pz_wr_gn, pz_wr_gi, pz_wr_gl, pz_wr_same, pz_wr_X, b2', f154, bI_f, f149, f129, f38]
                      (try simp (disch := omega) only [nI_clamp, pz_in_nI2, pz_in_nI2L, pv_gt, nI_add, nI_addL, nI_Ladd, pk_mul, nI_mulL, nI_Lmul, pk_sub, nI_subL, nI_Lsub, nI_inc, nI_clampL, Nat.add_sub_cancel, pz_wi_else, pz_wl_else, vu_eq, vu_ne, pz_wi_gc, pz_wi_ga, pz_wi_gn, pz_wi_gl, pz_wi_gr, pz_wi_same, pz_wi_X, pz_wl_gc, pz_wl_ga, pz_wl_gn, pz_wl_gi, pz_wl_gr, pz_wl_same, pz_wl_X, pz_wr_gc, pz_wr_ga, pz_wr_gn, pz_wr_gi, pz_wr_gl, pz_wr_same, pz_wr_X, b2', f154, bI_f, f149, f129, f38])
                      refine po_go ?_
                      rw [hmn] at hmore
                      refine pw_cut (mi := mz_118) (b := bz_118_39) rfl rfl (hmore _ ((s.wi (by simp)).wi (by simp)) ?_ ?_) rfl
                      · rw [pz_wi_else (by decide), pz_wi_else (by decide)]; exact e120
                      · rw [pz_wi_same, vv]
                  · first
                    | exact absurd q83 (by decide)
                    | exact absurd trivial q83
                    | exact q83.elim
                    | (exfalso; (try simp (disch := omega) only [nI_ltI, nI_leI, nI_eq, nI_ltL, nI_leL, nI_eqL, nI_Llt, nI_Lle, nI_Leq, nI_eqm, nI_meq, nI_ltm, nI_lem, nI_mlt, nI_mle, lg0, lgl, lgg, lgle, lgge, Int32.not_lt, Int32.not_le, Int64.not_lt, Int64.not_le, not_false_eq_true, not_true_eq_false, Decidable.not_not, ge_iff_le, gt_iff_lt] at q83) <;> omega)
                    | exact absurd q83 (by with_reducible assumption)
                    | exact absurd (by with_reducible assumption) q83
                    | exact absurd (Decidable.not_not.mp q83) (by with_reducible assumption)
                    | exact absurd (by with_reducible assumption) (Int32.not_le.mpr q83)
                    | exact absurd (by with_reducible assumption) (Int32.not_lt.mpr q83)
                    | skip
                      (try simp (disch := omega) only [nI_ltI, nI_leI, nI_eq, nI_ltL, nI_leL, nI_eqL, nI_Llt, nI_Lle, nI_Leq, nI_eqm, nI_meq, nI_ltm, nI_lem, nI_mlt, nI_mle, lg0, lgl, lgg, lgle, lgge, Int32.not_lt, Int32.not_le, Int64.not_lt, Int64.not_le, not_false_eq_true, not_true_eq_false, Decidable.not_not, ge_iff_le, gt_iff_lt] at q83)
                      have hmn : mn (h j * nI (al i j) * nI cr / 1000) lj = lj := if_neg (fun z => absurd (Int32.le_of_lt z) (Int32.not_le.mpr q83))
                      refine pw_blk (mi := mz_118) (b := bz_118_111) rfl rfl ?_
                      simp only [bz_118_111, pz_cut_t, pz_cut_f, pz_cut_n, pv_gt, pv_ts, pv_tn, ev_ild2, ev_goto, pz_wi_gc, pz_wi_ga, pz_wi_gn, pz_wi_gl, pz_wi_gr, pz_wi_same, pz_wi_X, pz_wl_gc, pz_wl_ga, pz_wl_gn, pz_wl_gi, pz_wl_gr, pz_wl_same, pz_wl_X, pz_wr_gc, pz_wr_ga, pz_wr_gn, pz_wr_gi, pz_wr_gl, pz_wr_same, pz_wr_X, b2', f154, bI_f, f149, f129, f38]
                      (try simp (disch := omega) only [nI_clamp, pz_in_nI2, pz_in_nI2L, pv_gt, nI_add, nI_addL, nI_Ladd, pk_mul, nI_mulL, nI_Lmul, pk_sub, nI_subL, nI_Lsub, nI_inc, nI_clampL, Nat.add_sub_cancel, pz_wi_else, pz_wl_else, vu_eq, vu_ne, pz_wi_gc, pz_wi_ga, pz_wi_gn, pz_wi_gl, pz_wi_gr, pz_wi_same, pz_wi_X, pz_wl_gc, pz_wl_ga, pz_wl_gn, pz_wl_gi, pz_wl_gr, pz_wl_same, pz_wl_X, pz_wr_gc, pz_wr_ga, pz_wr_gn, pz_wr_gi, pz_wr_gl, pz_wr_same, pz_wr_X, b2', f154, bI_f, f149, f129, f38])
                      refine po_go ?_
                      refine pw_blk (mi := mz_118) (b := bz_118_117) rfl rfl ?_
                      simp only [bz_118_117, pz_cut_t, pz_cut_f, pz_cut_n, pv_gt, pv_ts, pv_tn, ea_iast, ev_ild2, ev_ald0, ev_eld0, ev_gf11_2, ev_ild3, ea_iald, ev_isub, ev_ist2n, ev_ist2i, ev_ist2r, ev_ist2e, ev_ist2l, ev_nil, pz_wi_gc, pz_wi_ga, pz_wi_gn, pz_wi_gl, pz_wi_gr, pz_wi_same, pz_wi_X, pz_wl_gc, pz_wl_ga, pz_wl_gn, pz_wl_gi, pz_wl_gr, pz_wl_same, pz_wl_X, pz_wr_gc, pz_wr_ga, pz_wr_gn, pz_wr_gi, pz_wr_gl, pz_wr_same, pz_wr_X, so_120 hS', sr_120_48 hS', sa_155 hS', sn_155 hS', b2', f154, bI_f, f149, f129, f38, sa_149 hS', sn_149 hS', sa_130 hS', sn_130 hS', sa_154 hS', sn_154 hS', sa_129 hS', sn_129 hS']
                      (try simp (disch := omega) only [nI_clamp, pz_in_nI2, pz_in_nI2L, pv_gt, nI_add, nI_addL, nI_Ladd, pk_mul, nI_mulL, nI_Lmul, pk_sub, nI_subL, nI_Lsub, nI_inc, nI_clampL, Nat.add_sub_cancel, pz_wi_else, pz_wl_else, vu_eq, vu_ne, pz_wi_gc, pz_wi_ga, pz_wi_gn, pz_wi_gl, pz_wi_gr, pz_wi_same, pz_wi_X, pz_wl_gc, pz_wl_ga, pz_wl_gn, pz_wl_gi, pz_wl_gr, pz_wl_same, pz_wl_X, pz_wr_gc, pz_wr_ga, pz_wr_gn, pz_wr_gi, pz_wr_gl, pz_wr_same, pz_wr_X, b2', f154, bI_f, f149, f129, f38])
                      (try refine po_gI (by first | exact pz_in_nI (by omega) (by decide) | decide | assumption) ?_)
                      (try refine po_gI (by first | exact pz_in_nI (by omega) (by decide) | decide | assumption) ?_)
                      refine po_go ?_
                      refine pw_blk (mi := mz_118) (b := bz_118_127) rfl rfl ?_
                      simp only [bz_118_127, pz_cut_t, pz_cut_f, pz_cut_n, pv_gt, pv_ts, pv_tn, ev_inc3n, ev_inc3i, ev_inc3r, ev_inc3e, ev_goto, pz_wi_gc, pz_wi_ga, pz_wi_gn, pz_wi_gl, pz_wi_gr, pz_wi_same, pz_wi_X, pz_wl_gc, pz_wl_ga, pz_wl_gn, pz_wl_gi, pz_wl_gr, pz_wl_same, pz_wl_X, pz_wr_gc, pz_wr_ga, pz_wr_gn, pz_wr_gi, pz_wr_gl, pz_wr_same, pz_wr_X, b2', f154, bI_f, f149, f129, f38]
                      (try simp (disch := omega) only [nI_clamp, pz_in_nI2, pz_in_nI2L, pv_gt, nI_add, nI_addL, nI_Ladd, pk_mul, nI_mulL, nI_Lmul, pk_sub, nI_subL, nI_Lsub, nI_inc, nI_clampL, Nat.add_sub_cancel, pz_wi_else, pz_wl_else, vu_eq, vu_ne, pz_wi_gc, pz_wi_ga, pz_wi_gn, pz_wi_gl, pz_wi_gr, pz_wi_same, pz_wi_X, pz_wl_gc, pz_wl_ga, pz_wl_gn, pz_wl_gi, pz_wl_gr, pz_wl_same, pz_wl_X, pz_wr_gc, pz_wr_ga, pz_wr_gn, pz_wr_gi, pz_wr_gl, pz_wr_same, pz_wr_X, b2', f154, bI_f, f149, f129, f38])
                      refine po_go ?_
                      rw [hmn] at hmore
                      refine pw_cut (mi := mz_118) (b := bz_118_39) rfl rfl (hmore _ ((s.wi (by simp)).wi (by simp)) ?_ ?_) rfl
                      · rw [pz_wi_else (by decide), pz_wi_else (by decide)]; exact e120
                      · rw [pz_wi_same, vv]
                · first
                  | exact absurd q59 (by decide)
                  | exact absurd trivial q59
                  | exact q59.elim
                  | (exfalso; (try simp (disch := omega) only [nI_ltI, nI_leI, nI_eq, nI_ltL, nI_leL, nI_eqL, nI_Llt, nI_Lle, nI_Leq, nI_eqm, nI_meq, nI_ltm, nI_lem, nI_mlt, nI_mle, lg0, lgl, lgg, lgle, lgge, Int32.not_lt, Int32.not_le, Int64.not_lt, Int64.not_le, not_false_eq_true, not_true_eq_false, Decidable.not_not, ge_iff_le, gt_iff_lt] at q59) <;> omega)
                  | exact absurd q59 (by with_reducible assumption)
                  | exact absurd (by with_reducible assumption) q59
                  | exact absurd (Decidable.not_not.mp q59) (by with_reducible assumption)
                  | exact absurd (by with_reducible assumption) (Int32.not_le.mpr q59)
                  | exact absurd (by with_reducible assumption) (Int32.not_lt.mpr q59)
          · have hp0 : pj al i j = false := by simpa using hp
            have haz : al i j = 0 := by
              unfold pj at hp0
              rw [decide_eq_true hji] at hp0
              simp at hp0
              exact hp0
            have hc0 : crs al cr wk B i h false j = 0 := by rw [crs, if_neg (by decide), if_neg hp]
            have hlf : lf (j + 1) = lf j := by
              show rsq _ _ (cnt (pj al i) (j + 1)) = rsq _ _ (cnt (pj al i) j)
              rw [cnt_f hp0]
            rw [hc0, hlf, elf'] at hmore
            rw [elf']
            have hz0 : h j * nI (al i j) * nI cr / 1000 = 0 := by
              obtain ⟨c, hc, e⟩ := hhr j
              rw [e, haz, pk_mul, pk_mul, Nat.mul_zero, Nat.zero_mul]
              rfl
            refine pw_blk (mi := mz_118) (b := bz_118_39) rfl rfl ?_
            simp only [bz_118_39, pz_cut_t, pz_cut_f, pz_cut_n, pv_gt, pv_ts, pv_tn, ev_ild3, ev_ald0, ev_eld0, ev_cv0_11, pz_wi_gc, pz_wi_ga, pz_wi_gn, pz_wi_gl, pz_wi_gr, pz_wi_same, pz_wi_X, pz_wl_gc, pz_wl_ga, pz_wl_gn, pz_wl_gi, pz_wl_gr, pz_wl_same, pz_wl_X, pz_wr_gc, pz_wr_ga, pz_wr_gn, pz_wr_gi, pz_wr_gl, pz_wr_same, pz_wr_X, so_120 hS', b2', f154, bI_f, f149, f129, f38]
            (try simp (disch := omega) only [nI_clamp, pz_in_nI2, pz_in_nI2L, pv_gt, nI_add, nI_addL, nI_Ladd, pk_mul, nI_mulL, nI_Lmul, pk_sub, nI_subL, nI_Lsub, nI_inc, nI_clampL, Nat.add_sub_cancel, pz_wi_else, pz_wl_else, vu_eq, vu_ne, pz_wi_gc, pz_wi_ga, pz_wi_gn, pz_wi_gl, pz_wi_gr, pz_wi_same, pz_wi_X, pz_wl_gc, pz_wl_ga, pz_wl_gn, pz_wl_gi, pz_wl_gr, pz_wl_same, pz_wl_X, pz_wr_gc, pz_wr_ga, pz_wr_gn, pz_wr_gi, pz_wr_gl, pz_wr_same, pz_wr_X, b2', f154, bI_f, f149, f129, f38])
            (try refine po_gP (Nat.le_of_ble_eq_true rfl) ?_)
            refine po_call (by omega) (r_many hS' hO' ?_)
            refine pw_blk (mi := mz_118) (b := bz_118_44) rfl rfl ?_
            simp only [bz_118_44, pz_cut_t, pz_cut_f, pz_cut_n, pv_gt, pv_ts, pv_tn, ev_ic_ge, pz_wi_gc, pz_wi_ga, pz_wi_gn, pz_wi_gl, pz_wi_gr, pz_wi_same, pz_wi_X, pz_wl_gc, pz_wl_ga, pz_wl_gn, pz_wl_gi, pz_wl_gr, pz_wl_same, pz_wl_X, pz_wr_gc, pz_wr_ga, pz_wr_gn, pz_wr_gi, pz_wr_gl, pz_wr_same, pz_wr_X, b2', f154, bI_f, f149, f129, f38]
            (try simp (disch := omega) only [nI_clamp, pz_in_nI2, pz_in_nI2L, pv_gt, nI_add, nI_addL, nI_Ladd, pk_mul, nI_mulL, nI_Lmul, pk_sub, nI_subL, nI_Lsub, nI_inc, nI_clampL, Nat.add_sub_cancel, pz_wi_else, pz_wl_else, vu_eq, vu_ne, pz_wi_gc, pz_wi_ga, pz_wi_gn, pz_wi_gl, pz_wi_gr, pz_wi_same, pz_wi_X, pz_wl_gc, pz_wl_ga, pz_wl_gn, pz_wl_gi, pz_wl_gr, pz_wl_same, pz_wl_X, pz_wr_gc, pz_wr_ga, pz_wr_gn, pz_wr_gi, pz_wr_gl, pz_wr_same, pz_wr_X, b2', f154, bI_f, f149, f129, f38])
            refine po_brP (fun q44 => ?_) (fun q44 => ?_)
            · first
              | exact absurd q44 (by decide)
              | exact absurd trivial q44
              | exact q44.elim
              | (exfalso; (try simp (disch := omega) only [nI_ltI, nI_leI, nI_eq, nI_ltL, nI_leL, nI_eqL, nI_Llt, nI_Lle, nI_Leq, nI_eqm, nI_meq, nI_ltm, nI_lem, nI_mlt, nI_mle, lg0, lgl, lgg, lgle, lgge, Int32.not_lt, Int32.not_le, Int64.not_lt, Int64.not_le, not_false_eq_true, not_true_eq_false, Decidable.not_not, ge_iff_le, gt_iff_lt] at q44) <;> omega)
              | exact absurd q44 (by with_reducible assumption)
              | exact absurd (by with_reducible assumption) q44
              | exact absurd (Decidable.not_not.mp q44) (by with_reducible assumption)
              | exact absurd (by with_reducible assumption) (Int32.not_le.mpr q44)
              | exact absurd (by with_reducible assumption) (Int32.not_lt.mpr q44)
            · skip
              (try simp (disch := omega) only [nI_ltI, nI_leI, nI_eq, nI_ltL, nI_leL, nI_eqL, nI_Llt, nI_Lle, nI_Leq, nI_eqm, nI_meq, nI_ltm, nI_lem, nI_mlt, nI_mle, lg0, lgl, lgg, lgle, lgge, Int32.not_lt, Int32.not_le, Int64.not_lt, Int64.not_le, not_false_eq_true, not_true_eq_false, Decidable.not_not, ge_iff_le, gt_iff_lt] at q44)
              refine pw_blk (mi := mz_118) (b := bz_118_47) rfl rfl ?_
              simp only [bz_118_47, pz_cut_t, pz_cut_f, pz_cut_n, pv_gt, pv_ts, pv_tn, ev_ald0, ev_eld0, ev_gf11_2, ev_ild3, ev_ic0, ea_iast, ev_ild1, ev_ic_eq, pz_wi_gc, pz_wi_ga, pz_wi_gn, pz_wi_gl, pz_wi_gr, pz_wi_same, pz_wi_X, pz_wl_gc, pz_wl_ga, pz_wl_gn, pz_wl_gi, pz_wl_gr, pz_wl_same, pz_wl_X, pz_wr_gc, pz_wr_ga, pz_wr_gn, pz_wr_gi, pz_wr_gl, pz_wr_same, pz_wr_X, so_120 hS', sr_120_48 hS', sa_155 hS', sn_155 hS', b2', f154, bI_f, f149, f129, f38, sa_149 hS', sn_149 hS', sa_130 hS', sn_130 hS', sa_154 hS', sn_154 hS', sa_129 hS', sn_129 hS']
              (try simp (disch := omega) only [nI_clamp, pz_in_nI2, pz_in_nI2L, pv_gt, nI_add, nI_addL, nI_Ladd, pk_mul, nI_mulL, nI_Lmul, pk_sub, nI_subL, nI_Lsub, nI_inc, nI_clampL, Nat.add_sub_cancel, pz_wi_else, pz_wl_else, vu_eq, vu_ne, pz_wi_gc, pz_wi_ga, pz_wi_gn, pz_wi_gl, pz_wi_gr, pz_wi_same, pz_wi_X, pz_wl_gc, pz_wl_ga, pz_wl_gn, pz_wl_gi, pz_wl_gr, pz_wl_same, pz_wl_X, pz_wr_gc, pz_wr_ga, pz_wr_gn, pz_wr_gi, pz_wr_gl, pz_wr_same, pz_wr_X, b2', f154, bI_f, f149, f129, f38])
              (try refine po_gI (by first | exact pz_in_nI (by omega) (by decide) | decide | assumption) ?_)
              refine po_brP (fun q47 => ?_) (fun q47 => ?_)
              · first
                | exact absurd q47 (by decide)
                | exact absurd trivial q47
                | exact q47.elim
                | (exfalso; (try simp (disch := omega) only [nI_ltI, nI_leI, nI_eq, nI_ltL, nI_leL, nI_eqL, nI_Llt, nI_Lle, nI_Leq, nI_eqm, nI_meq, nI_ltm, nI_lem, nI_mlt, nI_mle, lg0, lgl, lgg, lgle, lgge, Int32.not_lt, Int32.not_le, Int64.not_lt, Int64.not_le, not_false_eq_true, not_true_eq_false, Decidable.not_not, ge_iff_le, gt_iff_lt] at q47) <;> omega)
                | exact absurd q47 (by with_reducible assumption)
                | exact absurd (by with_reducible assumption) q47
                | exact absurd (Decidable.not_not.mp q47) (by with_reducible assumption)
                | exact absurd (by with_reducible assumption) (Int32.not_le.mpr q47)
                | exact absurd (by with_reducible assumption) (Int32.not_lt.mpr q47)
              · skip
                (try simp (disch := omega) only [nI_ltI, nI_leI, nI_eq, nI_ltL, nI_leL, nI_eqL, nI_Llt, nI_Lle, nI_Leq, nI_eqm, nI_meq, nI_ltm, nI_lem, nI_mlt, nI_mle, lg0, lgl, lgg, lgle, lgge, Int32.not_lt, Int32.not_le, Int64.not_lt, Int64.not_le, not_false_eq_true, not_true_eq_false, Decidable.not_not, ge_iff_le, gt_iff_lt] at q47)
                refine pw_blk (mi := mz_118) (b := bz_118_59) rfl rfl ?_
                simp only [bz_118_59, pz_cut_t, pz_cut_f, pz_cut_n, pv_gt, pv_ts, pv_tn, ev_ald0, ev_eld0, ev_gf11_2, ev_ild1, ea_bald, ea_zald, ev_ifeq, pz_wi_gc, pz_wi_ga, pz_wi_gn, pz_wi_gl, pz_wi_gr, pz_wi_same, pz_wi_X, pz_wl_gc, pz_wl_ga, pz_wl_gn, pz_wl_gi, pz_wl_gr, pz_wl_same, pz_wl_X, pz_wr_gc, pz_wr_ga, pz_wr_gn, pz_wr_gi, pz_wr_gl, pz_wr_same, pz_wr_X, so_120 hS', sr_120_45 hS', sa_154 hS', sn_154 hS', b2', f154, bI_f, f149, f129, f38, pz_wi_else (show (154 : Nat) ≠ 155 by decide), sa_149 hS', sn_149 hS', sa_130 hS', sn_130 hS', sa_155 hS', sn_155 hS', sa_129 hS', sn_129 hS']
                (try simp (disch := omega) only [nI_clamp, pz_in_nI2, pz_in_nI2L, pv_gt, nI_add, nI_addL, nI_Ladd, pk_mul, nI_mulL, nI_Lmul, pk_sub, nI_subL, nI_Lsub, nI_inc, nI_clampL, Nat.add_sub_cancel, pz_wi_else, pz_wl_else, vu_eq, vu_ne, pz_wi_gc, pz_wi_ga, pz_wi_gn, pz_wi_gl, pz_wi_gr, pz_wi_same, pz_wi_X, pz_wl_gc, pz_wl_ga, pz_wl_gn, pz_wl_gi, pz_wl_gr, pz_wl_same, pz_wl_X, pz_wr_gc, pz_wr_ga, pz_wr_gn, pz_wr_gi, pz_wr_gl, pz_wr_same, pz_wr_X, b2', f154, bI_f, f149, f129, f38, pz_wi_else (show (154 : Nat) ≠ 155 by decide)])
                (try refine po_gI (by first | exact pz_in_nI (by omega) (by decide) | decide | assumption) ?_)
                refine po_brP (fun q59 => ?_) (fun q59 => ?_)
                · skip
                  (try simp (disch := omega) only [nI_ltI, nI_leI, nI_eq, nI_ltL, nI_leL, nI_eqL, nI_Llt, nI_Lle, nI_Leq, nI_eqm, nI_meq, nI_ltm, nI_lem, nI_mlt, nI_mle, lg0, lgl, lgg, lgle, lgge, Int32.not_lt, Int32.not_le, Int64.not_lt, Int64.not_le, not_false_eq_true, not_true_eq_false, Decidable.not_not, ge_iff_le, gt_iff_lt] at q59)
                  refine pw_blk (mi := mz_118) (b := bz_118_71) rfl rfl ?_
                  simp only [bz_118_71, pz_cut_t, pz_cut_f, pz_cut_n, pv_gt, pv_ts, pv_tn, ev_ald0, ev_eld0, ev_gf11_2, ev_ild3, ea_iald, ev_ild1, ev_cv2_11, pz_wi_gc, pz_wi_ga, pz_wi_gn, pz_wi_gl, pz_wi_gr, pz_wi_same, pz_wi_X, pz_wl_gc, pz_wl_ga, pz_wl_gn, pz_wl_gi, pz_wl_gr, pz_wl_same, pz_wl_X, pz_wr_gc, pz_wr_ga, pz_wr_gn, pz_wr_gi, pz_wr_gl, pz_wr_same, pz_wr_X, so_120 hS', sr_120_40 hS', sa_149 hS', sn_149 hS', b2', f154, bI_f, f149, f129, f38, pz_wi_else (show (149 : Nat) ≠ 155 by decide), sa_130 hS', sn_130 hS', sa_155 hS', sn_155 hS', sa_154 hS', sn_154 hS', sa_129 hS', sn_129 hS']
                  (try simp (disch := omega) only [nI_clamp, pz_in_nI2, pz_in_nI2L, pv_gt, nI_add, nI_addL, nI_Ladd, pk_mul, nI_mulL, nI_Lmul, pk_sub, nI_subL, nI_Lsub, nI_inc, nI_clampL, Nat.add_sub_cancel, pz_wi_else, pz_wl_else, vu_eq, vu_ne, pz_wi_gc, pz_wi_ga, pz_wi_gn, pz_wi_gl, pz_wi_gr, pz_wi_same, pz_wi_X, pz_wl_gc, pz_wl_ga, pz_wl_gn, pz_wl_gi, pz_wl_gr, pz_wl_same, pz_wl_X, pz_wr_gc, pz_wr_ga, pz_wr_gn, pz_wr_gi, pz_wr_gl, pz_wr_same, pz_wr_X, b2', f154, bI_f, f149, f129, f38, pz_wi_else (show (149 : Nat) ≠ 155 by decide)])
                  (try refine po_gI (by first | exact pz_in_nI (by omega) (by decide) | decide | assumption) ?_)
                  (try refine po_gP (Nat.le_of_ble_eq_true rfl) ?_)
                  refine po_call (by omega) (r_alikeOf (by omega) hS2 hO2 (by omega) (by omega) ?_)
                  refine pw_blk (mi := mz_118) (b := bz_118_83) rfl rfl ?_
                  simp only [bz_118_83, pz_cut_t, pz_cut_f, pz_cut_n, pv_gt, pv_ts, pv_tn, ev_imul, ev_ald0, ev_eld0, ev_gf11_2, ev_gf11_0, ea_iald, ev_sp1000, ev_idiv, ev_ist4n, ev_ist4i, ev_ist4r, ev_ist4e, ev_ist4l, ev_ild3, ev_ild4, ev_ild2, ev_ic_le, pz_wi_gc, pz_wi_ga, pz_wi_gn, pz_wi_gl, pz_wi_gr, pz_wi_same, pz_wi_X, pz_wl_gc, pz_wl_ga, pz_wl_gn, pz_wl_gi, pz_wl_gr, pz_wl_same, pz_wl_X, pz_wr_gc, pz_wr_ga, pz_wr_gn, pz_wr_gi, pz_wr_gl, pz_wr_same, pz_wr_X, so_120 hS', sr_120_18 hS', sa_129 hS', sn_129 hS', sr_120_48 hS', sa_155 hS', sn_155 hS', b2', f154, bI_f, f149, f129, f38, hal2, hz0, pz_wi_else (show (120 : Nat) ≠ 155 by decide), pz_wi_else (show (129 : Nat) ≠ 155 by decide), sa_149 hS', sn_149 hS', sa_130 hS', sn_130 hS', sa_154 hS', sn_154 hS']
                  (try simp (disch := omega) only [nI_clamp, pz_in_nI2, pz_in_nI2L, pv_gt, nI_add, nI_addL, nI_Ladd, pk_mul, nI_mulL, nI_Lmul, pk_sub, nI_subL, nI_Lsub, nI_inc, nI_clampL, Nat.add_sub_cancel, pz_wi_else, pz_wl_else, vu_eq, vu_ne, pz_wi_gc, pz_wi_ga, pz_wi_gn, pz_wi_gl, pz_wi_gr, pz_wi_same, pz_wi_X, pz_wl_gc, pz_wl_ga, pz_wl_gn, pz_wl_gi, pz_wl_gr, pz_wl_same, pz_wl_X, pz_wr_gc, pz_wr_ga, pz_wr_gn, pz_wr_gi, pz_wr_gl, pz_wr_same, pz_wr_X, b2', f154, bI_f, f149, f129, f38, hal2, hz0, pz_wi_else (show (120 : Nat) ≠ 155 by decide), pz_wi_else (show (129 : Nat) ≠ 155 by decide)])
                  (try refine po_gI (by first | exact pz_in_nI (by omega) (by decide) | decide | assumption) ?_)
                  (try refine po_gP (by first | decide | assumption) ?_)
                  refine po_brP (fun q83 => ?_) (fun q83 => ?_)
                  · skip
                    (try simp (disch := omega) only [nI_ltI, nI_leI, nI_eq, nI_ltL, nI_leL, nI_eqL, nI_Llt, nI_Lle, nI_Leq, nI_eqm, nI_meq, nI_ltm, nI_lem, nI_mlt, nI_mle, lg0, lgl, lgg, lgle, lgge, Int32.not_lt, Int32.not_le, Int64.not_lt, Int64.not_le, not_false_eq_true, not_true_eq_false, Decidable.not_not, ge_iff_le, gt_iff_lt] at q83)
                    refine pw_blk (mi := mz_118) (b := bz_118_115) rfl rfl ?_
                    simp only [bz_118_115, pz_cut_t, pz_cut_f, pz_cut_n, pv_gt, pv_ts, pv_tn, ev_ild4, ev_nil, pz_wi_gc, pz_wi_ga, pz_wi_gn, pz_wi_gl, pz_wi_gr, pz_wi_same, pz_wi_X, pz_wl_gc, pz_wl_ga, pz_wl_gn, pz_wl_gi, pz_wl_gr, pz_wl_same, pz_wl_X, pz_wr_gc, pz_wr_ga, pz_wr_gn, pz_wr_gi, pz_wr_gl, pz_wr_same, pz_wr_X, b2', f154, bI_f, f149, f129, f38]
                    (try simp (disch := omega) only [nI_clamp, pz_in_nI2, pz_in_nI2L, pv_gt, nI_add, nI_addL, nI_Ladd, pk_mul, nI_mulL, nI_Lmul, pk_sub, nI_subL, nI_Lsub, nI_inc, nI_clampL, Nat.add_sub_cancel, pz_wi_else, pz_wl_else, vu_eq, vu_ne, pz_wi_gc, pz_wi_ga, pz_wi_gn, pz_wi_gl, pz_wi_gr, pz_wi_same, pz_wi_X, pz_wl_gc, pz_wl_ga, pz_wl_gn, pz_wl_gi, pz_wl_gr, pz_wl_same, pz_wl_X, pz_wr_gc, pz_wr_ga, pz_wr_gn, pz_wr_gi, pz_wr_gl, pz_wr_same, pz_wr_X, b2', f154, bI_f, f149, f129, f38])
                    refine po_go ?_
                    refine pw_blk (mi := mz_118) (b := bz_118_117) rfl rfl ?_
                    simp only [bz_118_117, pz_cut_t, pz_cut_f, pz_cut_n, pv_gt, pv_ts, pv_tn, ea_iast, ev_ild2, ev_ald0, ev_eld0, ev_gf11_2, ev_ild3, ea_iald, ev_isub, ev_ist2n, ev_ist2i, ev_ist2r, ev_ist2e, ev_ist2l, ev_nil, pz_wi_gc, pz_wi_ga, pz_wi_gn, pz_wi_gl, pz_wi_gr, pz_wi_same, pz_wi_X, pz_wl_gc, pz_wl_ga, pz_wl_gn, pz_wl_gi, pz_wl_gr, pz_wl_same, pz_wl_X, pz_wr_gc, pz_wr_ga, pz_wr_gn, pz_wr_gi, pz_wr_gl, pz_wr_same, pz_wr_X, so_120 hS', sr_120_48 hS', sa_155 hS', sn_155 hS', b2', f154, bI_f, f149, f129, f38, sa_149 hS', sn_149 hS', sa_130 hS', sn_130 hS', sa_154 hS', sn_154 hS', sa_129 hS', sn_129 hS']
                    (try simp (disch := omega) only [nI_clamp, pz_in_nI2, pz_in_nI2L, pv_gt, nI_add, nI_addL, nI_Ladd, pk_mul, nI_mulL, nI_Lmul, pk_sub, nI_subL, nI_Lsub, nI_inc, nI_clampL, Nat.add_sub_cancel, pz_wi_else, pz_wl_else, vu_eq, vu_ne, pz_wi_gc, pz_wi_ga, pz_wi_gn, pz_wi_gl, pz_wi_gr, pz_wi_same, pz_wi_X, pz_wl_gc, pz_wl_ga, pz_wl_gn, pz_wl_gi, pz_wl_gr, pz_wl_same, pz_wl_X, pz_wr_gc, pz_wr_ga, pz_wr_gn, pz_wr_gi, pz_wr_gl, pz_wr_same, pz_wr_X, b2', f154, bI_f, f149, f129, f38])
                    (try refine po_gI (by first | exact pz_in_nI (by omega) (by decide) | decide | assumption) ?_)
                    (try refine po_gI (by first | exact pz_in_nI (by omega) (by decide) | decide | assumption) ?_)
                    refine po_go ?_
                    refine pw_blk (mi := mz_118) (b := bz_118_127) rfl rfl ?_
                    simp only [bz_118_127, pz_cut_t, pz_cut_f, pz_cut_n, pv_gt, pv_ts, pv_tn, ev_inc3n, ev_inc3i, ev_inc3r, ev_inc3e, ev_goto, pz_wi_gc, pz_wi_ga, pz_wi_gn, pz_wi_gl, pz_wi_gr, pz_wi_same, pz_wi_X, pz_wl_gc, pz_wl_ga, pz_wl_gn, pz_wl_gi, pz_wl_gr, pz_wl_same, pz_wl_X, pz_wr_gc, pz_wr_ga, pz_wr_gn, pz_wr_gi, pz_wr_gl, pz_wr_same, pz_wr_X, b2', f154, bI_f, f149, f129, f38]
                    (try simp (disch := omega) only [nI_clamp, pz_in_nI2, pz_in_nI2L, pv_gt, nI_add, nI_addL, nI_Ladd, pk_mul, nI_mulL, nI_Lmul, pk_sub, nI_subL, nI_Lsub, nI_inc, nI_clampL, Nat.add_sub_cancel, pz_wi_else, pz_wl_else, vu_eq, vu_ne, pz_wi_gc, pz_wi_ga, pz_wi_gn, pz_wi_gl, pz_wi_gr, pz_wi_same, pz_wi_X, pz_wl_gc, pz_wl_ga, pz_wl_gn, pz_wl_gi, pz_wl_gr, pz_wl_same, pz_wl_X, pz_wr_gc, pz_wr_ga, pz_wr_gn, pz_wr_gi, pz_wr_gl, pz_wr_same, pz_wr_X, b2', f154, bI_f, f149, f129, f38])
                    refine po_go ?_
                    refine pw_cut (mi := mz_118) (b := bz_118_39) rfl rfl (hmore _ ((s.wi (by simp)).wi (by simp)) ?_ ?_) rfl
                    · rw [pz_wi_else (by decide), pz_wi_else (by decide)]; exact e120
                    · rw [pz_wi_same, vv]
                  · first
                    | exact absurd q83 (by decide)
                    | exact absurd trivial q83
                    | exact q83.elim
                    | (exfalso; (try simp (disch := omega) only [nI_ltI, nI_leI, nI_eq, nI_ltL, nI_leL, nI_eqL, nI_Llt, nI_Lle, nI_Leq, nI_eqm, nI_meq, nI_ltm, nI_lem, nI_mlt, nI_mle, lg0, lgl, lgg, lgle, lgge, Int32.not_lt, Int32.not_le, Int64.not_lt, Int64.not_le, not_false_eq_true, not_true_eq_false, Decidable.not_not, ge_iff_le, gt_iff_lt] at q83) <;> omega)
                    | exact absurd q83 (by with_reducible assumption)
                    | exact absurd (by with_reducible assumption) q83
                    | exact absurd (Decidable.not_not.mp q83) (by with_reducible assumption)
                    | exact absurd (by with_reducible assumption) (Int32.not_le.mpr q83)
                    | exact absurd (by with_reducible assumption) (Int32.not_lt.mpr q83)
                · first
                  | exact absurd q59 (by decide)
                  | exact absurd trivial q59
                  | exact q59.elim
                  | (exfalso; (try simp (disch := omega) only [nI_ltI, nI_leI, nI_eq, nI_ltL, nI_leL, nI_eqL, nI_Llt, nI_Lle, nI_Leq, nI_eqm, nI_meq, nI_ltm, nI_lem, nI_mlt, nI_mle, lg0, lgl, lgg, lgle, lgge, Int32.not_lt, Int32.not_le, Int64.not_lt, Int64.not_le, not_false_eq_true, not_true_eq_false, Decidable.not_not, ge_iff_le, gt_iff_lt] at q59) <;> omega)
                  | exact absurd q59 (by with_reducible assumption)
                  | exact absurd (by with_reducible assumption) q59
                  | exact absurd (Decidable.not_not.mp q59) (by with_reducible assumption)
                  | exact absurd (by with_reducible assumption) (Int32.not_le.mpr q59)
                  | exact absurd (by with_reducible assumption) (Int32.not_lt.mpr q59)
  refine pm_ent (L := [some (.ref 120), some (.int (nI i)), none, none, none]) rfl (Nat.le_of_ble_eq_true rfl) ?_
  refine pw_blk (mi := mz_118) (b := bz_118_0) rfl rfl ?_
  simp only [bz_118_0, pz_cut_t, pz_cut_f, pz_cut_n, pv_gt, pv_ts, pv_tn, ev_ald0, ev_eld0, ev_sp1000, ev_gf11_2, ev_ild1, ea_iald, ev_isub, ev_gf11_0, ev_imul, ev_idiv, ev_pf11_0, ev_ist2n, ev_ist2i, ev_ist2r, ev_ist2e, ev_ist2l, ev_ic0, ev_ist3n, ev_ist3i, ev_ist3r, ev_ist3e, ev_ist3l, ev_nil, pz_wi_gc, pz_wi_ga, pz_wi_gn, pz_wi_gl, pz_wi_gr, pz_wi_same, pz_wi_X, pz_wl_gc, pz_wl_ga, pz_wl_gn, pz_wl_gi, pz_wl_gr, pz_wl_same, pz_wl_X, pz_wr_gc, pz_wr_ga, pz_wr_gn, pz_wr_gi, pz_wr_gl, pz_wr_same, pz_wr_X, so_120 hS, sr_120_40 hS, sa_149 hS, sn_149 hS, sr_120_19 hS, sa_130 hS, sn_130 hS, hh, hbank, hwk, sa_155 hS, sn_155 hS, sa_154 hS, sn_154 hS, sa_129 hS, sn_129 hS]
  (try simp (disch := omega) only [nI_clamp, pz_in_nI2, pz_in_nI2L, pv_gt, nI_add, nI_addL, nI_Ladd, pk_mul, nI_mulL, nI_Lmul, pk_sub, nI_subL, nI_Lsub, nI_inc, nI_clampL, Nat.add_sub_cancel, pz_wi_else, pz_wl_else, vu_eq, vu_ne, pz_wi_gc, pz_wi_ga, pz_wi_gn, pz_wi_gl, pz_wi_gr, pz_wi_same, pz_wi_X, pz_wl_gc, pz_wl_ga, pz_wl_gn, pz_wl_gi, pz_wl_gr, pz_wl_same, pz_wl_X, pz_wr_gc, pz_wr_ga, pz_wr_gn, pz_wr_gi, pz_wr_gl, pz_wr_same, pz_wr_X, hh, hbank, hwk])
  (try refine po_gI (by first | exact pz_in_nI (by omega) (by decide) | decide | assumption) ?_)
  (try refine po_gI (by first | exact pz_in_nI (by omega) (by decide) | decide | assumption) ?_)
  (try refine po_gP (by first | decide | assumption) ?_)
  refine po_go ?_
  have k0 := key 0 (by omega) (pz_wi M 120 (va_up (gi M 120) 49 (stp wk (h i)))) (sm.wi sm.rf (by simp)) (by rw [pz_wi_same]) (fun j' hj' => absurd hj' (by omega))
  have e0 : lf 0 = 1000 - stp wk (h i) := by
    show (if mk = true then _ else _) = _
    split <;> rfl
  rw [e0] at k0
  exact k0
end BEH
