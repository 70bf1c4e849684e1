/-! ===== what the relation gives ===== -/
section NAMES
def vF (b : Nat) (g : Nat → Nat) (u : List Nat) : Nat := u.foldr (fun c a => b * a + g c) 0
theorem vF_lt {b : Nat} {g : Nat → Nat} (hb : 0 < b) : ∀ u : List Nat, (∀ c, c ∈ u → g c < b) → vF b g u < b ^ u.length
  | [], _ => by simp [vF]
  | c :: u, h => by
    have ih := vF_lt hb u (fun x hx => h x (List.mem_cons_of_mem _ hx))
    have hc := h c (List.mem_cons_self ..)
    have e : vF b g (c :: u) = b * vF b g u + g c := rfl
    rw [e, List.length_cons, Nat.pow_succ]
    have h2 : b * (vF b g u + 1) ≤ b * b ^ u.length := Nat.mul_le_mul_left _ ih
    rw [Nat.mul_add, Nat.mul_one, Nat.mul_comm b (b ^ u.length)] at h2
    omega
theorem vF_inj {b : Nat} {g : Nat → Nat} : ∀ u v : List Nat, (∀ c, c ∈ u → 0 < g c ∧ g c < b) → (∀ c, c ∈ v → 0 < g c ∧ g c < b) → (∀ c c', c ∈ u → c' ∈ v → g c = g c' → c = c') → vF b g u = vF b g v → u = v
  | [], [], _, _, _, _ => rfl
  | [], c :: v, _, hv, _, h => by
    have := (hv c (List.mem_cons_self ..)).1
    have e : vF b g (c :: v) = b * vF b g v + g c := rfl
    have e0 : vF b g [] = 0 := rfl
    omega
  | c :: u, [], hu, _, _, h => by
    have := (hu c (List.mem_cons_self ..)).1
    have e : vF b g (c :: u) = b * vF b g u + g c := rfl
    have e0 : vF b g [] = 0 := rfl
    omega
  | c :: u, c' :: v, hu, hv, hi, h => by
    have e : vF b g (c :: u) = b * vF b g u + g c := rfl
    have e' : vF b g (c' :: v) = b * vF b g v + g c' := rfl
    have h1 := (hu c (List.mem_cons_self ..))
    have h2 := (hv c' (List.mem_cons_self ..))
    rw [e, e'] at h
    have m1 : (b * vF b g u + g c) % b = g c := by rw [Nat.mul_add_mod, Nat.mod_eq_of_lt h1.2]
    have m2 : (b * vF b g v + g c') % b = g c' := by rw [Nat.mul_add_mod, Nat.mod_eq_of_lt h2.2]
    have hg : g c = g c' := by rw [← m1, ← m2, h]
    have hq : vF b g u = vF b g v := by
      rw [hg] at h
      exact Nat.eq_of_mul_eq_mul_left (by omega : 0 < b) (by omega)
    have hcc := hi c c' (List.mem_cons_self ..) (List.mem_cons_self ..) hg
    have ht := vF_inj u v (fun x hx => hu x (List.mem_cons_of_mem _ hx)) (fun x hx => hv x (List.mem_cons_of_mem _ hx)) (fun x x' a b => hi x x' (List.mem_cons_of_mem _ a) (List.mem_cons_of_mem _ b)) hq
    rw [hcc, ht]
theorem oN_inj {a b : Nat} (ha : a < 2 ^ 64) (hb : b < 2 ^ 64) (h : Int64.ofNat a = Int64.ofNat b) : a = b := by
  have := congrArg (fun x => x.toBitVec.toNat) h
  have e1 : (Int64.ofNat a).toBitVec.toNat = a % 2 ^ 64 := rfl
  have e2 : (Int64.ofNat b).toBitVec.toNat = b % 2 ^ 64 := rfl
  simp only [e1, e2] at this
  rwa [Nat.mod_eq_of_lt ha, Nat.mod_eq_of_lt hb] at this
theorem p5_vF (w : List Nat) : p5 w = Int64.ofNat (vF 32 (fun c => c - 96) w.reverse) := by
  unfold p5 vF
  rw [List.foldr_reverse]
theorem p8_vF (w : List Nat) : p8 w = Int64.ofNat (vF 256 (fun c => c) w.reverse) := by
  unfold p8 vF
  rw [List.foldr_reverse]
theorem p5_inj {w v : List Nat} (hw : isWd w) (hv : isWd v) (h : p5 w = p5 v) : w = v := by
  rw [p5_vF, p5_vF] at h
  have bw : ∀ c, c ∈ w.reverse → 97 ≤ c ∧ c ≤ 122 := fun c hc => hw.2 c (List.mem_reverse.mp hc)
  have bv : ∀ c, c ∈ v.reverse → 97 ≤ c ∧ c ≤ 122 := fun c hc => hv.2 c (List.mem_reverse.mp hc)
  have lw := vF_lt (b := 32) (g := fun c => c - 96) (by decide) w.reverse (fun c hc => by have := bw c hc; omega)
  have lv := vF_lt (b := 32) (g := fun c => c - 96) (by decide) v.reverse (fun c hc => by have := bv c hc; omega)
  rw [List.length_reverse] at lw lv
  have pw : 32 ^ w.length ≤ 32 ^ 8 := Nat.pow_le_pow_right (by decide) hw.1
  have pv : 32 ^ v.length ≤ 32 ^ 8 := Nat.pow_le_pow_right (by decide) hv.1
  have e := oN_inj (by omega) (by omega) h
  exact List.reverse_inj.mp (vF_inj _ _ (fun c hc => by have := bw c hc; omega) (fun c hc => by have := bv c hc; omega) (fun c c' hc hc' q => by have := bw c hc; have := bv c' hc'; omega) e)
theorem p8_inj {w v : List Nat} (hw : isWd w) (hv : isWd v) (h : p8 w = p8 v) : w = v := by
  rw [p8_vF, p8_vF] at h
  have bw : ∀ c, c ∈ w.reverse → 97 ≤ c ∧ c ≤ 122 := fun c hc => hw.2 c (List.mem_reverse.mp hc)
  have bv : ∀ c, c ∈ v.reverse → 97 ≤ c ∧ c ≤ 122 := fun c hc => hv.2 c (List.mem_reverse.mp hc)
  have lw := vF_lt (b := 256) (g := fun c => c) (by decide) w.reverse (fun c hc => by have := bw c hc; omega)
  have lv := vF_lt (b := 256) (g := fun c => c) (by decide) v.reverse (fun c hc => by have := bv c hc; omega)
  rw [List.length_reverse] at lw lv
  have pw : 256 ^ w.length ≤ 256 ^ 8 := Nat.pow_le_pow_right (by decide) hw.1
  have pv : 256 ^ v.length ≤ 256 ^ 8 := Nat.pow_le_pow_right (by decide) hv.1
  have e := oN_inj (by omega) (by omega) h
  exact List.reverse_inj.mp (vF_inj _ _ (fun c hc => by have := bw c hc; omega) (fun c hc => by have := bv c hc; omega) (fun c c' hc hc' q => q) e)
theorem nmR.eq {x y x' y' : Int64} (h : nmR x y) (h' : nmR x' y') : x = x' ↔ y = y' := by
  obtain ⟨w, hw, e1, e2⟩ := h
  obtain ⟨v, hv, f1, f2⟩ := h'
  rw [e1, e2, f1, f2]
  exact ⟨fun q => by rw [p5_inj hw hv q], fun q => by rw [p8_inj hw hv q]⟩
end NAMES
section ACC
variable {d : Nat} {M M' : pz_M} {r B H P N D E y t L nd np nr : Nat}
theorem RA.S (h : RA M r B H P N D E y t L nd np nr) : SH M := h.1
theorem RA.X (h : RA M r B H P N D E y t L nd np nr) : RX M r D E y t L nd np nr := h.2.1
theorem RA.sc (h : RA M r B H P N D E y t L nd np nr) : RSc M 4 r B H P N := h.2.2.1
theorem RA.m (h : RA M r B H P N D E y t L nd np nr) : RMr M B D E := h.2.2.2.1
theorem RA.z (h : RA M r B H P N D E y t L nd np nr) : RZ M := h.2.2.2.2.1
theorem RA.di (h : RA M r B H P N D E y t L nd np nr) : RDi M nd B := h.2.2.2.2.2.1
theorem RA.pa (h : RA M r B H P N D E y t L nd np nr) : RPa M np B := h.2.2.2.2.2.2.1
theorem RA.tb (h : RA M r B H P N D E y t L nd np nr) : RTb M := h.2.2.2.2.2.2.2.1
theorem RA.fl (h : RA M r B H P N D E y t L nd np nr) : RFl M B := h.2.2.2.2.2.2.2.2.1
theorem RA.ok (h : RA M r B H P N D E y t L nd np nr) : okB M := (h.X.isok h.sc.1.1).1
theorem RA.bk (h : RA M r B H P N D E y t L nd np nr) : bk M = r := (h.X.isok h.sc.1.1).2
theorem RA.B24 (h : RA M r B H P N D E y t L nd np nr) : B ≤ 24 := h.sc.1.2.1
theorem RA.r1 (h : RA M r B H P N D E y t L nd np nr) : r ≤ 1 := h.sc.1.1
theorem RA.b1 (h : RA M r B H P N D E y t L nd np nr) : gi M 4 0 = nI B := h.sc.2.1.1
theorem RA.b2 (h : RA M r B H P N D E y t L nd np nr) : nb M = nI B := by
  unfold nb
  rw [h.bk]
  exact h.sc.2.1.2.1
theorem RA.lk (h : RA M r B H P N D E y t L nd np nr) : Rlk M := ⟨B, h.B24, h.b1, h.b2, fun i j hi hj => by
  unfold rlk
  rw [h.bk]
  exact nmR.eq (h.sc.2.2.2.1 i hi).1 (h.sc.2.2.2.1 j hj).1⟩
theorem RA.rd (h : RA M r B H P N D E y t L nd np nr) : RD M := by
  obtain ⟨e1, e2, e3, e4, h5⟩ := h.di
  obtain ⟨x1, x2, x3⟩ := h.X.2.2.2.2.2.2.2.1
  refine ⟨nd, x3, x1, x2, fun i hi => ?_⟩
  rw [e1, e2, e3, e4]
  exact ⟨rfl, rfl, rfl, rfl, by rw [← e4]; exact (h5 i hi).1⟩
end ACC
/-! ===== saved ===== -/
section SAVED
variable {d : Nat} {M M' : pz_M} {Q : Option Value × pz_M → Prop}
def oI : Option Nat → Int32
  | some i => nI i
  | none => -1
/-- the bit i of an int -/
def dbt (a : Int32) (i : Nat) : Int32 := (a >>> (nI i &&& 31)) &&& 1
theorem dbt_T : ∀ i, i < 24 → ((nI i &&& 31).toBitVec.smod 32).toNat = i := by decide +kernel
theorem dbt_nI {D i : Nat} (hD : D < 2 ^ 24) (hi : i < 24) : dbt (nI D) i = bI (D.testBit i) := by
  unfold dbt
  rw [pk_shrN (by omega) _ i (dbt_T i hi)]
  have h1 : D / 2 ^ i < 2 ^ 32 := Nat.lt_of_le_of_lt (Nat.div_le_self _ _) (by omega)
  rw [show ((1 : Int32)) = nI 1 from rfl, pk_andN h1 1 (by decide)]
  rw [Nat.testBit_eq_decide_div_mod_eq]
  unfold bI
  have : D / 2 ^ i % 2 ^ 1 < 2 := Nat.mod_lt _ (by decide)
  by_cases q : D / 2 ^ i % 2 = 1
  · rw [decide_eq_true q, if_pos rfl, show D / 2 ^ i % 2 ^ 1 = 1 by omega]
    rfl
  · rw [decide_eq_false q, if_neg (by decide), show D / 2 ^ i % 2 ^ 1 = 0 by omega]
    rfl
theorem dbt_raw {D i : Nat} (hD : D < 2 ^ 24) (hi : i < 24) : (nI D >>> (nI i &&& 31)) &&& 1 = bI (D.testBit i) := dbt_nI hD hi
/-- the first door among c from i on that is no more than s above b -/
def dor (p : Nat → Bool) (s b : Nat) : Nat → Nat → Option Nat
  | 0, _ => none
  | c + 1, i => if s < i - b then none else if p i = true then some i else dor p s b c (i + 1)
theorem dor_far {p : Nat → Bool} {s b : Nat} : ∀ c i, s < i - b → dor p s b c i = none
  | 0, _, _ => rfl
  | _ + 1, _, h => by rw [dor, if_pos h]
theorem dor_lt {p : Nat → Bool} {s b : Nat} : ∀ c i j, dor p s b c i = some j → i ≤ j ∧ j < i + c ∧ j - b ≤ s ∧ p j = true
  | 0, _, _, h => by cases h
  | c + 1, i, j, h => by
    rw [dor] at h
    split at h
    · cases h
    · split at h
      · cases h
        exact ⟨Nat.le_refl _, by omega, by omega, by assumption⟩
      · have := dor_lt c (i + 1) j h
        exact ⟨by omega, by omega, this.2.2.1, this.2.2.2⟩
theorem m_doorFor (hS : SH M) {B s b : Nat} {a : Int32} {p : Nat → Bool} (hn : gi M 4 0 = nI B) (hB : B ≤ 24) (hs : gi M 17 4 = nI s) (hs2 : s ≤ 24) (hb : b < 24) (hp : ∀ i, i < B → dbt a i = bI (p i)) (h : Q (some (.int (oI (dor p s b (B - (b + 1)) (b + 1)))), M)) : pm d 119 [.ref 4, .int (nI b), .int a] M Q := by
  have key : ∀ c i, b + 1 ≤ i → i + c = B ∨ (c = 0 ∧ B ≤ i ∧ i ≤ 24) → Q (some (.int (oI (dor p s b c i))), M) → pw d 119 (4, [some (.ref 4), some (.int (nI b)), some (.int a), some (.int (nI i))], [], M) Q := by
    intro c
    induction c with
    | zero =>
      intro i hi h1 h
      refine pw_blk (mi := mz_119) (b := bz_119_4) rfl rfl ?_
      simp only [bz_119_4, pz_cut_t, pz_cut_f, pz_cut_n, pv_gt, pv_ts, pv_tn, ev_ild3, ev_ald0, ev_eld0, ev_gf8_0, ev_ic_ge, pz_wi_gc, pz_wi_ga, pz_wi_gn, pz_wi_gl, pz_wi_gr, pz_wi_same, pz_wi_X, pz_wl_gc, pz_wl_ga, pz_wl_gn, pz_wl_gi, pz_wl_gr, pz_wl_same, pz_wl_X, pz_wr_gc, pz_wr_ga, pz_wr_gn, pz_wr_gi, pz_wr_gl, pz_wr_same, pz_wr_X, so_4 hS, hn]
      (try simp (disch := omega) only [nI_clamp, pz_in_nI2, pz_in_nI2L, pv_gt, nI_add, nI_addL, nI_Ladd, pk_mul, nI_mulL, nI_Lmul, pk_sub, nI_subL, nI_Lsub, nI_inc, nI_clampL, Nat.add_sub_cancel, pz_wi_else, pz_wl_else, vu_eq, vu_ne, pz_wi_gc, pz_wi_ga, pz_wi_gn, pz_wi_gl, pz_wi_gr, pz_wi_same, pz_wi_X, pz_wl_gc, pz_wl_ga, pz_wl_gn, pz_wl_gi, pz_wl_gr, pz_wl_same, pz_wl_X, pz_wr_gc, pz_wr_ga, pz_wr_gn, pz_wr_gi, pz_wr_gl, pz_wr_same, pz_wr_X, hn])
      refine po_brP (fun q4 => ?_) (fun q4 => ?_)
      · skip
        (try simp (disch := omega) only [nI_ltI, nI_leI, nI_eq, nI_ltL, nI_leL, nI_eqL, nI_Llt, nI_Lle, nI_Leq, nI_eqm, nI_meq, nI_ltm, nI_lem, nI_mlt, nI_mle, lg0, lgl, lgg, lgle, lgge, Int32.not_lt, Int32.not_le, Int64.not_lt, Int64.not_le, not_false_eq_true, not_true_eq_false, Decidable.not_not, ge_iff_le, gt_iff_lt] at q4)
        refine pw_blk (mi := mz_119) (b := bz_119_40) rfl rfl ?_
        simp only [bz_119_40, pz_cut_t, pz_cut_f, pz_cut_n, pv_gt, pv_ts, pv_tn, ev_icm1, ev_iret0, pz_wi_gc, pz_wi_ga, pz_wi_gn, pz_wi_gl, pz_wi_gr, pz_wi_same, pz_wi_X, pz_wl_gc, pz_wl_ga, pz_wl_gn, pz_wl_gi, pz_wl_gr, pz_wl_same, pz_wl_X, pz_wr_gc, pz_wr_ga, pz_wr_gn, pz_wr_gi, pz_wr_gl, pz_wr_same, pz_wr_X, hn]
        (try simp (disch := omega) only [nI_clamp, pz_in_nI2, pz_in_nI2L, pv_gt, nI_add, nI_addL, nI_Ladd, pk_mul, nI_mulL, nI_Lmul, pk_sub, nI_subL, nI_Lsub, nI_inc, nI_clampL, Nat.add_sub_cancel, pz_wi_else, pz_wl_else, vu_eq, vu_ne, pz_wi_gc, pz_wi_ga, pz_wi_gn, pz_wi_gl, pz_wi_gr, pz_wi_same, pz_wi_X, pz_wl_gc, pz_wl_ga, pz_wl_gn, pz_wl_gi, pz_wl_gr, pz_wl_same, pz_wl_X, pz_wr_gc, pz_wr_ga, pz_wr_gn, pz_wr_gi, pz_wr_gl, pz_wr_same, pz_wr_X, hn])
        exact h
      · first
        | exact absurd q4 (by decide)
        | exact absurd trivial q4
        | exact q4.elim
        | (exfalso; (try simp (disch := omega) only [nI_ltI, nI_leI, nI_eq, nI_ltL, nI_leL, nI_eqL, nI_Llt, nI_Lle, nI_Leq, nI_eqm, nI_meq, nI_ltm, nI_lem, nI_mlt, nI_mle, lg0, lgl, lgg, lgle, lgge, Int32.not_lt, Int32.not_le, Int64.not_lt, Int64.not_le, not_false_eq_true, not_true_eq_false, Decidable.not_not, ge_iff_le, gt_iff_lt] at q4) <;> omega)
        | exact absurd q4 (by with_reducible assumption)
        | exact absurd (by with_reducible assumption) q4
        | exact absurd (Decidable.not_not.mp q4) (by with_reducible assumption)
        | exact absurd (by with_reducible assumption) (Int32.not_le.mpr q4)
        | exact absurd (by with_reducible assumption) (Int32.not_lt.mpr q4)
    | succ c ih =>
      intro i hi h1 h
      rw [dor] at h
      have hpi := hp i (by omega)
      unfold dbt at hpi
      refine pw_blk (mi := mz_119) (b := bz_119_4) rfl rfl ?_
      simp only [bz_119_4, pz_cut_t, pz_cut_f, pz_cut_n, pv_gt, pv_ts, pv_tn, ev_ild3, ev_ald0, ev_eld0, ev_gf8_0, ev_ic_ge, pz_wi_gc, pz_wi_ga, pz_wi_gn, pz_wi_gl, pz_wi_gr, pz_wi_same, pz_wi_X, pz_wl_gc, pz_wl_ga, pz_wl_gn, pz_wl_gi, pz_wl_gr, pz_wl_same, pz_wl_X, pz_wr_gc, pz_wr_ga, pz_wr_gn, pz_wr_gi, pz_wr_gl, pz_wr_same, pz_wr_X, so_4 hS, hn, hs, hpi]
      (try simp (disch := omega) only [nI_clamp, pz_in_nI2, pz_in_nI2L, pv_gt, nI_add, nI_addL, nI_Ladd, pk_mul, nI_mulL, nI_Lmul, pk_sub, nI_subL, nI_Lsub, nI_inc, nI_clampL, Nat.add_sub_cancel, pz_wi_else, pz_wl_else, vu_eq, vu_ne, pz_wi_gc, pz_wi_ga, pz_wi_gn, pz_wi_gl, pz_wi_gr, pz_wi_same, pz_wi_X, pz_wl_gc, pz_wl_ga, pz_wl_gn, pz_wl_gi, pz_wl_gr, pz_wl_same, pz_wl_X, pz_wr_gc, pz_wr_ga, pz_wr_gn, pz_wr_gi, pz_wr_gl, pz_wr_same, pz_wr_X, hn, hs, hpi])
      refine po_brP (fun q4 => ?_) (fun q4 => ?_)
      · first
        | exact absurd q4 (by decide)
        | exact absurd trivial q4
        | exact q4.elim
        | (exfalso; (try simp (disch := omega) only [nI_ltI, nI_leI, nI_eq, nI_ltL, nI_leL, nI_eqL, nI_Llt, nI_Lle, nI_Leq, nI_eqm, nI_meq, nI_ltm, nI_lem, nI_mlt, nI_mle, lg0, lgl, lgg, lgle, lgge, Int32.not_lt, Int32.not_le, Int64.not_lt, Int64.not_le, not_false_eq_true, not_true_eq_false, Decidable.not_not, ge_iff_le, gt_iff_lt] at q4) <;> omega)
        | exact absurd q4 (by with_reducible assumption)
        | exact absurd (by with_reducible assumption) q4
        | exact absurd (Decidable.not_not.mp q4) (by with_reducible assumption)
        | exact absurd (by with_reducible assumption) (Int32.not_le.mpr q4)
        | exact absurd (by with_reducible assumption) (Int32.not_lt.mpr q4)
        | skip
          (try simp (disch := omega) only [nI_ltI, nI_leI, nI_eq, nI_ltL, nI_leL, nI_eqL, nI_Llt, nI_Lle, nI_Leq, nI_eqm, nI_meq, nI_ltm, nI_lem, nI_mlt, nI_mle, lg0, lgl, lgg, lgle, lgge, Int32.not_lt, Int32.not_le, Int64.not_lt, Int64.not_le, not_false_eq_true, not_true_eq_false, Decidable.not_not, ge_iff_le, gt_iff_lt] at q4)
          refine pw_blk (mi := mz_119) (b := bz_119_40) rfl rfl ?_
          simp only [bz_119_40, pz_cut_t, pz_cut_f, pz_cut_n, pv_gt, pv_ts, pv_tn, ev_icm1, ev_iret0, pz_wi_gc, pz_wi_ga, pz_wi_gn, pz_wi_gl, pz_wi_gr, pz_wi_same, pz_wi_X, pz_wl_gc, pz_wl_ga, pz_wl_gn, pz_wl_gi, pz_wl_gr, pz_wl_same, pz_wl_X, pz_wr_gc, pz_wr_ga, pz_wr_gn, pz_wr_gi, pz_wr_gl, pz_wr_same, pz_wr_X, hn, hs, hpi]
          (try simp (disch := omega) only [nI_clamp, pz_in_nI2, pz_in_nI2L, pv_gt, nI_add, nI_addL, nI_Ladd, pk_mul, nI_mulL, nI_Lmul, pk_sub, nI_subL, nI_Lsub, nI_inc, nI_clampL, Nat.add_sub_cancel, pz_wi_else, pz_wl_else, vu_eq, vu_ne, pz_wi_gc, pz_wi_ga, pz_wi_gn, pz_wi_gl, pz_wi_gr, pz_wi_same, pz_wi_X, pz_wl_gc, pz_wl_ga, pz_wl_gn, pz_wl_gi, pz_wl_gr, pz_wl_same, pz_wl_X, pz_wr_gc, pz_wr_ga, pz_wr_gn, pz_wr_gi, pz_wr_gl, pz_wr_same, pz_wr_X, hn, hs, hpi])
          exact h
      · first
        | exact absurd q4 (by decide)
        | exact absurd trivial q4
        | exact q4.elim
        | (exfalso; (try simp (disch := omega) only [nI_ltI, nI_leI, nI_eq, nI_ltL, nI_leL, nI_eqL, nI_Llt, nI_Lle, nI_Leq, nI_eqm, nI_meq, nI_ltm, nI_lem, nI_mlt, nI_mle, lg0, lgl, lgg, lgle, lgge, Int32.not_lt, Int32.not_le, Int64.not_lt, Int64.not_le, not_false_eq_true, not_true_eq_false, Decidable.not_not, ge_iff_le, gt_iff_lt] at q4) <;> omega)
        | exact absurd q4 (by with_reducible assumption)
        | exact absurd (by with_reducible assumption) q4
        | exact absurd (Decidable.not_not.mp q4) (by with_reducible assumption)
        | exact absurd (by with_reducible assumption) (Int32.not_le.mpr q4)
        | exact absurd (by with_reducible assumption) (Int32.not_lt.mpr q4)
        | skip
          (try simp (disch := omega) only [nI_ltI, nI_leI, nI_eq, nI_ltL, nI_leL, nI_eqL, nI_Llt, nI_Lle, nI_Leq, nI_eqm, nI_meq, nI_ltm, nI_lem, nI_mlt, nI_mle, lg0, lgl, lgg, lgle, lgge, Int32.not_lt, Int32.not_le, Int64.not_lt, Int64.not_le, not_false_eq_true, not_true_eq_false, Decidable.not_not, ge_iff_le, gt_iff_lt] at q4)
          refine pw_blk (mi := mz_119) (b := bz_119_12) rfl rfl ?_
          simp only [bz_119_12, pz_cut_t, pz_cut_f, pz_cut_n, pv_gt, pv_ts, pv_tn, ev_ild3, ev_ild1, ev_isub, ev_ald0, ev_eld0, ev_gf8_2, ev_ic4, ea_iald, ev_ic_gt, pz_wi_gc, pz_wi_ga, pz_wi_gn, pz_wi_gl, pz_wi_gr, pz_wi_same, pz_wi_X, pz_wl_gc, pz_wl_ga, pz_wl_gn, pz_wl_gi, pz_wl_gr, pz_wl_same, pz_wl_X, pz_wr_gc, pz_wr_ga, pz_wr_gn, pz_wr_gi, pz_wr_gl, pz_wr_same, pz_wr_X, so_4 hS, sr_4_19 hS, sa_17 hS, sn_17 hS, hn, hs, hpi]
          (try simp (disch := omega) only [nI_clamp, pz_in_nI2, pz_in_nI2L, pv_gt, nI_add, nI_addL, nI_Ladd, pk_mul, nI_mulL, nI_Lmul, pk_sub, nI_subL, nI_Lsub, nI_inc, nI_clampL, Nat.add_sub_cancel, pz_wi_else, pz_wl_else, vu_eq, vu_ne, pz_wi_gc, pz_wi_ga, pz_wi_gn, pz_wi_gl, pz_wi_gr, pz_wi_same, pz_wi_X, pz_wl_gc, pz_wl_ga, pz_wl_gn, pz_wl_gi, pz_wl_gr, pz_wl_same, pz_wl_X, pz_wr_gc, pz_wr_ga, pz_wr_gn, pz_wr_gi, pz_wr_gl, pz_wr_same, pz_wr_X, hn, hs, hpi])
          (try refine po_gI (by first | exact pz_in_nI (by omega) (by decide) | decide | assumption) ?_)
          refine po_brP (fun q12 => ?_) (fun q12 => ?_)
          · first
            | exact absurd q12 (by decide)
            | exact absurd trivial q12
            | exact q12.elim
            | (exfalso; (try simp (disch := omega) only [nI_ltI, nI_leI, nI_eq, nI_ltL, nI_leL, nI_eqL, nI_Llt, nI_Lle, nI_Leq, nI_eqm, nI_meq, nI_ltm, nI_lem, nI_mlt, nI_mle, lg0, lgl, lgg, lgle, lgge, Int32.not_lt, Int32.not_le, Int64.not_lt, Int64.not_le, not_false_eq_true, not_true_eq_false, Decidable.not_not, ge_iff_le, gt_iff_lt] at q12) <;> omega)
            | exact absurd q12 (by with_reducible assumption)
            | exact absurd (by with_reducible assumption) q12
            | exact absurd (Decidable.not_not.mp q12) (by with_reducible assumption)
            | exact absurd (by with_reducible assumption) (Int32.not_le.mpr q12)
            | exact absurd (by with_reducible assumption) (Int32.not_lt.mpr q12)
            | skip
              (try simp (disch := omega) only [nI_ltI, nI_leI, nI_eq, nI_ltL, nI_leL, nI_eqL, nI_Llt, nI_Lle, nI_Leq, nI_eqm, nI_meq, nI_ltm, nI_lem, nI_mlt, nI_mle, lg0, lgl, lgg, lgle, lgge, Int32.not_lt, Int32.not_le, Int64.not_lt, Int64.not_le, not_false_eq_true, not_true_eq_false, Decidable.not_not, ge_iff_le, gt_iff_lt] at q12)
              rw [if_pos (by omega)] at h
              refine pw_blk (mi := mz_119) (b := bz_119_40) rfl rfl ?_
              simp only [bz_119_40, pz_cut_t, pz_cut_f, pz_cut_n, pv_gt, pv_ts, pv_tn, ev_icm1, ev_iret0, pz_wi_gc, pz_wi_ga, pz_wi_gn, pz_wi_gl, pz_wi_gr, pz_wi_same, pz_wi_X, pz_wl_gc, pz_wl_ga, pz_wl_gn, pz_wl_gi, pz_wl_gr, pz_wl_same, pz_wl_X, pz_wr_gc, pz_wr_ga, pz_wr_gn, pz_wr_gi, pz_wr_gl, pz_wr_same, pz_wr_X, hn, hs, hpi]
              (try simp (disch := omega) only [nI_clamp, pz_in_nI2, pz_in_nI2L, pv_gt, nI_add, nI_addL, nI_Ladd, pk_mul, nI_mulL, nI_Lmul, pk_sub, nI_subL, nI_Lsub, nI_inc, nI_clampL, Nat.add_sub_cancel, pz_wi_else, pz_wl_else, vu_eq, vu_ne, pz_wi_gc, pz_wi_ga, pz_wi_gn, pz_wi_gl, pz_wi_gr, pz_wi_same, pz_wi_X, pz_wl_gc, pz_wl_ga, pz_wl_gn, pz_wl_gi, pz_wl_gr, pz_wl_same, pz_wl_X, pz_wr_gc, pz_wr_ga, pz_wr_gn, pz_wr_gi, pz_wr_gl, pz_wr_same, pz_wr_X, hn, hs, hpi])
              exact h
          · first
            | exact absurd q12 (by decide)
            | exact absurd trivial q12
            | exact q12.elim
            | (exfalso; (try simp (disch := omega) only [nI_ltI, nI_leI, nI_eq, nI_ltL, nI_leL, nI_eqL, nI_Llt, nI_Lle, nI_Leq, nI_eqm, nI_meq, nI_ltm, nI_lem, nI_mlt, nI_mle, lg0, lgl, lgg, lgle, lgge, Int32.not_lt, Int32.not_le, Int64.not_lt, Int64.not_le, not_false_eq_true, not_true_eq_false, Decidable.not_not, ge_iff_le, gt_iff_lt] at q12) <;> omega)
            | exact absurd q12 (by with_reducible assumption)
            | exact absurd (by with_reducible assumption) q12
            | exact absurd (Decidable.not_not.mp q12) (by with_reducible assumption)
            | exact absurd (by with_reducible assumption) (Int32.not_le.mpr q12)
            | exact absurd (by with_reducible assumption) (Int32.not_lt.mpr q12)
            | skip
              (try simp (disch := omega) only [nI_ltI, nI_leI, nI_eq, nI_ltL, nI_leL, nI_eqL, nI_Llt, nI_Lle, nI_Leq, nI_eqm, nI_meq, nI_ltm, nI_lem, nI_mlt, nI_mle, lg0, lgl, lgg, lgle, lgge, Int32.not_lt, Int32.not_le, Int64.not_lt, Int64.not_le, not_false_eq_true, not_true_eq_false, Decidable.not_not, ge_iff_le, gt_iff_lt] at q12)
              rw [if_neg (by omega)] at h
              refine pw_blk (mi := mz_119) (b := bz_119_24) rfl rfl ?_
              simp only [bz_119_24, pz_cut_t, pz_cut_f, pz_cut_n, pv_gt, pv_ts, pv_tn, ev_ild2, ev_ild3, ev_ishr, ev_ic1, ev_iand, ev_ifeq, pz_wi_gc, pz_wi_ga, pz_wi_gn, pz_wi_gl, pz_wi_gr, pz_wi_same, pz_wi_X, pz_wl_gc, pz_wl_ga, pz_wl_gn, pz_wl_gi, pz_wl_gr, pz_wl_same, pz_wl_X, pz_wr_gc, pz_wr_ga, pz_wr_gn, pz_wr_gi, pz_wr_gl, pz_wr_same, pz_wr_X, hn, hs, hpi]
              (try simp (disch := omega) only [nI_clamp, pz_in_nI2, pz_in_nI2L, pv_gt, nI_add, nI_addL, nI_Ladd, pk_mul, nI_mulL, nI_Lmul, pk_sub, nI_subL, nI_Lsub, nI_inc, nI_clampL, Nat.add_sub_cancel, pz_wi_else, pz_wl_else, vu_eq, vu_ne, pz_wi_gc, pz_wi_ga, pz_wi_gn, pz_wi_gl, pz_wi_gr, pz_wi_same, pz_wi_X, pz_wl_gc, pz_wl_ga, pz_wl_gn, pz_wl_gi, pz_wl_gr, pz_wl_same, pz_wl_X, pz_wr_gc, pz_wr_ga, pz_wr_gn, pz_wr_gi, pz_wr_gl, pz_wr_same, pz_wr_X, hn, hs, hpi])
              refine po_brP (fun q24 => ?_) (fun q24 => ?_)
              · first
                | exact absurd q24 (by decide)
                | exact absurd trivial q24
                | exact q24.elim
                | (exfalso; (try simp (disch := omega) only [nI_ltI, nI_leI, nI_eq, nI_ltL, nI_leL, nI_eqL, nI_Llt, nI_Lle, nI_Leq, nI_eqm, nI_meq, nI_ltm, nI_lem, nI_mlt, nI_mle, lg0, lgl, lgg, lgle, lgge, Int32.not_lt, Int32.not_le, Int64.not_lt, Int64.not_le, not_false_eq_true, not_true_eq_false, Decidable.not_not, ge_iff_le, gt_iff_lt] at q24) <;> omega)
                | exact absurd q24 (by with_reducible assumption)
                | exact absurd (by with_reducible assumption) q24
                | exact absurd (Decidable.not_not.mp q24) (by with_reducible assumption)
                | exact absurd (by with_reducible assumption) (Int32.not_le.mpr q24)
                | exact absurd (by with_reducible assumption) (Int32.not_lt.mpr q24)
                | skip
                  (try simp (disch := omega) only [nI_ltI, nI_leI, nI_eq, nI_ltL, nI_leL, nI_eqL, nI_Llt, nI_Lle, nI_Leq, nI_eqm, nI_meq, nI_ltm, nI_lem, nI_mlt, nI_mle, lg0, lgl, lgg, lgle, lgge, Int32.not_lt, Int32.not_le, Int64.not_lt, Int64.not_le, not_false_eq_true, not_true_eq_false, Decidable.not_not, ge_iff_le, gt_iff_lt] at q24)
                  rw [if_neg (by intro z; rw [z] at q24; exact absurd q24 (by decide))] at h
                  refine pw_blk (mi := mz_119) (b := bz_119_34) rfl rfl ?_
                  simp only [bz_119_34, pz_cut_t, pz_cut_f, pz_cut_n, pv_gt, pv_ts, pv_tn, ev_inc3n, ev_inc3i, ev_inc3r, ev_inc3e, ev_goto, pz_wi_gc, pz_wi_ga, pz_wi_gn, pz_wi_gl, pz_wi_gr, pz_wi_same, pz_wi_X, pz_wl_gc, pz_wl_ga, pz_wl_gn, pz_wl_gi, pz_wl_gr, pz_wl_same, pz_wl_X, pz_wr_gc, pz_wr_ga, pz_wr_gn, pz_wr_gi, pz_wr_gl, pz_wr_same, pz_wr_X, hn, hs, hpi]
                  (try simp (disch := omega) only [nI_clamp, pz_in_nI2, pz_in_nI2L, pv_gt, nI_add, nI_addL, nI_Ladd, pk_mul, nI_mulL, nI_Lmul, pk_sub, nI_subL, nI_Lsub, nI_inc, nI_clampL, Nat.add_sub_cancel, pz_wi_else, pz_wl_else, vu_eq, vu_ne, pz_wi_gc, pz_wi_ga, pz_wi_gn, pz_wi_gl, pz_wi_gr, pz_wi_same, pz_wi_X, pz_wl_gc, pz_wl_ga, pz_wl_gn, pz_wl_gi, pz_wl_gr, pz_wl_same, pz_wl_X, pz_wr_gc, pz_wr_ga, pz_wr_gn, pz_wr_gi, pz_wr_gl, pz_wr_same, pz_wr_X, hn, hs, hpi])
                  refine po_go ?_
                  exact ih (i + 1) (by omega) (by omega) h
              · first
                | exact absurd q24 (by decide)
                | exact absurd trivial q24
                | exact q24.elim
                | (exfalso; (try simp (disch := omega) only [nI_ltI, nI_leI, nI_eq, nI_ltL, nI_leL, nI_eqL, nI_Llt, nI_Lle, nI_Leq, nI_eqm, nI_meq, nI_ltm, nI_lem, nI_mlt, nI_mle, lg0, lgl, lgg, lgle, lgge, Int32.not_lt, Int32.not_le, Int64.not_lt, Int64.not_le, not_false_eq_true, not_true_eq_false, Decidable.not_not, ge_iff_le, gt_iff_lt] at q24) <;> omega)
                | exact absurd q24 (by with_reducible assumption)
                | exact absurd (by with_reducible assumption) q24
                | exact absurd (Decidable.not_not.mp q24) (by with_reducible assumption)
                | exact absurd (by with_reducible assumption) (Int32.not_le.mpr q24)
                | exact absurd (by with_reducible assumption) (Int32.not_lt.mpr q24)
                | skip
                  (try simp (disch := omega) only [nI_ltI, nI_leI, nI_eq, nI_ltL, nI_leL, nI_eqL, nI_Llt, nI_Lle, nI_Leq, nI_eqm, nI_meq, nI_ltm, nI_lem, nI_mlt, nI_mle, lg0, lgl, lgg, lgle, lgge, Int32.not_lt, Int32.not_le, Int64.not_lt, Int64.not_le, not_false_eq_true, not_true_eq_false, Decidable.not_not, ge_iff_le, gt_iff_lt] at q24)
                  rw [if_pos (by cases z : p i with | true => rfl | false => rw [z] at q24; exact absurd rfl q24)] at h
                  refine pw_blk (mi := mz_119) (b := bz_119_32) rfl rfl ?_
                  simp only [bz_119_32, pz_cut_t, pz_cut_f, pz_cut_n, pv_gt, pv_ts, pv_tn, ev_ild3, ev_iret0, pz_wi_gc, pz_wi_ga, pz_wi_gn, pz_wi_gl, pz_wi_gr, pz_wi_same, pz_wi_X, pz_wl_gc, pz_wl_ga, pz_wl_gn, pz_wl_gi, pz_wl_gr, pz_wl_same, pz_wl_X, pz_wr_gc, pz_wr_ga, pz_wr_gn, pz_wr_gi, pz_wr_gl, pz_wr_same, pz_wr_X, hn, hs, hpi]
                  (try simp (disch := omega) only [nI_clamp, pz_in_nI2, pz_in_nI2L, pv_gt, nI_add, nI_addL, nI_Ladd, pk_mul, nI_mulL, nI_Lmul, pk_sub, nI_subL, nI_Lsub, nI_inc, nI_clampL, Nat.add_sub_cancel, pz_wi_else, pz_wl_else, vu_eq, vu_ne, pz_wi_gc, pz_wi_ga, pz_wi_gn, pz_wi_gl, pz_wi_gr, pz_wi_same, pz_wi_X, pz_wl_gc, pz_wl_ga, pz_wl_gn, pz_wl_gi, pz_wl_gr, pz_wl_same, pz_wl_X, pz_wr_gc, pz_wr_ga, pz_wr_gn, pz_wr_gi, pz_wr_gl, pz_wr_same, pz_wr_X, hn, hs, hpi])
                  exact h
  refine pm_ent (L := [some (.ref 4), some (.int (nI b)), some (.int a), none]) rfl (Nat.le_of_ble_eq_true rfl) ?_
  refine pw_blk (mi := mz_119) (b := bz_119_0) rfl rfl ?_
  simp only [bz_119_0, pz_cut_t, pz_cut_f, pz_cut_n, pv_gt, pv_ts, pv_tn, ev_ild1, ev_ic1, ev_iadd, ev_ist3n, ev_ist3i, ev_ist3r, ev_ist3e, ev_ist3l, ev_nil, pz_wi_gc, pz_wi_ga, pz_wi_gn, pz_wi_gl, pz_wi_gr, pz_wi_same, pz_wi_X, pz_wl_gc, pz_wl_ga, pz_wl_gn, pz_wl_gi, pz_wl_gr, pz_wl_same, pz_wl_X, pz_wr_gc, pz_wr_ga, pz_wr_gn, pz_wr_gi, pz_wr_gl, pz_wr_same, pz_wr_X]
  (try simp (disch := omega) only [nI_clamp, pz_in_nI2, pz_in_nI2L, pv_gt, nI_add, nI_addL, nI_Ladd, pk_mul, nI_mulL, nI_Lmul, pk_sub, nI_subL, nI_Lsub, nI_inc, nI_clampL, Nat.add_sub_cancel, pz_wi_else, pz_wl_else, vu_eq, vu_ne, pz_wi_gc, pz_wi_ga, pz_wi_gn, pz_wi_gl, pz_wi_gr, pz_wi_same, pz_wi_X, pz_wl_gc, pz_wl_ga, pz_wl_gn, pz_wl_gi, pz_wl_gr, pz_wl_same, pz_wl_X, pz_wr_gc, pz_wr_ga, pz_wr_gn, pz_wr_gi, pz_wr_gl, pz_wr_same, pz_wr_X])
  refine po_go ?_
  exact key _ _ (Nat.le_refl _) (by omega) h
theorem r_doorOf (hd : 1 ≤ d) (hS : SH M) (hO : okB M) {B s b : Nat} {p : Nat → Bool} (hn : nb M = nI B) (hB : B ≤ 24) (hs : gi M 131 (bk M) = nI s) (hs2 : s ≤ 24) (hb : b < 24) (hp : ∀ i, i < 24 → gi M 153 i = bI (p i)) (h : Q (some (.int (oI (dor p s b (B - (b + 1)) (b + 1)))), M)) : pm d 120 [.ref 120, .int (nI b)] M Q := by
  have hbk := hO.nI
  have hbk2 : gi M 120 38 = nI (bk M) := hbk.1
  have hbk3 := hbk.2
  have key : ∀ c i, b + 1 ≤ i → i + c = B ∨ (c = 0 ∧ B ≤ i ∧ i ≤ 24) → Q (some (.int (oI (dor p s b c i))), M) → pw d 120 (4, [some (.ref 120), some (.int (nI b)), some (.int (nI i))], [], M) Q := by
    intro c
    induction c with
    | zero =>
      intro i hi h1 h
      refine pw_blk (mi := mz_120) (b := bz_120_4) rfl rfl ?_
      simp only [bz_120_4, pz_cut_t, pz_cut_f, pz_cut_n, pv_gt, pv_ts, pv_tn, ev_ild2, ev_ald0, ev_eld0, ev_cv0_11, pz_wi_gc, pz_wi_ga, pz_wi_gn, pz_wi_gl, pz_wi_gr, pz_wi_same, pz_wi_X, pz_wl_gc, pz_wl_ga, pz_wl_gn, pz_wl_gi, pz_wl_gr, pz_wl_same, pz_wl_X, pz_wr_gc, pz_wr_ga, pz_wr_gn, pz_wr_gi, pz_wr_gl, pz_wr_same, pz_wr_X, so_120 hS, hn]
      (try simp (disch := omega) only [nI_clamp, pz_in_nI2, pz_in_nI2L, pv_gt, nI_add, nI_addL, nI_Ladd, pk_mul, nI_mulL, nI_Lmul, pk_sub, nI_subL, nI_Lsub, nI_inc, nI_clampL, Nat.add_sub_cancel, pz_wi_else, pz_wl_else, vu_eq, vu_ne, pz_wi_gc, pz_wi_ga, pz_wi_gn, pz_wi_gl, pz_wi_gr, pz_wi_same, pz_wi_X, pz_wl_gc, pz_wl_ga, pz_wl_gn, pz_wl_gi, pz_wl_gr, pz_wl_same, pz_wl_X, pz_wr_gc, pz_wr_ga, pz_wr_gn, pz_wr_gi, pz_wr_gl, pz_wr_same, pz_wr_X, hn])
      (try refine po_gP (Nat.le_of_ble_eq_true rfl) ?_)
      refine po_call (by omega) (r_many hS hO ?_)
      refine pw_blk (mi := mz_120) (b := bz_120_9) rfl rfl ?_
      simp only [bz_120_9, pz_cut_t, pz_cut_f, pz_cut_n, pv_gt, pv_ts, pv_tn, ev_ic_ge, pz_wi_gc, pz_wi_ga, pz_wi_gn, pz_wi_gl, pz_wi_gr, pz_wi_same, pz_wi_X, pz_wl_gc, pz_wl_ga, pz_wl_gn, pz_wl_gi, pz_wl_gr, pz_wl_same, pz_wl_X, pz_wr_gc, pz_wr_ga, pz_wr_gn, pz_wr_gi, pz_wr_gl, pz_wr_same, pz_wr_X, hn]
      (try simp (disch := omega) only [nI_clamp, pz_in_nI2, pz_in_nI2L, pv_gt, nI_add, nI_addL, nI_Ladd, pk_mul, nI_mulL, nI_Lmul, pk_sub, nI_subL, nI_Lsub, nI_inc, nI_clampL, Nat.add_sub_cancel, pz_wi_else, pz_wl_else, vu_eq, vu_ne, pz_wi_gc, pz_wi_ga, pz_wi_gn, pz_wi_gl, pz_wi_gr, pz_wi_same, pz_wi_X, pz_wl_gc, pz_wl_ga, pz_wl_gn, pz_wl_gi, pz_wl_gr, pz_wl_same, pz_wl_X, pz_wr_gc, pz_wr_ga, pz_wr_gn, pz_wr_gi, pz_wr_gl, pz_wr_same, pz_wr_X, hn])
      refine po_brP (fun q9 => ?_) (fun q9 => ?_)
      · skip
        (try simp (disch := omega) only [nI_ltI, nI_leI, nI_eq, nI_ltL, nI_leL, nI_eqL, nI_Llt, nI_Lle, nI_Leq, nI_eqm, nI_meq, nI_ltm, nI_lem, nI_mlt, nI_mle, lg0, lgl, lgg, lgle, lgge, Int32.not_lt, Int32.not_le, Int64.not_lt, Int64.not_le, not_false_eq_true, not_true_eq_false, Decidable.not_not, ge_iff_le, gt_iff_lt] at q9)
        refine pw_blk (mi := mz_120) (b := bz_120_48) rfl rfl ?_
        simp only [bz_120_48, pz_cut_t, pz_cut_f, pz_cut_n, pv_gt, pv_ts, pv_tn, ev_icm1, ev_iret0, pz_wi_gc, pz_wi_ga, pz_wi_gn, pz_wi_gl, pz_wi_gr, pz_wi_same, pz_wi_X, pz_wl_gc, pz_wl_ga, pz_wl_gn, pz_wl_gi, pz_wl_gr, pz_wl_same, pz_wl_X, pz_wr_gc, pz_wr_ga, pz_wr_gn, pz_wr_gi, pz_wr_gl, pz_wr_same, pz_wr_X, hn]
        (try simp (disch := omega) only [nI_clamp, pz_in_nI2, pz_in_nI2L, pv_gt, nI_add, nI_addL, nI_Ladd, pk_mul, nI_mulL, nI_Lmul, pk_sub, nI_subL, nI_Lsub, nI_inc, nI_clampL, Nat.add_sub_cancel, pz_wi_else, pz_wl_else, vu_eq, vu_ne, pz_wi_gc, pz_wi_ga, pz_wi_gn, pz_wi_gl, pz_wi_gr, pz_wi_same, pz_wi_X, pz_wl_gc, pz_wl_ga, pz_wl_gn, pz_wl_gi, pz_wl_gr, pz_wl_same, pz_wl_X, pz_wr_gc, pz_wr_ga, pz_wr_gn, pz_wr_gi, pz_wr_gl, pz_wr_same, pz_wr_X, hn])
        exact h
      · first
        | exact absurd q9 (by decide)
        | exact absurd trivial q9
        | exact q9.elim
        | (exfalso; (try simp (disch := omega) only [nI_ltI, nI_leI, nI_eq, nI_ltL, nI_leL, nI_eqL, nI_Llt, nI_Lle, nI_Leq, nI_eqm, nI_meq, nI_ltm, nI_lem, nI_mlt, nI_mle, lg0, lgl, lgg, lgle, lgge, Int32.not_lt, Int32.not_le, Int64.not_lt, Int64.not_le, not_false_eq_true, not_true_eq_false, Decidable.not_not, ge_iff_le, gt_iff_lt] at q9) <;> omega)
        | exact absurd q9 (by with_reducible assumption)
        | exact absurd (by with_reducible assumption) q9
        | exact absurd (Decidable.not_not.mp q9) (by with_reducible assumption)
        | exact absurd (by with_reducible assumption) (Int32.not_le.mpr q9)
        | exact absurd (by with_reducible assumption) (Int32.not_lt.mpr q9)
    | succ c ih =>
      intro i hi h1 h
      have hpi := hp i (by omega)
      refine pw_blk (mi := mz_120) (b := bz_120_4) rfl rfl ?_
      simp only [bz_120_4, pz_cut_t, pz_cut_f, pz_cut_n, pv_gt, pv_ts, pv_tn, ev_ild2, ev_ald0, ev_eld0, ev_cv0_11, pz_wi_gc, pz_wi_ga, pz_wi_gn, pz_wi_gl, pz_wi_gr, pz_wi_same, pz_wi_X, pz_wl_gc, pz_wl_ga, pz_wl_gn, pz_wl_gi, pz_wl_gr, pz_wl_same, pz_wl_X, pz_wr_gc, pz_wr_ga, pz_wr_gn, pz_wr_gi, pz_wr_gl, pz_wr_same, pz_wr_X, so_120 hS, hn, hs, hpi, hbk2]
      (try simp (disch := omega) only [nI_clamp, pz_in_nI2, pz_in_nI2L, pv_gt, nI_add, nI_addL, nI_Ladd, pk_mul, nI_mulL, nI_Lmul, pk_sub, nI_subL, nI_Lsub, nI_inc, nI_clampL, Nat.add_sub_cancel, pz_wi_else, pz_wl_else, vu_eq, vu_ne, pz_wi_gc, pz_wi_ga, pz_wi_gn, pz_wi_gl, pz_wi_gr, pz_wi_same, pz_wi_X, pz_wl_gc, pz_wl_ga, pz_wl_gn, pz_wl_gi, pz_wl_gr, pz_wl_same, pz_wl_X, pz_wr_gc, pz_wr_ga, pz_wr_gn, pz_wr_gi, pz_wr_gl, pz_wr_same, pz_wr_X, hn, hs, hpi, hbk2])
      (try refine po_gP (Nat.le_of_ble_eq_true rfl) ?_)
      refine po_call (by omega) (r_many hS hO ?_)
      refine pw_blk (mi := mz_120) (b := bz_120_9) rfl rfl ?_
      simp only [bz_120_9, pz_cut_t, pz_cut_f, pz_cut_n, pv_gt, pv_ts, pv_tn, ev_ic_ge, pz_wi_gc, pz_wi_ga, pz_wi_gn, pz_wi_gl, pz_wi_gr, pz_wi_same, pz_wi_X, pz_wl_gc, pz_wl_ga, pz_wl_gn, pz_wl_gi, pz_wl_gr, pz_wl_same, pz_wl_X, pz_wr_gc, pz_wr_ga, pz_wr_gn, pz_wr_gi, pz_wr_gl, pz_wr_same, pz_wr_X, hn, hs, hpi, hbk2]
      (try simp (disch := omega) only [nI_clamp, pz_in_nI2, pz_in_nI2L, pv_gt, nI_add, nI_addL, nI_Ladd, pk_mul, nI_mulL, nI_Lmul, pk_sub, nI_subL, nI_Lsub, nI_inc, nI_clampL, Nat.add_sub_cancel, pz_wi_else, pz_wl_else, vu_eq, vu_ne, pz_wi_gc, pz_wi_ga, pz_wi_gn, pz_wi_gl, pz_wi_gr, pz_wi_same, pz_wi_X, pz_wl_gc, pz_wl_ga, pz_wl_gn, pz_wl_gi, pz_wl_gr, pz_wl_same, pz_wl_X, pz_wr_gc, pz_wr_ga, pz_wr_gn, pz_wr_gi, pz_wr_gl, pz_wr_same, pz_wr_X, hn, hs, hpi, hbk2])
      refine po_brP (fun q9 => ?_) (fun q9 => ?_)
      · first
        | exact absurd q9 (by decide)
        | exact absurd trivial q9
        | exact q9.elim
        | (exfalso; (try simp (disch := omega) only [nI_ltI, nI_leI, nI_eq, nI_ltL, nI_leL, nI_eqL, nI_Llt, nI_Lle, nI_Leq, nI_eqm, nI_meq, nI_ltm, nI_lem, nI_mlt, nI_mle, lg0, lgl, lgg, lgle, lgge, Int32.not_lt, Int32.not_le, Int64.not_lt, Int64.not_le, not_false_eq_true, not_true_eq_false, Decidable.not_not, ge_iff_le, gt_iff_lt] at q9) <;> omega)
        | exact absurd q9 (by with_reducible assumption)
        | exact absurd (by with_reducible assumption) q9
        | exact absurd (Decidable.not_not.mp q9) (by with_reducible assumption)
        | exact absurd (by with_reducible assumption) (Int32.not_le.mpr q9)
        | exact absurd (by with_reducible assumption) (Int32.not_lt.mpr q9)
      · skip
        (try simp (disch := omega) only [nI_ltI, nI_leI, nI_eq, nI_ltL, nI_leL, nI_eqL, nI_Llt, nI_Lle, nI_Leq, nI_eqm, nI_meq, nI_ltm, nI_lem, nI_mlt, nI_mle, lg0, lgl, lgg, lgle, lgge, Int32.not_lt, Int32.not_le, Int64.not_lt, Int64.not_le, not_false_eq_true, not_true_eq_false, Decidable.not_not, ge_iff_le, gt_iff_lt] at q9)
        refine pw_blk (mi := mz_120) (b := bz_120_12) rfl rfl ?_
        simp only [bz_120_12, pz_cut_t, pz_cut_f, pz_cut_n, pv_gt, pv_ts, pv_tn, ev_ald0, ev_eld0, ev_gf11_2, ev_ild2, ea_bald, ea_zald, ev_ifeq, pz_wi_gc, pz_wi_ga, pz_wi_gn, pz_wi_gl, pz_wi_gr, pz_wi_same, pz_wi_X, pz_wl_gc, pz_wl_ga, pz_wl_gn, pz_wl_gi, pz_wl_gr, pz_wl_same, pz_wl_X, pz_wr_gc, pz_wr_ga, pz_wr_gn, pz_wr_gi, pz_wr_gl, pz_wr_same, pz_wr_X, so_120 hS, sr_120_44 hS, sa_153 hS, sn_153 hS, hn, hs, hpi, hbk2, sa_131 hS, sn_131 hS]
        (try simp (disch := omega) only [nI_clamp, pz_in_nI2, pz_in_nI2L, pv_gt, nI_add, nI_addL, nI_Ladd, pk_mul, nI_mulL, nI_Lmul, pk_sub, nI_subL, nI_Lsub, nI_inc, nI_clampL, Nat.add_sub_cancel, pz_wi_else, pz_wl_else, vu_eq, vu_ne, pz_wi_gc, pz_wi_ga, pz_wi_gn, pz_wi_gl, pz_wi_gr, pz_wi_same, pz_wi_X, pz_wl_gc, pz_wl_ga, pz_wl_gn, pz_wl_gi, pz_wl_gr, pz_wl_same, pz_wl_X, pz_wr_gc, pz_wr_ga, pz_wr_gn, pz_wr_gi, pz_wr_gl, pz_wr_same, pz_wr_X, hn, hs, hpi, hbk2])
        (try refine po_gI (by first | exact pz_in_nI (by omega) (by decide) | decide | assumption) ?_)
        refine po_brP (fun q12 => ?_) (fun q12 => ?_)
        · first
          | exact absurd q12 (by decide)
          | exact absurd trivial q12
          | exact q12.elim
          | (exfalso; (try simp (disch := omega) only [nI_ltI, nI_leI, nI_eq, nI_ltL, nI_leL, nI_eqL, nI_Llt, nI_Lle, nI_Leq, nI_eqm, nI_meq, nI_ltm, nI_lem, nI_mlt, nI_mle, lg0, lgl, lgg, lgle, lgge, Int32.not_lt, Int32.not_le, Int64.not_lt, Int64.not_le, not_false_eq_true, not_true_eq_false, Decidable.not_not, ge_iff_le, gt_iff_lt] at q12) <;> omega)
          | exact absurd q12 (by with_reducible assumption)
          | exact absurd (by with_reducible assumption) q12
          | exact absurd (Decidable.not_not.mp q12) (by with_reducible assumption)
          | exact absurd (by with_reducible assumption) (Int32.not_le.mpr q12)
          | exact absurd (by with_reducible assumption) (Int32.not_lt.mpr q12)
          | skip
            (try simp (disch := omega) only [nI_ltI, nI_leI, nI_eq, nI_ltL, nI_leL, nI_eqL, nI_Llt, nI_Lle, nI_Leq, nI_eqm, nI_meq, nI_ltm, nI_lem, nI_mlt, nI_mle, lg0, lgl, lgg, lgle, lgge, Int32.not_lt, Int32.not_le, Int64.not_lt, Int64.not_le, not_false_eq_true, not_true_eq_false, Decidable.not_not, ge_iff_le, gt_iff_lt] at q12)
            refine pw_blk (mi := mz_120) (b := bz_120_42) rfl rfl ?_
            simp only [bz_120_42, pz_cut_t, pz_cut_f, pz_cut_n, pv_gt, pv_ts, pv_tn, ev_inc2n, ev_inc2i, ev_inc2r, ev_inc2e, ev_goto, pz_wi_gc, pz_wi_ga, pz_wi_gn, pz_wi_gl, pz_wi_gr, pz_wi_same, pz_wi_X, pz_wl_gc, pz_wl_ga, pz_wl_gn, pz_wl_gi, pz_wl_gr, pz_wl_same, pz_wl_X, pz_wr_gc, pz_wr_ga, pz_wr_gn, pz_wr_gi, pz_wr_gl, pz_wr_same, pz_wr_X, hn, hs, hpi, hbk2]
            (try simp (disch := omega) only [nI_clamp, pz_in_nI2, pz_in_nI2L, pv_gt, nI_add, nI_addL, nI_Ladd, pk_mul, nI_mulL, nI_Lmul, pk_sub, nI_subL, nI_Lsub, nI_inc, nI_clampL, Nat.add_sub_cancel, pz_wi_else, pz_wl_else, vu_eq, vu_ne, pz_wi_gc, pz_wi_ga, pz_wi_gn, pz_wi_gl, pz_wi_gr, pz_wi_same, pz_wi_X, pz_wl_gc, pz_wl_ga, pz_wl_gn, pz_wl_gi, pz_wl_gr, pz_wl_same, pz_wl_X, pz_wr_gc, pz_wr_ga, pz_wr_gn, pz_wr_gi, pz_wr_gl, pz_wr_same, pz_wr_X, hn, hs, hpi, hbk2])
            refine po_go ?_
            refine ih (i + 1) (by omega) (by omega) ?_
            rw [dor] at h
            split at h
            · rw [dor_far c (i + 1) (by omega)]
              exact h
            · rw [if_neg (by intro z; rw [z] at q12; exact absurd q12 (by decide))] at h
              exact h
        · first
          | exact absurd q12 (by decide)
          | exact absurd trivial q12
          | exact q12.elim
          | (exfalso; (try simp (disch := omega) only [nI_ltI, nI_leI, nI_eq, nI_ltL, nI_leL, nI_eqL, nI_Llt, nI_Lle, nI_Leq, nI_eqm, nI_meq, nI_ltm, nI_lem, nI_mlt, nI_mle, lg0, lgl, lgg, lgle, lgge, Int32.not_lt, Int32.not_le, Int64.not_lt, Int64.not_le, not_false_eq_true, not_true_eq_false, Decidable.not_not, ge_iff_le, gt_iff_lt] at q12) <;> omega)
          | exact absurd q12 (by with_reducible assumption)
          | exact absurd (by with_reducible assumption) q12
          | exact absurd (Decidable.not_not.mp q12) (by with_reducible assumption)
          | exact absurd (by with_reducible assumption) (Int32.not_le.mpr q12)
          | exact absurd (by with_reducible assumption) (Int32.not_lt.mpr q12)
          | skip
            (try simp (disch := omega) only [nI_ltI, nI_leI, nI_eq, nI_ltL, nI_leL, nI_eqL, nI_Llt, nI_Lle, nI_Leq, nI_eqm, nI_meq, nI_ltm, nI_lem, nI_mlt, nI_mle, lg0, lgl, lgg, lgle, lgge, Int32.not_lt, Int32.not_le, Int64.not_lt, Int64.not_le, not_false_eq_true, not_true_eq_false, Decidable.not_not, ge_iff_le, gt_iff_lt] at q12)
            refine pw_blk (mi := mz_120) (b := bz_120_21) rfl rfl ?_
            simp only [bz_120_21, pz_cut_t, pz_cut_f, pz_cut_n, pv_gt, pv_ts, pv_tn, ev_ild2, ev_ild1, ev_isub, ev_ald0, ev_eld0, ev_gf11_2, ev_gf11_0, ea_iald, ev_ic_gt, pz_wi_gc, pz_wi_ga, pz_wi_gn, pz_wi_gl, pz_wi_gr, pz_wi_same, pz_wi_X, pz_wl_gc, pz_wl_ga, pz_wl_gn, pz_wl_gi, pz_wl_gr, pz_wl_same, pz_wl_X, pz_wr_gc, pz_wr_ga, pz_wr_gn, pz_wr_gi, pz_wr_gl, pz_wr_same, pz_wr_X, so_120 hS, sr_120_20 hS, sa_131 hS, sn_131 hS, hn, hs, hpi, hbk2, sa_153 hS, sn_153 hS]
            (try simp (disch := omega) only [nI_clamp, pz_in_nI2, pz_in_nI2L, pv_gt, nI_add, nI_addL, nI_Ladd, pk_mul, nI_mulL, nI_Lmul, pk_sub, nI_subL, nI_Lsub, nI_inc, nI_clampL, Nat.add_sub_cancel, pz_wi_else, pz_wl_else, vu_eq, vu_ne, pz_wi_gc, pz_wi_ga, pz_wi_gn, pz_wi_gl, pz_wi_gr, pz_wi_same, pz_wi_X, pz_wl_gc, pz_wl_ga, pz_wl_gn, pz_wl_gi, pz_wl_gr, pz_wl_same, pz_wl_X, pz_wr_gc, pz_wr_ga, pz_wr_gn, pz_wr_gi, pz_wr_gl, pz_wr_same, pz_wr_X, hn, hs, hpi, hbk2])
            (try refine po_gI (by first | exact pz_in_nI (by omega) (by decide) | decide | assumption) ?_)
            refine po_brP (fun q21 => ?_) (fun q21 => ?_)
            · first
              | exact absurd q21 (by decide)
              | exact absurd trivial q21
              | exact q21.elim
              | (exfalso; (try simp (disch := omega) only [nI_ltI, nI_leI, nI_eq, nI_ltL, nI_leL, nI_eqL, nI_Llt, nI_Lle, nI_Leq, nI_eqm, nI_meq, nI_ltm, nI_lem, nI_mlt, nI_mle, lg0, lgl, lgg, lgle, lgge, Int32.not_lt, Int32.not_le, Int64.not_lt, Int64.not_le, not_false_eq_true, not_true_eq_false, Decidable.not_not, ge_iff_le, gt_iff_lt] at q21) <;> omega)
              | exact absurd q21 (by with_reducible assumption)
              | exact absurd (by with_reducible assumption) q21
              | exact absurd (Decidable.not_not.mp q21) (by with_reducible assumption)
              | exact absurd (by with_reducible assumption) (Int32.not_le.mpr q21)
              | exact absurd (by with_reducible assumption) (Int32.not_lt.mpr q21)
              | skip
                (try simp (disch := omega) only [nI_ltI, nI_leI, nI_eq, nI_ltL, nI_leL, nI_eqL, nI_Llt, nI_Lle, nI_Leq, nI_eqm, nI_meq, nI_ltm, nI_lem, nI_mlt, nI_mle, lg0, lgl, lgg, lgle, lgge, Int32.not_lt, Int32.not_le, Int64.not_lt, Int64.not_le, not_false_eq_true, not_true_eq_false, Decidable.not_not, ge_iff_le, gt_iff_lt] at q21)
                refine pw_blk (mi := mz_120) (b := bz_120_40) rfl rfl ?_
                simp only [bz_120_40, pz_cut_t, pz_cut_f, pz_cut_n, pv_gt, pv_ts, pv_tn, ev_icm1, ev_nil, pz_wi_gc, pz_wi_ga, pz_wi_gn, pz_wi_gl, pz_wi_gr, pz_wi_same, pz_wi_X, pz_wl_gc, pz_wl_ga, pz_wl_gn, pz_wl_gi, pz_wl_gr, pz_wl_same, pz_wl_X, pz_wr_gc, pz_wr_ga, pz_wr_gn, pz_wr_gi, pz_wr_gl, pz_wr_same, pz_wr_X, hn, hs, hpi, hbk2]
                (try simp (disch := omega) only [nI_clamp, pz_in_nI2, pz_in_nI2L, pv_gt, nI_add, nI_addL, nI_Ladd, pk_mul, nI_mulL, nI_Lmul, pk_sub, nI_subL, nI_Lsub, nI_inc, nI_clampL, Nat.add_sub_cancel, pz_wi_else, pz_wl_else, vu_eq, vu_ne, pz_wi_gc, pz_wi_ga, pz_wi_gn, pz_wi_gl, pz_wi_gr, pz_wi_same, pz_wi_X, pz_wl_gc, pz_wl_ga, pz_wl_gn, pz_wl_gi, pz_wl_gr, pz_wl_same, pz_wl_X, pz_wr_gc, pz_wr_ga, pz_wr_gn, pz_wr_gi, pz_wr_gl, pz_wr_same, pz_wr_X, hn, hs, hpi, hbk2])
                refine po_go ?_
                refine pw_blk (mi := mz_120) (b := bz_120_41) rfl rfl ?_
                simp only [bz_120_41, pz_cut_t, pz_cut_f, pz_cut_n, pv_gt, pv_ts, pv_tn, ev_iret0, pz_wi_gc, pz_wi_ga, pz_wi_gn, pz_wi_gl, pz_wi_gr, pz_wi_same, pz_wi_X, pz_wl_gc, pz_wl_ga, pz_wl_gn, pz_wl_gi, pz_wl_gr, pz_wl_same, pz_wl_X, pz_wr_gc, pz_wr_ga, pz_wr_gn, pz_wr_gi, pz_wr_gl, pz_wr_same, pz_wr_X, hn, hs, hpi, hbk2]
                (try simp (disch := omega) only [nI_clamp, pz_in_nI2, pz_in_nI2L, pv_gt, nI_add, nI_addL, nI_Ladd, pk_mul, nI_mulL, nI_Lmul, pk_sub, nI_subL, nI_Lsub, nI_inc, nI_clampL, Nat.add_sub_cancel, pz_wi_else, pz_wl_else, vu_eq, vu_ne, pz_wi_gc, pz_wi_ga, pz_wi_gn, pz_wi_gl, pz_wi_gr, pz_wi_same, pz_wi_X, pz_wl_gc, pz_wl_ga, pz_wl_gn, pz_wl_gi, pz_wl_gr, pz_wl_same, pz_wl_X, pz_wr_gc, pz_wr_ga, pz_wr_gn, pz_wr_gi, pz_wr_gl, pz_wr_same, pz_wr_X, hn, hs, hpi, hbk2])
                first | exact (by rw [dor, if_pos (by omega)] at h; exact h) | exact (by rw [dor, if_neg (by omega), if_pos (by cases z : p i with | true => rfl | false => rw [z] at q12; exact absurd rfl q12)] at h; exact h)
            · first
              | exact absurd q21 (by decide)
              | exact absurd trivial q21
              | exact q21.elim
              | (exfalso; (try simp (disch := omega) only [nI_ltI, nI_leI, nI_eq, nI_ltL, nI_leL, nI_eqL, nI_Llt, nI_Lle, nI_Leq, nI_eqm, nI_meq, nI_ltm, nI_lem, nI_mlt, nI_mle, lg0, lgl, lgg, lgle, lgge, Int32.not_lt, Int32.not_le, Int64.not_lt, Int64.not_le, not_false_eq_true, not_true_eq_false, Decidable.not_not, ge_iff_le, gt_iff_lt] at q21) <;> omega)
              | exact absurd q21 (by with_reducible assumption)
              | exact absurd (by with_reducible assumption) q21
              | exact absurd (Decidable.not_not.mp q21) (by with_reducible assumption)
              | exact absurd (by with_reducible assumption) (Int32.not_le.mpr q21)
              | exact absurd (by with_reducible assumption) (Int32.not_lt.mpr q21)
              | skip
                (try simp (disch := omega) only [nI_ltI, nI_leI, nI_eq, nI_ltL, nI_leL, nI_eqL, nI_Llt, nI_Lle, nI_Leq, nI_eqm, nI_meq, nI_ltm, nI_lem, nI_mlt, nI_mle, lg0, lgl, lgg, lgle, lgge, Int32.not_lt, Int32.not_le, Int64.not_lt, Int64.not_le, not_false_eq_true, not_true_eq_false, Decidable.not_not, ge_iff_le, gt_iff_lt] at q21)
                refine pw_blk (mi := mz_120) (b := bz_120_36) rfl rfl ?_
                simp only [bz_120_36, pz_cut_t, pz_cut_f, pz_cut_n, pv_gt, pv_ts, pv_tn, ev_ild2, ev_goto, pz_wi_gc, pz_wi_ga, pz_wi_gn, pz_wi_gl, pz_wi_gr, pz_wi_same, pz_wi_X, pz_wl_gc, pz_wl_ga, pz_wl_gn, pz_wl_gi, pz_wl_gr, pz_wl_same, pz_wl_X, pz_wr_gc, pz_wr_ga, pz_wr_gn, pz_wr_gi, pz_wr_gl, pz_wr_same, pz_wr_X, hn, hs, hpi, hbk2]
                (try simp (disch := omega) only [nI_clamp, pz_in_nI2, pz_in_nI2L, pv_gt, nI_add, nI_addL, nI_Ladd, pk_mul, nI_mulL, nI_Lmul, pk_sub, nI_subL, nI_Lsub, nI_inc, nI_clampL, Nat.add_sub_cancel, pz_wi_else, pz_wl_else, vu_eq, vu_ne, pz_wi_gc, pz_wi_ga, pz_wi_gn, pz_wi_gl, pz_wi_gr, pz_wi_same, pz_wi_X, pz_wl_gc, pz_wl_ga, pz_wl_gn, pz_wl_gi, pz_wl_gr, pz_wl_same, pz_wl_X, pz_wr_gc, pz_wr_ga, pz_wr_gn, pz_wr_gi, pz_wr_gl, pz_wr_same, pz_wr_X, hn, hs, hpi, hbk2])
                refine po_go ?_
                refine pw_blk (mi := mz_120) (b := bz_120_41) rfl rfl ?_
                simp only [bz_120_41, pz_cut_t, pz_cut_f, pz_cut_n, pv_gt, pv_ts, pv_tn, ev_iret0, pz_wi_gc, pz_wi_ga, pz_wi_gn, pz_wi_gl, pz_wi_gr, pz_wi_same, pz_wi_X, pz_wl_gc, pz_wl_ga, pz_wl_gn, pz_wl_gi, pz_wl_gr, pz_wl_same, pz_wl_X, pz_wr_gc, pz_wr_ga, pz_wr_gn, pz_wr_gi, pz_wr_gl, pz_wr_same, pz_wr_X, hn, hs, hpi, hbk2]
                (try simp (disch := omega) only [nI_clamp, pz_in_nI2, pz_in_nI2L, pv_gt, nI_add, nI_addL, nI_Ladd, pk_mul, nI_mulL, nI_Lmul, pk_sub, nI_subL, nI_Lsub, nI_inc, nI_clampL, Nat.add_sub_cancel, pz_wi_else, pz_wl_else, vu_eq, vu_ne, pz_wi_gc, pz_wi_ga, pz_wi_gn, pz_wi_gl, pz_wi_gr, pz_wi_same, pz_wi_X, pz_wl_gc, pz_wl_ga, pz_wl_gn, pz_wl_gi, pz_wl_gr, pz_wl_same, pz_wl_X, pz_wr_gc, pz_wr_ga, pz_wr_gn, pz_wr_gi, pz_wr_gl, pz_wr_same, pz_wr_X, hn, hs, hpi, hbk2])
                first | exact (by rw [dor, if_pos (by omega)] at h; exact h) | exact (by rw [dor, if_neg (by omega), if_pos (by cases z : p i with | true => rfl | false => rw [z] at q12; exact absurd rfl q12)] at h; exact h)
  refine pm_ent (L := [some (.ref 120), some (.int (nI b)), none]) rfl (Nat.le_of_ble_eq_true rfl) ?_
  refine pw_blk (mi := mz_120) (b := bz_120_0) rfl rfl ?_
  simp only [bz_120_0, pz_cut_t, pz_cut_f, pz_cut_n, pv_gt, pv_ts, pv_tn, ev_ild1, ev_ic1, ev_iadd, ev_ist2n, ev_ist2i, ev_ist2r, ev_ist2e, ev_ist2l, ev_nil, pz_wi_gc, pz_wi_ga, pz_wi_gn, pz_wi_gl, pz_wi_gr, pz_wi_same, pz_wi_X, pz_wl_gc, pz_wl_ga, pz_wl_gn, pz_wl_gi, pz_wl_gr, pz_wl_same, pz_wl_X, pz_wr_gc, pz_wr_ga, pz_wr_gn, pz_wr_gi, pz_wr_gl, pz_wr_same, pz_wr_X]
  (try simp (disch := omega) only [nI_clamp, pz_in_nI2, pz_in_nI2L, pv_gt, nI_add, nI_addL, nI_Ladd, pk_mul, nI_mulL, nI_Lmul, pk_sub, nI_subL, nI_Lsub, nI_inc, nI_clampL, Nat.add_sub_cancel, pz_wi_else, pz_wl_else, vu_eq, vu_ne, pz_wi_gc, pz_wi_ga, pz_wi_gn, pz_wi_gl, pz_wi_gr, pz_wi_same, pz_wi_X, pz_wl_gc, pz_wl_ga, pz_wl_gn, pz_wl_gi, pz_wl_gr, pz_wl_same, pz_wl_X, pz_wr_gc, pz_wr_ga, pz_wr_gn, pz_wr_gi, pz_wr_gl, pz_wr_same, pz_wr_X])
  refine po_go ?_
  exact key _ _ (Nat.le_refl _) (by omega) h
end SAVED
