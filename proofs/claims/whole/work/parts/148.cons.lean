/-! ===== nothing is lost or won: the END is a number from 0 to a million ===== -/
section CONS
variable {d : Nat} {M M' : pz_M} {Q : Option Value × pz_M → Prop}
variable {B T T' j a : Nat} {q : LL × LL}
theorem sumN_up {f : Nat → Nat} {j a : Nat} : ∀ B, j < B → sumN (fun i => if i = j then f i + a else f i) B = sumN f B + a
  | 0, h => absurd h (by omega)
  | B + 1, h => by
    rw [sumN, sumN]
    by_cases q : j = B
    · subst q
      have e : ∀ n, n ≤ j → sumN (fun i => if i = j then f i + a else f i) n = sumN f n := by
        intro n
        induction n with
        | zero => intro _; rfl
        | succ n ih =>
          intro hn
          rw [sumN, sumN, ih (by omega), if_neg (by omega)]
      rw [e j (Nat.le_refl _), if_pos rfl]
      omega
    · rw [sumN_up B (by omega), if_neg (fun z => q z.symm)]
      omega
theorem sumN_z : ∀ B, sumN (fun _ => 0) B = 0
  | 0 => rfl
  | B + 1 => by rw [sumN, sumN_z B]
theorem sumN_ge {f : Nat → Nat} : ∀ B j, j < B → f j ≤ sumN f B
  | 0, j, h => absurd h (by omega)
  | B + 1, j, h => by
    rw [sumN]
    by_cases q : j = B
    · subst q
      omega
    · have := sumN_ge (f := f) B j (by omega)
      omega
theorem sumN_div {x : Nat → Nat} {c : Nat} : ∀ n, sumN (fun k => c * x k / 1000) n ≤ c * sumN x n / 1000
  | 0 => Nat.zero_le _
  | n + 1 => by
    have h := sumN_div (x := x) (c := c) n
    rw [sumN, sumN, Nat.mul_add]
    omega
def cns (B : Nat) (q : LL × LL) (T : Nat) : Prop := ∃ (f : Nat → Nat) (e : Nat), (∀ i, i < B → q.1 i = lN (f i)) ∧ q.2 0 = lN e ∧ sumN f B + e ≤ T
theorem cns.le (h : cns B q T) (hT : T ≤ T') : cns B q T' := by
  obtain ⟨f, e, h1, h2, h3⟩ := h
  exact ⟨f, e, h1, h2, by omega⟩
theorem cns.sm {q' : LL × LL} (h : cns B q T) (e1 : q'.1 = q.1) (e2 : q'.2 0 = q.2 0) : cns B q' T := by
  obtain ⟨f, e, h1, h2, h3⟩ := h
  exact ⟨f, e, by rw [e1]; exact h1, e2.trans h2, h3⟩
theorem cns.ad {s : LL} (h : cns B q T) (hj : j < B) (e2 : s 0 = q.2 0) : cns B (adL q.1 j (lN a), s) (T + a) := by
  obtain ⟨f, e, h1, h2, h3⟩ := h
  refine ⟨fun i => if i = j then f i + a else f i, e, fun i hi => ?_, e2.trans h2, by rw [sumN_up B hj]; omega⟩
  show va_up q.1 j (q.1 j + lN a) i = _
  unfold va_up
  by_cases z : i = j
  · subst z
    rw [if_pos rfl, h1 i hi, lN_add]
    simp
  · rw [if_neg z, h1 i hi]
    simp [z]
theorem cns.e0 (h : cns B q T) : cns B (q.1, adL q.2 0 (lN a)) (T + a) := by
  obtain ⟨f, e, h1, h2, h3⟩ := h
  refine ⟨f, e + a, h1, ?_, by omega⟩
  show va_up q.2 0 (q.2 0 + lN a) 0 = _
  rw [vu_eq, h2, lN_add]
theorem cns.ar (h : cns B q T) : cns B (arS B j (lN a) q) (T + a) := by
  unfold arS
  split
  · rename_i z
    exact h.ad z rfl
  · exact h.e0
theorem ad_0 {s : LL} {p : Int64} {k : Nat} (hk : k ≠ 0) : adL s k p 0 = s 0 := vu_ne (fun z => hk z.symm)
theorem cns.ha {dr : Nat → Option Nat} {er i : Nat} (hdr : ∀ d, dr i = some d → d < B) (h : cns B q T) : cns B (haS dr er i (lN a) q) (T + a) := by
  unfold haS
  cases e : dr i with
  | none => exact (h.le (Nat.le_add_right T a)).sm rfl (by show adL (adL q.2 1 (lN a)) 3 (lN a) 0 = q.2 0; rw [ad_0 (by decide), ad_0 (by decide)])
  | some d =>
    simp only
    split
    · exact h.ad (hdr d e) (by rw [ad_0 (by decide), ad_0 (by decide)])
    · exact h.ad (hdr d e) (by rw [ad_0 (by decide)])
theorem mulL {c x : Nat} (hc : c ≤ 1000000000) (hx : x ≤ 1000) : lN c * (nI x).toInt64 / 1000 = lN (c * x / 1000) := by
  have h1 : c * x ≤ 1000000000 * 1000 := Nat.mul_le_mul hc hx
  rw [nI_l (by omega), lN_mul, show (1000 : Int64) = lN 1000 from rfl, pk_lDiv (by omega) (by decide) (by decide)]
theorem cns.xp {lg : Nat → Nat} {xs : Nat → Int32} {x : Nat → Nat} {c : Nat} (hc : c ≤ 1000000000) (hx : ∀ k, xs k = nI (x k) ∧ x k ≤ 1000) (h : cns B q T) : ∀ k, cns B (xpU B lg xs (lN c) q k) (T + sumN (fun k => c * x k / 1000) k)
  | 0 => h
  | k + 1 => by
    have z := cns.xp (lg := lg) hc hx h k
    rw [xpU, (hx k).1, mulL hc (hx k).2, sumN, ← Nat.add_assoc]
    exact cns.ar (cns.sm (q' := ((xpU B lg xs (lN c) q k).1, adL (xpU B lg xs (lN c) q k).2 4 (lN (c * x k / 1000)))) z rfl (ad_0 (s := (xpU B lg xs (lN c) q k).2) (p := lN (c * x k / 1000)) (k := 4) (by decide)))
theorem rsN {f : Nat → Int32} {s : Nat} (hs : s ≤ 1000) (hf : ∀ k, ∃ a, a < 2 ^ 31 ∧ f k = nI a) : ∃ r x : Nat → Nat, (∀ k, rsq f (nI s) k = nI (r k)) ∧ (∀ k, xsq f (nI s) k = nI (x k) ∧ x k ≤ 1000) ∧ ∀ k, r k + sumN x k = s := by
  have st : ∀ k, ∃ b y, b ≤ 1000 ∧ rsq f (nI s) k = nI b ∧ xsq f (nI s) k = nI y ∧ y ≤ b ∧ rsq f (nI s) (k + 1) = nI (b - y) := by
    intro k
    obtain ⟨b, hb, e⟩ := rsq_nI hs hf k
    obtain ⟨c, hc, ec⟩ := hf k
    by_cases z : c < b
    · have em : mn (f k) (rsq f (nI s) k) = nI c := by
        rw [e, ec]
        exact if_pos ((nI_ltI hc (by omega)).mpr z)
      refine ⟨b, c, hb, e, em, by omega, ?_⟩
      rw [rsq, em, e, pk_sub (by omega)]
    · have em : mn (f k) (rsq f (nI s) k) = nI b := by
        rw [e, ec]
        exact if_neg (fun w => z ((nI_ltI hc (by omega)).mp w))
      refine ⟨b, b, hb, e, em, Nat.le_refl _, ?_⟩
      rw [rsq, em, e, pk_sub (Nat.le_refl b)]
  have rc : ∀ k, rsq f (nI s) k = nI (rsq f (nI s) k).toNatClampNeg := fun k => by
    obtain ⟨b, y, h1, h2, -⟩ := st k
    rw [h2, nI_clamp (by omega)]
  have xc : ∀ k, xsq f (nI s) k = nI (xsq f (nI s) k).toNatClampNeg ∧ (xsq f (nI s) k).toNatClampNeg ≤ 1000 := fun k => by
    obtain ⟨b, y, h1, h2, h3, h4, h5⟩ := st k
    rw [h3, nI_clamp (by omega)]
    exact ⟨rfl, by omega⟩
  refine ⟨fun k => (rsq f (nI s) k).toNatClampNeg, fun k => (xsq f (nI s) k).toNatClampNeg, rc, xc, ?_⟩
  intro k
  induction k with
  | zero =>
    show (nI s).toNatClampNeg + 0 = s
    rw [nI_clamp (by omega)]
    rfl
  | succ k ih =>
    obtain ⟨b, y, h1, h2, h3, h4, h5⟩ := st k
    rw [sumN]
    simp only at ih ⊢
    rw [h2, nI_clamp (by omega)] at ih
    rw [h5, h3, nI_clamp (by omega), nI_clamp (by omega)]
    omega
section
variable {al : Nat → Nat → Nat} {cr wk er i c k : Nat} {h : Nat → Int32} {dr : Nat → Option Nat} {mk : Nat → Bool} {J o : Int32}
theorem cns.sp (hal : ∀ i j, al i j ≤ 9) (hcr : cr ≤ 100) (hw : wk ≤ 1000) (hh : ∀ i, r1k (h i)) (hdr : ∀ d, dr i = some d → d < B) (hc : c ≤ 1000000000) (z : cns B q T) : cns B (spS al cr wk er B h dr mk i (lN k) (lN c) q) (T + k + c) := by
  obtain ⟨s, hs, e1, e2⟩ := stp_nI hw (hh i)
  obtain ⟨r, x, h1, h2, h3⟩ := rsN (f := shr al cr B i h) (s := 1000 - s) (by omega) (shr_nI hal hcr hh)
  have a1 : cns B (haS dr er i (lN k + lN c * (stp wk (h i)).toInt64 / 1000) q) (T + (k + c * s / 1000)) := by
    rw [e1, mulL hc hs, lN_add]
    exact z.ha hdr
  unfold spS onN
  by_cases m : mk i = true
  · rw [if_pos m, if_pos m, e2, mulL hc (by omega)]
    refine (a1.ar).le ?_
    have : c * s + c * (1000 - s) = c * 1000 := by rw [← Nat.mul_add, show s + (1000 - s) = 1000 by omega]
    omega
  · rw [if_neg m, if_neg m, e2]
    have a2 := cns.xp (lg := lkG al B i) hc h2 a1 (cnt (pj al i) B)
    rw [h1, mulL hc (by have := h3 (cnt (pj al i) B); omega)]
    refine (a2.ar).le ?_
    have a3 := sumN_div (x := x) (c := c) (cnt (pj al i) B)
    have a4 := h3 (cnt (pj al i) B)
    generalize sumN x (cnt (pj al i) B) = S at a3 a4
    generalize r (cnt (pj al i) B) = R at a4 ⊢
    generalize sumN (fun k => c * x k / 1000) (cnt (pj al i) B) = W at a3 ⊢
    have : c * s + c * R + c * S = c * 1000 := by rw [← Nat.mul_add, ← Nat.mul_add, show s + R + S = 1000 by omega]
    omega
theorem cns.ba (hal : ∀ i j, al i j ≤ 9) (hcr : cr ≤ 100) (hw : wk ≤ 1000) (hh : ∀ i, r1k (h i)) (hdr : ∀ d, dr i = some d → d < B) (ho : ∃ n, n ≤ 1000 ∧ o = nI n) (hc : c ≤ 1000000000) (z : cns B q T) : cns B (baS al cr wk er B h dr mk J o i (lN c) q) (T + c) := by
  obtain ⟨n, hn, rfl⟩ := ho
  have e : ∃ k, k ≤ c ∧ itS J (nI n) i (lN c) = lN k := by
    unfold itS
    split
    · refine ⟨c * n / 1000, ?_, mulL hc hn⟩
      have : c * n ≤ c * 1000 := Nat.mul_le_mul_left c hn
      omega
    · exact ⟨0, Nat.zero_le _, rfl⟩
  obtain ⟨k, hk, e⟩ := e
  unfold baS
  rw [e, lN_sub hk]
  exact (cns.sp (c := c - k) hal hcr hw hh hdr (by omega) z).le (by omega)
theorem cns.st {m : LL} {f : Nat → Nat} (hal : ∀ i j, al i j ≤ 9) (hcr : cr ≤ 100) (hw : wk ≤ 1000) (hh : ∀ i, r1k (h i)) (hdr : ∀ i d, dr i = some d → d < B) (ho : ∃ n, n ≤ 1000 ∧ o = nI n) (hm : ∀ i, i < B → m i = lN (f i) ∧ f i ≤ 1000000000) (z : cns B q T) : ∀ i, i ≤ B → cns B (stS al cr wk er B h dr mk J o m q i) (T + sumN f i)
  | 0, _ => z
  | i + 1, hi => by
    have w := cns.st hal hcr hw hh hdr ho hm z i (by omega)
    rw [stS, sumN, ← Nat.add_assoc]
    split
    · exact w.le (by omega)
    · rw [(hm i (by omega)).1]
      exact cns.ba hal hcr hw hh (hdr i) ho (hm i (by omega)).2 w
theorem cns.th (hB : 0 < B) (hal : ∀ i j, al i j ≤ 9) (hcr : cr ≤ 100) (hw : wk ≤ 1000) (hh : ∀ i, r1k (h i)) (hdr : ∀ i d, dr i = some d → d < B) (ho : ∃ n, n ≤ 1000 ∧ o = nI n) : ∀ n, cns B (thS al cr wk er B h dr mk J o (va_up (fun _ => 0) 0 1000000000) n) 1000000000
  | 0 => by
    refine ⟨fun i => if i = 0 then 0 + 1000000000 else 0, 0, fun i hi => ?_, rfl, ?_⟩
    · show va_up (fun _ => 0) 0 1000000000 i = _
      unfold va_up
      by_cases z : i = 0
      · rw [if_pos z]
        simp only [z, if_true]
        rfl
      · rw [if_neg z]
        simp only [z, if_false]
        rfl
    · have := sumN_up (f := fun _ => 0) (j := 0) (a := 1000000000) B hB
      rw [sumN_z] at this
      omega
  | n + 1 => by
    obtain ⟨f, e, h1, h2, h3⟩ := cns.th hB hal hcr hw hh hdr ho n
    rw [thS]
    have z0 : cns B ((fun _ => 0 : LL), (thS al cr wk er B h dr mk J o (va_up (fun _ => 0) 0 1000000000) n).2) e := ⟨fun _ => 0, e, fun _ _ => rfl, h2, by rw [sumN_z]; omega⟩
    exact (cns.st hal hcr hw hh hdr ho (fun i hi => ⟨h1 i hi, by have := sumN_ge (f := f) B i hi; omega⟩) z0 B (Nat.le_refl _)).le (by omega)
end
/-- the END of a play, in millionths -/
theorem endJ_nI {al : Nat → Nat → Nat} {r cr wk sv er B D E : Nat} {h : Nat → Int32} {J o : Int32} (b : rbd r B cr wk sv er al h) (hB : 0 < B) (ho : ∃ n, n ≤ 1000 ∧ o = nI n) : ∃ v, v ≤ 1000000 ∧ endJ al cr wk sv er B D E h J o = nI v := by
  obtain ⟨f, e, h1, h2, h3⟩ := cns.th (er := er) (dr := drF D.testBit sv B) (mk := E.testBit) (J := J) hB b.2.2.2.2.2.2.1 b.2.2.1 b.2.2.2.1 b.2.2.2.2.2.2.2 (fun i d hd => by
    have z := dor_lt _ _ _ hd
    omega) ho 120
  refine ⟨e / 1000, by omega, ?_⟩
  unfold endJ
  rw [h2, show (1000 : Int64) = lN 1000 from rfl, pk_lDiv (by omega) (by decide) (by decide), lN_i]
end CONS
