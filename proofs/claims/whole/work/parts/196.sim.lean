/-! ===== rules: the pile follows the recursion ===== -/
section SIM
variable {T : Nat → Nat} {L B : Nat}
def xf (p r : Nat) (st : Pl) : Prop := (p ≤ 6 → r ≠ 6) ∧ (p ≤ 5 → r ≠ 5) ∧ (p ≤ 3 → r = 4 → isCmp st = true) ∧ (p ≤ 2 → r ≠ 2) ∧ (p ≤ 1 → r ≠ 1)
theorem xf_7 {r : Nat} {st : Pl} : xf 7 r st := ⟨fun h => absurd h (by decide), fun h => absurd h (by decide), fun h => absurd h (by decide), fun h => absurd h (by decide), fun h => absurd h (by decide)⟩
/-- behind a part of rank p: what is still piled is popped first -/
def Lz (p : Nat) (S : Pl) (s' : Ru) (m : MS) : Prop := ∃ pend t, m = (pend ++ S, false, t) ∧ (∀ x, x ∈ pend → p ≤ x.1 ∧ x.1 ≤ 6) ∧ emi pend t = s' ∧ xf p (rk t.1) (pend ++ S)
def Rs (p : Nat) (S : Pl) (s' : Ru) (m : MS) : Prop := (isG s'.1 = true → Lz p S s' m) ∧ (isG s'.1 = false → m.2.2.1 = s'.1)
/-- K holds of a state if it holds of the next one -/
def Clo (T : Nat → Nat) (L B : Nat) (K : MS → Prop) : Prop := (∀ m, (m.2.2.2.1 ≤ 40 → K m) → K m) ∧ (∀ S s, isG s.1 = true → S ≠ [] → K (unitS T L B S s) → K (S, true, s)) ∧ (∀ S s, isG s.1 = true → S ≠ [] → K (behS T L S s) → K (S, false, s))
theorem Rs.flt {p : Nat} {S : Pl} {s' : Ru} {m : MS} (h : isG s'.1 = false) (e : m.2.2.1 = s'.1) : Rs p S s' m := ⟨fun q => (by rw [h] at q; cases q), fun _ => e⟩
theorem loopSim {K : MS → Prop} (hK : Clo T L B K) {r : Nat} {c : Sg → Bool} {X b : Ru → Ru} {S : Pl} (hr : r = 6 ∨ r = 5 ∨ r = 2 ∨ r = 1) (hrc : ∀ σ, c σ = true ↔ rk σ = r) (hcf : ∀ σ, isG σ = false → c σ = false) (hX : Prp X) (hb : ∀ s, c s.1 = true → b s = rAdd (oc s.1) 0 (X (rAdv T L s))) (hS : ¬ (topW S ≤ 6 ∧ r ≤ topW S)) (hn : S ≠ []) (hsub : ∀ k s, isG s.1 = true → (∀ m, Rs (r + 1) ((r, k) :: S) (X s) m → K m) → K ((r, k) :: S, true, s)) : ∀ f pend t, (∀ x, x ∈ pend → r ≤ x.1 ∧ x.1 ≤ 6) → isG t.1 = true → xf (r + 1) (rk t.1) (pend ++ S) → 41 ≤ t.2.1 + f → (∀ m, Rs r S (lpF c b f (emi pend t)) m → K m) → K (pend ++ S, false, t) := by
  intro f
  induction f with
  | zero =>
    intro pend t _ _ _ hu _
    refine hK.1 _ (fun q => ?_)
    exact absurd (show t.2.1 ≤ 40 from q) (by omega)
  | succ f ih =>
    intro pend t hp hg hx hu kk
    have e1 := emi_1 (P := pend) (s := t)
    rw [lpF, e1.1] at kk
    cases hc : c t.1 with
    | false =>
      rw [hc, if_neg (by decide)] at kk
      have hne : rk t.1 ≠ r := fun q => by rw [(hrc t.1).mpr q] at hc; cases hc
      refine kk _ ⟨fun _ => ⟨pend, t, rfl, hp, rfl, ?_⟩, fun q => by rw [e1.1, hg] at q; cases q⟩
      obtain ⟨x1, x2, x3, x4, x5⟩ := hx
      rcases hr with h | h | h | h <;> subst h
      · exact ⟨fun _ => hne, fun h => absurd h (by decide), fun h => absurd h (by decide), fun h => absurd h (by decide), fun h => absurd h (by decide)⟩
      · exact ⟨fun _ => x1 (by decide), fun _ => hne, fun h => absurd h (by decide), fun h => absurd h (by decide), fun h => absurd h (by decide)⟩
      · exact ⟨fun _ => x1 (by decide), fun _ => x2 (by decide), fun _ => x3 (by decide), fun _ => hne, fun h => absurd h (by decide)⟩
      · exact ⟨fun _ => x1 (by decide), fun _ => x2 (by decide), fun _ => x3 (by decide), fun _ => x4 (by decide), fun _ => hne⟩
    | true =>
      rw [hc, if_pos rfl] at kk
      have hrk := (hrc t.1).mp hc
      have eb : b (emi pend t) = rAdd (oc t.1) 0 (X (rAdv T L (emi pend t))) := by
        rw [hb _ (by rw [e1.1]; exact hc), e1.1]
      have hpn : pend ++ S ≠ [] := fun q => hn (List.append_eq_nil_iff.mp q).2
      refine hK.2.2 _ _ hg hpn ?_
      have est : behS T L (pend ++ S) t = ((r, oc t.1) :: S, true, rAdv T L (emi pend t)) := by
        unfold behS
        rw [hrk, if_neg (by omega), if_pos (by omega), pops_app hS pend t hp]
      rw [est]
      -- faults go to the end
      have fz : isG (X (rAdv T L (emi pend t))).1 = false → (lpF c b f (b (emi pend t))).1 = (X (rAdv T L (emi pend t))).1 := fun q => by
        have q2 : isG (b (emi pend t)).1 = false := by rw [eb]; exact q
        rw [lp_f (hcf _ q2), eb]
        rfl
      cases ha : isG (rAdv T L (emi pend t)).1 with
      | false =>
        have h2 := hX.1 _ ha
        have q3 : isG (X (rAdv T L (emi pend t))).1 = false := by rw [h2]; exact ha
        refine kk _ (Rs.flt ?_ ?_)
        · rw [fz q3]; exact q3
        · show (rAdv T L (emi pend t)).1 = _
          rw [fz q3, h2]
      | true =>
        refine hsub (oc t.1) _ ha (fun m hm => ?_)
        cases hq : isG (X (rAdv T L (emi pend t))).1 with
        | false => exact kk _ (Rs.flt (by rw [fz hq]; exact hq) ((hm.2 hq).trans (fz hq).symm))
        | true =>
          obtain ⟨pend', t', rfl, hp', he', hx'⟩ := hm.1 hq
          have e2 := emi_1 (P := pend') (s := t')
          rw [he'] at e2
          have hup := hX.2.2 _ hq
          have hup2 : t.2.1 < t'.2.1 := by
            have a1 : (rAdv T L (emi pend t)).2.1 = t.2.1 := e1.2
            omega
          have eq1 : pend' ++ (r, oc t.1) :: S = (pend' ++ [(r, oc t.1)]) ++ S := by rw [List.append_assoc]; rfl
          rw [eq1] at hx' ⊢
          refine ih _ t' (fun x hx => ?_) (by rw [← e2.1]; exact hq) hx' (by omega) ?_
          · rcases List.mem_append.mp hx with z | z
            · have := hp' x z; omega
            · rw [List.mem_singleton] at z
              rw [z]
              show r ≤ r ∧ r ≤ 6
              omega
          · rw [emi_end, he', ← eb]
            exact kk
theorem bg_cmp {S : Pl} (h : bg S = true) : isCmp S = false := by
  cases S with
  | nil => rfl
  | cons x S =>
    unfold bg topW at h
    simp at h
    unfold isCmp
    rw [if_neg (by omega)]
    simp
    omega
theorem nw_op {x : Nat × Nat} {S : Pl} (h : x.1 ≠ 3 ∧ x.1 ≠ 7) : nw (x :: S) = nw S := by
  show (if x.1 = 3 ∨ x.1 = 7 then 1 else 0) + nw S = nw S
  rw [if_neg (by omega)]
  omega
theorem nw_in {x : Nat × Nat} {S : Pl} (h : x.1 = 3 ∨ x.1 = 7) : nw (x :: S) = nw S + 1 := by
  show (if x.1 = 3 ∨ x.1 = 7 then 1 else 0) + nw S = nw S + 1
  rw [if_pos h]
  omega
/-- either, one level further in -/
def SimE (T : Nat → Nat) (L B : Nat) (K : MS → Prop) (g : Nat) (E : Ru → Ru) : Prop := ∀ S s, nw S + g = 7 → 7 ≤ topW S → S ≠ [] → isG s.1 = true → (∀ m, Rs 1 S (E s) m → K m) → K (S, true, s)
def SimO (T : Nat → Nat) (L B : Nat) (K : MS → Prop) (g : Nat) (O : Ru → Ru) : Prop := ∀ S s, nw S + g = 7 → bg S = true → S ≠ [] → isG s.1 = true → (∀ m, Rs 3 S (O s) m → K m) → K (S, true, s)
theorem unSim {K : MS → Prop} (hK : Clo T L B K) {g : Nat} {E : Ru → Ru} (hEp : (∀ s, isG s.1 = false → (E s).1 = s.1) ∧ ∀ s, s.2.1 ≤ (E s).2.1) (hE : ∀ g', g = g' + 1 → SimE T L B K g' E) {S : Pl} {s : Ru} (hn : nw S + g = 7) (hS : S ≠ []) (hnot : bg S = true → isWs 25 s.1 = false) (hg : isG s.1 = true) (kk : ∀ m, Rs 7 S (unF T L B E g s) m → K m) : K (S, true, s) := by
  have un0 : uNot S s.1 = false := by
    unfold uNot
    cases z : bg S with
    | false => rfl
    | true => rw [hnot z]; rfl
  refine hK.1 _ (fun hu => ?_)
  have hu' : s.2.1 ≤ 40 := hu
  refine hK.2.1 _ _ hg hS ?_
  unfold unF at kk
  by_cases u40 : 40 ≤ s.2.1
  · rw [if_pos u40] at kk
    have eu : s.2.1 = 40 := by omega
    have ub : uBad S s = true := by
      unfold uBad
      rw [un0, eu]
      simp
    unfold unitS
    rw [if_pos ub]
    exact kk _ (Rs.flt (by show isG (flF 2 s.1) = false; exact flF_G) rfl)
  · rw [if_neg u40] at kk
    cases zn : isN s.1 with
    | true =>
      rw [zn, if_pos rfl] at kk
      have zc : isC 40 s.1 = false := by
        cases hσ : s.1 with
        | inl f => rfl
        | inr t =>
          rw [hσ] at zn
          unfold isN at zn
          unfold isC
          simp at zn ⊢
          intro q
          omega
      have zw : wuK s.1 = 0 := by
        have : ∀ w, isWs w s.1 = false := fun w => by
          cases hσ : s.1 with
          | inl f => rfl
          | inr t =>
            rw [hσ] at zn
            unfold isN at zn
            unfold isWs
            simp at zn ⊢
            intro q
            omega
        unfold wuK
        rw [this, this, this, this, this]
        decide
      have ub : uBad S s = false := by
        unfold uBad
        rw [un0, zn, zc]
        simp
        omega
      unfold unitS
      rw [if_neg (by rw [ub]; decide), if_neg (by rw [un0]; decide), if_neg (by rw [zc]; decide)]
      unfold atomF
      rw [if_pos zw]
      refine kk _ ⟨fun _ => ⟨[], _, rfl, fun x hx => (by cases hx), rfl, xf_7⟩, fun _ => rfl⟩
    | false =>
      rw [zn, if_neg (by decide)] at kk
      cases zc : isC 40 s.1 with
      | true =>
        rw [zc, if_pos rfl] at kk
        have zw : wuK s.1 = 0 := by
          unfold wuK
          rw [c_ws zc, c_ws zc, c_ws zc, c_ws zc, c_ws zc]
          decide
        cases g with
        | zero =>
          rw [if_pos rfl] at kk
          have ub : uBad S s = true := by
            unfold uBad
            rw [zc]
            simp
            omega
          unfold unitS
          rw [if_pos ub]
          exact kk _ (Rs.flt (by show isG (flF 2 s.1) = false; exact flF_G) rfl)
        | succ g =>
          rw [if_neg (by omega)] at kk
          have ub : uBad S s = false := by
            unfold uBad
            rw [un0, zc, zn]
            simp
            omega
          unfold unitS
          rw [if_neg (by rw [ub]; decide), if_neg (by rw [un0]; decide), if_pos zc]
          have fz : isG (E (rAdv T L (rUp s))).1 = false → (rTs T L 41 (E (rAdv T L (rUp s)))).1 = (E (rAdv T L (rUp s))).1 := fun q => tsF_f q
          cases ha : isG (rAdv T L (rUp s)).1 with
          | false =>
            have h2 := hEp.1 _ ha
            have q3 : isG (E (rAdv T L (rUp s))).1 = false := by rw [h2]; exact ha
            exact kk _ (Rs.flt (by rw [fz q3]; exact q3) (by rw [fz q3, h2]))
          | true =>
            refine hE g rfl ((7, 6) :: S) _ ?_ (Nat.le_refl 7) (by simp) ha (fun m hm => ?_)
            · rw [nw_in (Or.inr rfl)]; omega
            · cases hq : isG (E (rAdv T L (rUp s))).1 with
              | false => exact kk _ (Rs.flt (by rw [fz hq]; exact hq) ((hm.2 hq).trans (fz hq).symm))
              | true =>
                obtain ⟨pend, t, rfl, hp, he, hx⟩ := hm.1 hq
                have e2 := emi_1 (P := pend) (s := t)
                rw [he] at e2
                have hgt : isG t.1 = true := by rw [← e2.1]; exact hq
                refine hK.2.2 _ _ hgt (by simp) ?_
                obtain ⟨x1, x2, x3, x4, x5⟩ := hx
                by_cases r4 : rk t.1 = 4
                · have ic := x3 (by decide) r4
                  unfold behS
                  rw [if_pos ⟨r4, ic⟩]
                  have n41 : isC 41 t.1 = false := by
                    have := rk_4.mpr r4
                    unfold cmK at this
                    cases z : isC 41 t.1 with
                    | false => rfl
                    | true =>
                      rw [isC_x z (by decide : 41 ≠ 60), isC_x z (by decide : 41 ≠ 62), isC_x z (by decide : 41 ≠ 61)] at this
                      exact absurd rfl this
                  have ets : (rTs T L 41 (E (rAdv T L (rUp s)))).1 = flF 2 t.1 := by
                    show tsF true T L 41 (E (rAdv T L (rUp s))).1 = _
                    rw [e2.1]
                    unfold tsF
                    rw [n41, if_neg (by decide)]
                  refine kk _ (Rs.flt ?_ ?_)
                  · rw [ets]; exact flF_G
                  · rw [ets]; rfl
                · have r0 : rk t.1 = 0 := by
                    have y1 := x1 (by decide)
                    have y2 := x2 (by decide)
                    have y4 := x4 (by decide)
                    have y5 := x5 (by decide)
                    unfold rk at r4 y1 y2 y4 y5 ⊢
                    (repeat' split at r4) <;> simp_all
                  unfold behS
                  rw [if_neg (by omega), if_neg (by omega), pops_app (S := (7, 6) :: S) (by show ¬ (7 ≤ 6 ∧ _); omega) pend t (fun x hx => ⟨Nat.zero_le _, (hp x hx).2⟩), he]
                  show K (S, false, if topW ((7, 6) :: S) = 7 then rTs T L 41 (E (rAdv T L (rUp s))) else _)
                  rw [if_pos (show topW ((7, 6) :: S) = 7 from rfl)]
                  exact kk _ ⟨fun _ => ⟨[], _, rfl, fun x hx => (by cases hx), rfl, xf_7⟩, fun _ => rfl⟩
      | false =>
        rw [zc, if_neg (by decide)] at kk
        unfold wuF at kk
        have ew : wuK (rUp s).1 = wuK s.1 := rfl
        rw [ew] at kk
        by_cases zw : wuK s.1 = 0
        · rw [if_pos zw] at kk
          have ub : uBad S s = true := by
            unfold uBad
            rw [un0, zn, zc, zw]
            simp
          unfold unitS
          rw [if_pos ub]
          exact kk _ (Rs.flt (by show isG (flF 2 s.1) = false; exact flF_G) rfl)
        · rw [if_neg zw] at kk
          have ub : uBad S s = false := by
            unfold uBad
            rw [un0, zn, zc]
            simp [zw]
            omega
          unfold unitS
          rw [if_neg (by rw [ub]; decide), if_neg (by rw [un0]; decide), if_neg (by rw [zc]; decide)]
          unfold atomF
          rw [if_neg zw]
          by_cases z2 : wuK s.1 ≤ 2
          · rw [if_pos z2] at kk ⊢
            refine kk _ ⟨fun _ => ⟨[], _, rfl, fun x hx => (by cases hx), rfl, xf_7⟩, fun _ => rfl⟩
          · rw [if_neg z2] at kk ⊢
            refine kk _ ⟨fun _ => ⟨[], _, rfl, fun x hx => (by cases hx), rfl, xf_7⟩, fun _ => rfl⟩
end SIM
