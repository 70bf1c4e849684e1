/-! ===== rules: the pile follows the recursion, all levels ===== -/
section SIM2
variable {T : Nat → Nat} {L B : Nat}
theorem bg_n {a k : Nat} {S : Pl} (h : 4 ≤ a ∧ a ≤ 6) : bg ((a, k) :: S) = false := by
  unfold bg topW
  simp
  omega
theorem te_prp {E : Ru → Ru} {g : Nat} (hE : (∀ s, isG s.1 = false → (E s).1 = s.1) ∧ ∀ s, s.2.1 ≤ (E s).2.1) : Prp (teF T L B E g) := lp_prp (fun _ h => isC_f h) (bd_prp (k := fun _ => 7) (un_prp hE)).2.1 (un_prp hE)
theorem su_prp {E : Ru → Ru} {g : Nat} (hE : (∀ s, isG s.1 = false → (E s).1 = s.1) ∧ ∀ s, s.2.1 ≤ (E s).2.1) : Prp (suF T L B E g) := lp_prp (fun _ h => by unfold suC; rw [isC_f h, isC_f h]; rfl) (bd_prp (k := fun s => suK s.1) (te_prp hE)).2.1 (te_prp hE)
theorem cm_f {σ : Sg} (h : isG σ = false) : cmK σ = 0 := by unfold cmK; rw [isC_f h, isC_f h, isC_f h]; decide
theorem re_prp {E : Ru → Ru} {g : Nat} (hE : (∀ s, isG s.1 = false → (E s).1 = s.1) ∧ ∀ s, s.2.1 ≤ (E s).2.1) : Prp (reF T L B E g) := by
  have hs : Prp (suF T L B E g) := su_prp hE
  have hb : Prp (fun s => rAdd (cmK s.1) 0 (suF T L B E g (rAdv T L s))) := bd_prp (k := fun s => cmK s.1) hs
  refine ⟨fun s h => ?_, fun s => ?_, fun s => ?_⟩
  · have h1 := hs.1 s h
    unfold reF
    rw [if_pos (cm_f (by rw [h1]; exact h)), h1]
  · unfold reF
    split
    · exact hs.2.1 s
    · exact Nat.le_trans (hs.2.1 s) (hb.2.1 (suF T L B E g s))
  · unfold reF
    split
    · exact hs.2.2 s
    · exact fun h => Nat.lt_of_le_of_lt (hs.2.1 s) (hb.2.2 (suF T L B E g s) h)
theorem on_prp {E O : Ru → Ru} {g : Nat} (hE : (∀ s, isG s.1 = false → (E s).1 = s.1) ∧ ∀ s, s.2.1 ≤ (E s).2.1) (hO : g ≠ 0 → Prp O) : Prp (onF T L B E O g) := by
  have hr : Prp (reF T L B E g) := re_prp hE
  refine ⟨fun s h => ?_, fun s => ?_, fun s => ?_⟩
  · unfold onF
    rw [if_neg (by rw [isWs_f h]; decide)]
    exact hr.1 s h
  · unfold onF
    split
    · split
      · exact Nat.le_refl _
      · exact (hO (by assumption)).2.1 (rAdv T L s)
    · exact hr.2.1 s
  · unfold onF
    split
    · split
      · intro h
        exact absurd h (by show ¬ isG (flF 2 s.1) = true; rw [flF_G]; decide)
      · exact (hO (by assumption)).2.2 (rAdv T L s)
    · exact hr.2.2 s
theorem bo_prp {E O : Ru → Ru} {g : Nat} (hE : (∀ s, isG s.1 = false → (E s).1 = s.1) ∧ ∀ s, s.2.1 ≤ (E s).2.1) (hO : g ≠ 0 → Prp O) : Prp (boF T L B E O g) := lp_prp (fun _ h => isWs_f h) (bd_prp (k := fun _ => 13) (on_prp hE hO)).2.1 (on_prp hE hO)
theorem ei_prp {E O : Ru → Ru} {g : Nat} (hE : (∀ s, isG s.1 = false → (E s).1 = s.1) ∧ ∀ s, s.2.1 ≤ (E s).2.1) (hO : g ≠ 0 → Prp O) : Prp (eiF T L B E O g) := lp_prp (fun _ h => isWs_f h) (bd_prp (k := fun _ => 14) (bo_prp hE hO)).2.1 (bo_prp hE hO)
theorem PF_prp : ∀ g, ((∀ s, isG s.1 = false → ((PF T L B g).1 s).1 = s.1) ∧ ∀ s, s.2.1 ≤ ((PF T L B g).1 s).2.1) ∧ (g ≠ 0 → Prp (PF T L B g).1 ∧ Prp (PF T L B g).2) := by
  intro g
  induction g with
  | zero => exact ⟨⟨fun s _ => rfl, fun s => Nat.le_refl _⟩, fun q => absurd rfl q⟩
  | succ g ih =>
    have e := ei_prp (T := T) (L := L) (B := B) (g := g) ih.1 (fun q => (ih.2 q).2)
    have o := on_prp (T := T) (L := L) (B := B) (g := g) ih.1 (fun q => (ih.2 q).2)
    exact ⟨⟨e.1, e.2.1⟩, fun _ => ⟨e, o⟩⟩
variable {K : MS → Prop}
theorem teSim (hK : Clo T L B K) {g : Nat} {E : Ru → Ru} (hEp : (∀ s, isG s.1 = false → (E s).1 = s.1) ∧ ∀ s, s.2.1 ≤ (E s).2.1) (hE : ∀ g', g = g' + 1 → SimE T L B K g' E) {S : Pl} {s : Ru} (hn : nw S + g = 7) (hS : S ≠ []) (ht : topW S ≠ 6) (hnot : bg S = true → isWs 25 s.1 = false) (hg : isG s.1 = true) (kk : ∀ m, Rs 6 S (teF T L B E g s) m → K m) : K (S, true, s) := by
  refine unSim hK hEp hE hn hS hnot hg (fun m hm => ?_)
  cases hq : isG (unF T L B E g s).1 with
  | false =>
    have e : teF T L B E g s = unF T L B E g s := lp_f (isC_f hq) 40
    exact kk _ (Rs.flt (by rw [e]; exact hq) (by rw [e]; exact hm.2 hq))
  | true =>
    obtain ⟨pend, t, rfl, hp, he, hx⟩ := hm.1 hq
    have p0 : pend = [] := by
      cases pend with
      | nil => rfl
      | cons x P => have := hp x (List.mem_cons_self ..); omega
    subst p0
    have he' : t = unF T L B E g s := he
    subst he'
    have hu := (un_prp (T := T) (L := L) (B := B) (g := g) hEp).2.2 s hq
    refine loopSim hK (r := 6) (c := isC 42) (X := unF T L B E g) (b := teB T L B E g) (S := S) (Or.inl rfl) (fun _ => rk_6) (fun _ h => isC_f h) (un_prp hEp) (fun s' hc => ?_) (by omega) hS (fun k s' h1 h2 => ?_) 40 [] _ (fun x hx => by cases hx) hq xf_7 (by omega) kk
    · unfold teB
      rw [oc_6 hc]
    · exact unSim hK hEp hE (by rw [nw_op (by show 6 ≠ 3 ∧ 6 ≠ 7; decide)]; exact hn) (by simp) (fun q => by rw [bg_n (show 4 ≤ 6 ∧ 6 ≤ 6 by decide)] at q; cases q) h1 h2
theorem suSim (hK : Clo T L B K) {g : Nat} {E : Ru → Ru} (hEp : (∀ s, isG s.1 = false → (E s).1 = s.1) ∧ ∀ s, s.2.1 ≤ (E s).2.1) (hE : ∀ g', g = g' + 1 → SimE T L B K g' E) {S : Pl} {s : Ru} (hn : nw S + g = 7) (hS : S ≠ []) (ht : topW S ≠ 6 ∧ topW S ≠ 5) (hnot : bg S = true → isWs 25 s.1 = false) (hg : isG s.1 = true) (kk : ∀ m, Rs 5 S (suF T L B E g s) m → K m) : K (S, true, s) := by
  refine teSim hK hEp hE hn hS ht.1 hnot hg (fun m hm => ?_)
  cases hq : isG (teF T L B E g s).1 with
  | false =>
    have e : suF T L B E g s = teF T L B E g s := lp_f (by unfold suC; rw [isC_f hq, isC_f hq]; rfl) 40
    exact kk _ (Rs.flt (by rw [e]; exact hq) (by rw [e]; exact hm.2 hq))
  | true =>
    obtain ⟨pend, t, rfl, hp, he, hx⟩ := hm.1 hq
    have e2 := emi_1 (P := pend) (s := t)
    rw [he] at e2
    have hu := (te_prp (T := T) (L := L) (B := B) (g := g) hEp).2.2 s hq
    refine loopSim hK (r := 5) (c := suC) (X := teF T L B E g) (b := suB T L B E g) (S := S) (Or.inr (Or.inl rfl)) (fun _ => rk_5) (fun _ h => by unfold suC; rw [isC_f h, isC_f h]; rfl) (te_prp hEp) (fun s' hc => ?_) (by omega) hS (fun k s' h1 h2 => ?_) 40 pend t (fun x hx => by have := hp x hx; omega) (by rw [← e2.1]; exact hq) hx (by rw [← e2.2]; omega) (by rw [he]; exact kk)
    · unfold suB
      rw [oc_5 hc]
    · exact teSim hK hEp hE (by rw [nw_op (by show 5 ≠ 3 ∧ 5 ≠ 7; decide)]; exact hn) (by simp) (by show 5 ≠ 6; decide) (fun q => by rw [bg_n (show 4 ≤ 5 ∧ 5 ≤ 6 by decide)] at q; cases q) h1 h2
theorem bg_top {S : Pl} (h : bg S = true) : topW S ≤ 3 ∨ 7 ≤ topW S := by
  unfold bg at h
  simp at h
  exact h
theorem reSim (hK : Clo T L B K) {g : Nat} {E : Ru → Ru} (hEp : (∀ s, isG s.1 = false → (E s).1 = s.1) ∧ ∀ s, s.2.1 ≤ (E s).2.1) (hE : ∀ g', g = g' + 1 → SimE T L B K g' E) {S : Pl} {s : Ru} (hn : nw S + g = 7) (hS : S ≠ []) (hbg : bg S = true) (hnot : isWs 25 s.1 = false) (hg : isG s.1 = true) (kk : ∀ m, Rs 3 S (reF T L B E g s) m → K m) : K (S, true, s) := by
  have ht := bg_top hbg
  refine suSim hK hEp hE hn hS (by omega) (fun _ => hnot) hg (fun m hm => ?_)
  unfold reF at kk
  cases hq : isG (suF T L B E g s).1 with
  | false =>
    rw [if_pos (cm_f hq)] at kk
    exact kk _ (Rs.flt hq (hm.2 hq))
  | true =>
    obtain ⟨pend, t, rfl, hp, he, hx⟩ := hm.1 hq
    have e2 := emi_1 (P := pend) (s := t)
    rw [he] at e2
    have hgt : isG t.1 = true := by rw [← e2.1]; exact hq
    obtain ⟨x1, x2, -⟩ := hx
    by_cases hc : cmK (suF T L B E g s).1 = 0
    · rw [if_pos hc] at kk
      have n4 : rk t.1 ≠ 4 := fun q => absurd (rk_4.mpr q) (by rw [← e2.1]; exact fun z => z hc)
      exact kk _ ⟨fun _ => ⟨pend, t, rfl, fun x hx => (by have := hp x hx; omega), he, fun _ => x1 (by decide), fun _ => x2 (by decide), fun _ q => absurd q n4, fun h => absurd h (by decide), fun h => absurd h (by decide)⟩, fun q => (by rw [hq] at q; cases q)⟩
    · rw [if_neg hc] at kk
      have hc' : cmK t.1 ≠ 0 := by rw [← e2.1]; exact hc
      have r4 := rk_4.mp hc'
      have ek : cmK (suF T L B E g s).1 = oc t.1 := by rw [e2.1, oc_4 hc']
      rw [ek] at kk
      refine hK.2.2 _ _ hgt (fun q => hS (List.append_eq_nil_iff.mp q).2) ?_
      have est : behS T L (pend ++ S) t = ((4, oc t.1) :: S, true, rAdv T L (suF T L B E g s)) := by
        unfold behS
        rw [r4, if_neg (by rw [cmp_app pend hp, bg_cmp hbg]; simp), if_pos (by decide), pops_app (by omega) pend t (fun x hx => by have := hp x hx; omega), he]
      rw [est]
      have hsp := su_prp (T := T) (L := L) (B := B) (g := g) hEp
      cases ha : isG (rAdv T L (suF T L B E g s)).1 with
      | false =>
        have h2 := hsp.1 _ ha
        exact kk _ (Rs.flt (by show isG (suF T L B E g (rAdv T L (suF T L B E g s))).1 = false; rw [h2]; exact ha) (by show (rAdv T L (suF T L B E g s)).1 = (suF T L B E g (rAdv T L (suF T L B E g s))).1; rw [h2]))
      | true =>
        refine suSim hK hEp hE (by rw [nw_op (by show 4 ≠ 3 ∧ 4 ≠ 7; decide)]; exact hn) (by simp) (by show 4 ≠ 6 ∧ 4 ≠ 5; decide) (fun q => by rw [bg_n (show 4 ≤ 4 ∧ 4 ≤ 6 by decide)] at q; cases q) ha (fun m2 hm2 => ?_)
        cases hq2 : isG (suF T L B E g (rAdv T L (suF T L B E g s))).1 with
        | false => exact kk _ (Rs.flt hq2 (hm2.2 hq2))
        | true =>
          obtain ⟨pend', t', rfl, hp', he', hx'⟩ := hm2.1 hq2
          obtain ⟨y1, y2, -⟩ := hx'
          refine kk _ ⟨fun _ => ⟨pend' ++ [(4, oc t.1)], t', by rw [List.append_assoc]; rfl, fun x hx => ?_, by rw [emi_end, he'], fun _ => y1 (by decide), fun _ => y2 (by decide), fun _ _ => ?_, fun h => absurd h (by decide), fun h => absurd h (by decide)⟩, fun q => (by rw [show isG (rAdd (oc t.1) 0 (suF T L B E g (rAdv T L (suF T L B E g s)))).1 = true from hq2] at q; cases q)⟩
          · rcases List.mem_append.mp hx with z | z
            · have := hp' x z; omega
            · rw [List.mem_singleton] at z
              rw [z]
              show 3 ≤ 4 ∧ 4 ≤ 6
              decide
          · rw [List.append_assoc, cmp_app pend' hp']
            rfl
theorem onSim (hK : Clo T L B K) {g : Nat} {E O : Ru → Ru} (hEp : (∀ s, isG s.1 = false → (E s).1 = s.1) ∧ ∀ s, s.2.1 ≤ (E s).2.1) (hE : ∀ g', g = g' + 1 → SimE T L B K g' E) (hOp : g ≠ 0 → Prp O) (hO : ∀ g', g = g' + 1 → SimO T L B K g' O) : SimO T L B K g (onF T L B E O g) := by
  intro S s hn hbg hS hg kk
  unfold onF at kk
  cases zn : isWs 25 s.1 with
  | false =>
    rw [zn, if_neg (by decide)] at kk
    exact reSim hK hEp hE hn hS hbg zn hg kk
  | true =>
    rw [zn, if_pos rfl] at kk
    have un1 : uNot S s.1 = true := by unfold uNot; rw [hbg, zn]; rfl
    refine hK.2.1 _ _ hg hS ?_
    cases g with
    | zero =>
      rw [if_pos rfl] at kk
      have ub : uBad S s = true := by
        unfold uBad
        rw [un1]
        simp
        omega
      unfold unitS
      rw [if_pos ub]
      exact kk _ (Rs.flt (by show isG (flF 2 s.1) = false; exact flF_G) rfl)
    | succ g =>
      rw [if_neg (by omega)] at kk
      have ub : uBad S s = false := by
        unfold uBad
        rw [un1]
        simp
        omega
      unfold unitS
      rw [if_neg (by rw [ub]; decide), if_pos un1]
      have hOp' := hOp (by omega)
      cases ha : isG (rAdv T L s).1 with
      | false =>
        have h2 := hOp'.1 _ ha
        exact kk _ (Rs.flt (by show isG (O (rAdv T L s)).1 = false; rw [h2]; exact ha) (by show (rAdv T L s).1 = (O (rAdv T L s)).1; rw [h2]))
      | true =>
        refine hO g rfl ((3, 6) :: S) _ (by rw [nw_in (Or.inl rfl)]; omega) rfl (by simp) ha (fun m hm => ?_)
        cases hq : isG (O (rAdv T L s)).1 with
        | false => exact kk _ (Rs.flt hq (hm.2 hq))
        | true =>
          obtain ⟨pend, t, rfl, hp, he, hx⟩ := hm.1 hq
          have eq1 : pend ++ (3, 6) :: S = (pend ++ [(3, 6)]) ++ S := by rw [List.append_assoc]; rfl
          rw [eq1] at hx ⊢
          refine kk _ ⟨fun _ => ⟨pend ++ [(3, 6)], t, rfl, fun x hx => ?_, by rw [emi_end, he], hx⟩, fun q => (by rw [show isG (rAdd 6 0 (O (rAdv T L s))).1 = true from hq] at q; cases q)⟩
          rcases List.mem_append.mp hx with z | z
          · exact hp x z
          · rw [List.mem_singleton] at z
            rw [z]
            show 3 ≤ 3 ∧ 3 ≤ 6
            decide
theorem boSim (hK : Clo T L B K) {g : Nat} {E O : Ru → Ru} (hEp : (∀ s, isG s.1 = false → (E s).1 = s.1) ∧ ∀ s, s.2.1 ≤ (E s).2.1) (hOp : g ≠ 0 → Prp O) (hon : SimO T L B K g (onF T L B E O g)) {S : Pl} {s : Ru} (hn : nw S + g = 7) (hS : S ≠ []) (ht : topW S = 1 ∨ 7 ≤ topW S) (hg : isG s.1 = true) (kk : ∀ m, Rs 2 S (boF T L B E O g s) m → K m) : K (S, true, s) := by
  have hbg : bg S = true := by unfold bg; simp; omega
  refine hon S s hn hbg hS hg (fun m hm => ?_)
  cases hq : isG (onF T L B E O g s).1 with
  | false =>
    have e : boF T L B E O g s = onF T L B E O g s := lp_f (isWs_f hq) 40
    exact kk _ (Rs.flt (by rw [e]; exact hq) (by rw [e]; exact hm.2 hq))
  | true =>
    obtain ⟨pend, t, rfl, hp, he, hx⟩ := hm.1 hq
    have e2 := emi_1 (P := pend) (s := t)
    rw [he] at e2
    have hop := on_prp (T := T) (L := L) (B := B) (g := g) hEp hOp
    have hu := hop.2.2 s hq
    refine loopSim hK (r := 2) (c := isWs 23) (X := onF T L B E O g) (b := boB T L B E O g) (S := S) (Or.inr (Or.inr (Or.inl rfl))) (fun _ => rk_2) (fun _ h => isWs_f h) hop (fun s' hc => ?_) (by omega) hS (fun k s' h1 h2 => ?_) 40 pend t (fun x hx => by have := hp x hx; omega) (by rw [← e2.1]; exact hq) hx (by rw [← e2.2]; omega) (by rw [he]; exact kk)
    · unfold boB
      rw [oc_2 hc]
    · exact hon _ s' (by rw [nw_op (by show 2 ≠ 3 ∧ 2 ≠ 7; decide)]; exact hn) rfl (by simp) h1 h2
theorem eiSim (hK : Clo T L B K) {g : Nat} {E O : Ru → Ru} (hEp : (∀ s, isG s.1 = false → (E s).1 = s.1) ∧ ∀ s, s.2.1 ≤ (E s).2.1) (hOp : g ≠ 0 → Prp O) (hon : SimO T L B K g (onF T L B E O g)) : SimE T L B K g (eiF T L B E O g) := by
  intro S s hn ht hS hg kk
  refine boSim hK hEp hOp hon hn hS (Or.inr ht) hg (fun m hm => ?_)
  cases hq : isG (boF T L B E O g s).1 with
  | false =>
    have e : eiF T L B E O g s = boF T L B E O g s := lp_f (isWs_f hq) 40
    exact kk _ (Rs.flt (by rw [e]; exact hq) (by rw [e]; exact hm.2 hq))
  | true =>
    obtain ⟨pend, t, rfl, hp, he, hx⟩ := hm.1 hq
    have e2 := emi_1 (P := pend) (s := t)
    rw [he] at e2
    have hbp := bo_prp (T := T) (L := L) (B := B) (g := g) hEp hOp
    have hu := hbp.2.2 s hq
    refine loopSim hK (r := 1) (c := isWs 24) (X := boF T L B E O g) (b := eiB T L B E O g) (S := S) (Or.inr (Or.inr (Or.inr rfl))) (fun _ => rk_1) (fun _ h => isWs_f h) hbp (fun s' hc => ?_) (by omega) hS (fun k s' h1 h2 => ?_) 40 pend t (fun x hx => by have := hp x hx; omega) (by rw [← e2.1]; exact hq) hx (by rw [← e2.2]; omega) (by rw [he]; exact kk)
    · unfold eiB
      rw [oc_1 hc]
    · exact boSim hK hEp hOp hon (by rw [nw_op (by show 1 ≠ 3 ∧ 1 ≠ 7; decide)]; exact hn) (by simp) (Or.inl rfl) h1 h2
theorem allSim (hK : Clo T L B K) : ∀ g, SimE T L B K g (PF T L B (g + 1)).1 ∧ SimO T L B K g (PF T L B (g + 1)).2 := by
  intro g
  induction g with
  | zero =>
    have o : SimO T L B K 0 (onF T L B (PF T L B 0).1 (PF T L B 0).2 0) := onSim hK (PF_prp 0).1 (fun g' h => by omega) (fun q => absurd rfl q) (fun g' h => by omega)
    exact ⟨eiSim hK (PF_prp 0).1 (fun q => absurd rfl q) o, o⟩
  | succ g ih =>
    have h1 : ∀ g', g + 1 = g' + 1 → SimE T L B K g' (PF T L B (g + 1)).1 := fun g' h => by
      have : g = g' := by omega
      subst this
      exact ih.1
    have h2 : ∀ g', g + 1 = g' + 1 → SimO T L B K g' (PF T L B (g + 1)).2 := fun g' h => by
      have : g = g' := by omega
      subst this
      exact ih.2
    have o : SimO T L B K (g + 1) (onF T L B (PF T L B (g + 1)).1 (PF T L B (g + 1)).2 (g + 1)) := onSim hK (PF_prp (g + 1)).1 h1 (fun _ => ((PF_prp (g + 1)).2 (by omega)).2) h2
    exact ⟨eiSim hK (PF_prp (g + 1)).1 (fun _ => ((PF_prp (g + 1)).2 (by omega)).2) o, o⟩
end SIM2
