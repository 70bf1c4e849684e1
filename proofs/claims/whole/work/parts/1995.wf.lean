/-! ===== rules: what the codes are worth ===== -/
section WF
variable {T : Nat → Nat} {L B : Nat}
def hgS (x : Nat × Nat) (m : Nat) : Option Nat := if x.1 < 6 then (if m < 40 then some (m + 1) else none) else if x.1 = 6 then (if m = 0 then none else some m) else if m ≤ 1 then none else some (m - 1)
/-- how high the pile is behind codes, the last one first -/
def hgD : Pl → Nat → Option Nat
  | [], m => some m
  | x :: D, m => (hgD D m).bind (hgS x)
theorem hgD_app {D1 : Pl} : ∀ (D2 : Pl) (m : Nat), hgD (D2 ++ D1) m = (hgD D1 m).bind (hgD D2) := by
  intro D2
  induction D2 with
  | nil =>
    intro m
    show hgD D1 m = (hgD D1 m).bind (fun a => some a)
    cases hgD D1 m <;> rfl
  | cons x D2 ih =>
    intro m
    show (hgD (D2 ++ D1) m).bind (hgS x) = (hgD D1 m).bind (fun a => (hgD D2 a).bind (hgS x))
    rw [ih m]
    cases hgD D1 m <;> rfl
def okC (B : Nat) (x : Nat × Nat) : Prop := x.1 < 15 ∧ x.2 < 10000 ∧ (3 ≤ x.1 → x.1 < 6 → x.2 < B)
/-- what a part of an expression adds, if all is well -/
def Wf (L B a : Nat) (X : Ru → Ru) : Prop := ∀ s, stO L s.1 → s.2.2.length ≤ 9 * s.2.1 + 1 → s.2.1 ≤ 40 → isG (X s).1 = true → stO L (X s).1 ∧ (X s).2.1 ≤ 40 ∧ s.2.1 < (X s).2.1 ∧ ∃ D, (X s).2.2 = D ++ s.2.2 ∧ D.length + a ≤ 9 * ((X s).2.1 - s.2.1) ∧ (∀ x, x ∈ D → okC B x) ∧ ∀ m, m + ((X s).2.1 - s.2.1) ≤ 40 → hgD D m = some (m + 1)
theorem Wf.wk {a a' : Nat} {X : Ru → Ru} (h : Wf L B a X) (ha : a' ≤ a) : Wf L B a' X := fun s h1 h2 h3 h4 => by
  obtain ⟨b1, b2, b3, D, e, l, o, p⟩ := h s h1 h2 h3 h4
  exact ⟨b1, b2, b3, D, e, by omega, o, p⟩
theorem nx_ok (hT : ∀ i, i < L → T i < 256) {σ : Sg} (h : stO L σ) : stO L (nxF true T L σ) := by
  cases σ with
  | inl f => exact h
  | inr t => exact nxS_ok h.1 hT
theorem nu_ok {σ : Sg} (h : stO L σ) (hn : isN σ = true) : nuV σ < 10000 := by
  cases σ with
  | inl f => cases hn
  | inr t => exact h.1.2.2.2.2.2.1 (isN_4 hn)
theorem hgS_0 {k v m : Nat} (hk : k < 6) (hm : m < 40) : hgD [(k, v)] m = some (m + 1) := by
  show hgS (k, v) m = _
  unfold hgS
  rw [if_pos hk, if_pos hm]
theorem un_wf (hT : ∀ i, i < L → T i < 256) (hB : B ≤ 24) {E : Ru → Ru} {g : Nat} (hEf : ∀ s, isG s.1 = false → (E s).1 = s.1) (hE : g ≠ 0 → Wf L B 1 E) : Wf L B 8 (unF T L B E g) := by
  intro s hs hl hu hg
  unfold unF at hg ⊢
  by_cases u40 : 40 ≤ s.2.1
  · rw [if_pos u40] at hg
    exact absurd hg (by show ¬ isG (flF 2 s.1) = true; rw [flF_G]; decide)
  · rw [if_neg u40] at hg ⊢
    have one : ∀ k v, k < 6 → okC B (k, v) → ∀ s' : Ru, s'.2.2 = (k, v) :: s.2.2 → s'.2.1 = s.2.1 + 1 → stO L s'.1 → stO L s'.1 ∧ s'.2.1 ≤ 40 ∧ s.2.1 < s'.2.1 ∧ ∃ D, s'.2.2 = D ++ s.2.2 ∧ D.length + 8 ≤ 9 * (s'.2.1 - s.2.1) ∧ (∀ x, x ∈ D → okC B x) ∧ ∀ m, m + (s'.2.1 - s.2.1) ≤ 40 → hgD D m = some (m + 1) := by
      intro k v hk ho s' e1 e2 e3
      refine ⟨e3, by omega, by omega, [(k, v)], by rw [e1]; rfl, by rw [List.length_singleton]; omega, fun x hx => ?_, fun m hm => hgS_0 hk (by omega)⟩
      rw [List.mem_singleton] at hx
      rw [hx]
      exact ho
    have add : ∀ k v (s' : Ru), s'.2.2 = s.2.2 → (rAdd k v s').2.2 = (k, v) :: s.2.2 := fun k v s' e => by
      unfold rAdd
      rw [e, if_pos (by omega)]
    cases zn : isN s.1 with
    | true =>
      rw [if_pos rfl]
      exact one 0 (nuV s.1) (by decide) ⟨(show 0 < 15 by decide), nu_ok hs zn, fun q => absurd (show 3 ≤ 0 from q) (by decide)⟩ _ (add 0 _ (rUp s) rfl) rfl (nx_ok hT hs)
    | false =>
      rw [zn, if_neg (by decide)] at hg
      rw [if_neg (by decide)]
      cases zc : isC 40 s.1 with
      | true =>
        rw [zc, if_pos rfl] at hg
        rw [if_pos rfl]
        by_cases g0 : g = 0
        · rw [if_pos g0] at hg
          exact absurd hg (by show ¬ isG (flF 2 s.1) = true; rw [flF_G]; decide)
        · rw [if_neg g0] at hg ⊢
          have hge : isG (E (rAdv T L (rUp s))).1 = true := by
            cases q : isG (E (rAdv T L (rUp s))).1 with
            | true => rfl
            | false =>
              have hg' : isG (tsF true T L 41 (E (rAdv T L (rUp s))).1) = true := hg
              rw [tsF_f q, q] at hg'
              cases hg'
          obtain ⟨b1, b2, b3, D, e, l, o, p⟩ := hE g0 (rAdv T L (rUp s)) (nx_ok hT hs) (by show s.2.2.length ≤ 9 * (s.2.1 + 1) + 1; omega) (by show s.2.1 + 1 ≤ 40; omega) hge
          have b3' : s.2.1 + 1 < (E (rAdv T L (rUp s))).2.1 := b3
          have l' : D.length + 1 ≤ 9 * ((E (rAdv T L (rUp s))).2.1 - (s.2.1 + 1)) := l
          have p' : ∀ m, m + ((E (rAdv T L (rUp s))).2.1 - (s.2.1 + 1)) ≤ 40 → hgD D m = some (m + 1) := p
          have st : stO L (tsF true T L 41 (E (rAdv T L (rUp s))).1) := by
            have hg' : isG (tsF true T L 41 (E (rAdv T L (rUp s))).1) = true := hg
            unfold tsF
            rw [tsF_G hg', if_pos rfl]
            exact nx_ok hT b1
          refine ⟨st, b2, ?_, D, e, ?_, o, fun m hm => p' m ?_⟩
          · show s.2.1 < (E (rAdv T L (rUp s))).2.1
            omega
          · show D.length + 8 ≤ 9 * ((E (rAdv T L (rUp s))).2.1 - s.2.1)
            omega
          · have hm' : m + ((E (rAdv T L (rUp s))).2.1 - s.2.1) ≤ 40 := hm
            omega
      | false =>
        rw [zc, if_neg (by decide)] at hg
        rw [if_neg (by decide)]
        unfold wuF at hg ⊢
        by_cases w0 : wuK (rUp s).1 = 0
        · rw [if_pos w0] at hg
          exact absurd hg (by show ¬ isG (flF 2 s.1) = true; rw [flF_G]; decide)
        · rw [if_neg w0] at hg ⊢
          have w6 : wuK (rUp s).1 < 6 := by
            unfold wuK
            (repeat' split) <;> omega
          by_cases w2 : wuK (rUp s).1 ≤ 2
          · rw [if_pos w2]
            exact one _ 0 w6 ⟨by omega, (show 0 < 10000 by decide), fun q => absurd (show 3 ≤ wuK (rUp s).1 from q) (by omega)⟩ _ (add _ 0 (rUp s) rfl) rfl (nx_ok hT hs)
          · rw [if_neg w2] at hg ⊢
            unfold buF at hg ⊢
            cases zg : isG (atF 0 B (rAdv T L (rUp s)).1) with
            | false =>
              rw [zg, if_neg (by decide)] at hg
              have hg' : isG (atF 0 B (rAdv T L (rUp s)).1) = true := hg
              rw [zg] at hg'
              cases hg'
            | true =>
              rw [if_pos rfl]
              obtain ⟨-, -, q3, -⟩ := atF_G zg
              exact one _ _ w6 ⟨by omega, by show nuV (rAdv T L (rUp s)).1 < 10000; omega, fun _ _ => q3⟩ _ (add _ _ (rAdv T L (rUp s)) rfl) rfl (nx_ok hT (nx_ok hT hs))
/-- two parts and what joins them -/
theorem jn_wf {a k : Nat} {s s1 s2 : Ru} (ha : 1 ≤ a) (hk : 7 ≤ k) (hk15 : k < 15) (hl : s.2.2.length ≤ 9 * s.2.1 + 1) {D1 D2 : Pl} (u1 : s.2.1 < s1.2.1) (u2 : s1.2.1 < s2.2.1) (u3 : s2.2.1 ≤ 40) (e1 : s1.2.2 = D1 ++ s.2.2) (e2 : s2.2.2 = D2 ++ s1.2.2) (l1 : D1.length + a ≤ 9 * (s1.2.1 - s.2.1)) (l2 : D2.length + a ≤ 9 * (s2.2.1 - s1.2.1)) (o1 : ∀ x, x ∈ D1 → okC B x) (o2 : ∀ x, x ∈ D2 → okC B x) (p1 : ∀ m, m + (s1.2.1 - s.2.1) ≤ 40 → hgD D1 m = some (m + 1)) (p2 : ∀ m, m + (s2.2.1 - s1.2.1) ≤ 40 → hgD D2 m = some (m + 1)) : ∃ D, (rAdd k 0 s2).2.2 = D ++ s.2.2 ∧ D.length + a ≤ 9 * (s2.2.1 - s.2.1) ∧ (∀ x, x ∈ D → okC B x) ∧ ∀ m, m + (s2.2.1 - s.2.1) ≤ 40 → hgD D m = some (m + 1) := by
  have len : s2.2.2.length < 600 := by
    rw [e2, e1, List.length_append, List.length_append]
    omega
  refine ⟨(k, 0) :: (D2 ++ D1), ?_, ?_, ?_, ?_⟩
  · unfold rAdd
    rw [if_pos len, e2, e1]
    show (k, 0) :: (D2 ++ (D1 ++ s.2.2)) = (k, 0) :: ((D2 ++ D1) ++ s.2.2)
    rw [List.append_assoc]
  · rw [List.length_cons, List.length_append]
    omega
  · intro x hx
    rcases List.mem_cons.mp hx with q | q
    · rw [q]
      exact ⟨hk15, (show 0 < 10000 by decide), fun _ h => absurd (show k < 6 from h) (by omega)⟩
    · rcases List.mem_append.mp q with q | q
      · exact o2 x q
      · exact o1 x q
  · intro m hm
    show (hgD (D2 ++ D1) m).bind (hgS (k, 0)) = some (m + 1)
    rw [hgD_app, p1 m (by omega)]
    show (hgD D2 (m + 1)).bind (hgS (k, 0)) = some (m + 1)
    rw [p2 (m + 1) (by omega)]
    show hgS (k, 0) (m + 1 + 1) = some (m + 1)
    unfold hgS
    rw [if_neg (by show ¬ k < 6; omega), if_neg (by show ¬ k = 6; omega), if_neg (by omega)]
    rfl
theorem lp_wf (hT : ∀ i, i < L → T i < 256) {a : Nat} (ha : 1 ≤ a) {c : Sg → Bool} (hc : ∀ σ, isG σ = false → c σ = false) {X : Ru → Ru} {k : Sg → Nat} (hk : ∀ σ, 7 ≤ k σ ∧ k σ < 15) (hX : Wf L B a X) (hXf : ∀ s, isG s.1 = false → (X s).1 = s.1) {b : Ru → Ru} (hb : ∀ s, b s = rAdd (k s.1) 0 (X (rAdv T L s))) {n : Nat} : Wf L B a (fun s => lpF c b n (X s)) := by
  intro s hs hl hu hg
  have hg' : isG (lpF c b n (X s)).1 = true := hg
  have key : ∀ n s1, isG (lpF c b n s1).1 = true → stO L s1.1 → s1.2.1 ≤ 40 → s.2.1 < s1.2.1 → (∃ D, s1.2.2 = D ++ s.2.2 ∧ D.length + a ≤ 9 * (s1.2.1 - s.2.1) ∧ (∀ x, x ∈ D → okC B x) ∧ ∀ m, m + (s1.2.1 - s.2.1) ≤ 40 → hgD D m = some (m + 1)) → stO L (lpF c b n s1).1 ∧ (lpF c b n s1).2.1 ≤ 40 ∧ s.2.1 < (lpF c b n s1).2.1 ∧ ∃ D, (lpF c b n s1).2.2 = D ++ s.2.2 ∧ D.length + a ≤ 9 * ((lpF c b n s1).2.1 - s.2.1) ∧ (∀ x, x ∈ D → okC B x) ∧ ∀ m, m + ((lpF c b n s1).2.1 - s.2.1) ≤ 40 → hgD D m = some (m + 1) := by
    intro n
    induction n with
    | zero => intro s1 _ h1 h2 h3 h4; exact ⟨h1, h2, h3, h4⟩
    | succ n ih =>
      intro s1 hg h1 h2 h3 h4
      rw [lpF] at hg ⊢
      cases zc : c s1.1 with
      | false => rw [if_neg (by decide)]; exact ⟨h1, h2, h3, h4⟩
      | true =>
        rw [zc, if_pos rfl] at hg
        rw [if_pos rfl]
        have hbg : isG (X (rAdv T L s1)).1 = true := by
          cases q : isG (X (rAdv T L s1)).1 with
          | true => rfl
          | false =>
            have q2 : isG (b s1).1 = false := by rw [hb]; exact q
            rw [lp_f (hc _ q2), q2] at hg
            cases hg
        obtain ⟨D1, e1, l1, o1, p1⟩ := h4
        have hl1 : s1.2.2.length ≤ 9 * s1.2.1 + 1 := by rw [e1, List.length_append]; omega
        obtain ⟨c1, c2, c3, D2, e2, l2, o2, p2⟩ := hX (rAdv T L s1) (nx_ok hT h1) hl1 h2 hbg
        have c3' : s1.2.1 < (X (rAdv T L s1)).2.1 := c3
        obtain ⟨hk7, hk15⟩ := hk s1.1
        refine ih (b s1) hg (by rw [hb]; exact c1) (by rw [hb]; exact c2) (by rw [hb]; show s.2.1 < (X (rAdv T L s1)).2.1; omega) ?_
        rw [hb]
        exact jn_wf (s := s) (s1 := s1) (s2 := X (rAdv T L s1)) ha hk7 hk15 hl h3 c3' c2 e1 e2 l1 l2 o1 o2 p1 p2
  have hgX : isG (X s).1 = true := by
    cases q : isG (X s).1 with
    | true => rfl
    | false =>
      rw [lp_f (hc _ q), q] at hg'
      cases hg'
  obtain ⟨b1, b2, b3, b4⟩ := hX s hs hl hu hgX
  exact key n (X s) hg' b1 b2 b3 b4
theorem suK_b (σ : Sg) : 7 ≤ suK σ ∧ suK σ < 15 := by unfold suK; split <;> omega
theorem te_wf (hT : ∀ i, i < L → T i < 256) (hB : B ≤ 24) {E : Ru → Ru} {g : Nat} (hEp : (∀ s, isG s.1 = false → (E s).1 = s.1) ∧ ∀ s, s.2.1 ≤ (E s).2.1) (hE : g ≠ 0 → Wf L B 1 E) : Wf L B 8 (teF T L B E g) := lp_wf hT (by decide) (fun _ h => isC_f h) (k := fun _ => 7) (fun _ => by decide) (un_wf hT hB hEp.1 hE) (un_prp hEp).1 (b := teB T L B E g) (fun _ => rfl)
theorem su_wf (hT : ∀ i, i < L → T i < 256) (hB : B ≤ 24) {E : Ru → Ru} {g : Nat} (hEp : (∀ s, isG s.1 = false → (E s).1 = s.1) ∧ ∀ s, s.2.1 ≤ (E s).2.1) (hE : g ≠ 0 → Wf L B 1 E) : Wf L B 8 (suF T L B E g) := lp_wf hT (by decide) (fun _ h => by unfold suC; rw [isC_f h, isC_f h]; rfl) (k := suK) suK_b (te_wf hT hB hEp hE) (te_prp hEp).1 (b := suB T L B E g) (fun _ => rfl)
theorem re_wf (hT : ∀ i, i < L → T i < 256) (hB : B ≤ 24) {E : Ru → Ru} {g : Nat} (hEp : (∀ s, isG s.1 = false → (E s).1 = s.1) ∧ ∀ s, s.2.1 ≤ (E s).2.1) (hE : g ≠ 0 → Wf L B 1 E) : Wf L B 8 (reF T L B E g) := by
  intro s hs hl hu hg
  have hw : Wf L B 8 (suF T L B E g) := su_wf hT hB hEp hE
  have hp := su_prp (T := T) (L := L) (B := B) (g := g) hEp
  unfold reF at hg ⊢
  by_cases hc : cmK (suF T L B E g s).1 = 0
  · rw [if_pos hc] at hg ⊢
    exact hw s hs hl hu hg
  · rw [if_neg hc] at hg ⊢
    have hg2 : isG (suF T L B E g (rAdv T L (suF T L B E g s))).1 = true := hg
    have hg1 : isG (suF T L B E g s).1 = true := by
      cases q : isG (suF T L B E g s).1 with
      | true => rfl
      | false => exact absurd (cm_f q) hc
    obtain ⟨b1, b2, b3, D1, e1, l1, o1, p1⟩ := hw s hs hl hu hg1
    have hl1 : (suF T L B E g s).2.2.length ≤ 9 * (suF T L B E g s).2.1 + 1 := by rw [e1, List.length_append]; omega
    obtain ⟨c1, c2, c3, D2, e2, l2, o2, p2⟩ := hw (rAdv T L (suF T L B E g s)) (nx_ok hT b1) hl1 b2 hg2
    have c3' : (suF T L B E g s).2.1 < (suF T L B E g (rAdv T L (suF T L B E g s))).2.1 := c3
    have hk : 7 ≤ cmK (suF T L B E g s).1 ∧ cmK (suF T L B E g s).1 < 15 := by
      revert hc
      unfold cmK
      (repeat' split) <;> omega
    exact ⟨c1, c2, Nat.lt_trans b3 c3', jn_wf (s := s) (s1 := suF T L B E g s) (s2 := suF T L B E g (rAdv T L (suF T L B E g s))) (by decide) hk.1 hk.2 hl b3 c3' c2 e1 e2 l1 l2 o1 o2 p1 p2⟩
theorem on_wf (hT : ∀ i, i < L → T i < 256) (hB : B ≤ 24) {E O : Ru → Ru} {g : Nat} (hg7 : g ≤ 7) (hEp : (∀ s, isG s.1 = false → (E s).1 = s.1) ∧ ∀ s, s.2.1 ≤ (E s).2.1) (hE : g ≠ 0 → Wf L B 1 E) (hO : ∀ g', g = g' + 1 → Wf L B (8 - g') O) : Wf L B (8 - g) (onF T L B E O g) := by
  intro s hs hl hu hg
  unfold onF at hg ⊢
  cases zn : isWs 25 s.1 with
  | false =>
    rw [zn, if_neg (by decide)] at hg
    rw [if_neg (by decide)]
    exact (re_wf hT hB hEp hE).wk (by omega) s hs hl hu hg
  | true =>
    rw [zn, if_pos rfl] at hg
    rw [if_pos rfl]
    cases g with
    | zero =>
      rw [if_pos rfl] at hg
      exact absurd hg (by show ¬ isG (flF 2 s.1) = true; rw [flF_G]; decide)
    | succ g =>
      rw [if_neg (by omega)] at hg ⊢
      obtain ⟨b1, b2, b3, D, e, l, o, p⟩ := hO g rfl (rAdv T L s) (nx_ok hT hs) hl hu hg
      have b3' : s.2.1 < (O (rAdv T L s)).2.1 := b3
      have e' : (O (rAdv T L s)).2.2 = D ++ s.2.2 := e
      have l' : D.length + (8 - g) ≤ 9 * ((O (rAdv T L s)).2.1 - s.2.1) := l
      have p' : ∀ m, m + ((O (rAdv T L s)).2.1 - s.2.1) ≤ 40 → hgD D m = some (m + 1) := p
      have len : (O (rAdv T L s)).2.2.length < 600 := by
        rw [e', List.length_append]
        omega
      refine ⟨b1, b2, b3', (6, 0) :: D, ?_, ?_, ?_, fun m hm => ?_⟩
      · unfold rAdd
        rw [if_pos len, e']
        rfl
      · show ((6, 0) :: D).length + (8 - (g + 1)) ≤ 9 * ((O (rAdv T L s)).2.1 - s.2.1)
        rw [List.length_cons]
        omega
      · intro x hx
        rcases List.mem_cons.mp hx with q | q
        · rw [q]; exact ⟨by decide, by decide, fun _ h => absurd h (by decide)⟩
        · exact o x q
      · show (hgD D m).bind (hgS (6, 0)) = some (m + 1)
        rw [p' m hm]
        rfl
theorem bo_wf (hT : ∀ i, i < L → T i < 256) (hB : B ≤ 24) {E O : Ru → Ru} {g : Nat} (hg7 : g ≤ 7) (hEp : (∀ s, isG s.1 = false → (E s).1 = s.1) ∧ ∀ s, s.2.1 ≤ (E s).2.1) (hE : g ≠ 0 → Wf L B 1 E) (hOp : g ≠ 0 → Prp O) (hO : ∀ g', g = g' + 1 → Wf L B (8 - g') O) : Wf L B 1 (boF T L B E O g) := lp_wf hT (by decide) (fun _ h => isWs_f h) (k := fun _ => 13) (fun _ => by decide) ((on_wf hT hB hg7 hEp hE hO).wk (by omega)) (on_prp hEp hOp).1 (b := boB T L B E O g) (fun _ => rfl)
theorem ei_wf (hT : ∀ i, i < L → T i < 256) (hB : B ≤ 24) {E O : Ru → Ru} {g : Nat} (hg7 : g ≤ 7) (hEp : (∀ s, isG s.1 = false → (E s).1 = s.1) ∧ ∀ s, s.2.1 ≤ (E s).2.1) (hE : g ≠ 0 → Wf L B 1 E) (hOp : g ≠ 0 → Prp O) (hO : ∀ g', g = g' + 1 → Wf L B (8 - g') O) : Wf L B 1 (eiF T L B E O g) := lp_wf hT (by decide) (fun _ h => isWs_f h) (k := fun _ => 14) (fun _ => by decide) (bo_wf hT hB hg7 hEp hE hOp hO) (bo_prp hEp hOp).1 (b := eiB T L B E O g) (fun _ => rfl)
theorem PF_wf (hT : ∀ i, i < L → T i < 256) (hB : B ≤ 24) : ∀ g, g ≤ 7 → Wf L B 1 (PF T L B (g + 1)).1 ∧ Wf L B (8 - g) (PF T L B (g + 1)).2 := by
  intro g
  induction g with
  | zero =>
    intro _
    exact ⟨ei_wf (g := 0) hT hB (by decide) (PF_prp 0).1 (fun q => absurd rfl q) (fun q => absurd rfl q) (fun g' h => absurd h (by omega)), on_wf (g := 0) hT hB (by decide) (PF_prp 0).1 (fun q => absurd rfl q) (fun g' h => absurd h (by omega))⟩
  | succ g ih =>
    intro h
    obtain ⟨a1, a2⟩ := ih (by omega)
    have hO : ∀ g', g + 1 = g' + 1 → Wf L B (8 - g') (PF T L B (g + 1)).2 := fun g' h => by
      have : g = g' := by omega
      subst this
      exact a2
    exact ⟨ei_wf hT hB h (PF_prp (g + 1)).1 (fun _ => a1) (fun _ => ((PF_prp (g + 1)).2 (by omega)).2) hO, on_wf hT hB h (PF_prp (g + 1)).1 (fun _ => a1) hO⟩
end WF
