/-! ===== rules: the reference's pile against the class's recursion ===== -/
section PR
variable {T : Nat → Nat} {L B : Nat}
def rk (σ : Sg) : Nat := if isWs 23 σ = true then 2 else if isWs 24 σ = true then 1 else if isC 60 σ = true ∨ isC 62 σ = true ∨ isC 61 σ = true then 4 else if isC 43 σ = true ∨ isC 45 σ = true then 5 else if isC 42 σ = true then 6 else 0
def oc (σ : Sg) : Nat := if isWs 23 σ = true then 13 else if isWs 24 σ = true then 14 else if isC 60 σ = true then 10 else if isC 62 σ = true then 11 else if isC 61 σ = true then 12 else if isC 43 σ = true then 8 else if isC 45 σ = true then 9 else 7
abbrev Pl : Type := List (Nat × Nat)
abbrev MS : Type := Pl × Bool × Ru
def pops (r : Nat) : Pl → Ru → Pl × Ru
  | [], s => ([], s)
  | x :: S, s => if x.1 ≤ 6 ∧ r ≤ x.1 then pops r S (rAdd x.2 0 s) else (x :: S, s)
def isCmp : Pl → Bool
  | [] => false
  | x :: S => if x.1 = 5 ∨ x.1 = 6 then isCmp S else decide (x.1 = 4)
def topW : Pl → Nat
  | [] => 0
  | x :: _ => x.1
def bg (S : Pl) : Bool := decide (topW S ≤ 3) || decide (7 ≤ topW S)
def nw : Pl → Nat
  | [] => 0
  | x :: S => (if x.1 = 3 ∨ x.1 = 7 then 1 else 0) + nw S
def uNot (S : Pl) (σ : Sg) : Bool := bg S && isWs 25 σ
def uBad (S : Pl) (s : Ru) : Bool := (!uNot S s.1 && ((decide (wuK s.1 = 0) && !isN s.1 && !isC 40 s.1) || decide (s.2.1 = 40))) || ((uNot S s.1 || isC 40 s.1) && decide (nw S = 7))
def atomF (T : Nat → Nat) (L B : Nat) (s : Ru) : Ru := if wuK s.1 = 0 then rAdd 0 (nuV s.1) (rAdv T L (rUp s)) else if wuK s.1 ≤ 2 then rAdd (wuK s.1) 0 (rAdv T L (rUp s)) else buF T L B (wuK s.1) (rUp s)
def unitS (T : Nat → Nat) (L B : Nat) (S : Pl) (s : Ru) : MS := if uBad S s = true then (S, true, rFl 2 s) else if uNot S s.1 = true then ((3, 6) :: S, true, rAdv T L s) else if isC 40 s.1 = true then ((7, 6) :: S, true, rAdv T L (rUp s)) else (S, false, atomF T L B s)
def behS (T : Nat → Nat) (L : Nat) (S : Pl) (s : Ru) : MS := if rk s.1 = 4 ∧ isCmp S = true then (S, true, rFl 2 s) else if 0 < rk s.1 then ((rk s.1, oc s.1) :: (pops (rk s.1) S s).1, true, rAdv T L (pops (rk s.1) S s).2) else ((pops 0 S s).1.tail, false, if topW (pops 0 S s).1 = 7 then rTs T L 41 (pops 0 S s).2 else (pops 0 S s).2)
def emi : Pl → Ru → Ru
  | [], s => s
  | x :: P, s => emi P (rAdd x.2 0 s)
theorem emi_end {P : Pl} {x : Nat × Nat} : ∀ {s : Ru}, emi (P ++ [x]) s = rAdd x.2 0 (emi P s) := by
  induction P with
  | nil => intro s; rfl
  | cons y P ih => intro s; exact ih
theorem emi_1 {P : Pl} : ∀ {s : Ru}, (emi P s).1 = s.1 ∧ (emi P s).2.1 = s.2.1 := by
  induction P with
  | nil => intro s; exact ⟨rfl, rfl⟩
  | cons y P ih => intro s; exact ih
theorem pops_stop {r : Nat} {S : Pl} {s : Ru} (h : ¬ (topW S ≤ 6 ∧ r ≤ topW S)) : pops r S s = (S, s) := by
  cases S with
  | nil => rfl
  | cons x S => exact if_neg h
theorem pops_app {r : Nat} {S : Pl} (h : ¬ (topW S ≤ 6 ∧ r ≤ topW S)) : ∀ (P : Pl) (s : Ru), (∀ x, x ∈ P → r ≤ x.1 ∧ x.1 ≤ 6) → pops r (P ++ S) s = (S, emi P s) := by
  intro P
  induction P with
  | nil => intro s _; exact pops_stop h
  | cons x P ih =>
    intro s hp
    have hx := hp x (List.mem_cons_self ..)
    show (if x.1 ≤ 6 ∧ r ≤ x.1 then pops r (P ++ S) (rAdd x.2 0 s) else (x :: (P ++ S), s)) = _
    rw [if_pos ⟨hx.2, hx.1⟩]
    exact ih _ (fun y hy => hp y (List.mem_cons_of_mem _ hy))
theorem cmp_app {S : Pl} : ∀ (P : Pl), (∀ x, x ∈ P → 5 ≤ x.1 ∧ x.1 ≤ 6) → isCmp (P ++ S) = isCmp S := by
  intro P
  induction P with
  | nil => intro _; rfl
  | cons x P ih =>
    intro hp
    have hx := hp x (List.mem_cons_self ..)
    show (if x.1 = 5 ∨ x.1 = 6 then isCmp (P ++ S) else decide (x.1 = 4)) = _
    rw [if_pos (by omega)]
    exact ih (fun y hy => hp y (List.mem_cons_of_mem _ hy))
theorem ws_c {σ : Sg} {a b : Nat} (h : isWs a σ = true) : isC b σ = false := by
  cases σ with
  | inl f => rfl
  | inr t =>
    unfold isWs at h
    unfold isC
    simp at h ⊢
    intro q
    omega
theorem c_ws {σ : Sg} {a b : Nat} (h : isC b σ = true) : isWs a σ = false := by
  cases z : isWs a σ with
  | false => rfl
  | true => rw [ws_c z] at h; cases h
theorem rk_2 {σ : Sg} : isWs 23 σ = true ↔ rk σ = 2 := by
  unfold rk
  constructor
  · intro h; rw [if_pos h]
  · intro h
    by_cases q : isWs 23 σ = true
    · exact q
    · rw [if_neg q] at h
      (repeat' split at h) <;> omega
theorem rk_1 {σ : Sg} : isWs 24 σ = true ↔ rk σ = 1 := by
  unfold rk
  constructor
  · intro h
    rw [isWs_x h (by decide : 24 ≠ 23), if_neg (by decide), if_pos h]
  · intro h
    by_cases q : isWs 24 σ = true
    · exact q
    · rw [if_neg q] at h
      (repeat' split at h) <;> omega
theorem rk_6 {σ : Sg} : isC 42 σ = true ↔ rk σ = 6 := by
  unfold rk
  constructor
  · intro h
    rw [c_ws h, c_ws h, isC_x h (by decide : 42 ≠ 60), isC_x h (by decide : 42 ≠ 62), isC_x h (by decide : 42 ≠ 61), isC_x h (by decide : 42 ≠ 43), isC_x h (by decide : 42 ≠ 45), h]
    decide
  · intro h
    by_cases q : isC 42 σ = true
    · exact q
    · rw [if_neg q] at h
      (repeat' split at h) <;> omega
theorem rk_5 {σ : Sg} : suC σ = true ↔ rk σ = 5 := by
  unfold rk suC
  constructor
  · intro h
    rw [Bool.or_eq_true] at h
    rcases h with h | h
    · rw [c_ws h, c_ws h, isC_x h (by decide : 43 ≠ 60), isC_x h (by decide : 43 ≠ 62), isC_x h (by decide : 43 ≠ 61), h]
      simp
    · rw [c_ws h, c_ws h, isC_x h (by decide : 45 ≠ 60), isC_x h (by decide : 45 ≠ 62), isC_x h (by decide : 45 ≠ 61), h]
      simp
  · intro h
    by_cases q : isC 43 σ = true ∨ isC 45 σ = true
    · rw [Bool.or_eq_true]; exact q
    · rw [if_neg q] at h
      (repeat' split at h) <;> omega
theorem rk_4 {σ : Sg} : cmK σ ≠ 0 ↔ rk σ = 4 := by
  unfold rk cmK
  constructor
  · intro h
    by_cases q1 : isC 60 σ = true
    · rw [c_ws q1, c_ws q1, q1]
      simp
    · rw [if_neg q1] at h
      by_cases q2 : isC 62 σ = true
      · rw [c_ws q2, c_ws q2, q2]
        simp
      · rw [if_neg q2] at h
        by_cases q3 : isC 61 σ = true
        · rw [c_ws q3, c_ws q3, q3]
          simp
        · rw [if_neg q3] at h
          exact absurd rfl h
  · intro h
    by_cases q1 : isC 60 σ = true
    · rw [if_pos q1]; decide
    · rw [if_neg q1]
      by_cases q2 : isC 62 σ = true
      · rw [if_pos q2]; decide
      · rw [if_neg q2]
        by_cases q3 : isC 61 σ = true
        · rw [if_pos q3]; decide
        · exfalso
          rw [if_neg (show ¬ (isC 60 σ = true ∨ isC 62 σ = true ∨ isC 61 σ = true) by simp [q1, q2, q3])] at h
          (repeat' split at h) <;> omega
theorem oc_6 {σ : Sg} (h : isC 42 σ = true) : oc σ = 7 := by
  unfold oc
  rw [c_ws h, c_ws h, isC_x h (by decide : 42 ≠ 60), isC_x h (by decide : 42 ≠ 62), isC_x h (by decide : 42 ≠ 61), isC_x h (by decide : 42 ≠ 43), isC_x h (by decide : 42 ≠ 45)]
  decide
theorem oc_5 {σ : Sg} (h : suC σ = true) : oc σ = suK σ := by
  unfold oc suK
  unfold suC at h
  rw [Bool.or_eq_true] at h
  rcases h with h | h
  · rw [c_ws h, c_ws h, isC_x h (by decide : 43 ≠ 60), isC_x h (by decide : 43 ≠ 62), isC_x h (by decide : 43 ≠ 61), h]
    simp
  · rw [c_ws h, c_ws h, isC_x h (by decide : 45 ≠ 60), isC_x h (by decide : 45 ≠ 62), isC_x h (by decide : 45 ≠ 61), isC_x h (by decide : 45 ≠ 43), h]
    decide
theorem oc_4 {σ : Sg} (h : cmK σ ≠ 0) : oc σ = cmK σ := by
  unfold oc
  unfold cmK at h ⊢
  by_cases q1 : isC 60 σ = true
  · rw [c_ws q1, c_ws q1, q1]
    simp
  · rw [if_neg q1] at h ⊢
    by_cases q2 : isC 62 σ = true
    · rw [c_ws q2, c_ws q2, q2]
      simp [q1]
    · rw [if_neg q2] at h ⊢
      by_cases q3 : isC 61 σ = true
      · rw [c_ws q3, c_ws q3, q3]
        simp [q1, q2]
      · rw [if_neg q3] at h
        exact absurd rfl h
theorem oc_2 {σ : Sg} (h : isWs 23 σ = true) : oc σ = 13 := by unfold oc; rw [if_pos h]
theorem oc_1 {σ : Sg} (h : isWs 24 σ = true) : oc σ = 14 := by unfold oc; rw [isWs_x h (by decide : 24 ≠ 23), if_neg (by decide), if_pos h]
/-- a fault stays; units grow, by one at least if all is well -/
def Prp (X : Ru → Ru) : Prop := (∀ s, isG s.1 = false → (X s).1 = s.1) ∧ (∀ s, s.2.1 ≤ (X s).2.1) ∧ (∀ s, isG (X s).1 = true → s.2.1 < (X s).2.1)
theorem adv_f {s : Ru} (h : isG s.1 = false) : (rAdv T L s).1 = s.1 := by
  obtain ⟨σ, u, C⟩ := s
  cases σ with
  | inl f => rfl
  | inr t => cases h
theorem fl_f {j : Nat} {σ : Sg} (h : isG σ = false) : flF j σ = σ := by
  cases σ with
  | inl f => rfl
  | inr t => cases h
theorem isC_f {c : Nat} {σ : Sg} (h : isG σ = false) : isC c σ = false := by
  cases σ with
  | inl f => rfl
  | inr t => cases h
theorem isWs_f {c : Nat} {σ : Sg} (h : isG σ = false) : isWs c σ = false := by
  cases σ with
  | inl f => rfl
  | inr t => cases h
theorem isN_f {σ : Sg} (h : isG σ = false) : isN σ = false := by
  cases σ with
  | inl f => rfl
  | inr t => cases h
theorem un_prp {E : Ru → Ru} {g : Nat} (hE : (∀ s, isG s.1 = false → (E s).1 = s.1) ∧ ∀ s, s.2.1 ≤ (E s).2.1) : Prp (unF T L B E g) := by
  have bm : ∀ k s, s.2.1 ≤ (buF T L B k s).2.1 := fun k s => by
    unfold buF
    split
    · exact Nat.le_refl _
    · exact Nat.le_refl _
  have wm : ∀ s, s.2.1 ≤ (wuF T L B s).2.1 := fun s => by
    unfold wuF
    split
    · exact Nat.le_refl _
    · split
      · exact Nat.le_refl _
      · exact bm _ s
  refine ⟨fun s h => ?_, fun s => ?_, fun s => ?_⟩
  · unfold unF
    split
    · exact fl_f h
    · rw [if_neg (by rw [isN_f h]; decide), if_neg (by rw [isC_f h]; decide)]
      unfold wuF
      have h' : isG (rUp s).1 = false := h
      have : wuK (rUp s).1 = 0 := by
        unfold wuK
        rw [isWs_f h', isWs_f h', isWs_f h', isWs_f h', isWs_f h']
        decide
      rw [if_pos this]
      exact fl_f h
  · unfold unF
    split
    · exact Nat.le_refl _
    · split
      · exact Nat.le_succ _
      · split
        · split
          · exact Nat.le_succ _
          · exact Nat.le_trans (Nat.le_succ _) (hE.2 (rAdv T L (rUp s)))
        · exact Nat.le_trans (Nat.le_succ _) (wm (rUp s))
  · unfold unF
    split
    · intro h
      exact absurd h (by show ¬ isG (flF 2 s.1) = true; rw [flF_G]; decide)
    · split
      · exact fun _ => Nat.lt_succ_self _
      · split
        · split
          · exact fun _ => Nat.lt_succ_self _
          · exact fun _ => Nat.lt_of_lt_of_le (Nat.lt_succ_self _) (hE.2 (rAdv T L (rUp s)))
        · exact fun _ => Nat.lt_of_lt_of_le (Nat.lt_succ_self _) (wm (rUp s))
theorem lp_f {c : Sg → Bool} {b : Ru → Ru} {s : Ru} (hc : c s.1 = false) : ∀ n, lpF c b n s = s := by
  intro n
  cases n with
  | zero => rfl
  | succ n => rw [lpF, hc, if_neg (by decide)]
theorem lp_m {c : Sg → Bool} {b : Ru → Ru} (hb : ∀ s, s.2.1 ≤ (b s).2.1) : ∀ n s, s.2.1 ≤ (lpF c b n s).2.1 := by
  intro n
  induction n with
  | zero => intro s; exact Nat.le_refl _
  | succ n ih =>
    intro s
    rw [lpF]
    split
    · exact Nat.le_trans (hb s) (ih _)
    · exact Nat.le_refl _
theorem lp_prp {c : Sg → Bool} {b X : Ru → Ru} {n : Nat} (hc : ∀ σ, isG σ = false → c σ = false) (hb : ∀ s, s.2.1 ≤ (b s).2.1) (hX : Prp X) : Prp (fun s => lpF c b n (X s)) := by
  refine ⟨fun s h => ?_, fun s => Nat.le_trans (hX.2.1 s) (lp_m hb n _), fun s h => ?_⟩
  · have h1 := hX.1 s h
    show (lpF c b n (X s)).1 = s.1
    rw [lp_f (hc _ (by rw [h1]; exact h)), h1]
  · have : isG (X s).1 = true := by
      cases z : isG (X s).1 with
      | true => rfl
      | false =>
        have h' : isG (lpF c b n (X s)).1 = true := h
        rw [lp_f (hc _ z), z] at h'
        cases h'
    exact Nat.lt_of_lt_of_le (hX.2.2 s this) (lp_m hb n _)
theorem bd_prp {X : Ru → Ru} {k : Ru → Nat} (hX : Prp X) : Prp (fun s => rAdd (k s) 0 (X (rAdv T L s))) := ⟨fun s h => (hX.1 (rAdv T L s) (by rw [adv_f h]; exact h)).trans (adv_f h), fun s => hX.2.1 (rAdv T L s), fun s h => hX.2.2 (rAdv T L s) h⟩
end PR
