/-! ===== the script is not looked at in constructors ===== -/
section XIR
def sx (X : pz_X) (M : pz_M) : pz_M := (X, M.2)
def sxm (X : pz_X) (q : pz_L × List Value × pz_M) : pz_L × List Value × pz_M := (q.1, q.2.1, sx X q.2.2)
variable {X : pz_X} {L : pz_L} {st : List Value} {M : pz_M}
theorem xs_li {i : Nat} {q : pz_L × List Value × pz_M} (h : pz_li L st M i = some q) : pz_li L st (sx X M) i = some (sxm X q) := by
  unfold pz_li at h ⊢
  simp only [sx]
  (repeat' split at h) <;> cases h <;> first | rfl | (simp only [*, and_self, or_true, true_or, if_true, if_false, reduceIte] <;> rfl)
theorem xs_ll {i : Nat} {q : pz_L × List Value × pz_M} (h : pz_ll L st M i = some q) : pz_ll L st (sx X M) i = some (sxm X q) := by
  unfold pz_ll at h ⊢
  simp only [sx]
  (repeat' split at h) <;> cases h <;> first | rfl | (simp only [*, and_self, or_true, true_or, if_true, if_false, reduceIte] <;> rfl)
theorem xs_la {i : Nat} {q : pz_L × List Value × pz_M} (h : pz_la L st M i = some q) : pz_la L st (sx X M) i = some (sxm X q) := by
  unfold pz_la at h ⊢
  simp only [sx]
  (repeat' split at h) <;> cases h <;> first | rfl | (simp only [*, and_self, or_true, true_or, if_true, if_false, reduceIte] <;> rfl)
theorem xs_si {i : Nat} {q : pz_L × List Value × pz_M} (h : pz_si L st M i = some q) : pz_si L st (sx X M) i = some (sxm X q) := by
  unfold pz_si at h ⊢
  simp only [sx]
  (repeat' split at h) <;> cases h <;> first | rfl | (simp only [*, and_self, or_true, true_or, if_true, if_false, reduceIte] <;> rfl)
theorem xs_sl {i : Nat} {q : pz_L × List Value × pz_M} (h : pz_sl L st M i = some q) : pz_sl L st (sx X M) i = some (sxm X q) := by
  unfold pz_sl at h ⊢
  simp only [sx]
  (repeat' split at h) <;> cases h <;> first | rfl | (simp only [*, and_self, or_true, true_or, if_true, if_false, reduceIte] <;> rfl)
theorem xs_sa {i : Nat} {q : pz_L × List Value × pz_M} (h : pz_sa L st M i = some q) : pz_sa L st (sx X M) i = some (sxm X q) := by
  unfold pz_sa at h ⊢
  simp only [sx]
  (repeat' split at h) <;> cases h <;> first | rfl | (simp only [*, and_self, or_true, true_or, if_true, if_false, reduceIte] <;> rfl)
theorem xs_ii {f : Int32 → Int32 → Int32} {q : pz_L × List Value × pz_M} (h : pz_ii L st M f = some q) : pz_ii L st (sx X M) f = some (sxm X q) := by
  unfold pz_ii at h ⊢
  simp only [sx]
  (repeat' split at h) <;> cases h <;> first | rfl | (simp only [*, and_self, or_true, true_or, if_true, if_false, reduceIte] <;> rfl)
theorem xs_jj {f : Int64 → Int64 → Int64} {q : pz_L × List Value × pz_M} (h : pz_jj L st M f = some q) : pz_jj L st (sx X M) f = some (sxm X q) := by
  unfold pz_jj at h ⊢
  simp only [sx]
  (repeat' split at h) <;> cases h <;> first | rfl | (simp only [*, and_self, or_true, true_or, if_true, if_false, reduceIte] <;> rfl)
theorem xs_gf {ci j kd : Nat} {q : pz_L × List Value × pz_M} (h : pz_gf ci j kd L st M = some q) : pz_gf ci j kd L st (sx X M) = some (sxm X q) := by
  unfold pz_gf at h ⊢
  simp only [sx]
  (repeat' split at h) <;> cases h <;> first | rfl | (simp only [*, and_self, or_true, true_or, if_true, if_false, reduceIte] <;> rfl)
theorem xs_pf {ci j kd : Nat} {q : pz_L × List Value × pz_M} (h : pz_pf ci j kd L st M = some q) : pz_pf ci j kd L st (sx X M) = some (sxm X q) := by
  unfold pz_pf at h ⊢
  simp only [sx]
  (repeat' split at h) <;> cases h <;> first | rfl | (simp only [*, and_self, or_true, true_or, if_true, if_false, reduceIte] <;> rfl)
theorem xs_lald  {q : pz_L × List Value × pz_M} (h : pz_lald L st M = some q) : pz_lald L st (sx X M) = some (sxm X q) := by
  unfold pz_lald at h ⊢
  simp only [sx]
  (repeat' split at h) <;> cases h <;> first | rfl | (simp only [*, and_self, or_true, true_or, if_true, if_false, reduceIte] <;> rfl)
theorem xs_aald  {q : pz_L × List Value × pz_M} (h : pz_aald L st M = some q) : pz_aald L st (sx X M) = some (sxm X q) := by
  unfold pz_aald at h ⊢
  simp only [sx]
  (repeat' split at h) <;> cases h <;> first | rfl | (simp only [*, and_self, or_true, true_or, if_true, if_false, reduceIte] <;> rfl)
theorem xs_iast  {q : pz_L × List Value × pz_M} (h : pz_iast L st M = some q) : pz_iast L st (sx X M) = some (sxm X q) := by
  unfold pz_iast at h ⊢
  simp only [sx]
  (repeat' split at h) <;> cases h <;> first | rfl | (simp only [*, and_self, or_true, true_or, if_true, if_false, reduceIte] <;> rfl)
theorem xs_bast  {q : pz_L × List Value × pz_M} (h : pz_bast L st M = some q) : pz_bast L st (sx X M) = some (sxm X q) := by
  unfold pz_bast at h ⊢
  simp only [sx]
  (repeat' split at h) <;> cases h <;> first | rfl | (simp only [*, and_self, or_true, true_or, if_true, if_false, reduceIte] <;> rfl)
theorem xs_last  {q : pz_L × List Value × pz_M} (h : pz_last L st M = some q) : pz_last L st (sx X M) = some (sxm X q) := by
  unfold pz_last at h ⊢
  simp only [sx]
  (repeat' split at h) <;> cases h <;> first | rfl | (simp only [*, and_self, or_true, true_or, if_true, if_false, reduceIte] <;> rfl)
theorem xs_aast  {q : pz_L × List Value × pz_M} (h : pz_aast L st M = some q) : pz_aast L st (sx X M) = some (sxm X q) := by
  unfold pz_aast at h ⊢
  simp only [sx]
  (repeat' split at h) <;> cases h <;> first | rfl | (simp only [*, and_self, or_true, true_or, if_true, if_false, reduceIte] <;> rfl)
theorem xs_ma {z : Nat} {q : pz_L × List Value × pz_M} (h : pz_ma z L st M = some q) : pz_ma z L st (sx X M) = some (sxm X q) := by
  unfold pz_ma at h ⊢
  simp only [sx]
  (repeat' split at h) <;> cases h <;> first | rfl | (simp only [*, and_self, or_true, true_or, if_true, if_false, reduceIte] <;> rfl)
theorem pz_ex_ne {Y : pz_X} : ∀ j, j ≠ 0 → pz_ex X j = pz_ex Y j
  | 0, h => absurd rfl h
  | 1, _ => rfl
  | 2, _ => rfl
  | 3, _ => rfl
  | 4, _ => rfl
  | 5, _ => rfl
  | 6, _ => rfl
  | 7, _ => rfl
  | 8, _ => rfl
  | 9, _ => rfl
  | 10, _ => rfl
  | 11, _ => rfl
  | _ + 12, _ => rfl
theorem pz_in_0 {i : Int32} : pz_in i 0 = false := by
  unfold pz_in
  exact decide_eq_false (fun h => h (Or.inr (Nat.zero_le _)))
theorem xs_iald (h0 : M.1.1 = 0) {q : pz_L × List Value × pz_M} (h : pz_iald L st M = some q) : pz_iald L st (sx X M) = some (sxm X q) := by
  unfold pz_iald at h ⊢
  split at h
  · simp only [sx]
    (repeat' split at h) <;> cases h <;> first | rfl | (simp only [*, and_self, or_true, true_or, if_true, if_false, reduceIte] <;> rfl)
  · rename_i i j r
    by_cases hj : j = 0
    · subst hj
      simp only [pz_ex, h0, pz_in_0] at h
      cases h
    · simp only [sx]
      rw [pz_ex_ne (X := X) (Y := M.1) j hj]
      (repeat' split at h) <;> cases h <;> first | rfl | (simp only [*, and_self, or_true, true_or, if_true, if_false, reduceIte] <;> rfl)
  · cases h
theorem xs_bald {q : pz_L × List Value × pz_M} (h : pz_bald L st M = some q) : pz_bald L st (sx X M) = some (sxm X q) := by
  unfold pz_bald at h ⊢
  split at h
  · simp only [sx]
    (repeat' split at h) <;> cases h <;> first | rfl | (simp only [*, and_self, or_true, true_or, if_true, if_false, reduceIte] <;> rfl)
  · rename_i i j r
    by_cases hj : j = 0
    · subst hj
      simp only [pz_ex] at h
      cases h
    · simp only [sx]
      rw [pz_ex_ne (X := X) (Y := M.1) j hj]
      (repeat' split at h) <;> cases h <;> first | rfl | (simp only [*, and_self, or_true, true_or, if_true, if_false, reduceIte] <;> rfl)
  · cases h
theorem xs_alen (h0 : ∀ r, st ≠ .retAddr 0 :: r) {q : pz_L × List Value × pz_M} (h : pz_alen L st M = some q) : pz_alen L st (sx X M) = some (sxm X q) := by
  unfold pz_alen at h ⊢
  split at h
  · simp only [sx]
    (repeat' split at h) <;> cases h <;> first | rfl | (simp only [*, and_self, or_true, true_or, if_true, if_false, reduceIte] <;> rfl)
  · rename_i j r
    by_cases hj : j = 0
    · subst hj
      exact absurd rfl (h0 r)
    · simp only [sx]
      rw [pz_ex_ne (X := X) (Y := M.1) j hj]
      (repeat' split at h) <;> cases h <;> first | rfl | (simp only [*, and_self, or_true, true_or, if_true, if_false, reduceIte] <;> rfl)
  · cases h
theorem xs_cp {q : pz_L × List Value × pz_M} (h : pz_cp L st M = some q) : pz_cp L st (sx X M) = some (sxm X q) := by
  unfold pz_cp at h ⊢
  split at h
  · simp only [sx]
    (repeat' split at h) <;> cases h <;> first | rfl | (simp only [*, and_self, or_true, true_or, if_true, if_false, reduceIte] <;> rfl)
  · rename_i n dp kd sp j r
    by_cases hj : j = 0
    · subst hj
      split at h
      · split at h
        · rename_i hc
          exact absurd hc.1 (by decide)
        · cases h
      · cases h
    · simp only [sx]
      rw [pz_ex_ne (X := X) (Y := M.1) j hj]
      (repeat' split at h) <;> cases h <;> first | rfl | (simp only [*, and_self, or_true, true_or, if_true, if_false, reduceIte] <;> rfl)
  · cases h
def isAl0 (ins : Instr) (st : List Value) : Bool := match ins, st with
  | .arraylength, .retAddr 0 :: _ => true
  | _, _ => false
/-- an instruction that doesn't ask how long the script is -/
def pz_st0 (e : pz_E) (L : pz_L) (st : List Value) (M : pz_M) : Option (pz_L × List Value × pz_M) := if isAl0 e.2.1 st = true then none else pz_stp e L st M
set_option maxHeartbeats 8000000 in
theorem xs_stp {e : pz_E} (h0 : M.1.1 = 0) {q : pz_L × List Value × pz_M} (h : pz_st0 e L st M = some q) : pz_stp e L st (sx X M) = some (sxm X q) := by
  obtain ⟨pc, ins, a, b, z⟩ := e
  unfold pz_st0 at h
  split at h
  · cases h
  · rename_i hal
    cases ins <;> simp only [pz_stp] at h ⊢ <;> first
      | exact xs_li h | exact xs_ll h | exact xs_la h | exact xs_si h | exact xs_sl h | exact xs_sa h | exact xs_ii h | exact xs_jj h | exact xs_gf h | exact xs_pf h | exact xs_iald h0 h | exact xs_bald h | exact xs_lald h | exact xs_aald h | exact xs_iast h | exact xs_bast h | exact xs_last h | exact xs_aast h
      | exact xs_alen (fun r hr => hal (by rw [hr]; rfl)) h
      | (cases h <;> rfl)
      | ((repeat' split at h) <;> first | (rw [if_pos (by assumption)]; exact xs_cp h) | (rw [if_neg (by assumption)]; exact xs_ma h) | (cases h <;> first | rfl | (simp only [*, and_self, or_true, true_or, not_false_eq_true, if_true, if_false, reduceIte] <;> rfl)))
def osx (X : pz_X) : pz_O → pz_O
  | .inl w => .inl (w.1, w.2.1, w.2.2.1, sx X w.2.2.2)
  | .inr (.inl r) => .inr (.inl (r.1, sx X r.2))
  | .inr (.inr q) => .inr (.inr (q.1, q.2.1, q.2.2.1, q.2.2.2.1, q.2.2.2.2.1, sx X q.2.2.2.2.2))
theorem xs_br {c : Bool} {t f : Nat} : pz_br c t f L st (sx X M) = (pz_br c t f L st M).map (osx X) := by
  unfold pz_br
  cases c <;> rfl
theorem xs_rc {ci : Nat} {v : Value} : pz_rc ci (sx X M) v = pz_rc ci M v := by
  unfold pz_rc
  cases v <;> rfl
theorem xs_inv {e : pz_E} : pz_inv e L st (sx X M) = (pz_inv e L st M).map (osx X) := by
  unfold pz_inv
  by_cases h : e.2.2.2.2 = 0
  · rw [if_pos h, if_pos h]
    by_cases h2 : e.2.2.2.1 ≤ st.length ∧ ((st.drop e.2.2.2.1).map fun v => v.category).sum ≤ 8
    · rw [if_pos h2, if_pos h2]; rfl
    · rw [if_neg h2, if_neg h2]; rfl
  · rw [if_neg h, if_neg h]
    cases st.drop e.2.2.2.1 with
    | nil => rfl
    | cons v r =>
      simp only [xs_rc]
      by_cases h2 : pz_rc (e.2.2.2.2 - 10) M v = true ∧ (r.map fun v => v.category).sum ≤ 8
      · rw [if_pos h2, if_pos h2]; rfl
      · rw [if_neg h2, if_neg h2]; rfl
set_option maxHeartbeats 8000000 in
theorem xs_ctl {e : pz_E} : pz_ctl e L st (sx X M) = (pz_ctl e L st M).map (Option.map (osx X)) := by
  obtain ⟨pc, ins, a, b, z⟩ := e
  cases ins <;> simp only [pz_ctl] <;> first
    | rfl
    | (rw [xs_inv]; rfl)
    | (rcases st with _ | ⟨v, r⟩
       · rfl
       · cases v <;> first | rfl | exact congrArg some xs_br)
    | (rcases st with _ | ⟨v, _ | ⟨v2, r⟩⟩
       · rfl
       · cases v <;> rfl
       · cases v <;> cases v2 <;> first | rfl | exact congrArg some xs_br)
    | (by_cases hz : z = 0
       · rw [if_pos hz, if_pos hz, xs_inv]; rfl
       · rw [if_neg hz, if_neg hz]; rfl)
    | (by_cases hz : z = 7
       · rw [if_pos hz, if_pos hz]; rfl
       · rw [if_neg hz, if_neg hz, xs_inv]; rfl)
    | (rcases st with _ | ⟨v, _ | ⟨v2, r⟩⟩
       · rfl
       · cases v <;> first | rfl | (split <;> rfl) | (simp only [Option.map_some]; split <;> rfl)
       · cases v <;> rfl)
end XIR
