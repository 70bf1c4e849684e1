/-! ===== what every run leaves alone: the script, and what lies beyond an array's length ===== -/
section FRM
/-- beyond an array's length all is 0 -/
def zb0 (M : pz_M) : Prop := ∀ k t m, M.2.1[k]? = some (.inr (t, m)) → ∀ j, m ≤ j → M.2.2.1 k j = 0
def fz (M M' : pz_M) : Prop := M'.1 = M.1 ∧ (∀ k t m, M.2.1[k]? = some (.inr (t, m)) → M'.2.1[k]? = some (.inr (t, m)) ∧ ∀ j, m ≤ j → M'.2.2.1 k j = M.2.2.1 k j) ∧ (zb0 M → zb0 M') ∧ ∀ (k : Nat) (d : pz_D), M.2.1[k]? = some d → M'.2.1[k]? = some d
theorem fz.rf {M : pz_M} : fz M M := ⟨rfl, fun _ _ _ h => ⟨h, fun _ _ => rfl⟩, fun h => h, fun _ _ h => h⟩
theorem fz.tr {M M' M'' : pz_M} (a : fz M M') (b : fz M' M'') : fz M M'' := ⟨b.1.trans a.1, fun k t m h => by
  obtain ⟨a1, a2⟩ := a.2.1 k t m h
  obtain ⟨b1, b2⟩ := b.2.1 k t m a1
  exact ⟨b1, fun j hj => (b2 j hj).trans (a2 j hj)⟩, fun h => b.2.2.1 (a.2.2.1 h), fun k d h => b.2.2.2 k d (a.2.2.2 k d h)⟩
theorem fz.wl {M : pz_M} {k : Nat} {r : Nat → Int64} : fz M (pz_wl M k r) := ⟨rfl, fun _ _ _ h => ⟨h, fun _ _ => rfl⟩, fun h => h, fun _ _ h => h⟩
theorem fz.wr {M : pz_M} {k : Nat} {r : Nat → Value} : fz M (pz_wr M k r) := ⟨rfl, fun _ _ _ h => ⟨h, fun _ _ => rfl⟩, fun h => h, fun _ _ h => h⟩
theorem fz.mk {M M' : pz_M} (h1 : M'.1 = M.1) (h2 : M'.2.1 = M.2.1) (h : ∀ k t m, M.2.1[k]? = some (.inr (t, m)) → ∀ j, m ≤ j → M'.2.2.1 k j = M.2.2.1 k j) : fz M M' := ⟨h1, fun k t m hk => ⟨by rw [h2]; exact hk, h k t m hk⟩, fun z k t m hk j hj => by
  rw [h2] at hk
  rw [h k t m hk j hj]
  exact z k t m hk j hj, fun k d hk => by rw [h2]; exact hk⟩
theorem fz.wo {M : pz_M} {k ci : Nat} {r : Nat → Int32} (h : M.2.1[k]? = some (.inl ci)) : fz M (pz_wi M k r) := fz.mk rfl rfl (fun k' t m h' j _ => by
  have : k' ≠ k := fun q => by rw [q, h] at h'; cases h'
  show pz_row M.2.2.1 k r k' j = _
  unfold pz_row
  rw [if_neg this])
theorem fz.wa {M : pz_M} {k t n : Nat} {r : Nat → Int32} (h : M.2.1[k]? = some (.inr (t, n))) (hr : ∀ j, n ≤ j → r j = M.2.2.1 k j) : fz M (pz_wi M k r) := fz.mk rfl rfl (fun k' t' m h' j hj => by
  show pz_row M.2.2.1 k r k' j = _
  unfold pz_row
  by_cases q : k' = k
  · subst q
    rw [h] at h'
    injection h' with h'
    injection h' with h'
    injection h' with h1 h2
    rw [if_pos rfl]
    exact hr j (by omega)
  · rw [if_neg q])
theorem fz.nu {M : pz_M} {d : pz_D} : fz M (pz_nu M d) := by
  have key : ∀ k t m, M.2.1[k]? = some (.inr (t, m)) → (pz_nu M d).2.1[k]? = some (.inr (t, m)) ∧ ∀ j, m ≤ j → (pz_nu M d).2.2.1 k j = M.2.2.1 k j := fun k t m h => by
    have hk : k < M.2.1.length := by
      rcases Nat.lt_or_ge k M.2.1.length with q | q
      · exact q
      · rw [List.getElem?_eq_none q] at h; cases h
    refine ⟨?_, fun j _ => ?_⟩
    · show (M.2.1 ++ [d])[k]? = _
      rw [List.getElem?_append_left hk]
      exact h
    · show pz_row M.2.2.1 M.2.1.length (fun _ => 0) k j = _
      unfold pz_row
      rw [if_neg (by omega)]
  refine ⟨rfl, key, fun z k t m h j hj => ?_, fun k d' h => ?_⟩
  rotate_left
  · have hk : k < M.2.1.length := by
      rcases Nat.lt_or_ge k M.2.1.length with q | q
      · exact q
      · rw [List.getElem?_eq_none q] at h; cases h
    show (M.2.1 ++ [d])[k]? = _
    rw [List.getElem?_append_left hk]
    exact h
  rcases Nat.lt_or_ge k M.2.1.length with q | q
  · have h' : M.2.1[k]? = some (.inr (t, m)) := by
      have : (M.2.1 ++ [d])[k]? = some (.inr (t, m)) := h
      rw [List.getElem?_append_left q] at this
      exact this
    rw [(key k t m h').2 j hj]
    exact z k t m h' j hj
  · have hk : k = M.2.1.length := by
      rcases Nat.lt_or_ge M.2.1.length k with q2 | q2
      · have : (M.2.1 ++ [d])[k]? = some (.inr (t, m)) := h
        rw [List.getElem?_eq_none (by rw [List.length_append, List.length_singleton]; omega)] at this
        cases this
      · omega
    show pz_row M.2.2.1 M.2.1.length (fun _ => 0) k j = 0
    unfold pz_row
    rw [if_pos hk]
theorem fz_up {f : Nat → Int32} {i n j : Nat} {x : Int32} (hi : i < n) (hj : n ≤ j) : va_up f i x j = f j := by
  unfold va_up
  rw [if_neg (by omega)]
theorem pz_in_lt {i : Int32} {n : Nat} (h : pz_in i n = true) : i.toNatClampNeg < n := by
  unfold pz_in at h
  have := of_decide_eq_true h
  rcases Nat.lt_or_ge i.toNatClampNeg n with q | q
  · exact q
  · exact absurd (Or.inr q) this
theorem fz_pf {ci j kd : Nat} {L : pz_L} {st : List Value} {M : pz_M} {q : pz_L × List Value × pz_M} (h : pz_pf ci j kd L st M = some q) : fz M q.2.2 := by
  unfold pz_pf at h
  split at h
  · split at h
    · rename_i hc
      cases h
      exact fz.wo hc.1
    · cases h
  · split at h
    · cases h; exact fz.wl
    · cases h
  · split at h
    · cases h; exact fz.wr
    · cases h
  · split at h
    · cases h; exact fz.wr
    · cases h
  · cases h
theorem fz_iast {L : pz_L} {st : List Value} {M : pz_M} {q : pz_L × List Value × pz_M} (h : pz_iast L st M = some q) : fz M q.2.2 := by
  unfold pz_iast at h
  split at h
  · split at h
    · rename_i hk
      split at h
      · rename_i hi
        cases h
        exact fz.wa hk (fun j hj => fz_up (pz_in_lt hi) hj)
      · cases h
    · cases h
  · cases h
theorem fz_bast {L : pz_L} {st : List Value} {M : pz_M} {q : pz_L × List Value × pz_M} (h : pz_bast L st M = some q) : fz M q.2.2 := by
  unfold pz_bast at h
  split at h
  · split at h
    · rename_i hk
      split at h
      · rename_i hi
        cases h
        exact fz.wa hk (fun j hj => fz_up (pz_in_lt hi) hj)
      · cases h
    · rename_i hk
      split at h
      · rename_i hi
        cases h
        exact fz.wa hk (fun j hj => fz_up (pz_in_lt hi) hj)
      · cases h
    · cases h
  · cases h
theorem fz_last {L : pz_L} {st : List Value} {M : pz_M} {q : pz_L × List Value × pz_M} (h : pz_last L st M = some q) : fz M q.2.2 := by
  unfold pz_last at h
  split at h
  · split at h
    · split at h
      · cases h; exact fz.wl
      · cases h
    · cases h
  · cases h
theorem fz_aast {L : pz_L} {st : List Value} {M : pz_M} {q : pz_L × List Value × pz_M} (h : pz_aast L st M = some q) : fz M q.2.2 := by
  unfold pz_aast at h
  split at h
  · split at h
    · split at h
      · cases h; exact fz.wr
      · cases h
    · cases h
  · cases h
theorem fz_cpy {f g : Nat → Int32} {a b c n j : Nat} (hn : b + c ≤ n) (hj : n ≤ j) : va_cpy f g a b c j = g j := by
  unfold va_cpy
  rw [if_neg (by omega)]
theorem fz_cp {L : pz_L} {st : List Value} {M : pz_M} {q : pz_L × List Value × pz_M} (h : pz_cp L st M = some q) : fz M q.2.2 := by
  unfold pz_cp at h
  split at h
  · split at h
    · rename_i hk
      split at h
      · rename_i hc
        cases h
        exact fz.wa hk (fun j hj => fz_cpy hc.2.2.2.2.1 hj)
      · cases h
    · split at h
      · cases h; exact fz.wl
      · cases h
    · cases h
  · split at h
    · rename_i hk
      split at h
      · rename_i hc
        cases h
        exact fz.wa hk (fun j hj => fz_cpy hc.2.2.2.2.2.1 hj)
      · cases h
    · cases h
  · cases h
theorem fz_li {L : pz_L} {st : List Value} {M : pz_M} {i : Nat} {q : pz_L × List Value × pz_M} (h : pz_li L st M i = some q) : fz M q.2.2 := by
  unfold pz_li at h
  (repeat' split at h) <;> first | (cases h; exact fz.rf) | cases h
theorem fz_ll {L : pz_L} {st : List Value} {M : pz_M} {i : Nat} {q : pz_L × List Value × pz_M} (h : pz_ll L st M i = some q) : fz M q.2.2 := by
  unfold pz_ll at h
  (repeat' split at h) <;> first | (cases h; exact fz.rf) | cases h
theorem fz_la {L : pz_L} {st : List Value} {M : pz_M} {i : Nat} {q : pz_L × List Value × pz_M} (h : pz_la L st M i = some q) : fz M q.2.2 := by
  unfold pz_la at h
  (repeat' split at h) <;> first | (cases h; exact fz.rf) | cases h
theorem fz_si {L : pz_L} {st : List Value} {M : pz_M} {i : Nat} {q : pz_L × List Value × pz_M} (h : pz_si L st M i = some q) : fz M q.2.2 := by
  unfold pz_si at h
  (repeat' split at h) <;> first | (cases h; exact fz.rf) | cases h
theorem fz_sl {L : pz_L} {st : List Value} {M : pz_M} {i : Nat} {q : pz_L × List Value × pz_M} (h : pz_sl L st M i = some q) : fz M q.2.2 := by
  unfold pz_sl at h
  (repeat' split at h) <;> first | (cases h; exact fz.rf) | cases h
theorem fz_sa {L : pz_L} {st : List Value} {M : pz_M} {i : Nat} {q : pz_L × List Value × pz_M} (h : pz_sa L st M i = some q) : fz M q.2.2 := by
  unfold pz_sa at h
  (repeat' split at h) <;> first | (cases h; exact fz.rf) | cases h
theorem fz_ii {L : pz_L} {st : List Value} {M : pz_M} {f : Int32 → Int32 → Int32} {q : pz_L × List Value × pz_M} (h : pz_ii L st M f = some q) : fz M q.2.2 := by
  unfold pz_ii at h
  (repeat' split at h) <;> first | (cases h; exact fz.rf) | cases h
theorem fz_jj {L : pz_L} {st : List Value} {M : pz_M} {f : Int64 → Int64 → Int64} {q : pz_L × List Value × pz_M} (h : pz_jj L st M f = some q) : fz M q.2.2 := by
  unfold pz_jj at h
  (repeat' split at h) <;> first | (cases h; exact fz.rf) | cases h
theorem fz_gf {ci j kd : Nat} {L : pz_L} {st : List Value} {M : pz_M} {q : pz_L × List Value × pz_M} (h : pz_gf ci j kd L st M = some q) : fz M q.2.2 := by
  unfold pz_gf at h
  (repeat' split at h) <;> first | (cases h; exact fz.rf) | cases h
theorem fz_iald {L : pz_L} {st : List Value} {M : pz_M} {q : pz_L × List Value × pz_M} (h : pz_iald L st M = some q) : fz M q.2.2 := by
  unfold pz_iald at h
  (repeat' split at h) <;> first | (cases h; exact fz.rf) | cases h
theorem fz_bald {L : pz_L} {st : List Value} {M : pz_M} {q : pz_L × List Value × pz_M} (h : pz_bald L st M = some q) : fz M q.2.2 := by
  unfold pz_bald at h
  (repeat' split at h) <;> first | (cases h; exact fz.rf) | cases h
theorem fz_lald {L : pz_L} {st : List Value} {M : pz_M} {q : pz_L × List Value × pz_M} (h : pz_lald L st M = some q) : fz M q.2.2 := by
  unfold pz_lald at h
  (repeat' split at h) <;> first | (cases h; exact fz.rf) | cases h
theorem fz_aald {L : pz_L} {st : List Value} {M : pz_M} {q : pz_L × List Value × pz_M} (h : pz_aald L st M = some q) : fz M q.2.2 := by
  unfold pz_aald at h
  (repeat' split at h) <;> first | (cases h; exact fz.rf) | cases h
theorem fz_alen {L : pz_L} {st : List Value} {M : pz_M} {q : pz_L × List Value × pz_M} (h : pz_alen L st M = some q) : fz M q.2.2 := by
  unfold pz_alen at h
  (repeat' split at h) <;> first | (cases h; exact fz.rf) | cases h
theorem fz_ma {z : Nat} {L : pz_L} {st : List Value} {M : pz_M} {q : pz_L × List Value × pz_M} (h : pz_ma z L st M = some q) : fz M q.2.2 := by
  unfold pz_ma at h
  (repeat' split at h) <;> first | (cases h; exact fz.rf) | cases h
set_option maxHeartbeats 4000000 in
theorem fz_stp {e : pz_E} {L : pz_L} {st : List Value} {M : pz_M} {q : pz_L × List Value × pz_M} (h : pz_stp e L st M = some q) : fz M q.2.2 := by
  unfold pz_stp at h
  split at h <;> first
    | exact fz_li h | exact fz_ll h | exact fz_la h | exact fz_si h | exact fz_sl h | exact fz_sa h | exact fz_ii h | exact fz_jj h | exact fz_gf h | exact fz_pf h | exact fz_iald h | exact fz_bald h | exact fz_lald h | exact fz_aald h | exact fz_iast h | exact fz_bast h | exact fz_last h | exact fz_aast h | exact fz_alen h
    | (cases h; exact fz.rf)
    | (cases h; exact fz.nu)
    | ((repeat' split at h) <;> first | exact fz_cp h | exact fz_ma h | (cases h; exact fz.rf) | (cases h; exact fz.nu) | cases h)
def omem : pz_O → pz_M
  | .inl w => w.2.2.2
  | .inr (.inl r) => r.2
  | .inr (.inr q) => q.2.2.2.2.2
theorem fz_br {b : Bool} {t f : Nat} {L : pz_L} {st : List Value} {M : pz_M} {o : pz_O} (h : pz_br b t f L st M = some o) : omem o = M := by
  unfold pz_br at h
  split at h <;> cases h <;> rfl
theorem fz_inv {e : pz_E} {L : pz_L} {st : List Value} {M : pz_M} {o : pz_O} (h : pz_inv e L st M = some o) : omem o = M := by
  unfold pz_inv at h
  (repeat' split at h) <;> first | (cases h; rfl) | cases h
set_option maxHeartbeats 4000000 in
theorem fz_ctl {e : pz_E} {L : pz_L} {st : List Value} {M : pz_M} {o : pz_O} (h : pz_ctl e L st M = some (some o)) : omem o = M := by
  unfold pz_ctl at h
  split at h <;> first
    | (cases h; rfl)
    | cases h
    | (injection h with h; exact fz_inv h)
    | (injection h with h; (repeat' split at h) <;> first | exact fz_br h | (cases h; rfl) | cases h)
    | ((repeat' split at h) <;> first | cases h | (injection h with h; exact fz_inv h))
theorem fz_evB {fall : Nat} : ∀ (es : List pz_E) (L : pz_L) (st : List Value) (M : pz_M) (o : pz_O), pz_evB fall es L st M = some o → fz M (omem o) := by
  intro es
  induction es with
  | nil =>
    intro L st M o h
    cases h
    exact fz.rf
  | cons e es ih =>
    intro L st M o h
    unfold pz_evB at h
    cases hc : pz_ctl e L st M with
    | some o' =>
      rw [hc] at h
      simp only at h
      subst h
      rw [fz_ctl hc]
      exact fz.rf
    | none =>
      rw [hc] at h
      simp only at h
      cases hs : pz_stp e L st M with
      | none => rw [hs] at h; cases h
      | some q =>
        rw [hs] at h
        simp only at h
        exact (fz_stp hs).tr (ih _ _ _ _ h)
theorem fz_rn (mt : List pz_I) : ∀ (n d i : Nat) (w : Nat × pz_L × List Value × pz_M) (r : Option Value × pz_M), pz_rn mt n d i w = some r → fz w.2.2.2 r.2 := by
  intro n
  induction n with
  | zero => intro d i w r h; cases h
  | succ n ih =>
    intro d i w r h
    simp only [pz_rn] at h
    cases hmi : mt[i]? with
    | none => rw [hmi] at h; cases h
    | some mi =>
      rw [hmi] at h
      simp only at h
      cases hb : mi.2.2.2.2.2.find? (fun b => b.1 == w.1) with
      | none => rw [hb] at h; cases h
      | some b =>
        rw [hb] at h
        simp only at h
        cases ho : pz_evB b.2.2.2 b.2.2.1 (pz_cut b.2.1 w.2.1) w.2.2.1 w.2.2.2 with
        | none => rw [ho] at h; cases h
        | some o =>
          rw [ho] at h
          have f := fz_evB _ _ _ _ _ ho
          match o, h, f with
          | .inl w', h, f => exact f.tr (ih d i w' r h)
          | .inr (.inl r'), h, f =>
            simp only at h
            cases h
            exact f
          | .inr (.inr q), h, f =>
            simp only at h
            cases d with
            | zero => simp at h
            | succ d =>
              cases hj : mt[q.1]? with
              | none => rw [hj] at h; simp at h
              | some mj =>
                rw [hj] at h
                simp only at h
                split at h
                · cases hv : pz_rn mt n d q.1 (0, pz_sp mj.2.2.2.1 q.2.1, [], q.2.2.2.2.2) with
                  | none => rw [hv] at h; cases h
                  | some v =>
                    rw [hv] at h
                    simp only at h
                    have f2 : fz q.2.2.2.2.2 v.2 := ih d q.1 (0, pz_sp mj.2.2.2.1 q.2.1, [], q.2.2.2.2.2) v hv
                    have f3 : fz v.2 r.2 := ih (d + 1) i _ r h
                    exact (f.tr f2).tr f3
                · cases h
theorem pm_fz {d j : Nat} {vs : List Value} {M : pz_M} {Q : Option Value × pz_M → Prop} (h : pm d j vs M Q) : pm d j vs M (fun r => Q r ∧ fz M r.2) := by
  obtain ⟨hs, n, r, h1, h2⟩ := h
  exact ⟨hs, n, r, h1, h2, fz_rn mz n d j _ r h1⟩
end FRM
