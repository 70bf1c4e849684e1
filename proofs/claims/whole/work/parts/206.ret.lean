/-! ===== what a method returns: an int, or a long ===== -/
section RET
def noI (ins : Instr) : Bool := match ins with
  | .lreturn => false
  | .areturn => false
  | .return_ => false
  | _ => true
def noL (ins : Instr) : Bool := match ins with
  | .ireturn => false
  | .areturn => false
  | .return_ => false
  | _ => true
theorem br_r {c : Bool} {t f : Nat} {L : pz_L} {st : List Value} {M : pz_M} {r : Option Value × pz_M} (h : pz_br c t f L st M = some (.inr (.inl r))) : False := by
  unfold pz_br at h
  split at h <;> cases h
theorem inv_r {e : pz_E} {L : pz_L} {st : List Value} {M : pz_M} {r : Option Value × pz_M} (h : pz_inv e L st M = some (.inr (.inl r))) : False := by
  unfold pz_inv at h
  (repeat' split at h) <;> cases h
set_option maxHeartbeats 8000000 in
theorem ctl_I {e : pz_E} {L : pz_L} {st : List Value} {M : pz_M} {r : Option Value × pz_M} (h : pz_ctl e L st M = some (some (.inr (.inl r)))) (hn : noI e.2.1 = true) : ∃ x, r.1 = some (.int x) := by
  obtain ⟨pc, ins, a, b, z⟩ := e
  cases ins <;> simp only [pz_ctl] at h <;> first
    | cases h
    | (injection h with h; exact (inv_r h).elim)
    | (injection h with h; (repeat' split at h) <;> first | exact (br_r h).elim | (cases h; done) | (cases h; exact ⟨_, rfl⟩) | (cases h; exact (Bool.false_ne_true hn).elim))
    | ((repeat' split at h) <;> first | cases h | (injection h with h; exact (inv_r h).elim))
    | exact (Bool.false_ne_true hn).elim
set_option maxHeartbeats 8000000 in
theorem ctl_L {e : pz_E} {L : pz_L} {st : List Value} {M : pz_M} {r : Option Value × pz_M} (h : pz_ctl e L st M = some (some (.inr (.inl r)))) (hn : noL e.2.1 = true) : ∃ x, r.1 = some (.long x) := by
  obtain ⟨pc, ins, a, b, z⟩ := e
  cases ins <;> simp only [pz_ctl] at h <;> first
    | cases h
    | (injection h with h; exact (inv_r h).elim)
    | (injection h with h; (repeat' split at h) <;> first | exact (br_r h).elim | (cases h; done) | (cases h; exact ⟨_, rfl⟩) | (cases h; exact (Bool.false_ne_true hn).elim))
    | ((repeat' split at h) <;> first | cases h | (injection h with h; exact (inv_r h).elim))
    | exact (Bool.false_ne_true hn).elim
theorem ev_K {P : Option Value → Prop} {ok : Instr → Bool} (hc : ∀ (e : pz_E) L st M (r : Option Value × pz_M), pz_ctl e L st M = some (some (.inr (.inl r))) → ok e.2.1 = true → P r.1) {fall : Nat} : ∀ (es : List pz_E) (L : pz_L) (st : List Value) (M : pz_M) (r : Option Value × pz_M), es.all (fun e => ok e.2.1) = true → pz_evB fall es L st M = some (.inr (.inl r)) → P r.1 := by
  intro es
  induction es with
  | nil => intro L st M r _ h; cases h
  | cons e es ih =>
    intro L st M r ha h
    rw [List.all_cons, Bool.and_eq_true] at ha
    unfold pz_evB at h
    cases hq : pz_ctl e L st M with
    | some o' =>
      rw [hq] at h
      simp only at h
      subst h
      exact hc e L st M r hq ha.1
    | none =>
      rw [hq] at h
      simp only at h
      cases hs : pz_stp e L st M with
      | none => rw [hs] at h; cases h
      | some q =>
        rw [hs] at h
        exact ih _ _ _ _ ha.2 h
theorem rn_K {P : Option Value → Prop} {ok : Instr → Bool} (hc : ∀ (e : pz_E) L st M (r : Option Value × pz_M), pz_ctl e L st M = some (some (.inr (.inl r))) → ok e.2.1 = true → P r.1) (mt : List pz_I) {i : Nat} {mi : pz_I} (hmi : mt[i]? = some mi) (hall : mi.2.2.2.2.2.all (fun b => b.2.2.1.all (fun e => ok e.2.1)) = true) : ∀ (n d : Nat) (w : Nat × pz_L × List Value × pz_M) (r : Option Value × pz_M), pz_rn mt n d i w = some r → P r.1 := by
  intro n
  induction n with
  | zero => intro d w r h; cases h
  | succ n ih =>
    intro d w r h
    simp only [pz_rn, hmi] at h
    cases hb : mi.2.2.2.2.2.find? (fun b => b.1 == w.1) with
    | none => rw [hb] at h; cases h
    | some b =>
      rw [hb] at h
      simp only at h
      have hbm := List.mem_of_find?_eq_some hb
      have hba := List.all_eq_true.mp hall b hbm
      cases ho : pz_evB b.2.2.2 b.2.2.1 (pz_cut b.2.1 w.2.1) w.2.2.1 w.2.2.2 with
      | none => rw [ho] at h; cases h
      | some o =>
        rw [ho] at h
        match o, h, ho with
        | .inl w', h, ho => exact ih d w' r h
        | .inr (.inl r'), h, ho =>
          simp only at h
          cases h
          exact ev_K hc _ _ _ _ _ hba ho
        | .inr (.inr q), h, ho =>
          simp only at h
          cases d with
          | zero => simp at h
          | succ d =>
            cases hj : mt[q.1]? with
            | none => rw [hj] at h; simp at h
            | some mj =>
              rw [hj] at h
              simp only at h
              split at h
              · cases hv : pz_rn mt n d q.1 (0, pz_sp mj.2.2.2.1 q.2.1, [], q.2.2.2.2.2) with
                | none => rw [hv] at h; cases h
                | some v =>
                  rw [hv] at h
                  exact ih (d + 1) _ r h
              · cases h
def retI (j : Nat) : Bool := match mz[j]? with
  | some mi => mi.2.2.2.2.2.all (fun b => b.2.2.1.all (fun e => noI e.2.1))
  | none => false
def retL (j : Nat) : Bool := match mz[j]? with
  | some mi => mi.2.2.2.2.2.all (fun b => b.2.2.1.all (fun e => noL e.2.1))
  | none => false
theorem pm_I {d j : Nat} {vs : List Value} {M : pz_M} {Q : Option Value × pz_M → Prop} (hj : retI j = true) (h : pm d j vs M Q) : pm d j vs M (fun r => (Q r ∧ fz M r.2) ∧ ∃ x, r.1 = some (.int x)) := by
  obtain ⟨hs, n, r, h1, h2⟩ := h
  unfold retI at hj
  cases hm : mz[j]? with
  | none => rw [hm] at hj; cases hj
  | some mi =>
    rw [hm] at hj
    exact ⟨hs, n, r, h1, ⟨h2, fz_rn mz n d j _ r h1⟩, rn_K (P := fun v => ∃ x, v = some (.int x)) (ok := noI) (fun e L st M r => ctl_I) mz hm hj n d _ r h1⟩
theorem pm_L {d j : Nat} {vs : List Value} {M : pz_M} {Q : Option Value × pz_M → Prop} (hj : retL j = true) (h : pm d j vs M Q) : pm d j vs M (fun r => (Q r ∧ fz M r.2) ∧ ∃ x, r.1 = some (.long x)) := by
  obtain ⟨hs, n, r, h1, h2⟩ := h
  unfold retL at hj
  cases hm : mz[j]? with
  | none => rw [hm] at hj; cases hj
  | some mi =>
    rw [hm] at hj
    exact ⟨hs, n, r, h1, ⟨h2, fz_rn mz n d j _ r h1⟩, rn_K (P := fun v => ∃ x, v = some (.long x)) (ok := noL) (fun e L st M r => ctl_L) mz hm hj n d _ r h1⟩
theorem hz_fz {M M' : pz_M} (hS : SH M) (f : fz M M') : (∀ i, 24 ≤ i → gi M' 37 i = gi M 37 i ∧ gi M' 152 i = gi M 152 i) ∧ M'.2.1[37]? = some (.inr (0, 24)) ∧ M'.2.1[152]? = some (.inr (0, 24)) := by
  obtain ⟨a1, a2⟩ := f.2.1 37 0 24 (by rw [hS.1]; rfl)
  obtain ⟨b1, b2⟩ := f.2.1 152 0 24 (by rw [hS.1]; rfl)
  exact ⟨fun i hi => ⟨a2 i hi, b2 i hi⟩, a1, b1⟩
/-- both calls, from a state of the relation; the answers are the same int -/
theorem opp_I {a b : Nat} {vs : List Value} {M : pz_M} (ha : retI a = true) (hb : retI b = true) (hz : ∀ i, 24 ≤ i → gi M 37 i = gi M 152 i) (hL : RL M) (h : opp 999 a b vs M) : pm 999 a (.ref 0 :: vs) M (fun r1 => ∃ x, r1.1 = some (.int x) ∧ r1.2.1 = M.1 ∧ gc r1.2 120 = some 11 ∧ pm 999 b (.ref 120 :: vs) r1.2 (fun r2 => r2.1 = some (.int x) ∧ r2.2.1 = M.1 ∧ RL r2.2 ∧ ∀ i, 24 ≤ i → gi r2.2 37 i = gi r2.2 152 i)) := by
  obtain ⟨r, B, H, P, N, D, E, y, t, L, nd, np, nr, hA⟩ := id hL
  have hS := hA.S
  refine pm_mono (pm_I ha h) (fun r1 h1 => ?_)
  obtain ⟨⟨h1, f1⟩, x, ex⟩ := h1
  obtain ⟨g1, g2, g3⟩ := hz_fz hS f1
  refine ⟨x, ex, f1.1, by unfold gc; rw [f1.2.2.2 120 (.inl 11) (by rw [hS.1]; rfl)], pm_mono (pm_I hb h1) (fun r2 h2 => ?_)⟩
  obtain ⟨⟨⟨e, hl⟩, f2⟩, -⟩ := h2
  refine ⟨e.symm.trans ex, f2.1.trans f1.1, hl, fun i hi => ?_⟩
  refine ((f2.2.1 37 0 24 g2).2 i hi).trans (Eq.trans ?_ ((f2.2.1 152 0 24 g3).2 i hi).symm)
  show gi r1.2 37 i = gi r1.2 152 i
  rw [(g1 i hi).1, (g1 i hi).2]
  exact hz i hi
theorem opp_L {a b : Nat} {vs : List Value} {M : pz_M} (ha : retL a = true) (hb : retL b = true) (hz : ∀ i, 24 ≤ i → gi M 37 i = gi M 152 i) (hL : RL M) (h : opp 999 a b vs M) : pm 999 a (.ref 0 :: vs) M (fun r1 => ∃ x, r1.1 = some (.long x) ∧ r1.2.1 = M.1 ∧ gc r1.2 120 = some 11 ∧ pm 999 b (.ref 120 :: vs) r1.2 (fun r2 => r2.1 = some (.long x) ∧ r2.2.1 = M.1 ∧ RL r2.2 ∧ ∀ i, 24 ≤ i → gi r2.2 37 i = gi r2.2 152 i)) := by
  obtain ⟨r, B, H, P, N, D, E, y, t, L, nd, np, nr, hA⟩ := id hL
  have hS := hA.S
  refine pm_mono (pm_L ha h) (fun r1 h1 => ?_)
  obtain ⟨⟨h1, f1⟩, x, ex⟩ := h1
  obtain ⟨g1, g2, g3⟩ := hz_fz hS f1
  refine ⟨x, ex, f1.1, by unfold gc; rw [f1.2.2.2 120 (.inl 11) (by rw [hS.1]; rfl)], pm_mono (pm_L hb h1) (fun r2 h2 => ?_)⟩
  obtain ⟨⟨⟨e, hl⟩, f2⟩, -⟩ := h2
  refine ⟨e.symm.trans ex, f2.1.trans f1.1, hl, fun i hi => ?_⟩
  refine ((f2.2.1 37 0 24 g2).2 i hi).trans (Eq.trans ?_ ((f2.2.1 152 0 24 g3).2 i hi).symm)
  show gi r1.2 37 i = gi r1.2 152 i
  rw [(g1 i hi).1, (g1 i hi).2]
  exact hz i hi
end RET
