/-! ===== constructors, by running them ===== -/
section INI
def pz_ev0 (fall : Nat) : List pz_E → pz_L → List Value → pz_M → Option pz_O
  | [], L, st, M => some (.inl (fall, L, st, M))
  | e :: es, L, st, M => match pz_ctl e L st M with
    | some o => o
    | none => match pz_st0 e L st M with
      | none => none
      | some q => pz_ev0 fall es q.1 q.2.1 q.2.2
theorem st0_stp {e : pz_E} {L : pz_L} {st : List Value} {M : pz_M} {q : pz_L × List Value × pz_M} (h : pz_st0 e L st M = some q) : pz_stp e L st M = some q := by
  unfold pz_st0 at h
  split at h
  · cases h
  · exact h
theorem xs_ev {X : pz_X} {fall : Nat} : ∀ (es : List pz_E) (L : pz_L) (st : List Value) (M : pz_M) (o : pz_O), M.1.1 = 0 → pz_ev0 fall es L st M = some o → pz_evB fall es L st (sx X M) = some (osx X o) ∧ (omem o).1 = M.1 ∧ fz M (omem o) := by
  intro es
  induction es with
  | nil =>
    intro L st M o _ h
    cases h
    exact ⟨rfl, rfl, fz.rf⟩
  | cons e es ih =>
    intro L st M o h0 h
    unfold pz_ev0 at h
    unfold pz_evB
    rw [xs_ctl]
    cases hc : pz_ctl e L st M with
    | some o' =>
      rw [hc] at h
      simp only at h
      subst h
      have := fz_ctl hc
      exact ⟨rfl, by rw [this], by rw [this]; exact fz.rf⟩
    | none =>
      rw [hc] at h
      simp only at h
      cases hs : pz_st0 e L st M with
      | none => rw [hs] at h; cases h
      | some q =>
        rw [hs] at h
        simp only at h
        have f := fz_stp (st0_stp hs)
        obtain ⟨a1, a2, a3⟩ := ih q.1 q.2.1 q.2.2 o (by rw [f.1]; exact h0) h
        refine ⟨?_, a2.trans f.1, f.tr a3⟩
        simp only [Option.map_none, xs_stp (X := X) h0 hs]
        exact a1
def pz_rn0 (mt : List pz_I) : Nat → Nat → Nat → Nat × pz_L × List Value × pz_M → Option (Option Value × pz_M)
  | 0, _, _, _ => none
  | n + 1, d, i, w => match mt[i]? with
    | none => none
    | some mi => match mi.2.2.2.2.2.find? (fun b => b.1 == w.1) with
      | none => none
      | some b => match pz_ev0 b.2.2.2 b.2.2.1 (pz_cut b.2.1 w.2.1) w.2.2.1 w.2.2.2 with
        | none => none
        | some (.inl w') => pz_rn0 mt n d i w'
        | some (.inr (.inl r)) => some r
        | some (.inr (.inr q)) => match d, mt[q.1]? with
          | d' + 1, some mj => if (q.2.1.map fun v => v.category).sum ≤ mj.2.2.2.1 then (match pz_rn0 mt n d' q.1 (0, pz_sp mj.2.2.2.1 q.2.1, [], q.2.2.2.2.2) with
            | none => none
            | some v => pz_rn0 mt n d i (q.2.2.1, q.2.2.2.1, v.1.toList ++ q.2.2.2.2.1, v.2)) else none
          | _, _ => none
theorem xs_rn {X : pz_X} (mt : List pz_I) : ∀ (n d i : Nat) (w : Nat × pz_L × List Value × pz_M) (r : Option Value × pz_M), w.2.2.2.1.1 = 0 → pz_rn0 mt n d i w = some r → pz_rn mt n d i (w.1, w.2.1, w.2.2.1, sx X w.2.2.2) = some (r.1, sx X r.2) ∧ r.2.1 = w.2.2.2.1 ∧ fz w.2.2.2 r.2 := by
  intro n
  induction n with
  | zero => intro d i w r _ h; cases h
  | succ n ih =>
    intro d i w r h0 h
    simp only [pz_rn0] at h
    simp only [pz_rn]
    cases hmi : mt[i]? with
    | none => rw [hmi] at h; cases h
    | some mi =>
      rw [hmi] at h
      simp only at h ⊢
      cases hb : mi.2.2.2.2.2.find? (fun b => b.1 == w.1) with
      | none => rw [hb] at h; cases h
      | some b =>
        rw [hb] at h
        simp only at h ⊢
        cases ho : pz_ev0 b.2.2.2 b.2.2.1 (pz_cut b.2.1 w.2.1) w.2.2.1 w.2.2.2 with
        | none => rw [ho] at h; cases h
        | some o =>
          rw [ho] at h
          obtain ⟨f1, f2, f3⟩ := xs_ev (X := X) _ _ _ _ _ h0 ho
          rw [f1]
          match o, h, f2, f3 with
          | .inl w', h, f2, f3 =>
            obtain ⟨a1, a2, a3⟩ := ih d i w' r (by rw [show w'.2.2.2.1 = w.2.2.2.1 from f2]; exact h0) h
            exact ⟨a1, a2.trans f2, f3.tr a3⟩
          | .inr (.inl r'), h, f2, f3 =>
            simp only at h
            cases h
            exact ⟨rfl, f2, f3⟩
          | .inr (.inr q), h, f2, f3 =>
            simp only [osx] at h ⊢
            cases d with
            | zero => simp at h
            | succ d =>
              cases hj : mt[q.1]? with
              | none => rw [hj] at h; simp at h
              | some mj =>
                rw [hj] at h
                simp only at h ⊢
                split at h
                · rename_i hs
                  rw [if_pos hs]
                  cases hv : pz_rn0 mt n d q.1 (0, pz_sp mj.2.2.2.1 q.2.1, [], q.2.2.2.2.2) with
                  | none => rw [hv] at h; cases h
                  | some v =>
                    rw [hv] at h
                    simp only at h
                    have hq0 : q.2.2.2.2.2.1.1 = 0 := by rw [show q.2.2.2.2.2.1 = w.2.2.2.1 from f2]; exact h0
                    obtain ⟨b1, b2, b3⟩ := ih d q.1 (0, pz_sp mj.2.2.2.1 q.2.1, [], q.2.2.2.2.2) v hq0 hv
                    have b2' : v.2.1 = w.2.2.2.1 := (show v.2.1 = q.2.2.2.2.2.1 from b2).trans f2
                    obtain ⟨c1, c2, c3⟩ := ih (d + 1) i (q.2.2.1, q.2.2.2.1, v.1.toList ++ q.2.2.2.2.1, v.2) r (by show v.2.1.1 = 0; rw [b2']; exact h0) h
                    simp only at b1 c1
                    rw [b1]
                    exact ⟨c1, (show r.2.1 = v.2.1 from c2).trans b2', (f3.tr b3).tr c3⟩
                · cases h
end INI
