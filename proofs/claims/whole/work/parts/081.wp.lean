/-! ===== what a run comes to, goal first ===== -/
theorem pz_rn_more (mt : List pz_I) : ∀ (n d i : Nat) (w : Nat × pz_L × List Value × pz_M) (r : Option Value × pz_M), pz_rn mt n d i w = some r → ∀ n' d', n ≤ n' → d ≤ d' → pz_rn mt n' d' i w = some r := by
  intro n
  induction n with
  | zero => intro d i w r h; cases h
  | succ n ih =>
    intro d i w r h n' d' hn hd
    obtain ⟨k, rfl⟩ : ∃ k, n' = k + 1 := ⟨n' - 1, by omega⟩
    have hk : n ≤ k := by omega
    simp only [pz_rn] at h ⊢
    cases hmi : mt[i]? with
    | none => rw [hmi] at h; cases h
    | some mi =>
      rw [hmi] at h
      simp only at h ⊢
      cases hb : mi.2.2.2.2.2.find? (fun b => b.1 == w.1) with
      | none => rw [hb] at h; cases h
      | some b =>
        rw [hb] at h
        simp only at h ⊢
        cases ho : pz_evB b.2.2.2 b.2.2.1 (pz_cut b.2.1 w.2.1) w.2.2.1 w.2.2.2 with
        | none => rw [ho] at h; cases h
        | some o =>
          rw [ho] at h
          match o, h with
          | .inl w', h => exact ih d i w' r h k d' hk hd
          | .inr (.inl r'), h => exact h
          | .inr (.inr q), h =>
            simp only at h ⊢
            cases d with
            | zero => simp at h
            | succ d =>
              obtain ⟨d2, rfl⟩ : ∃ d2, d' = d2 + 1 := ⟨d' - 1, by omega⟩
              cases hj : mt[q.1]? with
              | none => rw [hj] at h; simp at h
              | some mj =>
                rw [hj] at h
                simp only at h ⊢
                split at h
                · rename_i hs
                  rw [if_pos hs]
                  cases hv : pz_rn mt n d q.1 (0, pz_sp mj.2.2.2.1 q.2.1, [], q.2.2.2.2.2) with
                  | none => rw [hv] at h; cases h
                  | some v =>
                    rw [hv] at h
                    simp only at h
                    rw [ih d q.1 _ v hv k d2 hk (by omega)]
                    exact ih (d + 1) i _ r h k (d2 + 1) hk hd
                · cases h
def pn (j : Nat) : Nat := match mz[j]? with
  | some mj => mj.2.2.2.1
  | none => 0
/-- from there, in method i with d calls to open at most, it comes to an end with Q -/
def pw (d i : Nat) (w : Nat × pz_L × List Value × pz_M) (Q : Option Value × pz_M → Prop) : Prop := ∃ (n : Nat) (r : Option Value × pz_M), pz_rn mz n d i w = some r ∧ Q r
/-- method j, on these arguments, comes to Q -/
def pm (d j : Nat) (vs : List Value) (M : pz_M) (Q : Option Value × pz_M → Prop) : Prop := (vs.map fun v => v.category).sum ≤ pn j ∧ pw d j (0, pz_sp (pn j) vs, [], M) Q
def po (d i : Nat) (o : Option pz_O) (Q : Option Value × pz_M → Prop) : Prop := match o with
  | none => False
  | some (.inl w) => pw d i w Q
  | some (.inr (.inl r)) => Q r
  | some (.inr (.inr q)) => 1 ≤ d ∧ pm (d - 1) q.1 q.2.1 q.2.2.2.2.2 (fun v => pw d i (q.2.2.1, q.2.2.2.1, v.1.toList ++ q.2.2.2.2.1, v.2) Q)
theorem pw_blk {d i pc : Nat} {mi : pz_I} {b : pz_B} {L : pz_L} {st : List Value} {M : pz_M} {Q : Option Value × pz_M → Prop} (hmi : mz[i]? = some mi) (hb : mi.2.2.2.2.2.find? (fun b => b.1 == pc) = some b) (h : po d i (pz_evB b.2.2.2 b.2.2.1 (pz_cut b.2.1 L) st M) Q) : pw d i (pc, L, st, M) Q := by
  cases ho : pz_evB b.2.2.2 b.2.2.1 (pz_cut b.2.1 L) st M with
  | none => rw [ho] at h; exact h.elim
  | some o =>
    rw [ho] at h
    match o, h, ho with
    | .inl w', h, ho =>
      obtain ⟨n, r, h1, h2⟩ := h
      refine ⟨n + 1, r, ?_, h2⟩
      simp only [pz_rn, hmi, hb, ho]
      exact h1
    | .inr (.inl r'), h, ho =>
      refine ⟨1, r', ?_, h⟩
      simp only [pz_rn, hmi, hb, ho]
    | .inr (.inr q), h, ho =>
      obtain ⟨hd, hs, n1, v, h1, n2, r, h2, h3⟩ := h
      refine ⟨max n1 n2 + 1, r, ?_, h3⟩
      simp only [pz_rn, hmi, hb, ho]
      obtain ⟨d', rfl⟩ : ∃ d', d = d' + 1 := ⟨d - 1, by omega⟩
      rw [Nat.add_sub_cancel] at h1
      cases hj : mz[q.1]? with
      | none =>
        cases n1 with
        | zero => cases h1
        | succ n1 => simp only [pz_rn, hj] at h1; cases h1
      | some mj =>
        have hpn : pn q.1 = mj.2.2.2.1 := by unfold pn; rw [hj]
        rw [hpn] at hs h1
        simp only
        rw [if_pos hs, pz_rn_more mz n1 d' q.1 _ v h1 (max n1 n2) d' (Nat.le_max_left _ _) (Nat.le_refl _)]
        exact pz_rn_more mz n2 (d' + 1) i _ r h2 (max n1 n2) (d' + 1) (Nat.le_max_right _ _) (Nat.le_refl _)
theorem pw_imp {d i : Nat} {w : Nat × pz_L × List Value × pz_M} {Q Q' : Option Value × pz_M → Prop} (h : pw d i w Q) (hq : ∀ r, Q r → Q' r) : pw d i w Q' := by
  obtain ⟨n, r, h1, h2⟩ := h
  exact ⟨n, r, h1, hq r h2⟩
theorem pm_imp {d j : Nat} {vs : List Value} {M : pz_M} {Q Q' : Option Value × pz_M → Prop} (h : pm d j vs M Q) (hq : ∀ r, Q r → Q' r) : pm d j vs M Q' := ⟨h.1, pw_imp h.2 hq⟩
theorem pm_more {d d' j : Nat} {vs : List Value} {M : pz_M} {Q : Option Value × pz_M → Prop} (hd : d ≤ d') (h : pm d j vs M Q) : pm d' j vs M Q := by
  obtain ⟨hs, n, r, h1, h2⟩ := h
  exact ⟨hs, n, r, pz_rn_more mz n d j _ r h1 n d' (Nat.le_refl _) hd, h2⟩
theorem po_g {d i : Nat} {c : Bool} {k : Option pz_O} {Q : Option Value × pz_M → Prop} (h : c = true) (hk : po d i k Q) : po d i (pv_g c k) Q := by rw [pv_gd h]; exact hk
theorem po_br {d i : Nat} {c : Bool} {t f : Nat} {L : pz_L} {st : List Value} {M : pz_M} {Q : Option Value × pz_M → Prop} (h1 : c = true → pw d i (t, L, st, M) Q) (h2 : c = false → pw d i (f, L, st, M) Q) : po d i (pz_br c t f L st M) Q := by
  unfold pz_br
  split
  · exact h1 (by assumption)
  · exact h2 (by simpa using ‹¬c = true›)
theorem po_brP {d i : Nat} {c : Prop} {hc : Decidable c} {t f : Nat} {L : pz_L} {st : List Value} {M : pz_M} {Q : Option Value × pz_M → Prop} (h1 : c → pw d i (t, L, st, M) Q) (h2 : ¬ c → pw d i (f, L, st, M) Q) : po d i (pz_br (decide c) t f L st M) Q := po_br (fun h => h1 (of_decide_eq_true h)) (fun h => h2 (of_decide_eq_false h))
theorem po_gP {d i : Nat} {c : Prop} {hc : Decidable c} {k : Option pz_O} {Q : Option Value × pz_M → Prop} (h : c) (hk : po d i k Q) : po d i (pv_g (decide c) k) Q := po_g (decide_eq_true h) hk
theorem po_go {d i : Nat} {w : Nat × pz_L × List Value × pz_M} {Q : Option Value × pz_M → Prop} (h : pw d i w Q) : po d i (some (.inl w)) Q := h
theorem po_ret {d i : Nat} {r : Option Value × pz_M} {Q : Option Value × pz_M → Prop} (h : Q r) : po d i (some (.inr (.inl r))) Q := h
theorem po_call {d i j nx : Nat} {vs : List Value} {L : pz_L} {st : List Value} {M : pz_M} {Q : Option Value × pz_M → Prop} (hd : 1 ≤ d) (h : pm (d - 1) j vs M (fun v => pw d i (nx, L, v.1.toList ++ st, v.2) Q)) : po d i (some (.inr (.inr (j, vs, nx, L, st, M)))) Q := ⟨hd, h⟩
theorem pm_ent {d j : Nat} {vs : List Value} {L : pz_L} {M : pz_M} {Q : Option Value × pz_M → Prop} (hL : pz_sp (pn j) vs = L) (hs : (vs.map fun v => v.category).sum ≤ pn j) (h : pw d j (0, L, [], M) Q) : pm d j vs M Q := ⟨hs, by rw [hL]; exact h⟩
theorem pz_cut_t {bs : List Bool} {x : Option Value} {xs : pz_L} : pz_cut (true :: bs) (x :: xs) = x :: pz_cut bs xs := rfl
theorem pz_cut_f {bs : List Bool} {x : Option Value} {xs : pz_L} : pz_cut (false :: bs) (x :: xs) = none :: pz_cut bs xs := rfl
theorem pz_cut_n : pz_cut [] [] = [] := rfl
theorem pv_ts {v : Value} {st : List Value} : (some v : Option Value).toList ++ st = v :: st := rfl
theorem pv_tn {st : List Value} : (none : Option Value).toList ++ st = st := rfl
theorem pz_in_nI {j n : Nat} (h : j < n) (hn : n < 2 ^ 31) : pz_in (nI j) n = true := by
  unfold pz_in
  exact decide_eq_true (nI_in h hn)
theorem inc1 (i : Nat) : nI i + Int32.ofInt 1 = nI (i + 1) := nI_1 i
/-- M' is M but for numbers in the cells K -/
def sm (K : List Nat) (M M' : pz_M) : Prop := M'.1 = M.1 ∧ M'.2.1 = M.2.1 ∧ M'.2.2.2.2 = M.2.2.2.2 ∧ ∀ k, k ∉ K → gi M' k = gi M k ∧ gl M' k = gl M k
section SM
variable {K K' : List Nat} {M M' M'' : pz_M}
theorem sm.rf : sm K M M := ⟨rfl, rfl, rfl, fun _ _ => ⟨rfl, rfl⟩⟩
theorem sm.X (h : sm K M M') : M'.1 = M.1 := h.1
theorem sm.c (h : sm K M M') (k : Nat) : gc M' k = gc M k := by unfold gc; rw [h.2.1]
theorem sm.a (h : sm K M M') (k : Nat) : ga M' k = ga M k := by unfold ga; rw [h.2.1]
theorem sm.n (h : sm K M M') (k : Nat) : gn M' k = gn M k := by unfold gn; rw [h.2.1]
theorem sm.r (h : sm K M M') (k : Nat) : gr M' k = gr M k := by unfold gr; rw [h.2.2.1]
theorem sm.i (h : sm K M M') {k : Nat} (hk : k ∉ K) : gi M' k = gi M k := (h.2.2.2 k hk).1
theorem sm.l (h : sm K M M') {k : Nat} (hk : k ∉ K) : gl M' k = gl M k := (h.2.2.2 k hk).2
theorem sm.tr (h : sm K M M') (h' : sm K' M' M'') (hs : ∀ k, k ∈ K' → k ∈ K) : sm K M M'' := ⟨h'.1.trans h.1, h'.2.1.trans h.2.1, h'.2.2.1.trans h.2.2.1, fun k hk => ⟨((h'.2.2.2 k (fun q => hk (hs k q))).1).trans (h.2.2.2 k hk).1, ((h'.2.2.2 k (fun q => hk (hs k q))).2).trans (h.2.2.2 k hk).2⟩⟩
theorem sm.wi (h : sm K M M') {k : Nat} {r : Nat → Int32} (hk : k ∈ K) : sm K M (pz_wi M' k r) := ⟨h.1, h.2.1, h.2.2.1, fun j hj => ⟨(pz_wi_else (M := M') (k := k) (j := j) (fun q => hj (by rw [q]; exact hk))).trans (h.2.2.2 j hj).1, (h.2.2.2 j hj).2⟩⟩
theorem sm.wl (h : sm K M M') {k : Nat} {r : Nat → Int64} (hk : k ∈ K) : sm K M (pz_wl M' k r) := ⟨h.1, h.2.1, h.2.2.1, fun j hj => ⟨(h.2.2.2 j hj).1, (pz_wl_else (M := M') (k := k) (j := j) (fun q => hj (by rw [q]; exact hk))).trans (h.2.2.2 j hj).2⟩⟩
end SM
/-- n times -/
def it (f : Int32 → Int32) : Nat → Int32 → Int32
  | 0, x => x
  | n + 1, x => it f n (f x)
theorem it_fix {f : Int32 → Int32} {x : Int32} (h : f x = x) : ∀ n, it f n x = x
  | 0 => rfl
  | n + 1 => by rw [it, h]; exact it_fix h n
/-- locals that don't live at a block's place may be any -/
theorem pw_cut {d i pc : Nat} {mi : pz_I} {b : pz_B} {L L' : pz_L} {st : List Value} {M : pz_M} {Q : Option Value × pz_M → Prop} (hmi : mz[i]? = some mi) (hb : mi.2.2.2.2.2.find? (fun b => b.1 == pc) = some b) (h : pw d i (pc, L', st, M) Q) (hL : pz_cut b.2.1 L = pz_cut b.2.1 L') : pw d i (pc, L, st, M) Q := by
  obtain ⟨n, r, h1, h2⟩ := h
  cases n with
  | zero => cases h1
  | succ n =>
    refine ⟨n + 1, r, ?_, h2⟩
    simp only [pz_rn, hmi, hb] at h1 ⊢
    rw [hL]
    exact h1
