/-! ===== locals, the context of a method, where it stands ===== -/
def pz_Lr (base : Nat) (ex : Nat → Nat) (fz : Value) (ls : Array Slot) (nL : Nat) (L : pz_L) : Prop := ls.size = nL ∧ lv_wf ls ∧ ∀ (i : Nat) (v : Value), L[i]? = some (some v) → ls[i]? = some (.val (pz_rv base ex fz v))
def pz_fzok (fz : Value) : Prop := fz = .null ∨ ∃ t, fz = .ref t
section PL
variable {base : Nat} {ex : Nat → Nat} {fz : Value} {ls : Array Slot} {nL : Nat} {L : pz_L}
theorem pz_rv_cat (hz : pz_fzok fz) (v : Value) : (pz_rv base ex fz v).category = v.category := by
  cases v <;> try rfl
  rcases hz with rfl | ⟨t, rfl⟩ <;> rfl
theorem pz_rv_cats (hz : pz_fzok fz) (st : List Value) : ((st.map (pz_rv base ex fz)).map fun v => v.category).sum = (st.map fun v => v.category).sum := by
  rw [List.map_map]
  congr 1
  exact List.map_congr_left (fun v _ => pz_rv_cat hz v)
/-- the pairs that the locals tell -/
def pz_pr (base : Nat) (ex : Nat → Nat) (fz : Value) (L : pz_L) : List (Nat × Value) := (List.range L.length).filterMap (fun i => match L[i]? with
  | some (some v) => some (i, pz_rv base ex fz v)
  | _ => none)
theorem pz_pr_mem {q : Nat × Value} (h : q ∈ pz_pr base ex fz L) : ∃ v, L[q.1]? = some (some v) ∧ q.2 = pz_rv base ex fz v := by
  obtain ⟨i, -, hi⟩ := List.mem_filterMap.mp h
  split at hi
  · rename_i v hv
    cases hi
    exact ⟨v, hv, rfl⟩
  · cases hi
theorem pz_pr_in {i : Nat} {v : Value} (h : L[i]? = some (some v)) : (i, pz_rv base ex fz v) ∈ pz_pr base ex fz L := by
  refine List.mem_filterMap.mpr ⟨i, List.mem_range.mpr (List.getElem?_eq_some_iff.mp h).1, ?_⟩
  rw [h]
theorem pz_Lr.has (h : pz_Lr base ex fz ls nL L) : lv_has ls nL (pz_pr base ex fz L) := by
  refine ⟨h.1, h.2.1, fun q hq => ?_⟩
  obtain ⟨v, hv, he⟩ := pz_pr_mem hq
  rw [he]
  exact h.2.2 _ _ hv
theorem pz_ld_at {i : Nat} {v : Value} (h : pz_ld L i = some v) : L[i]? = some (some v) := by
  unfold pz_ld at h
  split at h
  · cases h; assumption
  · cases h
theorem pz_Lr.at (h : pz_Lr base ex fz ls nL L) {i : Nat} {v : Value} (hl : pz_ld L i = some v) : ls[i]? = some (.val (pz_rv base ex fz v)) := h.2.2 i v (pz_ld_at hl)
theorem pz_s1_len {i : Nat} {v : Value} : (pz_s1 L i v).length = L.length := by
  unfold pz_s1
  cases i with
  | zero => simp
  | succ j =>
    simp only
    split
    · split <;> simp
    · simp
theorem pz_s2_len {i : Nat} {v : Value} : (pz_s2 L i v).length = L.length := by simp [pz_s2, pz_s1_len]
theorem pz_s1_at {i j : Nat} {v w : Value} (h : (pz_s1 L i v)[j]? = some (some w)) : (j = i ∧ w = v) ∨ (j ≠ i ∧ L[j]? = some (some w) ∧ ¬ (j + 1 = i ∧ w.category = 2)) := by
  unfold pz_s1 at h
  by_cases hj : j = i
  · subst hj
    left
    refine ⟨rfl, ?_⟩
    cases j with
    | zero =>
      simp only at h
      rw [List.getElem?_set] at h
      simp at h
      exact h.2.symm
    | succ j =>
      simp only at h
      rw [List.getElem?_set] at h
      simp at h
      exact h.2.symm
  · right
    refine ⟨hj, ?_⟩
    cases i with
    | zero =>
      simp only at h
      rw [List.getElem?_set_ne (Ne.symm hj)] at h
      exact ⟨h, fun q => by omega⟩
    | succ i =>
      simp only at h
      rw [List.getElem?_set_ne (Ne.symm hj)] at h
      split at h
      · rename_i u hu
        split at h
        · rename_i hc
          by_cases hji : j = i
          · subst hji
            rw [List.getElem?_set] at h
            simp at h
          · rw [List.getElem?_set_ne (Ne.symm hji)] at h
            exact ⟨h, fun q => hji (by omega)⟩
        · rename_i hc
          refine ⟨h, fun q => ?_⟩
          have hji : j = i := by omega
          subst hji
          rw [hu] at h
          cases h
          exact hc q.2
      · rename_i hn
        refine ⟨h, fun q => ?_⟩
        have hji : j = i := by omega
        subst hji
        exact hn w h
theorem pz_Lr.store1 (hz : pz_fzok fz) {i : Nat} {v : Value} {ls' : Array Slot} (h : lv_has ls' nL ((i, pz_rv base ex fz v) :: (pz_pr base ex fz L).filter (fun q => !(q.1 == i) && !(q.1 + 1 == i && q.2.category == 2)))) : pz_Lr base ex fz ls' nL (pz_s1 L i v) := by
  refine ⟨h.1, h.2.1, fun j w hj => ?_⟩
  rcases pz_s1_at hj with ⟨rfl, rfl⟩ | ⟨hne, hl, hc⟩
  · exact h.2.2 _ List.mem_cons_self
  · refine h.2.2 (j, pz_rv base ex fz w) (List.mem_cons_of_mem _ (List.mem_filter.mpr ⟨pz_pr_in hl, ?_⟩))
    rw [pz_rv_cat hz]
    simp only [Bool.and_eq_true, Bool.not_eq_true', beq_eq_false_iff_ne, ne_eq, Bool.and_eq_false_imp, beq_iff_eq]
    exact ⟨hne, fun a b => hc ⟨a, b⟩⟩
theorem pz_Lr.store2 (hz : pz_fzok fz) {i : Nat} {v : Value} {ls' : Array Slot} (h : lv_has ls' nL ((i, pz_rv base ex fz v) :: (pz_pr base ex fz L).filter (fun q => !(q.1 == i) && (!(q.1 == i + 1) && !(q.1 + 1 == i && q.2.category == 2))))) : pz_Lr base ex fz ls' nL (pz_s2 L i v) := by
  refine ⟨h.1, h.2.1, fun j w hj => ?_⟩
  unfold pz_s2 at hj
  by_cases hji : j = i + 1
  · subst hji
    rw [List.getElem?_set] at hj
    simp at hj
  rw [List.getElem?_set_ne (Ne.symm hji)] at hj
  rcases pz_s1_at hj with ⟨rfl, rfl⟩ | ⟨hne, hl, hc⟩
  · exact h.2.2 _ List.mem_cons_self
  · refine h.2.2 (j, pz_rv base ex fz w) (List.mem_cons_of_mem _ (List.mem_filter.mpr ⟨pz_pr_in hl, ?_⟩))
    rw [pz_rv_cat hz]
    simp only [Bool.and_eq_true, Bool.not_eq_true', beq_eq_false_iff_ne, ne_eq, Bool.and_eq_false_imp, beq_iff_eq]
    exact ⟨hne, hji, fun a b => hc ⟨a, b⟩⟩
theorem pz_cut_at : ∀ {bs : List Bool} {L : pz_L} {i : Nat} {v : Value}, (pz_cut bs L)[i]? = some (some v) → L[i]? = some (some v)
  | [], _, i, v, h => by simp [pz_cut] at h
  | b :: bs, [], i, v, h => by simp [pz_cut] at h
  | b :: bs, x :: xs, i, v, h => by
    cases i with
    | zero =>
      simp only [pz_cut, List.getElem?_cons_zero, Option.some.injEq] at h ⊢
      split at h
      · exact h
      · cases h
    | succ i =>
      simp only [pz_cut, List.getElem?_cons_succ] at h ⊢
      exact pz_cut_at h
theorem pz_cut_len : ∀ {bs : List Bool} {L : pz_L}, bs.length = L.length → (pz_cut bs L).length = L.length
  | [], [], _ => rfl
  | [], _ :: _, h => by simp at h
  | _ :: _, [], h => by simp at h
  | b :: bs, x :: xs, h => by
    simp only [pz_cut, List.length_cons, Nat.add_right_cancel_iff] at h ⊢
    exact pz_cut_len h
theorem pz_Lr.cut (h : pz_Lr base ex fz ls nL L) (bs : List Bool) : pz_Lr base ex fz ls nL (pz_cut bs L) := ⟨h.1, h.2.1, fun i v hi => h.2.2 i v (pz_cut_at hi)⟩
theorem pz_sp_len : ∀ (n : Nat) (vs : List Value), (pz_sp n vs).length = n
  | 0, _ => rfl
  | n + 1, [] => by simp [pz_sp, pz_sp_len n []]
  | 1, v :: vs => by
    simp only [pz_sp]
    split <;> simp
  | n + 2, v :: vs => by
    by_cases hc : v.category = 2
    · have hw : pz_sp (n + 2) (v :: vs) = some v :: none :: pz_sp n vs := by
        simp only [pz_sp]
        rw [if_pos hc]
      rw [hw]
      simp [pz_sp_len n vs]
    · have hw : pz_sp (n + 2) (v :: vs) = some v :: pz_sp (n + 1) vs := by
        rw [pz_sp]
        rw [if_neg hc]
      rw [hw]
      simp [pz_sp_len (n + 1) vs]
/-- what the arguments say of the first locals -/
theorem pz_sp_at (hz : pz_fzok fz) : ∀ (n : Nat) (vs : List Value) (b i : Nat) (v : Value), (pz_sp n vs)[i]? = some (some v) → (b + i, pz_rv base ex fz v) ∈ lv_args b (vs.map (pz_rv base ex fz))
  | 0, _, b, i, v, h => by simp [pz_sp] at h
  | n + 1, [], b, i, v, h => by
    cases i with
    | zero => simp [pz_sp] at h
    | succ i =>
      simp only [pz_sp, List.getElem?_cons_succ] at h
      have := pz_sp_at hz n [] (b + 1) i v h
      simp [lv_args] at this
  | 1, w :: vs, b, i, v, h => by
    have hw : (pz_sp 1 (w :: vs)) = [some w] := by
      simp only [pz_sp]
      split <;> rfl
    rw [hw] at h
    cases i with
    | zero =>
      simp at h
      subst h
      simp [lv_args]
    | succ i => simp at h
  | n + 2, w :: vs, b, i, v, h => by
    by_cases hc : w.category = 2
    · have hw : pz_sp (n + 2) (w :: vs) = some w :: none :: pz_sp n vs := by
        simp only [pz_sp]
        rw [if_pos hc]
      rw [hw] at h
      cases i with
      | zero => simp at h; subst h; simp [lv_args]
      | succ i =>
        cases i with
        | zero => simp at h
        | succ i =>
          simp only [List.getElem?_cons_succ] at h
          have := pz_sp_at hz n vs (b + 2) i v h
          simp only [List.map_cons, lv_args, pz_rv_cat hz, hc, if_true]
          refine List.mem_cons_of_mem _ ?_
          rw [show b + (i + 1 + 1) = b + 2 + i by omega]
          exact this
    · have hw : pz_sp (n + 2) (w :: vs) = some w :: pz_sp (n + 1) vs := by
        rw [pz_sp]
        rw [if_neg hc]
      rw [hw] at h
      cases i with
      | zero => simp at h; subst h; simp [lv_args]
      | succ i =>
        simp only [List.getElem?_cons_succ] at h
        have := pz_sp_at hz (n + 1) vs (b + 1) i v h
        simp only [List.map_cons, lv_args, pz_rv_cat hz, hc, if_false]
        refine List.mem_cons_of_mem _ ?_
        rw [show b + (i + 1) = b + 1 + i by omega]
        exact this
end PL
