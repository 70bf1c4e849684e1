/-! ===== rules: the reference's reader, its small methods ===== -/
section RE
variable {d : Nat} {M M' : pz_M} {Q : Option Value × pz_M → Prop} {T : Nat → Nat} {L B : Nat}
def rkW (x : Nat) : Nat := if x = 1 then 2 else if x = 2 then 3 else if x = 4 then 4 else if x = 5 then 5 else if x = 6 then 6 else 1
def okSt : Pl → Prop
  | [] => True
  | x :: S => okSt S ∧ S.length + 1 ≤ 6 * nw (x :: S) + rkW x.1 ∧ (1 ≤ x.1 ∧ x.1 ≤ 8) ∧ (x.1 = 8 ↔ S = []) ∧ (x.2 < 15 ∧ (x.1 ≤ 6 → 6 ≤ x.2))
def lead : Pl → Nat
  | [] => 0
  | x :: S => if x.1 = 3 then lead S + 1 else 0
theorem lead_le : ∀ S, lead S ≤ nw S := by
  intro S
  induction S with
  | nil => exact Nat.le_refl _
  | cons x S ih =>
    show (if x.1 = 3 then lead S + 1 else 0) ≤ (if x.1 = 3 ∨ x.1 = 7 then 1 else 0) + nw S
    by_cases h : x.1 = 3
    · rw [if_pos h, if_pos (Or.inl h)]; omega
    · rw [if_neg h]; omega
theorem rkW_b (x : Nat) : 1 ≤ rkW x ∧ rkW x ≤ 6 := by
  unfold rkW
  (repeat' split) <;> omega
def okM (m : MS) : Prop := okSt m.1 ∧ nw m.1 ≤ 7 ∧ m.2.2.2.1 ≤ 40 ∧ m.2.2.2.2.length + m.1.length ≤ 9 * m.2.2.2.1 + (if m.2.1 = true then 2 + lead m.1 else 1)
theorem okSt_len {S : Pl} (h : okSt S) (hn : nw S ≤ 7) : S.length ≤ 48 := by
  cases S with
  | nil => exact Nat.zero_le _
  | cons x S =>
    have a := h.2.1
    have b := (rkW_b x.1).2
    rw [List.length_cons]
    omega
theorem okM.b {m : MS} (h : okM m) : m.1.length ≤ 48 ∧ m.2.2.2.2.length + m.1.length ≤ 370 := by
  obtain ⟨h1, h2, h3, h4⟩ := h
  have a := okSt_len h1 h2
  have b := lead_le m.1
  refine ⟨a, ?_⟩
  split at h4 <;> omega
theorem rAdd_len {k v : Nat} {s : Ru} : (rAdd k v s).2.2.length ≤ s.2.2.length + 1 := by
  unfold rAdd
  show (if s.2.2.length < 600 then (k, v) :: s.2.2 else s.2.2).length ≤ _
  split
  · rw [List.length_cons]; omega
  · omega
theorem pops_ok {r : Nat} : ∀ (S : Pl) (s : Ru), okSt S → S ≠ [] → okSt (pops r S s).1 ∧ (pops r S s).1 ≠ [] ∧ nw (pops r S s).1 ≤ nw S ∧ (pops r S s).2.2.2.length + (pops r S s).1.length ≤ s.2.2.length + S.length ∧ (pops r S s).2.1 = s.1 ∧ (pops r S s).2.2.1 = s.2.1 ∧ ¬ (topW (pops r S s).1 ≤ 6 ∧ r ≤ topW (pops r S s).1) := by
  intro S
  induction S with
  | nil => intro s _ h; exact absurd rfl h
  | cons x S ih =>
    intro s ho _
    by_cases hc : x.1 ≤ 6 ∧ r ≤ x.1
    · have e : pops r (x :: S) s = pops r S (rAdd x.2 0 s) := if_pos hc
      rw [e]
      have hS : S ≠ [] := fun q => by have := ho.2.2.2.1.mpr q; omega
      obtain ⟨a1, a2, a3, a4, a5, a6, a7⟩ := ih (rAdd x.2 0 s) ho.1 hS
      have al := rAdd_len (k := x.2) (v := 0) (s := s)
      refine ⟨a1, a2, ?_, ?_, a5, a6, a7⟩
      · show _ ≤ (if x.1 = 3 ∨ x.1 = 7 then 1 else 0) + nw S
        omega
      · rw [List.length_cons]; omega
    · have e : pops r (x :: S) s = (x :: S, s) := if_neg hc
      rw [e]
      exact ⟨ho, by simp, Nat.le_refl _, Nat.le_refl _, rfl, rfl, hc⟩
theorem okM.unit {S : Pl} {s : Ru} (h : okM (S, true, s)) (hS : S ≠ []) : okM (unitS T L B S s) := by
  obtain ⟨h1, h2, h3, h4⟩ := id h
  have hl := lead_le S
  simp only [if_true] at h4 h1 h2 h3
  unfold unitS
  cases ub : uBad S s with
  | true => exact h
  | false =>
    rw [if_neg (by decide)]
    unfold uBad at ub
    cases un : uNot S s.1 with
    | true =>
      rw [un] at ub
      simp at ub
      rw [if_pos rfl]
      refine ⟨⟨h1, ?_, by decide, by simp [hS], by decide⟩, ?_, h3, ?_⟩
      · rw [nw_in (Or.inl rfl)]
        cases S with
        | nil => exact absurd rfl hS
        | cons x S =>
          have a := h1.2.1
          have b := (rkW_b x.1).2
          have c := (rkW_b 3).1
          rw [List.length_cons]
          show S.length + 1 + 1 ≤ 6 * (nw (x :: S) + 1) + rkW 3
          omega
      · show nw ((3, 6) :: S) ≤ 7
        rw [nw_in (Or.inl rfl)]
        omega
      · show s.2.2.length + ((3, 6) :: S).length ≤ 9 * s.2.1 + (2 + lead ((3, 6) :: S))
        rw [List.length_cons, show lead ((3, 6) :: S) = lead S + 1 from rfl]
        omega
    | false =>
      rw [un] at ub
      rw [if_neg (by decide)]
      cases zc : isC 40 s.1 with
      | true =>
        rw [zc] at ub
        simp at ub
        rw [if_pos rfl]
        refine ⟨⟨h1, ?_, by decide, by simp [hS], by decide⟩, ?_, ?_, ?_⟩
        · rw [nw_in (Or.inr rfl)]
          cases S with
          | nil => exact absurd rfl hS
          | cons x S =>
            have a := h1.2.1
            have b := (rkW_b x.1).2
            have c := (rkW_b 7).1
            rw [List.length_cons]
            show S.length + 1 + 1 ≤ 6 * (nw (x :: S) + 1) + rkW 7
            omega
        · show nw ((7, 6) :: S) ≤ 7
          rw [nw_in (Or.inr rfl)]
          omega
        · show s.2.1 + 1 ≤ 40
          omega
        · show s.2.2.length + ((7, 6) :: S).length ≤ 9 * (s.2.1 + 1) + (2 + lead ((7, 6) :: S))
          rw [List.length_cons, show lead ((7, 6) :: S) = 0 from rfl]
          omega
      | false =>
        rw [if_neg (by decide)]
        simp at ub
        have hb : ∀ k s', (buF T L B k s').2.1 = s'.2.1 ∧ (buF T L B k s').2.2.length ≤ s'.2.2.length + 1 := fun k s' => by
          unfold buF
          split
          · exact ⟨rfl, rAdd_len⟩
          · exact ⟨rfl, Nat.le_succ _⟩
        have ha : (atomF T L B s).2.1 = s.2.1 + 1 ∧ (atomF T L B s).2.2.length ≤ s.2.2.length + 1 := by
          unfold atomF
          split
          · exact ⟨rfl, rAdd_len⟩
          · split
            · exact ⟨rfl, rAdd_len⟩
            · exact hb _ (rUp s)
        refine ⟨h1, h2, ?_, ?_⟩
        · show (atomF T L B s).2.1 ≤ 40
          omega
        · show (atomF T L B s).2.2.length + S.length ≤ 9 * (atomF T L B s).2.1 + 1
          omega
theorem oc_b (σ : Sg) : 6 ≤ oc σ ∧ oc σ < 15 := by
  unfold oc
  (repeat' split) <;> omega
theorem rk_b (σ : Sg) : rk σ ≤ 6 ∧ rk σ ≠ 3 := by
  unfold rk
  (repeat' split) <;> omega
theorem rkW_lt : ∀ x, x < 9 → ∀ r, r < 7 → 0 < r → r ≠ 3 → ¬ (x ≤ 6 ∧ r ≤ x) → rkW x < rkW r := by
  intro x hx r hr h0 h3 hn
  unfold rkW
  (repeat' split) <;> omega
theorem okM.beh {S : Pl} {s : Ru} (h : okM (S, false, s)) (hS : S ≠ []) : okM (behS T L S s) := by
  obtain ⟨h1, h2, h3, h4⟩ := id h
  have h1' : okSt S := h1
  have h2' : nw S ≤ 7 := h2
  have h3' : s.2.1 ≤ 40 := h3
  have h4' : s.2.2.length + S.length ≤ 9 * s.2.1 + 1 := h4
  unfold behS
  split
  · refine ⟨h1, h2, h3, ?_⟩
    show s.2.2.length + S.length ≤ 9 * s.2.1 + (2 + lead S)
    omega
  · obtain ⟨b1, b2⟩ := rk_b s.1
    split
    · rename_i hr
      obtain ⟨a1, a2, a3, a4, a5, a6, a7⟩ := pops_ok (r := rk s.1) S s h1' hS
      obtain ⟨c1, c2⟩ := oc_b s.1
      generalize pops (rk s.1) S s = P at a1 a2 a3 a4 a5 a6 a7 ⊢
      have en : nw ((rk s.1, oc s.1) :: P.1) ≤ nw S := by
        show (if rk s.1 = 3 ∨ rk s.1 = 7 then 1 else 0) + nw P.1 ≤ nw S
        rw [if_neg (by omega)]
        omega
      have en2 : nw ((rk s.1, oc s.1) :: P.1) = nw P.1 := nw_op ⟨b2, by show rk s.1 ≠ 7; omega⟩
      refine ⟨⟨a1, ?_, ⟨hr, by show rk s.1 ≤ 8; omega⟩, ⟨fun q => absurd (show rk s.1 = 8 from q) (by omega), fun q => absurd q a2⟩, c2, fun _ => c1⟩, Nat.le_trans en h2', by show P.2.2.1 ≤ 40; omega, ?_⟩
      · rw [en2]
        cases hP : P.1 with
        | nil => exact absurd hP a2
        | cons x S' =>
          rw [hP] at a1 a7
          have b := a1.2.1
          have c := rkW_lt x.1 (by have := a1.2.2.1.2; omega) (rk s.1) (by omega) hr b2 a7
          rw [List.length_cons]
          show S'.length + 1 + 1 ≤ 6 * nw (x :: S') + rkW (rk s.1)
          omega
      · show P.2.2.2.length + ((rk s.1, oc s.1) :: P.1).length ≤ 9 * P.2.2.1 + (2 + lead ((rk s.1, oc s.1) :: P.1))
        rw [List.length_cons, a6]
        omega
    · obtain ⟨a1, a2, a3, a4, a5, a6, a7⟩ := pops_ok (r := 0) S s h1' hS
      generalize pops 0 S s = P at a1 a2 a3 a4 a5 a6 a7 ⊢
      cases hP : P.1 with
      | nil => exact absurd hP a2
      | cons x S' =>
        rw [hP] at a1 a3 a4
        have e1 : (if topW (x :: S') = 7 then rTs T L 41 P.2 else P.2).2.1 = P.2.2.1 := by split <;> rfl
        have e2 : (if topW (x :: S') = 7 then rTs T L 41 P.2 else P.2).2.2 = P.2.2.2 := by split <;> rfl
        rw [List.length_cons] at a4
        refine ⟨a1.1, ?_, ?_, ?_⟩
        · show nw S' ≤ 7
          have : nw S' ≤ nw (x :: S') := Nat.le_add_left _ _
          omega
        · show (if topW (x :: S') = 7 then rTs T L 41 P.2 else P.2).2.1 ≤ 40
          rw [e1]; omega
        · show (if topW (x :: S') = 7 then rTs T L 41 P.2 else P.2).2.2.length + S'.length ≤ 9 * (if topW (x :: S') = 7 then rTs T L 41 P.2 else P.2).2.1 + 1
          rw [e1, e2]; omega
/-- the reference's pile; its codes -/
def stR (M : pz_M) : Pl → Prop
  | [] => True
  | x :: S => gi M 161 S.length = nI x.1 ∧ (x.1 ≤ 6 → gi M 162 S.length = nI (cdK x.2)) ∧ stR M S
def cdL (M : pz_M) : Pl → Prop
  | [] => True
  | x :: C => gi M 159 (400 + C.length) = nI (cdK x.1) ∧ (x.1 < 6 → gi M 160 (400 + C.length) = nI x.2) ∧ cdL M C
theorem stR.fr {S : Pl} (h : stR M S) (e : ∀ i, i < S.length → gi M' 161 i = gi M 161 i ∧ gi M' 162 i = gi M 162 i) : stR M' S := by
  induction S with
  | nil => trivial
  | cons x S ih =>
    have z := e S.length (by rw [List.length_cons]; omega)
    exact ⟨by rw [z.1]; exact h.1, fun q => by rw [z.2]; exact h.2.1 q, ih h.2.2 (fun i hi => e i (by rw [List.length_cons]; omega))⟩
theorem cdL.fr {C : Pl} (h : cdL M C) (e : ∀ i, i < C.length → gi M' 159 (400 + i) = gi M 159 (400 + i) ∧ gi M' 160 (400 + i) = gi M 160 (400 + i)) : cdL M' C := by
  induction C with
  | nil => trivial
  | cons x C ih =>
    have z := e C.length (by rw [List.length_cons]; omega)
    exact ⟨by rw [z.1]; exact h.1, fun q => by rw [z.2]; exact h.2.1 q, ih h.2.2 (fun i hi => e i (by rw [List.length_cons]; omega))⟩
def eN (M : pz_M) (S : Pl) (s : Ru) : Prop := (gi M 120 76 = nI S.length ∧ gi M 120 75 = nI (nw S) ∧ gi M 120 74 = nI s.2.1 ∧ gi M 120 73 = nI (400 + s.2.2.length)) ∧ stR M S ∧ cdL M s.2.2
def efr (M M' : pz_M) : Prop := sm [120, 159, 160, 161, 162] M M' ∧ (∀ j, j ≠ 4 → j ≠ 5 → j ≠ 6 → j ≠ 7 → j ≠ 8 → j ≠ 9 → j ≠ 73 → j ≠ 74 → j ≠ 75 → j ≠ 76 → gi M' 120 j = gi M 120 j) ∧ ∀ i, i < 400 → gi M' 159 i = gi M 159 i ∧ gi M' 160 i = gi M 160 i
theorem efr.rf : efr M M := ⟨sm.rf, fun _ _ _ _ _ _ _ _ _ _ _ => rfl, fun _ _ => ⟨rfl, rfl⟩⟩
theorem efr.tr {M'' : pz_M} (a : efr M M') (b : efr M' M'') : efr M M'' := ⟨a.1.tr b.1 (fun _ z => z), fun j h1 h2 h3 h4 h5 h6 h7 h8 h9 h10 => (b.2.1 j h1 h2 h3 h4 h5 h6 h7 h8 h9 h10).trans (a.2.1 j h1 h2 h3 h4 h5 h6 h7 h8 h9 h10), fun i hi => ⟨(b.2.2 i hi).1.trans (a.2.2 i hi).1, (b.2.2 i hi).2.trans (a.2.2 i hi).2⟩⟩
theorem rfr.e (r : rfr M M') : efr M M' := ⟨r.1.mono (by decide), fun j h1 h2 h3 h4 h5 h6 _ _ _ _ => r.2 j h1 h2 h3 h4 h5 h6, fun i _ => by rw [r.1.i (by decide), r.1.i (by decide)]; exact ⟨rfl, rfl⟩⟩
theorem eN.r {S : Pl} {s : Ru} (h : eN M S s) (r : rfr M M') : eN M' S s := by
  obtain ⟨⟨h1, h2, h3, h4⟩, h5, h6⟩ := h
  refine ⟨⟨?_, ?_, ?_, ?_⟩, h5.fr (fun i _ => ?_), h6.fr (fun i _ => ?_)⟩
  · rw [r.2 76 (by decide) (by decide) (by decide) (by decide) (by decide) (by decide)]; exact h1
  · rw [r.2 75 (by decide) (by decide) (by decide) (by decide) (by decide) (by decide)]; exact h2
  · rw [r.2 74 (by decide) (by decide) (by decide) (by decide) (by decide) (by decide)]; exact h3
  · rw [r.2 73 (by decide) (by decide) (by decide) (by decide) (by decide) (by decide)]; exact h4
  · rw [r.1.i (by decide), r.1.i (by decide)]; exact ⟨rfl, rfl⟩
  · rw [r.1.i (by decide), r.1.i (by decide)]; exact ⟨rfl, rfl⟩
theorem rSt_n {K : List Nat} {σ : Sg} (s : rSt M true T L σ) (h : sm K M M') (hK : 122 ∉ K) (e : ∀ j, 3 ≤ j → j ≤ 11 → gi M' 120 j = gi M 120 j) (el : gl M' 120 = gl M 120) : rSt M' true T L σ := by
  obtain ⟨y1, y2, y3⟩ := s
  refine ⟨y1.fr h hK (e 3 (by decide) (by decide)) (e 11 (by decide) (by decide)), y2, ?_⟩
  cases σ with
  | inl f =>
    simp only [e 4 (by decide) (by decide), e 5 (by decide) (by decide), e 6 (by decide) (by decide), e 8 (by decide) (by decide)]
    exact y3
  | inr t =>
    simp only [rTk, e 4 (by decide) (by decide), e 5 (by decide) (by decide), e 6 (by decide) (by decide), e 7 (by decide) (by decide), e 8 (by decide) (by decide), e 9 (by decide) (by decide), el]
    exact y3
theorem r_emit {c n : Nat} {v : Int32} (hS : SH M) (e73 : gi M 120 73 = nI (400 + n)) (hn : n < 400) (k : ∀ M', sm [120, 159, 160] M M' → gi M' 120 = va_up (gi M 120) 73 (nI (400 + (n + 1))) → gi M' 159 = va_up (gi M 159) (400 + n) (nI c) → gi M' 160 = va_up (gi M 160) (400 + n) v → gl M' 120 = gl M 120 → Q (none, M')) : pm d 274 [.ref 120, .int (nI c), .int v] M Q := by
  refine pm_ent (L := [some (.ref 120), some (.int (nI c)), some (.int v)]) rfl (Nat.le_of_ble_eq_true rfl) ?_
  refine pw_blk (mi := mz_274) (b := bz_274_0) rfl rfl ?_
  simp only [bz_274_0, pz_cut_t, pz_cut_f, pz_cut_n, pv_gt, pv_ts, pv_tn, ev_ald0, ev_eld0, ev_gf11_2, ev_gf11_0, ev_ild1, ea_iast, ev_ild2, ev_dupi, ev_dupr, ev_dupe, ev_ic1, ev_iadd, ev_pf11_0, ev_ret, pz_wi_gc, pz_wi_ga, pz_wi_gn, pz_wi_gl, pz_wi_gr, pz_wi_same, pz_wi_X, pz_wl_gc, pz_wl_ga, pz_wl_gn, pz_wl_gi, pz_wl_gr, pz_wl_same, pz_wl_X, pz_wr_gc, pz_wr_ga, pz_wr_gn, pz_wr_gi, pz_wr_gl, pz_wr_same, pz_wr_X, so_120 hS, sr_120_65 hS, sa_159 hS, sn_159 hS, sr_120_66 hS, sa_160 hS, sn_160 hS, e73]
  (try simp (disch := omega) only [nI_clamp, pz_in_nI2, pz_in_nI2L, pv_gt, nI_add, nI_addL, nI_Ladd, pk_mul, nI_mulL, nI_Lmul, pk_sub, nI_subL, nI_Lsub, nI_inc, nI_clampL, Nat.add_sub_cancel, pz_wi_else, pz_wl_else, vu_eq, vu_ne, pz_wi_gc, pz_wi_ga, pz_wi_gn, pz_wi_gl, pz_wi_gr, pz_wi_same, pz_wi_X, pz_wl_gc, pz_wl_ga, pz_wl_gn, pz_wl_gi, pz_wl_gr, pz_wl_same, pz_wl_X, pz_wr_gc, pz_wr_ga, pz_wr_gn, pz_wr_gi, pz_wr_gl, pz_wr_same, pz_wr_X, e73])
  (try refine po_gI (by first | exact pz_in_nI (by omega) (by decide) | decide | assumption) ?_)
  (try refine po_gI (by first | exact pz_in_nI (by omega) (by decide) | decide | assumption) ?_)
  refine po_then (fun M1 hM1 => ?_)
  refine k M1 ?_ ?_ ?_ ?_ ?_
  · rw [hM1]
    (repeat' first | exact sm.rf | refine sm.wi ?_ (by simp))
  · rw [hM1, pz_wi_same, Nat.add_assoc]
  · rw [hM1]
    simp (disch := decide) only [pz_wi_else, pz_wi_same]
  · rw [hM1]
    simp (disch := decide) only [pz_wi_else, pz_wi_same]
  · rw [hM1]
    simp only [pz_wi_gl]
theorem r_emitN {k v : Nat} {c v' : Int32} {S : Pl} {s : Ru} (x : rSt M true T L s.1) (h : eN M S s) (hl : s.2.2.length < 400) (hc : c = nI (cdK k)) (hv : k < 6 → v' = nI v) (kk : ∀ M', efr M M' → gi M' 120 4 = gi M 120 4 → rSt M' true T L s.1 → eN M' S (rAdd k v s) → Q (none, M')) : pm d 274 [.ref 120, .int c, .int v'] M Q := by
  subst hc
  obtain ⟨⟨h1, h2, h3, h4⟩, h5, h6⟩ := h
  refine r_emit (n := s.2.2.length) x.1.1 h4 hl (fun M1 s1 f0 f1 f2 fl => ?_)
  refine kk M1 ⟨s1.mono (by decide), fun j _ _ _ _ _ _ h73 _ _ _ => by rw [f0, vu_ne h73], fun i hi => by rw [f1, f2, vu_ne (by omega), vu_ne (by omega)]; exact ⟨rfl, rfl⟩⟩ (by rw [f0, vu_ne (by decide)]) ?_ ?_
  · exact rSt_n x s1 (by decide) (fun j h1 h2 => by rw [f0, vu_ne (by omega)]) fl
  · unfold rAdd
    rw [if_pos (by omega)]
    refine ⟨⟨by rw [f0, vu_ne (by decide)]; exact h1, by rw [f0, vu_ne (by decide)]; exact h2, by rw [f0, vu_ne (by decide)]; exact h3, by rw [f0, vu_eq, List.length_cons]⟩, h5.fr (fun i _ => by rw [s1.i (by decide), s1.i (by decide)]; exact ⟨rfl, rfl⟩), ?_, ?_, h6.fr (fun i hi => by rw [f1, f2, vu_ne (by omega), vu_ne (by omega)]; exact ⟨rfl, rfl⟩)⟩
    · rw [f1, vu_eq]
    · intro q
      rw [f2, vu_eq]
      exact hv q
end RE
