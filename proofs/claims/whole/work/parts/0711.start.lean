theorem pz_evi {args : Array Value} {s : State} {t : Term} {n : Int32} (h : (Cond.eq t (.int n)).before args s = true) : t.eval args s none [] s = some (.int n) := by
  obtain ⟨y, h1, h2⟩ := Cond.eq_one (show (Cond.eq t (.int n)).holds args s none s [] = true from h)
  rw [h1, ← h2]
  rfl
theorem pz_start {args : Array Value} {s : State} {b L : Nat} {xs : Nat → Int32} (hts : ∀ w ∈ lw_tbl, w.before args s = true) (hgv : (Jvm.Cond.and given_1 narrow_1).before args s = true) (hX : va_X b L xs s s.heap) (hbl : b < s.heap.size) : ∃ (ex : Nat → Nat) (fz : Value) (dC : Nat → ClassId) (dI : Nat → Nat → Nat) (cA : Nat → ClassId), ex 0 = b ∧ pz_C s.heap.size ex fz dC dI cA (L, xs) s s.heap := by
  have hs := flat_of_before _ hgv
  have hA : ∀ a : Nat, a < s.heap.size → ¬ pz_A s.heap.size a := fun a h => Nat.not_le.mpr h
  have hcl : ∀ ci, ∃ q : ClassId × (Nat → Nat), ci < 12 → u_Kn s (cz_own ci) (cz_T ci) (cz_N ci) q.1 q.2 := fun ci => by
    by_cases h : ci < 12
    · obtain ⟨cC, iS, hk⟩ := u_known (C := cz_own ci) (T := cz_T ci) (N := cz_N ci) (n := cz_N ci) hts (fun w hw => (List.mem_filter.mp (cz_inT h w hw)).1) (hts _ (cz_inst ci (List.mem_range.mpr h)))
      exact ⟨(cC, iS), fun _ => hk⟩
    · exact ⟨(0, fun _ => 0), fun g => absurd g h⟩
  have harr : ∀ ty : FieldType, Cond.arrayClass ty ∈ lw_tbl → (∀ C, ty ≠ .object C) → ∃ c, ArrOfT s c ty ∧ va_RA s c ty := fun ty hty hno => by
    obtain ⟨c, k, comp, h1, h2, h3⟩ := Cond.arrayClass_spec (args := args) (first := s) (o := none) (idx := []) (hts _ hty)
    refine ⟨c, fun n z => ⟨(fun k h => by cases h), k, h2, comp, h3⟩, ?_⟩
    cases ty <;> first | exact h1 | exact absurd rfl (hno _)
  obtain ⟨c0, hc0⟩ := harr .int cz_w7 (fun _ h => by cases h)
  obtain ⟨c1, hc1⟩ := harr .long cz_w8 (fun _ h => by cases h)
  obtain ⟨c2, hc2⟩ := harr .byte cz_w9 (fun _ h => by cases h)
  obtain ⟨c3, hc3⟩ := harr .boolean cz_w10 (fun _ h => by cases h)
  obtain ⟨c4, hc4⟩ : ∃ c, ArrOfT s c (.object "ByHeart$Mind") ∧ va_RA s c (.object "ByHeart$Mind") := by
    obtain ⟨comp, c, k, h1, -, h2, h3, h4⟩ := Cond.arrayOver_spec (args := args) (first := s) (o := none) (idx := []) (hts _ cz_w6)
    exact ⟨c, fun n z => ⟨(fun k h => by cases h), k, h2, comp, h3⟩, k, comp, h2, h3, h1, h4⟩
  have hst : ∀ a ∈ [1, 2, 3], ∃ t : Nat, (cz_st a).eval args s none [] s = some (.ref t) ∧ va_T .int t 6 (fun j => .int ((cz_lw a).getD j 0)) (pz_A s.heap.size) s s.heap := fun a ha =>
    va_Tof (by decide) (hs _ (cz_st_ar a ha).1) (pz_evi (hs _ (cz_st_ar a ha).2)) (fun j hj => pz_evi (hs _ (cz_st_el a ha j hj))) hA
  obtain ⟨t1, e1, hT1⟩ := hst 1 (by decide)
  obtain ⟨t2, e2, hT2⟩ := hst 2 (by decide)
  obtain ⟨t3, e3, hT3⟩ := hst 3 (by decide)
  obtain ⟨adK, adV, hK4, hev⟩ := vk_Sof (args := args) (s := s) (N := 4) (tm := cz_tm) (len := cz_bl) (byt := cz_by) (A := pz_A s.heap.size) (by decide +kernel) (fun i hi => hs _ (cz_tm_ex i hi)) (fun i hi => hs _ (cz_tm_co i hi)) (fun i hi => hs _ (cz_tm_ar i hi)) (fun i hi => hs _ (cz_tm_le i hi)) (fun i hi j hj => hs _ (cz_tm_el i hi j hj)) (fun i j hi hj hij => (cz_tm_ne i hi j hj hij).elim (fun h => Or.inl (hs _ h)) (fun h => Or.inr (hs _ h))) hA
  obtain ⟨fz, hfz, hZfz⟩ : ∃ fz, pz_fzok fz ∧ va_Z "jdk/internal/util/Preconditions" "SIOOBE_FORMATTER" "Ljava/util/function/BiFunction;" fz (pz_A s.heap.size) s s.heap := by
    rcases va_Zqof (A := pz_A s.heap.size) (hts _ cz_ls2.2.1) (hts _ cz_ls2.2.2.2.2) (hs _ cz_s_fz) hA with h | ⟨t, h⟩
    · exact ⟨_, Or.inl rfl, h⟩
    · exact ⟨_, Or.inr ⟨t, rfl⟩, h⟩
  have hZcs : va_Z "java/lang/String" "COMPACT_STRINGS" "Z" (.int 1) (pz_A s.heap.size) s s.heap := va_Zof (hts _ cz_ls2.1) (hts _ cz_ls2.2.2.2.1) (pz_evi (hs _ cz_s_cs)) hA
  have hZ1 : va_Z "ByHeart" "LAW_UNTOLD" "[I" (.ref t1) (pz_A s.heap.size) s s.heap := va_Zof (hts _ (cz_ls1 1 (by decide))) (hts _ cz_ls2.2.2.1) e1 hA
  have hZ2 : va_Z "ByHeart" "LAW_LEAST" "[I" (.ref t2) (pz_A s.heap.size) s s.heap := va_Zof (hts _ (cz_ls1 2 (by decide))) (hts _ cz_ls2.2.2.1) e2 hA
  have hZ3 : va_Z "ByHeart" "LAW_MOST" "[I" (.ref t3) (pz_A s.heap.size) s s.heap := va_Zof (hts _ (cz_ls1 3 (by decide))) (hts _ cz_ls2.2.2.1) e3 hA
  have hTX : va_T .int b L (fun k => .int (xs k)) (pz_A s.heap.size) s s.heap := by
    obtain ⟨scr, h1, h2, h3, h4, h5⟩ := hX
    exact ⟨scr, h1, h2, h3, by omega, by rw [h4], h5, hA b hbl⟩
  refine ⟨fun j => if j = 0 then b else if j = 1 then t1 else if j = 2 then t2 else if j = 3 then t3 else if j < 8 then adK (j - 4) else adV (j - 8), fz, fun ci => (Classical.choose (hcl ci)).1, fun ci => (Classical.choose (hcl ci)).2, fun t => if t = 0 then c0 else if t = 1 then c1 else if t = 2 then c2 else if t = 3 then c3 else c4, rfl, ?_⟩
  refine ⟨⟨fun ci q hq => ?_, fun t q hq => ?_⟩, hfz, fun j q hq => ?_, fun j h1 h2 => ?_, fun r hr => ?_, fun q hq => ?_, fun q hq => va_Nw.of rfl (hts _ (cz_fn_ok q hq)), fun q hq => va_Nw.of rfl (hts _ (cz_msn_ok q hq)), fun q hq => va_Nw.of rfl (hts _ (cz_sgB_ok q hq)), va_AO.of (hts _ cz_w6)⟩
  · have hlt : ci < 12 := by
      have := (List.getElem?_eq_some_iff.mp hq).1
      simpa [cz_cl] using this
    rw [cz_cl_at hlt] at hq
    cases hq
    exact Classical.choose_spec (hcl ci) hlt
  · have hlt : t < 5 := by
      have := (List.getElem?_eq_some_iff.mp hq).1
      simpa [pz_tys] using this
    rw [pz_tys_at _ hlt] at hq
    cases hq
    match t, hlt with
    | 0, _ => exact hc0
    | 1, _ => exact hc1
    | 2, _ => exact hc2
    | 3, _ => exact hc3
    | 4, _ => exact hc4
  · match j, hq with
    | 0, hq => cases hq; exact hTX
    | 1, hq => cases hq; exact hT1
    | 2, hq => cases hq; exact hT2
    | 3, hq => cases hq; exact hT3
    | 8, hq => cases hq; exact (hK4.1 0 (by decide)).2.2.2
    | 9, hq => cases hq; exact (hK4.1 1 (by decide)).2.2.2
    | 10, hq =>
      cases hq
      have h := (hK4.1 2 (by decide)).2.2.2
      obtain ⟨cell, g1, g2, g3, g4, g5, g6, g7⟩ := h
      refine ⟨cell, g1, g2, g3, g4, g5, fun k hk => ?_, g7⟩
      have hk0 : k = 0 := by simp only at hk; omega
      subst hk0
      exact g6 0 (by decide)
    | 11, hq => cases hq; exact (hK4.1 3 (by decide)).2.2.2
  · obtain ⟨i, rfl⟩ : ∃ i, j = i + 4 := ⟨j - 4, by omega⟩
    have hi : i < 4 := by omega
    obtain ⟨k1, k2, k3, -⟩ := hK4.1 i hi
    have eK : (fun j => if j = 0 then b else if j = 1 then t1 else if j = 2 then t2 else if j = 3 then t3 else if j < 8 then adK (j - 4) else adV (j - 8)) (i + 4) = adK i := by
      simp only
      rw [if_neg (by omega), if_neg (by omega), if_neg (by omega), if_neg (by omega), if_pos (by omega), Nat.add_sub_cancel]
    have eV : (fun j => if j = 0 then b else if j = 1 then t1 else if j = 2 then t2 else if j = 3 then t3 else if j < 8 then adK (j - 4) else adV (j - 8)) (i + 4 + 4) = adV i := by
      simp only
      rw [if_neg (by omega), if_neg (by omega), if_neg (by omega), if_neg (by omega), if_neg (by omega)]
      rw [show i + 4 + 4 - 8 = i by omega]
    rw [eK, eV]
    exact ⟨k1, k2, k3⟩
  · obtain ⟨h1, h2, h3⟩ := cz_str_tm r hr
    have hi : r.2.2.2 - 4 < 4 := by omega
    have he := hev _ hi
    rw [h1] at he
    have e4 : (fun j => if j = 0 then b else if j = 1 then t1 else if j = 2 then t2 else if j = 3 then t3 else if j < 8 then adK (j - 4) else adV (j - 8)) r.2.2.2 = adK (r.2.2.2 - 4) := by
      simp only
      rw [if_neg (by omega), if_neg (by omega), if_neg (by omega), if_neg (by omega), if_pos (by omega)]
    rw [e4]
    exact vk_R.of (hts _ (cz_srw r hr)) he
  · obtain ⟨q1, q2, a, c⟩ := q
    rcases cz_sg_v _ hq with ⟨h1, h2⟩ | ⟨h1, h2⟩ | h1
    · simp only at h1 h2
      subst h1; subst h2
      exact hZcs
    · simp only at h1 h2
      subst h1
      rcases h2 with rfl | rfl | rfl
      · exact hZ1
      · exact hZ2
      · exact hZ3
    · simp only at h1
      subst h1
      exact hZfz
