/-! ===== the start ===== -/
section STA
theorem zb_start : zb0 (pz_nu (pz_M0 X00) (.inl 0)) := fun k t m h => by
  have h' : ([.inl 0] : List pz_D)[k]? = some (.inr (t, m)) := h
  cases k with
  | zero => cases h'
  | succ k => cases h'
theorem RL_ini {M : pz_M} (h : chk M = true) (hz : zb0 M) : RL M ∧ ∀ i, 24 ≤ i → gi M 37 i = gi M 152 i := by
  unfold chk at h
  simp only [Bool.and_eq_true, decide_eq_true_eq, List.all_eq_true] at h
  obtain ⟨⟨hLay, hRF, hA9, hA10, hT4⟩, hI, hZ, hW⟩ := h
  have rf : ∀ a b c, rfB M a b c = true → gr M a b = .ref c := fun a b c q => by
    unfold rfB at q
    split at q
    · rename_i x e
      rw [e, of_decide_eq_true q]
    · cases q
  have hS : SH M := by
    refine ⟨hLay, fun q hq => rf _ _ _ (hRF q hq), Or.inl ⟨rf _ _ _ hA9, rf _ _ _ hA10⟩, Or.inl ?_⟩
    unfold rtB at hT4
    split at hT4
    · rename_i x e
      rw [e, of_decide_eq_true hT4]
    · cases hT4
  have bz : ∀ k t n, LAY[k]? = some (.inr (t, n)) → ∀ j, n ≤ j → gi M k j = 0 := fun k t n e j hj => hz k t n (by rw [hLay]; exact e) j hj
  have zr : ∀ k n t, (k, n) ∈ ckZ → LAY[k]? = some (.inr (t, n)) → ∀ j, gi M k j = 0 := fun k n t hm e j => by
    rcases Nat.lt_or_ge j n with q | q
    · exact hZ (k, n) hm j (List.mem_range.mpr q)
    · exact bz k t n e j q
  have z34 : ∀ j, gi M 34 j = 0 := zr 34 24 0 (by decide) rfl
  have z35 : ∀ j, gi M 35 j = 0 := zr 35 24 0 (by decide) rfl
  have z36 : ∀ j, gi M 36 j = 0 := zr 36 24 0 (by decide) rfl
  have z37 : ∀ j, gi M 37 j = 0 := zr 37 24 0 (by decide) rfl
  have z149 : ∀ j, gi M 149 j = 0 := zr 149 24 0 (by decide) rfl
  have z150 : ∀ j, gi M 150 j = 0 := zr 150 24 0 (by decide) rfl
  have z151 : ∀ j, gi M 151 j = 0 := zr 151 24 0 (by decide) rfl
  have z153 : ∀ j, gi M 153 j = 0 := zr 153 24 3 (by decide) rfl
  have z154 : ∀ j, gi M 154 j = 0 := zr 154 24 3 (by decide) rfl
  have z82 : ∀ j, gi M 82 j = 0 := zr 82 40 0 (by decide) rfl
  have z83 : ∀ j, gi M 83 j = 0 := zr 83 40 0 (by decide) rfl
  have z85 : ∀ j, gi M 85 j = 0 := zr 85 40 0 (by decide) rfl
  have z86 : ∀ j, gi M 86 j = 0 := zr 86 40 0 (by decide) rfl
  have z167 : ∀ j, gi M 167 j = 0 := zr 167 40 0 (by decide) rfl
  have z168 : ∀ j, gi M 168 j = 0 := zr 168 40 0 (by decide) rfl
  have z169 : ∀ j, gi M 169 j = 0 := zr 169 40 0 (by decide) rfl
  have z170 : ∀ j, gi M 170 j = 0 := zr 170 40 0 (by decide) rfl
  have z88 : ∀ j, gi M 88 j = 0 := zr 88 40 0 (by decide) rfl
  have z89 : ∀ j, gi M 89 j = 0 := zr 89 40 0 (by decide) rfl
  have z90 : ∀ j, gi M 90 j = 0 := zr 90 40 3 (by decide) rfl
  have z91 : ∀ j, gi M 91 j = 0 := zr 91 40 0 (by decide) rfl
  have z92 : ∀ j, gi M 92 j = 0 := zr 92 40 0 (by decide) rfl
  have z171 : ∀ j, gi M 171 j = 0 := zr 171 40 0 (by decide) rfl
  have z172 : ∀ j, gi M 172 j = 0 := zr 172 40 0 (by decide) rfl
  have z173 : ∀ j, gi M 173 j = 0 := zr 173 40 0 (by decide) rfl
  have z174 : ∀ j, gi M 174 j = 0 := zr 174 40 0 (by decide) rfl
  have z175 : ∀ j, gi M 175 j = 0 := zr 175 40 3 (by decide) rfl
  have z2 : ∀ j, gi M 2 j = 0 := zr 2 1500 2 (by decide) rfl
  have z121 : ∀ j, gi M 121 j = 0 := zr 121 1520 2 (by decide) rfl
  have i120_38 : gi M 120 38 = 0 := hI (120, 38, 0) (by decide)
  have i33_4 : gi M 33 4 = 0 := hI (33, 4, 0) (by decide)
  have i33_5 : gi M 33 5 = 0 := hI (33, 5, 0) (by decide)
  have i33_6 : gi M 33 6 = 0 := hI (33, 6, 0) (by decide)
  have i120_46 : gi M 120 46 = 0 := hI (120, 46, 0) (by decide)
  have i33_7 : gi M 33 7 = 1 := hI (33, 7, 1) (by decide)
  have i120_47 : gi M 120 47 = 1 := hI (120, 47, 1) (by decide)
  have i0_13 : gi M 0 13 = 0 := hI (0, 13, 0) (by decide)
  have i120_91 : gi M 120 91 = 0 := hI (120, 91, 0) (by decide)
  have i1_2 : gi M 1 2 = 0 := hI (1, 2, 0) (by decide)
  have i120_2 : gi M 120 2 = 0 := hI (120, 2, 0) (by decide)
  have i1_11 : gi M 1 11 = 0 := hI (1, 11, 0) (by decide)
  have i120_4 : gi M 120 4 = 0 := hI (120, 4, 0) (by decide)
  have i1_12 : gi M 1 12 = -1 := hI (1, 12, -1) (by decide)
  have i120_5 : gi M 120 5 = -1 := hI (120, 5, -1) (by decide)
  have i81_5 : gi M 81 5 = 0 := hI (81, 5, 0) (by decide)
  have i120_89 : gi M 120 89 = 0 := hI (120, 89, 0) (by decide)
  have i87_5 : gi M 87 5 = 0 := hI (87, 5, 0) (by decide)
  have i120_90 : gi M 120 90 = 0 := hI (120, 90, 0) (by decide)
  have i93_0 : gi M 93 0 = 0 := hI (93, 0, 0) (by decide)
  have i120_77 : gi M 120 77 = 0 := hI (120, 77, 0) (by decide)
  have i93_1 : gi M 93 1 = 0 := hI (93, 1, 0) (by decide)
  have i120_78 : gi M 120 78 = 0 := hI (120, 78, 0) (by decide)
  have i50_4 : gi M 50 4 = 0 := hI (50, 4, 0) (by decide)
  have i120_51 : gi M 120 51 = -1 := hI (120, 51, -1) (by decide)
  have i4_0 : gi M 4 0 = 0 := hI (4, 0, 0) (by decide)
  have i123_0 : gi M 123 0 = 0 := hI (123, 0, 0) (by decide)
  have i4_3 : gi M 4 3 = 0 := hI (4, 3, 0) (by decide)
  have i124_0 : gi M 124 0 = 0 := hI (124, 0, 0) (by decide)
  have i4_6 : gi M 4 6 = 0 := hI (4, 6, 0) (by decide)
  have i125_0 : gi M 125 0 = 0 := hI (125, 0, 0) (by decide)
  have i4_10 : gi M 4 10 = 0 := hI (4, 10, 0) (by decide)
  have i126_0 : gi M 126 0 = 0 := hI (126, 0, 0) (by decide)
  have i17_0 : gi M 17 0 = 100 := hI (17, 0, 100) (by decide)
  have i17_1 : gi M 17 1 = 10 := hI (17, 1, 10) (by decide)
  have i17_2 : gi M 17 2 = 20 := hI (17, 2, 20) (by decide)
  have i17_3 : gi M 17 3 = 500 := hI (17, 3, 500) (by decide)
  have i17_4 : gi M 17 4 = 4 := hI (17, 4, 4) (by decide)
  have i17_5 : gi M 17 5 = 2 := hI (17, 5, 2) (by decide)
  have i127_0 : gi M 127 0 = 100 := hI (127, 0, 100) (by decide)
  have i128_0 : gi M 128 0 = 10 := hI (128, 0, 10) (by decide)
  have i129_0 : gi M 129 0 = 20 := hI (129, 0, 20) (by decide)
  have i130_0 : gi M 130 0 = 500 := hI (130, 0, 500) (by decide)
  have i131_0 : gi M 131 0 = 4 := hI (131, 0, 4) (by decide)
  have i132_0 : gi M 132 0 = 2 := hI (132, 0, 2) (by decide)
  have i105_8 : gi M 105 8 = 0 := hI (105, 8, 0) (by decide)
  have i110_8 : gi M 110 8 = 0 := hI (110, 8, 0) (by decide)
  have i115_8 : gi M 115 8 = 0 := hI (115, 8, 0) (by decide)
  have i180_0 : gi M 180 0 = -1 := hI (180, 0, -1) (by decide)
  have i180_1 : gi M 180 1 = -1 := hI (180, 1, -1) (by decide)
  have i180_2 : gi M 180 2 = -1 := hI (180, 2, -1) (by decide)
  have fe : ∀ a b, (∀ j, gi M a j = 0) → (∀ j, gi M b j = 0) → gi M a = gi M b := fun a b h1 h2 => funext (fun j => (h1 j).trans (h2 j).symm)
  have rg : ∀ a, (∀ j, gi M a j = 0) → rng (gi M a) := fun a h1 i => ⟨0, by omega, h1 i⟩
  refine ⟨⟨0, 0, 0, 0, 0, 0, 0, 0, 0, 0, 0, 0, 0, hS, ?_, ?_, ?_, ?_, ?_, ?_, ?_, ?_, ⟨Or.inl ⟨i105_8, i180_0⟩, Or.inl ⟨i110_8, i180_1⟩, Or.inl ⟨i115_8, i180_2⟩⟩, ?_, ?_⟩, ?_⟩
  · exact ⟨i120_38, ⟨i33_4, i33_5⟩, ⟨i33_6, i120_46, by omega⟩, i33_7.trans i120_47.symm, ⟨i0_13, i120_91, by omega⟩, ⟨i1_2, i120_2, by omega⟩, ⟨i1_11.trans i120_4.symm, i1_12.trans i120_5.symm⟩, ⟨i81_5, i120_89, by omega⟩, ⟨i87_5, i120_90, by omega⟩, ⟨i93_0, i120_77, by omega, i93_1.trans i120_78.symm⟩, Or.inl ⟨i50_4, i120_51⟩⟩
  · refine ⟨⟨by omega, by omega, by omega, by omega, by omega, by omega⟩, ⟨i4_0, i123_0, i4_3, i124_0, i4_6, i125_0, i4_10, i126_0⟩, ⟨⟨100, 10, 20, 500, 4, 2, by omega, by omega, by omega, by omega, by omega, by omega, by omega, i17_0, i17_1, i17_2, i17_3, i17_4, i17_5⟩, i17_0.trans i127_0.symm, i17_1.trans i128_0.symm, i17_2.trans i129_0.symm, i17_3.trans i130_0.symm, i17_4.trans i131_0.symm, i17_5.trans i132_0.symm⟩, fun i hi => absurd hi (by omega), fun i hi => absurd hi (by omega), fun i hi => absurd hi (by omega), fun i hi => absurd hi (by omega)⟩
  · refine ⟨⟨fe _ _ z34 z149, fe _ _ z35 z150, fe _ _ z36 z151⟩, ⟨fun q => absurd q (by omega), fun i => Or.inr (by rw [z37 i]; decide)⟩, ⟨rg _ z34, rg _ z35, rg _ z36⟩, ⟨by decide, by decide⟩, fun i _ => ?_, fun i _ => ?_⟩
    · rw [z153 i, Nat.zero_testBit]; rfl
    · rw [z154 i, Nat.zero_testBit]; rfl
  · intro i hi
    exact ⟨bz 34 0 24 rfl i hi, bz 35 0 24 rfl i hi, bz 36 0 24 rfl i hi, bz 57 0 24 rfl i hi, bz 58 0 24 rfl i hi, bz 59 0 24 rfl i hi, bz 62 0 24 rfl i hi, bz 63 0 24 rfl i hi, bz 64 0 24 rfl i hi, bz 67 0 24 rfl i hi, bz 68 0 24 rfl i hi, bz 69 0 24 rfl i hi, bz 72 0 24 rfl i hi, bz 73 0 24 rfl i hi, bz 74 0 24 rfl i hi, bz 77 0 24 rfl i hi, bz 78 0 24 rfl i hi, bz 79 0 24 rfl i hi⟩
  · exact ⟨fe _ _ z82 z168, fe _ _ z83 z167, fe _ _ z85 z169, fe _ _ z86 z170, fun i hi => absurd hi (by omega)⟩
  · exact ⟨fe _ _ z88 z172, fe _ _ z89 z171, fe _ _ z90 z175, fe _ _ z91 z173, fe _ _ z92 z174, fun i hi => absurd hi (by omega)⟩
  · exact ⟨fe _ _ z2 z121, fun i => ⟨0, by omega, by rw [z2 i]; decide⟩⟩
  · intro i hi
    exact absurd hi (by omega)
  · exact ⟨fun _ => 0, rfl, fun i hi => absurd hi (by omega)⟩
  · intro i hi
    exact hW i (List.mem_range.mpr hi)
  · intro i hi
    rw [bz 37 0 24 rfl i hi, bz 152 0 24 rfl i hi]
theorem SH.sx {M : pz_M} {X : pz_X} (h : SH M) : SH (sx X M) := h
theorem RL.sx {M : pz_M} {X : pz_X} (h : RL M) : RL (sx X M) := h
theorem ini_run (X : pz_X) : ∃ M1 M2, pm 999 1 [.ref 0] (pz_nu (pz_M0 X) (.inl 0)) (fun r => r = (none, M1)) ∧ M1.2.1 = LAY.take 120 ∧ M1.1 = X ∧ pm 999 2 [.ref 120] (pz_nu M1 (.inl 11)) (fun r => r = (none, M2)) ∧ RL M2 ∧ M2.1 = X ∧ ∀ i, 24 ≤ i → gi M2 37 i = gi M2 152 i := by
  have h := ini_ok
  unfold iniB at h
  cases h2 : ini2 with
  | none => rw [h2] at h; cases h
  | some Mb =>
    rw [h2] at h
    simp only at h
    unfold ini2 at h2
    cases h1 : ini1 with
    | none => rw [h1] at h2; cases h2
    | some Ma =>
      rw [h1] at h2
      simp only at h2
      unfold ini1 at h1
      split at h1
      · rename_i M' e1
        split at h1
        · rename_i hl
          injection h1 with h1
          subst h1
          split at h2
          · rename_i M'' e2
            injection h2 with h2
            subst h2
            obtain ⟨a1, a2, a3⟩ := xs_rn (X := X) mz 3000 100 1 _ _ rfl e1
            have a2' : M'.1 = X00 := a2
            obtain ⟨b1, b2, b3⟩ := xs_rn (X := X) mz 3000 100 2 _ _ (by show M'.1.1 = 0; rw [a2']; rfl) e2
            have zA : zb0 M' := a3.2.2.1 zb_start
            have zB : zb0 M'' := b3.2.2.1 (fz.nu.2.2.1 zA)
            obtain ⟨r1, r2⟩ := RL_ini h zB
            refine ⟨sx X M', sx X M'', ⟨by decide +kernel, 3000, _, pz_rn_more mz 3000 100 1 _ _ a1 3000 999 (Nat.le_refl _) (by decide), rfl⟩, hl, rfl, ⟨by decide +kernel, 3000, _, pz_rn_more mz 3000 100 2 _ _ b1 3000 999 (Nat.le_refl _) (by decide), rfl⟩, r1.sx, rfl, r2⟩
          · cases h2
        · cases h1
      · cases h1
end STA
