/-! ===== rules: the relation behind them ===== -/
section ORM
variable {d : Nat} {M M' : pz_M} {Q : Option Value × pz_M → Prop}
theorem rfK_in : ∀ k, k ∈ rfK → 120 ≤ k ∧ (k = 120 ∨ k = 122 ∨ (159 ≤ k ∧ k ≤ 166)) := by decide
theorem ryK_in : ∀ k, k ∈ ryK → k < 120 := by decide
theorem rzK_in : ∀ k, k ∈ rzK → k < 120 := by decide
theorem RA.nm {r B H P N D E y t L nd np nr : Nat} (h : RA M r B H P N D E y t L nd np nr) : ∃ nm : Nat → List Nat, ∀ i, i < N → gl M 12 i = p5 (nm i) ∧ gl M 139 (6 * r + i) = p8 (nm i) ∧ isWd (nm i) := by
  have hn := h.sc.2.2.2.2.2.2
  have key : ∀ i, ∃ w : List Nat, i < N → gl M 12 i = p5 w ∧ gl M 139 (6 * r + i) = p8 w ∧ isWd w := fun i => by
    by_cases q : i < N
    · obtain ⟨w, w1, w2, w3⟩ := (hn i q).1
      exact ⟨w, fun _ => ⟨w2, w3, w1⟩⟩
    · exact ⟨[], fun z => absurd z q⟩
  exact ⟨fun i => Classical.choose (key i), fun i hi => Classical.choose_spec (key i) hi⟩
theorem op_rules (hd : 150 ≤ d) (hL : RL M) : pm d 43 [.ref 0] M (fun r1 => pm d 44 [.ref 120] r1.2 (fun r2 => r1.1 = r2.1 ∧ RL r2.2)) := by
  obtain ⟨r, B, H, P, N, D, E, y, t, L, nd, np, nr, hA⟩ := id hL
  have hS := hA.S
  have hO := hA.ok
  have hbk := hA.bk
  have hbank : gi M 120 38 = nI r := hA.X.1
  have hB := hA.B24
  have b1 := hA.b1
  have b2 := hA.b2
  have hr := hA.r1
  have b3 : gi M 123 r = nI B := hA.sc.2.1.2.1
  obtain ⟨g, fd, cr, wk, sv, er, g1, g5, fd2, cr1, wk1, sv2, er2, l0, l1, l2, l3, l4, l5⟩ := hA.sc.2.2.1.1
  have k0 : gi M 127 r = nI g := hA.sc.2.2.1.2.1.symm.trans l0
  have k1 : gi M 128 r = nI fd := hA.sc.2.2.1.2.2.1.symm.trans l1
  have k2 : gi M 129 r = nI cr := hA.sc.2.2.1.2.2.2.1.symm.trans l2
  have k3 : gi M 130 r = nI wk := hA.sc.2.2.1.2.2.2.2.1.symm.trans l3
  have k4 : gi M 131 r = nI sv := hA.sc.2.2.1.2.2.2.2.2.1.symm.trans l4
  have k5 : gi M 132 r = nI er := hA.sc.2.2.1.2.2.2.2.2.2.symm.trans l5
  obtain ⟨-, ⟨xD, xE⟩, ⟨xy1, xy2, xy3⟩, xw, ⟨xt1, xt2, xt3⟩, ⟨xL1, xL2, xL3⟩, ⟨xf1, xf2⟩, ⟨xd1, xd2, xd3⟩, ⟨xp1, xp2, xp3⟩, ⟨xr1, xr2, xr3, xr4⟩, xl⟩ := id hA.X
  obtain ⟨⟨mh, me, mo⟩, ⟨ml, mu⟩, ⟨gh, ge, go⟩, ⟨hD, hE⟩, dD, dE⟩ := id hA.m
  have tb := hA.tb
  obtain ⟨-, -, -, -, aZ, aDi, aPa, aTb, aFl, ⟨aB0, aB1, aB2⟩, aRu, aWd⟩ := id hA
  obtain ⟨T, hT⟩ : ∃ T : Nat → Nat, ∀ i, T i < 256 ∧ gi M 2 i = sb_b (T i) := ⟨fun i => Classical.choose (tb.2 i), fun i => Classical.choose_spec (tb.2 i)⟩
  have hb2 : ∀ i, i < L → gi M 2 i = sb_b (T i) ∧ T i < 256 := fun i _ => ⟨(hT i).2, (hT i).1⟩
  have hb1 : ∀ i, i < L → gi M 121 i = sb_b (T i) ∧ T i < 256 := fun i hi => by rw [← tb.1]; exact hb2 i hi
  obtain ⟨nm, hnm⟩ := hA.nm
  have hm5 : ∀ i, i < N → gl M 12 i = p5 (nm i) ∧ isWd (nm i) := fun i hi => ⟨(hnm i hi).1, (hnm i hi).2.2⟩
  have hm8 : ∀ i, i < N → gl M 139 (6 * r + i) = p8 (nm i) ∧ isWd (nm i) := fun i hi => ⟨(hnm i hi).2.1, (hnm i hi).2.2⟩
  have hN6 : N ≤ 6 := hA.sc.1.2.2.2.2.1
  have e10 : gi M 4 10 = nI N := hA.sc.2.1.2.2.2.2.2.2.1
  have eP : gi M 126 r = nI N := hA.sc.2.1.2.2.2.2.2.2.2
  refine m_rules (nm := nm) (by omega) hS xL1 xL3 hb2 aWd hB hN6 b1 e10 hm5 (fun h6 => ?_) (fun h6 f ef M1 g1 c2 c11 c12 => ?_) (fun h6 t0 ef M1 g1 n1 => ?_)
  · refine r_rules (nm := nm) (by omega) hS hr hB hN6 hbank b3 eP hm8 xL2 xL3 hb1 (fun _ => ⟨rfl, hL⟩) (fun q => absurd h6 q) (fun q => absurd h6 q)
  · have hS1 := g1.S
    have up : ∀ k, 120 ≤ k → gi M1 k = gi M k ∧ gl M1 k = gl M k := fun k hk => g1.2.2.2 k (fun q => by have := ryK_in k q; omega)
    have u120 := (up 120 (by decide)).1
    refine r_rules (nm := nm) (by omega) hS1 hr hB hN6 (by rw [u120]; exact hbank) (by rw [(up 123 (by decide)).1]; exact b3) (by rw [(up 126 (by decide)).1]; exact eP) (by rw [(up 139 (by decide)).2]; exact hm8) (by rw [u120]; exact xL2) xL3 (by rw [(up 121 (by decide)).1]; exact hb1) (fun q => absurd q h6) (fun _ f' ef' M2 f2 hS2 d2 d4 d5 => ?_) (fun _ t' et' => by rw [ef] at et'; cases et')
    rw [ef] at ef'
    injection ef' with ef'
    subst ef'
    have ii : ∀ k, k ∉ ryK → k ∉ rfK → gi M2 k = gi M k ∧ gl M2 k = gl M k := fun k h1 h2 => ⟨(f2.1.i h2).trans (g1.i h1), (f2.1.l h2).trans (g1.l h1)⟩
    have k1 : gi M2 1 = gi M1 1 := f2.1.i (by decide)
    have v : ∀ j, j = 38 ∨ j = 46 ∨ j = 47 ∨ j = 91 ∨ j = 89 ∨ j = 90 ∨ j = 77 ∨ j = 78 ∨ (51 ≤ j ∧ j < 57) → gi M2 120 j = gi M 120 j := fun j hj => by rw [f2.2.1 j (by omega) (by omega) (by omega) (by omega) (by omega) (by omega) (by omega) (by omega) (by omega) (by omega) (by omega) (by omega) (by omega) (by omega) (by omega), u120]
    refine ⟨rfl, r, B, H, P, N, D, E, y, t, 0, nd, np, nr, hS2, ?_, hA.sc.fr (fun k hk => ii k ?_ ?_), hA.m.fr (fun k hk => ii k ?_ ?_), aZ.fr (fun k hk => ii k ?_ ?_), aDi.fr (fun k hk => ii k ?_ ?_), aPa.fr (fun k hk => ii k ?_ ?_), aTb.fr (fun k hk => ii k ?_ ?_), aFl.fr (fun k hk => ii k ?_ ?_), ⟨aB0.fr (fun k hk => ii k ?_ ?_), aB1.fr (fun k hk => ii k ?_ ?_), aB2.fr (fun k hk => ii k ?_ ?_)⟩, ?_, aWd.fr (fun k hk => ii k ?_ ?_)⟩
    · unfold RX
      rw [k1, c2, c11, c12, d2, d4, d5, v 38 (by omega), v 46 (by omega), v 47 (by omega), v 91 (by omega), v 89 (by omega), v 90 (by omega), v 77 (by omega), v 78 (by omega), v 51 (by omega), (ii 33 (by decide) (by decide)).1, (ii 0 (by decide) (by decide)).1, (ii 81 (by decide) (by decide)).1, (ii 87 (by decide) (by decide)).1, (ii 93 (by decide) (by decide)).1, (ii 50 (by decide) (by decide)).1, (ii 51 (by decide) (by decide)).1]
      refine ⟨hbank, ⟨xD, xE⟩, ⟨xy1, xy2, xy3⟩, xw, ⟨xt1, xt2, xt3⟩, ⟨rfl, rfl, by omega⟩, ⟨rfl, rfl⟩, ⟨xd1, xd2, xd3⟩, ⟨xp1, xp2, xp3⟩, ⟨xr1, xr2, xr3, xr4⟩, ?_⟩
      rcases xl with z | z
      · exact Or.inl z
      · refine Or.inr ⟨z.1, z.2.1, fun i hi => ?_⟩
        rw [v (51 + i) (by omega)]
        exact z.2.2 i hi
    rotate_right
    · revert k; decide
    rotate_right
    · revert k; decide
    rotate_right
    · obtain ⟨ed, ed0, hh⟩ := aRu
      refine ⟨ed, ed0, fun i hi => ?_⟩
      obtain ⟨q1, q2, q3, q4, q5, q6, q7, q8, q9⟩ := hh i hi
      have ic : ∀ j, j < 400 → gi M2 159 j = gi M 159 j ∧ gi M2 160 j = gi M 160 j := fun j hj => by rw [(f2.2.2.1 j hj).1, (f2.2.2.1 j hj).2, (up 159 (by decide)).1, (up 160 (by decide)).1]; exact ⟨rfl, rfl⟩
      have ir : gi M2 164 i = gi M 164 i ∧ gi M2 165 i = gi M 165 i ∧ gi M2 166 i = gi M 166 i := by
        have w := f2.2.2.2 i (by omega)
        rw [w.1, w.2.1, w.2.2, (up 164 (by decide)).1, (up 165 (by decide)).1, (up 166 (by decide)).1]
        exact ⟨rfl, rfl, rfl⟩
      rw [(ii 94 (by decide) (by decide)).1, (ii 95 (by decide) (by decide)).1, (ii 96 (by decide) (by decide)).1, ir.1, ir.2.1, ir.2.2]
      refine ⟨q1, q2, q3, q4, q5, q6, q7, q8, fun k h1 h2 => ?_⟩
      rw [(ic k (by omega)).1, (ic k (by omega)).2]
      exact q9 k h1 h2
    all_goals (revert k; decide)
  · have hS1 := g1.S
    have up : ∀ k, 120 ≤ k → gi M1 k = gi M k ∧ gl M1 k = gl M k := fun k hk => g1.2.2.2 k (fun q => by have := rzK_in k q; omega)
    have u120 := (up 120 (by decide)).1
    refine r_rules (nm := nm) (by omega) hS1 hr hB hN6 (by rw [u120]; exact hbank) (by rw [(up 123 (by decide)).1]; exact b3) (by rw [(up 126 (by decide)).1]; exact eP) (by rw [(up 139 (by decide)).2]; exact hm8) (by rw [u120]; exact xL2) xL3 (by rw [(up 121 (by decide)).1]; exact hb1) (fun q => absurd q h6) (fun _ f' ef' => by rw [ef] at ef'; cases ef') (fun _ t' et' oX wX M2 hS2 n2 => ?_)
    generalize raF T L B N nm 7 (rr0 T L) = x at n1 oX wX n2 ⊢
    obtain ⟨⟨c2, c11, c12⟩, ⟨c93, c931, c6⟩, crow, ccr⟩ := n1
    obtain ⟨⟨s2, v2⟩, ⟨d2, d4, d5, d77, d78⟩, dcd, drow⟩ := n2
    obtain ⟨o1, o2, o3, o4⟩ := oX
    obtain ⟨-, w2, w3⟩ := wX
    have ii : ∀ k, k ∉ rzK → k ∉ rfK → gi M2 k = gi M k ∧ gl M2 k = gl M k := fun k h1 h2 => ⟨(s2.i h2).trans (g1.i h1), (s2.l h2).trans (g1.l h1)⟩
    have lo : ∀ k, k < 120 → gi M2 k = gi M1 k := fun k hk => s2.i (fun q => by have := rfK_in k q; omega)
    have v : ∀ j, j = 38 ∨ j = 46 ∨ j = 47 ∨ j = 91 ∨ j = 89 ∨ j = 90 ∨ (51 ≤ j ∧ j < 57) → gi M2 120 j = gi M 120 j := fun j hj => by rw [v2 j (by omega) (by omega) (by omega) (by omega) (by omega) (by omega) (by omega) (by omega) (by omega) (by omega) (by omega) (by omega) (by omega) (by omega) (by omega) (by omega) (by omega), u120]
    refine ⟨rfl, r, B, H, P, N, D, E, y, t, 0, nd, np, x.2.1, hS2, ?_, hA.sc.fr (fun k hk => ii k ?_ ?_), hA.m.fr (fun k hk => ii k ?_ ?_), aZ.fr (fun k hk => ii k ?_ ?_), aDi.fr (fun k hk => ii k ?_ ?_), aPa.fr (fun k hk => ii k ?_ ?_), aTb.fr (fun k hk => ii k ?_ ?_), aFl.fr (fun k hk => ii k ?_ ?_), ⟨aB0.fr (fun k hk => ii k ?_ ?_), aB1.fr (fun k hk => ii k ?_ ?_), aB2.fr (fun k hk => ii k ?_ ?_)⟩, ?_, aWd.fr (fun k hk => ii k ?_ ?_)⟩
    · unfold RX
      rw [lo 1 (by decide), lo 93 (by decide), c2, c11, c12, c93, c931, d2, d4, d5, d77, d78, v 38 (by omega), v 46 (by omega), v 47 (by omega), v 91 (by omega), v 89 (by omega), v 90 (by omega), v 51 (by omega), (ii 33 (by decide) (by decide)).1, (ii 0 (by decide) (by decide)).1, (ii 81 (by decide) (by decide)).1, (ii 87 (by decide) (by decide)).1, (ii 50 (by decide) (by decide)).1, (ii 51 (by decide) (by decide)).1]
      refine ⟨hbank, ⟨xD, xE⟩, ⟨xy1, xy2, xy3⟩, xw, ⟨xt1, xt2, xt3⟩, ⟨rfl, rfl, by omega⟩, ⟨rfl, rfl⟩, ⟨xd1, xd2, xd3⟩, ⟨xp1, xp2, xp3⟩, ⟨rfl, rfl, c6, rfl⟩, ?_⟩
      rcases xl with z | z
      · exact Or.inl z
      · refine Or.inr ⟨z.1, z.2.1, fun i hi => ?_⟩
        rw [v (51 + i) (by omega)]
        exact z.2.2 i hi
    rotate_right
    · revert k; decide
    rotate_right
    · revert k; decide
    rotate_right
    · refine ⟨stF x.2.2.2, rfl, fun i hi => ?_⟩
      obtain ⟨p1, p2, p3, A, D', Bt, p4, p5', p6, p7⟩ := w3 i hi
      have es : stF x.2.2.2 (i + 1) = x.2.2.2 i := by unfold stF; rw [if_neg (by omega), Nat.add_sub_cancel]
      obtain ⟨r1, r2, r3⟩ := drow i hi
      obtain ⟨q1, q2⟩ := crow i hi
      rw [es, lo 94 (by decide), lo 95 (by decide), lo 96 (by decide)]
      have cD : crG (gi M1 96) (D' ++ Bt) := by rw [p4] at ccr; exact crG_sf ccr
      refine ⟨p2, by omega, q2, r2, r1, q1.trans r3.symm, ⟨_, p1, q1⟩, ?_, fun k h1 h2 => ?_⟩
      · rw [show x.2.2.2 i - stF x.2.2.2 i = D'.length by omega, ← p5', pil_hg (B := B) D'.length D' Bt 0 rfl cD (fun c hc => w2 c (by rw [p4]; exact List.mem_append_right _ (List.mem_append_left _ hc)))]
        exact p7
      · exact cd_all x.1.2.2 ccr dcd w2 k (by omega)
    all_goals (revert k; decide)
end ORM
