/-! ===== piece: the relation behind it ===== -/
section OPQ
variable {d : Nat} {M M' : pz_M} {Q : Option Value × pz_M → Prop} {b : Nat}
theorem dv {w b r i : Nat} (hw : 0 < w) (hi : i < w) (h : b ≠ r) : (w * r + i) / w ≠ b := by
  rw [Nat.mul_add_div hw, Nat.div_eq_of_lt hi, Nat.add_zero]
  exact fun z => h z.symm
/-- the bank that is played from is as it was -/
theorem RSc.bnk {r B H P N : Nat} (h : RSc M 4 r B H P N) (hb : b ≠ r) (e : ∀ k, k ∈ s4K → gi M' k = gi M k ∧ gl M' k = gl M k) (w : ∀ q, q ∈ WL → ∀ i, i / q.2 ≠ b → gi M' q.1 i = gi M q.1 i ∧ gl M' q.1 i = gl M q.1 i) : RSc M' 4 r B H P N := by
  obtain ⟨h1, h2, h3, h4, h5, h6, h7⟩ := h
  have hr1 : r / 1 ≠ b := by rw [Nat.div_one]; exact fun z => hb z.symm
  have w1 : ∀ k, (k, 1) ∈ WL → gi M' k r = gi M k r := fun k hk => (w _ hk r hr1).1
  refine ⟨h1, ?_, ?_, fun i hi => ?_, fun i hi => ?_, fun i hi => ?_, fun i hi => ?_⟩
  · rw [w1 123 (by decide), w1 124 (by decide), w1 125 (by decide), w1 126 (by decide), (e 4 (by decide)).1]
    exact h2
  · rw [w1 127 (by decide), w1 128 (by decide), w1 129 (by decide), w1 130 (by decide), w1 131 (by decide), w1 132 (by decide), (e 17 (by decide)).1]
    exact h3
  · have q : (24 * r + i) / 24 ≠ b := dv (by decide) (by omega) hb
    rw [(w (136, 24) (by decide) _ q).2, (w (140, 24) (by decide) _ q).1, (e 5 (by decide)).2, (e 6 (by decide)).1]
    exact h4 i hi
  · have q : (8 * r + i) / 8 ≠ b := dv (by decide) (by omega) hb
    rw [(w (137, 8) (by decide) _ q).2, (w (141, 8) (by decide) _ q).1, (w (142, 8) (by decide) _ q).1, (e 7 (by decide)).2, (e 8 (by decide)).1]
    exact h5 i hi
  · have q : (4 * r + i) / 4 ≠ b := dv (by decide) (by omega) hb
    obtain ⟨a1, f, t, a2, a3, a4, a5, a6, a7⟩ := h6 i hi
    have qf : (8 * r + f) / 8 ≠ b := dv (by decide) (by omega) hb
    have qt : (8 * r + t) / 8 ≠ b := dv (by decide) (by omega) hb
    rw [(w (138, 4) (by decide) _ q).2, (w (143, 4) (by decide) _ q).1, (w (144, 4) (by decide) _ q).1, (e 9 (by decide)).2, (e 10 (by decide)).1, (e 11 (by decide)).1]
    refine ⟨a1, f, t, a2, a3, a4, a5, ?_, ?_⟩
    · rw [(w (141, 8) (by decide) _ qf).1]; exact a6
    · rw [(w (142, 8) (by decide) _ qt).1]; exact a7
  · have q : (6 * r + i) / 6 ≠ b := dv (by decide) (by omega) hb
    rw [(w (139, 6) (by decide) _ q).2, (w (145, 6) (by decide) _ q).1, (w (146, 6) (by decide) _ q).1, (w (147, 6) (by decide) _ q).1, (w (148, 6) (by decide) _ q).1, (e 12 (by decide)).2, (e 13 (by decide)).1, (e 14 (by decide)).1, (e 15 (by decide)).1, (e 16 (by decide)).1]
    exact h7 i hi
/-- class and reference hold the same piece -/
theorem RSc.of {c : Sc} (hb : b ≤ 1) (o : okS c) (x : cs4 M c) (y : rsc M b c) : RSc M 4 b c.B c.H c.P c.N := by
  obtain ⟨⟨o1, o2, o3, o4, o5, -⟩, p1, p2, p3, p4, p5_⟩ := o
  obtain ⟨⟨x0, x3, x6, x10, -, -⟩, x1, x2, xp, xn, xl⟩ := x
  obtain ⟨⟨y0, y1, y2, y3, -⟩, ⟨l0, l1, l2, l3, l4, l5⟩, -, yB, yH, yP, yN⟩ := y
  refine ⟨⟨hb, o1, o2, o3, o4, o5⟩, ⟨x0, y0, x3, y1, x6, y2, x10, y3⟩, ⟨⟨c.lw 0, c.lw 1, c.lw 2, c.lw 3, c.lw 4, c.lw 5, p5_.1, p5_.2.1, p5_.2.2.1, p5_.2.2.2.1, p5_.2.2.2.2.1, p5_.2.2.2.2.2.1, p5_.2.2.2.2.2.2, xl 0 (by decide), xl 1 (by decide), xl 2 (by decide), xl 3 (by decide), xl 4 (by decide), xl 5 (by decide)⟩, (xl 0 (by decide)).trans l0.symm, (xl 1 (by decide)).trans l1.symm, (xl 2 (by decide)).trans l2.symm, (xl 3 (by decide)).trans l3.symm, (xl 4 (by decide)).trans l4.symm, (xl 5 (by decide)).trans l5.symm⟩, fun i hi => ?_, fun i hi => ?_, fun i hi => ?_, fun i hi => ?_⟩
  · exact ⟨⟨c.lk i, (p1 i hi).1, (x1 i hi).1, (yB i hi).1⟩, (x1 i hi).2.trans (yB i hi).2.symm⟩
  · obtain ⟨a1, a2, a3, a4, a5⟩ := p2 i hi
    refine ⟨⟨c.hw i, a1, (x2 i hi).1, (yH i hi).1⟩, (x2 i hi).2.trans (yH i hi).2.1.symm, ⟨c.hf i, by omega, (x2 i hi).2⟩, ?_⟩
    rw [(yH i hi).2.2]
    by_cases q : i + 1 < c.H
    · rw [if_pos q]
      show nI (c.he i) - 1 = gi M 8 (i + 1) - 1
      rw [(x2 (i + 1) q).2, a4 q]
    · rw [if_neg q, a5 (by omega)]
  · obtain ⟨a1, a2, a3⟩ := p3 i hi
    refine ⟨⟨c.pw i, a1, (xp i hi).1, (yP i hi).1⟩, c.pf i, c.pt i, a2, a3, (yP i hi).2.1, (yP i hi).2.2, ?_, ?_⟩
    · exact (xp i hi).2.1.trans (yH _ a2).2.1.symm
    · exact (xp i hi).2.2.trans (yH _ a3).2.2.symm
  · obtain ⟨a1, a2, a3, a4, a5⟩ := p4 i hi
    obtain ⟨u0, u1, u2, u3, u4⟩ := xn i hi
    obtain ⟨v0, v1, v2, v3, v4⟩ := yN i hi
    exact ⟨⟨c.nw i, a1, u0, v0⟩, u1.trans v1.symm, u2.trans v2.symm, u3.trans v3.symm, u4.trans v4.symm, c.na i, c.nb i, c.nt i, c.ns i, a2, a3, a4, a5, u1, u2, u3, u4⟩
theorem rowC_rng {f : Nat → Int32} {n : Nat} (h : rng f) : rng (rowC 0 n f) := fun i => by
  unfold rowC
  split
  · exact ⟨0, by omega, rfl⟩
  · exact h i
theorem rsc.fr {c : Sc} (x : rsc M b c) (e : ∀ k, 123 ≤ k → k ≤ 148 → gi M' k = gi M k ∧ gl M' k = gl M k) : rsc M' b c := by
  unfold rsc at x ⊢
  rw [(e 123 (by decide) (by decide)).1, (e 124 (by decide) (by decide)).1, (e 125 (by decide) (by decide)).1, (e 126 (by decide) (by decide)).1, (e 127 (by decide) (by decide)).1, (e 128 (by decide) (by decide)).1, (e 129 (by decide) (by decide)).1, (e 130 (by decide) (by decide)).1, (e 131 (by decide) (by decide)).1, (e 132 (by decide) (by decide)).1, (e 133 (by decide) (by decide)).1, (e 134 (by decide) (by decide)).1, (e 135 (by decide) (by decide)).1, (e 136 (by decide) (by decide)).2, (e 137 (by decide) (by decide)).2, (e 138 (by decide) (by decide)).2, (e 139 (by decide) (by decide)).2, (e 140 (by decide) (by decide)).1, (e 141 (by decide) (by decide)).1, (e 142 (by decide) (by decide)).1, (e 143 (by decide) (by decide)).1, (e 144 (by decide) (by decide)).1, (e 145 (by decide) (by decide)).1, (e 146 (by decide) (by decide)).1, (e 147 (by decide) (by decide)).1, (e 148 (by decide) (by decide)).1]
  exact x
theorem pfK_in : ∀ k, k ∈ pfK → 120 ≤ k ∧ k ≠ 121 ∧ k ≤ 148 := by decide
theorem prK_in : ∀ k, k ∈ prK → k = 120 ∨ (149 ≤ k ∧ k ≤ 154) ∨ k = 180 := by decide
theorem pcK_in : ∀ k, k ∈ pcK → k < 120 := by decide
theorem op_piece (hd : 50 ≤ d) (hL : RL M) (hz : ∀ i, 24 ≤ i → gi M 37 i = gi M 152 i) : pm d 7 [.ref 0] M (fun r1 => pm d 8 [.ref 120] r1.2 (fun r2 => r1.1 = r2.1 ∧ RL r2.2)) := by
  obtain ⟨r, B, H, P, N, D, E, y, t, L, nd, np, nr, hA⟩ := id hL
  have hS := hA.S
  have hO := hA.ok
  have hbk := hA.bk
  have hbank : gi M 120 38 = nI r := hA.X.1
  have hB := hA.B24
  have b1 := hA.b1
  have b2 := hA.b2
  have hr := hA.r1
  have b3 : gi M 123 r = nI B := hA.sc.2.1.2.1
  obtain ⟨g, fd, cr, wk, sv, er, g1, g5, fd2, cr1, wk1, sv2, er2, l0, l1, l2, l3, l4, l5⟩ := hA.sc.2.2.1.1
  have k0 : gi M 127 r = nI g := hA.sc.2.2.1.2.1.symm.trans l0
  have k1 : gi M 128 r = nI fd := hA.sc.2.2.1.2.2.1.symm.trans l1
  have k2 : gi M 129 r = nI cr := hA.sc.2.2.1.2.2.2.1.symm.trans l2
  have k3 : gi M 130 r = nI wk := hA.sc.2.2.1.2.2.2.2.1.symm.trans l3
  have k4 : gi M 131 r = nI sv := hA.sc.2.2.1.2.2.2.2.2.1.symm.trans l4
  have k5 : gi M 132 r = nI er := hA.sc.2.2.1.2.2.2.2.2.2.symm.trans l5
  obtain ⟨-, ⟨xD, xE⟩, ⟨xy1, xy2, xy3⟩, xw, ⟨xt1, xt2, xt3⟩, ⟨xL1, xL2, xL3⟩, ⟨xf1, xf2⟩, ⟨xd1, xd2, xd3⟩, ⟨xp1, xp2, xp3⟩, ⟨xr1, xr2, xr3, xr4⟩, xl⟩ := id hA.X
  obtain ⟨⟨mh, me, mo⟩, ⟨ml, mu⟩, ⟨gh, ge, go⟩, ⟨hD, hE⟩, dD, dE⟩ := id hA.m
  have tb := hA.tb
  obtain ⟨-, -, -, -, aZ, aDi, aPa, aTb, aFl, ⟨aB0, aB1, aB2⟩, aRu, aWd⟩ := id hA
  obtain ⟨T, hT⟩ : ∃ T : Nat → Nat, ∀ i, T i < 256 ∧ gi M 2 i = sb_b (T i) := ⟨fun i => Classical.choose (tb.2 i), fun i => Classical.choose_spec (tb.2 i)⟩
  have hb2 : ∀ i, i < L → gi M 2 i = sb_b (T i) ∧ T i < 256 := fun i _ => ⟨(hT i).2, (hT i).1⟩
  have hb1 : ∀ i, i < L → gi M 121 i = sb_b (T i) ∧ T i < 256 := fun i hi => by rw [← tb.1]; exact hb2 i hi
  have hne : 1 - r ≠ r := by omega
  refine m_piece (by omega) hS xL1 xL3 hb2 aWd (fun f ef hx M1 g1 c2 c11 c12 => ?_) (fun t0 ef hx oS M1 g1 n1 => ?_)
  · have hS1 := g1.S
    have up : ∀ k, 120 ≤ k → gi M1 k = gi M k ∧ gl M1 k = gl M k := fun k hk => g1.2.2.2 k (fun q => by
      have : ∀ k, k ∈ (1 :: scK) → k < 120 := by decide
      have := this k q
      omega)
    have u120 := (up 120 (by decide)).1
    refine r_piece (by omega) hS1 hr (by rw [u120]; exact hbank) (by rw [u120]; exact xL2) xL3 (by rw [(up 121 (by decide)).1]; exact hb1) hx (fun f' ef' M2 f2 hS2 d2 d4 d5 => ?_) (fun t' et' => by rw [ef] at et'; cases et')
    rw [ef] at ef'
    injection ef' with ef'
    subst ef'
    have ii : ∀ k, k ∉ (1 :: scK) → k ∉ pfK → gi M2 k = gi M k ∧ gl M2 k = gl M k := fun k h1 h2 => ⟨(f2.1.i h2).trans (g1.i h1), (f2.1.l h2).trans (g1.l h1)⟩
    have n120 : ∀ j, j ≠ 2 → j ≠ 3 → j ≠ 4 → j ≠ 5 → j ≠ 6 → j ≠ 7 → j ≠ 8 → j ≠ 9 → j ≠ 11 → j ≠ 39 → gi M2 120 j = gi M 120 j := fun j h2 h3 h4 h5 h6 h7 h8 h9 h11 h39 => by rw [f2.2.1 j h2 h3 h4 h5 h6 h7 h8 h9 h11 h39, u120]
    have k1 : gi M2 1 = gi M1 1 := f2.1.i (by decide)
    refine ⟨rfl, r, B, H, P, N, D, E, y, t, 0, nd, np, nr, hS2, ?_, ?_, hA.m.fr (fun k hk => ii k ?_ ?_), aZ.fr (fun k hk => ii k ?_ ?_), aDi.fr (fun k hk => ii k ?_ ?_), aPa.fr (fun k hk => ii k ?_ ?_), aTb.fr (fun k hk => ii k ?_ ?_), aFl.fr (fun k hk => ii k ?_ ?_), ⟨aB0.fr (fun k hk => ii k ?_ ?_), aB1.fr (fun k hk => ii k ?_ ?_), aB2.fr (fun k hk => ii k ?_ ?_)⟩, aRu.fr (fun k hk => ii k ?_ ?_), aWd.fr (fun k hk => ii k ?_ ?_)⟩
    · have v : ∀ j, j = 38 ∨ j = 46 ∨ j = 47 ∨ j = 91 ∨ j = 89 ∨ j = 90 ∨ j = 77 ∨ j = 78 ∨ (51 ≤ j ∧ j < 57) → gi M2 120 j = gi M 120 j := fun j hj => n120 j (by omega) (by omega) (by omega) (by omega) (by omega) (by omega) (by omega) (by omega) (by omega) (by omega)
      unfold RX
      rw [k1, c2, c11, c12, d2, d4, d5, v 38 (by omega), v 46 (by omega), v 47 (by omega), v 91 (by omega), v 89 (by omega), v 90 (by omega), v 77 (by omega), v 78 (by omega), v 51 (by omega), (ii 33 (by decide) (by decide)).1, (ii 0 (by decide) (by decide)).1, (ii 81 (by decide) (by decide)).1, (ii 87 (by decide) (by decide)).1, (ii 93 (by decide) (by decide)).1, (ii 50 (by decide) (by decide)).1, (ii 51 (by decide) (by decide)).1]
      refine ⟨hbank, ⟨xD, xE⟩, ⟨xy1, xy2, xy3⟩, xw, ⟨xt1, xt2, xt3⟩, ⟨rfl, rfl, by omega⟩, ⟨rfl, rfl⟩, ⟨xd1, xd2, xd3⟩, ⟨xp1, xp2, xp3⟩, ⟨xr1, xr2, xr3, xr4⟩, ?_⟩
      rcases xl with z | z
      · exact Or.inl z
      · refine Or.inr ⟨z.1, z.2.1, fun i hi => ?_⟩
        rw [v (51 + i) (by omega)]
        exact z.2.2 i hi
    · refine hA.sc.bnk hne (fun k hk => ii k ?_ ?_) (fun q hq i hi => ?_)
      · revert k; decide
      · revert k; decide
      · have w := f2.2.2 q hq i hi
        have q120 : 120 ≤ q.1 := (pfK_in q.1 (by have := (WL_ne q hq).2; revert this; generalize q.1 = z; revert z; decide)).1
        rw [w.1, w.2, (up q.1 q120).1, (up q.1 q120).2]
        exact ⟨rfl, rfl⟩
    all_goals (revert k; decide)
  · have hS1 := g1.S
    have up : ∀ k, 120 ≤ k → gi M1 k = gi M k ∧ gl M1 k = gl M k := fun k hk => g1.2.2.2 k (fun q => by
      have := pcK_in k q
      omega)
    have u120 := (up 120 (by decide)).1
    obtain ⟨R, hR⟩ : ∃ R, R = pS false T L 1500 (nxF false T L (.inr tk0)) scE := ⟨_, rfl⟩
    refine r_piece (by omega) hS1 hr (by rw [u120]; exact hbank) (by rw [u120]; exact xL2) xL3 (by rw [(up 121 (by decide)).1]; exact hb1) hx (fun f' ef' => by rw [ef] at ef'; cases ef') (fun t' et' M2 M3 f2 hS2 d2 d4 d5 x2 s3 n3 => ?_)
    rw [← hR] at oS n1 x2 n3 ⊢
    generalize R.2 = c at oS n1 x2 n3 ⊢
    have hS3 := hS2.sm s3
    have ii : ∀ k, k ∉ pcK → k ∉ pfK → k ∉ prK → gi M3 k = gi M k ∧ gl M3 k = gl M k := fun k h1 h2 h3 => ⟨((s3.i h3).trans (f2.1.i h2)).trans (g1.i h1), ((s3.l h3).trans (f2.1.l h2)).trans (g1.l h1)⟩
    have lo : ∀ k, k < 120 → gi M3 k = gi M1 k ∧ gl M3 k = gl M1 k := fun k hk => ⟨(s3.i (fun q => by have := prK_in k q; omega)).trans (f2.1.i (fun q => by have := pfK_in k q; omega)), (s3.l (fun q => by have := prK_in k q; omega)).trans (f2.1.l (fun q => by have := pfK_in k q; omega))⟩
    have n120 : ∀ j, j ≠ 2 → j ≠ 3 → j ≠ 4 → j ≠ 5 → j ≠ 6 → j ≠ 7 → j ≠ 8 → j ≠ 9 → j ≠ 11 → j ≠ 39 → gi M2 120 j = gi M 120 j := fun j h2 h3 h4 h5 h6 h7 h8 h9 h11 h39 => by rw [f2.2.1 j h2 h3 h4 h5 h6 h7 h8 h9 h11 h39, u120]
    obtain ⟨⟨c2, c11, c12⟩, c4, ⟨r34, r35, r36, r37⟩, ⟨m4, m5, m6, m7⟩, cfl, ⟨q50, q81, q87, q93, q931⟩, ⟨q105, q110, q115⟩⟩ := n1
    obtain ⟨w0, ⟨w38, w46, w89, w90, w77, w78, w51⟩, ⟨v149, v150, v151, v152⟩, v153, v180⟩ := n3
    obtain ⟨oB, oH, oP, oN, oHB, -, oD, oE⟩ := id oS.1
    have z149 : gi M2 149 = gi M 149 := by rw [f2.1.i (by decide), (up 149 (by decide)).1]
    have z150 : gi M2 150 = gi M 150 := by rw [f2.1.i (by decide), (up 150 (by decide)).1]
    have z151 : gi M2 151 = gi M 151 := by rw [f2.1.i (by decide), (up 151 (by decide)).1]
    have z152 : gi M2 152 = gi M 152 := by rw [f2.1.i (by decide), (up 152 (by decide)).1]
    have i34 : gi M3 34 = rowC 0 24 (gi M 34) := by rw [(lo 34 (by decide)).1]; exact r34
    have i35 : gi M3 35 = rowC 0 24 (gi M 35) := by rw [(lo 35 (by decide)).1]; exact r35
    have i36 : gi M3 36 = rowC 0 24 (gi M 36) := by rw [(lo 36 (by decide)).1]; exact r36
    have i37 : gi M3 37 = rowC (-1) 24 (gi M 37) := by rw [(lo 37 (by decide)).1]; exact r37
    refine ⟨rfl, 1 - r, c.B, c.H, c.P, c.N, c.D, c.E, 0, t, 0, 0, 0, 0, hS3, ?_, ?_, ?_, ?_, ?_, ?_, aTb.fr (fun k hk => ii k ?_ ?_ ?_), ?_, ⟨Or.inl ⟨?_, ?_⟩, Or.inl ⟨?_, ?_⟩, Or.inl ⟨?_, ?_⟩⟩, ?_, aWd.fr (fun k hk => ii k ?_ ?_ ?_)⟩
    · unfold RX
      rw [w38, w46, w89, w90, w77, w78, w51, w0 47 (by decide) (by decide) (by decide) (by decide) (by decide) (by decide) (by decide), w0 91 (by decide) (by decide) (by decide) (by decide) (by decide) (by decide) (by decide), w0 2 (by decide) (by decide) (by decide) (by decide) (by decide) (by decide) (by decide), w0 4 (by decide) (by decide) (by decide) (by decide) (by decide) (by decide) (by decide), w0 5 (by decide) (by decide) (by decide) (by decide) (by decide) (by decide) (by decide), d2, d4, d5, n120 47 (by decide) (by decide) (by decide) (by decide) (by decide) (by decide) (by decide) (by decide) (by decide) (by decide), n120 91 (by decide) (by decide) (by decide) (by decide) (by decide) (by decide) (by decide) (by decide) (by decide) (by decide), (lo 33 (by decide)).1, (lo 1 (by decide)).1, (lo 50 (by decide)).1, (lo 81 (by decide)).1, (lo 87 (by decide)).1, (lo 93 (by decide)).1, (ii 0 (by decide) (by decide) (by decide)).1, m4, m5, m6, m7, c2, c11, c12, q50, q81, q87, q93, q931]
      exact ⟨rfl, ⟨rfl, rfl⟩, ⟨rfl, rfl, by omega⟩, xw, ⟨xt1, xt2, xt3⟩, ⟨rfl, rfl, by omega⟩, ⟨rfl, rfl⟩, ⟨rfl, rfl, by omega⟩, ⟨rfl, rfl, by omega⟩, ⟨rfl, rfl, by omega, rfl⟩, Or.inl ⟨rfl, rfl⟩⟩
    · refine RSc.of (by omega) oS (c4.fr (fun k hk => lo k ?_)) (x2.fr (fun k h1 h2 => ?_))
      · revert k; decide
      · exact ⟨s3.i (fun q => by have := prK_in k q; omega), s3.l (fun q => by have := prK_in k q; omega)⟩
    · refine ⟨⟨?_, ?_, ?_⟩, ⟨fun _ => ?_, fun i => ?_⟩, ⟨?_, ?_, ?_⟩, ⟨oD, oE⟩, fun i hi => (v153 i hi).1, fun i hi => (v153 i hi).2⟩
      · rw [i34, v149, z149, mh]
      · rw [i35, v150, z150, me]
      · rw [i36, v151, z151, mo]
      · rw [i37, v152, z152]
        funext i
        unfold rowC
        split
        · rfl
        · exact hz i (by omega)
      · rw [i37]
        unfold rowC
        split
        · exact Or.inl rfl
        · exact mu i
      · rw [i34]; exact rowC_rng gh
      · rw [i35]; exact rowC_rng ge
      · rw [i36]; exact rowC_rng go
    · intro i hi
      have z := aZ i hi
      rw [i34, i35, i36, (ii 57 (by decide) (by decide) (by decide)).1, (ii 58 (by decide) (by decide) (by decide)).1, (ii 59 (by decide) (by decide) (by decide)).1, (ii 62 (by decide) (by decide) (by decide)).1, (ii 63 (by decide) (by decide) (by decide)).1, (ii 64 (by decide) (by decide) (by decide)).1, (ii 67 (by decide) (by decide) (by decide)).1, (ii 68 (by decide) (by decide) (by decide)).1, (ii 69 (by decide) (by decide) (by decide)).1, (ii 72 (by decide) (by decide) (by decide)).1, (ii 73 (by decide) (by decide) (by decide)).1, (ii 74 (by decide) (by decide) (by decide)).1, (ii 77 (by decide) (by decide) (by decide)).1, (ii 78 (by decide) (by decide) (by decide)).1, (ii 79 (by decide) (by decide) (by decide)).1]
      unfold rowC
      rw [if_neg (by omega), if_neg (by omega), if_neg (by omega)]
      exact z
    · obtain ⟨a1, a2, a3, a4, -⟩ := aDi
      refine ⟨?_, ?_, ?_, ?_, fun i hi => absurd hi (by omega)⟩
      · rw [(ii 82 (by decide) (by decide) (by decide)).1, (ii 168 (by decide) (by decide) (by decide)).1]; exact a1
      · rw [(ii 83 (by decide) (by decide) (by decide)).1, (ii 167 (by decide) (by decide) (by decide)).1]; exact a2
      · rw [(ii 85 (by decide) (by decide) (by decide)).1, (ii 169 (by decide) (by decide) (by decide)).1]; exact a3
      · rw [(ii 86 (by decide) (by decide) (by decide)).1, (ii 170 (by decide) (by decide) (by decide)).1]; exact a4
    · obtain ⟨a1, a2, a3, a4, a5, -⟩ := aPa
      refine ⟨?_, ?_, ?_, ?_, ?_, fun i hi => absurd hi (by omega)⟩
      · rw [(ii 88 (by decide) (by decide) (by decide)).1, (ii 172 (by decide) (by decide) (by decide)).1]; exact a1
      · rw [(ii 89 (by decide) (by decide) (by decide)).1, (ii 171 (by decide) (by decide) (by decide)).1]; exact a2
      · rw [(ii 90 (by decide) (by decide) (by decide)).1, (ii 175 (by decide) (by decide) (by decide)).1]; exact a3
      · rw [(ii 91 (by decide) (by decide) (by decide)).1, (ii 173 (by decide) (by decide) (by decide)).1]; exact a4
      · rw [(ii 92 (by decide) (by decide) (by decide)).1, (ii 174 (by decide) (by decide) (by decide)).1]; exact a5
    · revert k; decide
    · revert k; decide
    · revert k; decide
    · refine cfl.fr (fun k hk => lo k ?_)
      revert k; decide
    · rw [(lo 105 (by decide)).1]; exact q105
    · rw [v180]; rfl
    · rw [(lo 110 (by decide)).1]; exact q110
    · rw [v180]; rfl
    · rw [(lo 115 (by decide)).1]; exact q115
    · rw [v180]; rfl
    · exact ⟨fun _ => 0, rfl, fun i hi => absurd hi (by omega)⟩
    · revert k; decide
    · revert k; decide
    · revert k; decide
end OPQ
