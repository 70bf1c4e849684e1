/-! ===== the older calls, over the relation ===== -/
section LFT
variable {d : Nat} {M M' : pz_M}
/-- one call on both sides -/
def opp (d a b : Nat) (vs : List Value) (M : pz_M) : Prop := pm d a (.ref 0 :: vs) M (fun r1 => pm d b (.ref 120 :: vs) r1.2 (fun r2 => r1.1 = r2.1 ∧ RL r2.2))
theorem lift0 {a b : Nat} {vs : List Value} (hL : RL M) (h : pm d a (.ref 0 :: vs) M (fun r1 => pm d b (.ref 120 :: vs) r1.2 (fun r2 => r1.1 = r2.1 ∧ r2.2 = M))) : opp d a b vs M := pm_mono h (fun r1 h1 => pm_mono h1 (fun r2 h2 => ⟨h2.1, by rw [h2.2]; exact hL⟩))
theorem lift1 {a b : Nat} {vs : List Value} {R : pz_M → Prop} (hR : ∀ M', R M' → RL M') (h : pm d a (.ref 0 :: vs) M (fun r1 => pm d b (.ref 120 :: vs) r1.2 (fun r2 => r1.1 = r2.1 ∧ R r2.2))) : opp d a b vs M := pm_mono h (fun r1 h1 => pm_mono h1 (fun r2 h2 => ⟨h2.1, hR _ h2.2⟩))
theorem RA.obj {r B H P N D E y t L nd np nr t' L' : Nat} (hA : RA M r B H P N D E y t L nd np nr) (s : sm [0, 1, 33, 120] M M') (hX : RX M' r D E y t' L' nd np nr) : RL M' := by
  have sg := s.sg hA.S
  obtain ⟨-, a1, a2, a3, a4, a5, a6, a7, a8, ⟨c0, c1, c2⟩, a9, a10⟩ := hA
  exact RA.L (r := r) (B := B) (H := H) (P := P) (N := N) (D := D) (E := E) (y := y) (t := t') (L := L') (nd := nd) (np := np) (nr := nr) ⟨sg.S, hX, a2.fr (sg.ag (by decide +kernel)), a3.fr (sg.ag (by decide +kernel)), a4.fr (sg.ag (by decide +kernel)), a5.fr (sg.ag (by decide +kernel)), a6.fr (sg.ag (by decide +kernel)), a7.fr (sg.ag (by decide +kernel)), a8.fr (sg.ag (by decide +kernel)), ⟨c0.fr (sg.ag (by decide +kernel)), c1.fr (sg.ag (by decide +kernel)), c2.fr (sg.ag (by decide +kernel))⟩, a9.fr (sg.ag (by decide +kernel)), a10.fr (sg.ag (by decide +kernel))⟩
theorem oz_alike (hd : 50 ≤ d) (hL : RL M) {x y : Int32} : opp d 17 18 [.int x, .int y] M := by
  obtain ⟨r, B, H, P, N, D, E, y', t, L, nd, np, nr, hA⟩ := id hL
  exact lift0 hL (op_alike (by omega) hA.S hA.ok hA.lk)
theorem oz_forks (hd : 50 ≤ d) (hL : RL M) : opp d 21 22 [] M := by
  obtain ⟨r, B, H, P, N, D, E, y', t, L, nd, np, nr, hA⟩ := id hL
  exact lift0 hL (op_forks (by omega) hA.S hA.ok hA.lk)
theorem oz_fork (hd : 50 ≤ d) (hL : RL M) {x : Int32} : opp d 19 20 [.int x] M := by
  obtain ⟨r, B, H, P, N, D, E, y', t, L, nd, np, nr, hA⟩ := id hL
  exact lift0 hL (op_fork (by omega) hA.S hA.ok hA.lk)
theorem oz_cuts (hd : 50 ≤ d) (hL : RL M) {x y : Int32} : opp d 61 62 [.int x, .int y] M := by
  obtain ⟨r, B, H, P, N, D, E, y', t, L, nd, np, nr, hA⟩ := id hL
  exact lift0 hL (op_cuts (by omega) hA.S hA.ok hA.lk hA.rd)
theorem oz_fault (hL : RL M) {x : Int32} : opp d 9 10 [.int x] M := by
  obtain ⟨r, B, H, P, N, D, E, y', t, L, nd, np, nr, hA⟩ := id hL
  obtain ⟨f1, f2⟩ := hA.X.2.2.2.2.2.2.1
  exact lift0 hL (op_fault hA.S f1 f2)
theorem oz_about (hd : 50 ≤ d) (hL : RL M) {x : Int32} : opp d 83 84 [.int x] M := by
  obtain ⟨r, B, H, P, N, D, E, y, t, L, nd, np, nr, hA⟩ := id hL
  have hS := hA.S
  have hO := hA.ok
  have hbk := hA.bk
  have hbank : gi M 120 38 = nI r := hA.X.1
  have hB := hA.B24
  have b1 := hA.b1
  have b2 := hA.b2
  have hr := hA.r1
  have b3 : gi M 123 r = nI B := hA.sc.2.1.2.1
  obtain ⟨g, fd, cr, wk, sv, er, g1, g5, fd2, cr1, wk1, sv2, er2, l0, l1, l2, l3, l4, l5⟩ := hA.sc.2.2.1.1
  have k0 : gi M 127 r = nI g := hA.sc.2.2.1.2.1.symm.trans l0
  have k1 : gi M 128 r = nI fd := hA.sc.2.2.1.2.2.1.symm.trans l1
  have k2 : gi M 129 r = nI cr := hA.sc.2.2.1.2.2.2.1.symm.trans l2
  have k3 : gi M 130 r = nI wk := hA.sc.2.2.1.2.2.2.2.1.symm.trans l3
  have k4 : gi M 131 r = nI sv := hA.sc.2.2.1.2.2.2.2.2.1.symm.trans l4
  have k5 : gi M 132 r = nI er := hA.sc.2.2.1.2.2.2.2.2.2.symm.trans l5
  obtain ⟨-, ⟨xD, xE⟩, ⟨xy1, xy2, xy3⟩, xw, ⟨xt1, xt2, xt3⟩, ⟨xL1, xL2, xL3⟩, ⟨xf1, xf2⟩, ⟨xd1, xd2, xd3⟩, ⟨xp1, xp2, xp3⟩, ⟨xr1, xr2, xr3, xr4⟩, xl⟩ := id hA.X
  obtain ⟨⟨mh, me, mo⟩, ⟨ml, mu⟩, ⟨gh, ge, go⟩, ⟨hD, hE⟩, dD, dE⟩ := id hA.m
  have q := hA.sc.2.1
  refine lift0 hL (op_about (by omega) hS hO (fun j hj => ?_))
  have hj2 : j = 0 ∨ j = 1 ∨ j = 2 ∨ j = 3 ∨ j = 4 ∨ j = 5 ∨ j = 6 ∨ j = 7 ∨ j = 8 ∨ j = 9 ∨ j = 10 ∨ j = 11 := by omega
  rcases hj2 with h | h | h | h | h | h | h | h | h | h | h | h <;> subst h
  · exact b1.trans b2.symm
  · show gi M 4 3 = gi M 124 (bk M); rw [hbk]; exact q.2.2.1.trans q.2.2.2.1.symm
  · show gi M 4 6 = gi M 125 (bk M); rw [hbk]; exact q.2.2.2.2.1.trans q.2.2.2.2.2.1.symm
  · show gi M 4 10 = gi M 126 (bk M); rw [hbk]; exact q.2.2.2.2.2.2.1.trans q.2.2.2.2.2.2.2.symm
  · exact xd1.trans xd2.symm
  · exact xp1.trans xp2.symm
  · exact xt1.trans xt2.symm
  · exact xy1.trans xy2.symm
  · exact xL1.trans xL2.symm
  · exact xw
  · exact xr1.trans xr2.symm
  · exact xr4
theorem oz_seed (hL : RL M) {x : Int32} : opp d 77 78 [.int x] M := by
  obtain ⟨r, B, H, P, N, D, E, y, t, L, nd, np, nr, hA⟩ := id hL
  have hS := hA.S
  have hO := hA.ok
  have hbk := hA.bk
  have hbank : gi M 120 38 = nI r := hA.X.1
  have hB := hA.B24
  have b1 := hA.b1
  have b2 := hA.b2
  have hr := hA.r1
  have b3 : gi M 123 r = nI B := hA.sc.2.1.2.1
  obtain ⟨g, fd, cr, wk, sv, er, g1, g5, fd2, cr1, wk1, sv2, er2, l0, l1, l2, l3, l4, l5⟩ := hA.sc.2.2.1.1
  have k0 : gi M 127 r = nI g := hA.sc.2.2.1.2.1.symm.trans l0
  have k1 : gi M 128 r = nI fd := hA.sc.2.2.1.2.2.1.symm.trans l1
  have k2 : gi M 129 r = nI cr := hA.sc.2.2.1.2.2.2.1.symm.trans l2
  have k3 : gi M 130 r = nI wk := hA.sc.2.2.1.2.2.2.2.1.symm.trans l3
  have k4 : gi M 131 r = nI sv := hA.sc.2.2.1.2.2.2.2.2.1.symm.trans l4
  have k5 : gi M 132 r = nI er := hA.sc.2.2.1.2.2.2.2.2.2.symm.trans l5
  obtain ⟨-, ⟨xD, xE⟩, ⟨xy1, xy2, xy3⟩, xw, ⟨xt1, xt2, xt3⟩, ⟨xL1, xL2, xL3⟩, ⟨xf1, xf2⟩, ⟨xd1, xd2, xd3⟩, ⟨xp1, xp2, xp3⟩, ⟨xr1, xr2, xr3, xr4⟩, xl⟩ := id hA.X
  obtain ⟨⟨mh, me, mo⟩, ⟨ml, mu⟩, ⟨gh, ge, go⟩, ⟨hD, hE⟩, dD, dE⟩ := id hA.m
  refine lift1 (R := fun M' => sm [33, 120] M M' ∧ gi M' 33 = va_up (gi M 33) 7 x ∧ gi M' 120 = va_up (gi M 120) 47 x) (fun M' h => ?_) (op_seed hS xw)
  obtain ⟨s, e1, e2⟩ := h
  refine hA.obj (s.mono (by decide)) (t' := t) (L' := L) ?_
  unfold RX
  rw [e1, e2, s.i (k := 0) (by decide), s.i (k := 1) (by decide), s.i (k := 81) (by decide), s.i (k := 87) (by decide), s.i (k := 93) (by decide), s.i (k := 50) (by decide), s.i (k := 51) (by decide)]
  simp (disch := decide) only [vu_ne, vu_eq]
  refine ⟨hbank, ⟨xD, xE⟩, ⟨xy1, xy2, xy3⟩, trivial, ⟨xt1, xt2, xt3⟩, ⟨xL1, xL2, xL3⟩, ⟨xf1, xf2⟩, ⟨xd1, xd2, xd3⟩, ⟨xp1, xp2, xp3⟩, ⟨xr1, xr2, xr3, xr4⟩, ?_⟩
  rcases xl with z | z
  · exact Or.inl z
  · refine Or.inr ⟨z.1, z.2.1, fun i hi => ?_⟩
    rw [vu_ne (by omega)]
    exact z.2.2 i hi
theorem oz_end (hL : RL M) {x : Int32} : opp d 5 6 [.int x] M := by
  obtain ⟨r, B, H, P, N, D, E, y, t, L, nd, np, nr, hA⟩ := id hL
  have hS := hA.S
  have hO := hA.ok
  have hbk := hA.bk
  have hbank : gi M 120 38 = nI r := hA.X.1
  have hB := hA.B24
  have b1 := hA.b1
  have b2 := hA.b2
  have hr := hA.r1
  have b3 : gi M 123 r = nI B := hA.sc.2.1.2.1
  obtain ⟨g, fd, cr, wk, sv, er, g1, g5, fd2, cr1, wk1, sv2, er2, l0, l1, l2, l3, l4, l5⟩ := hA.sc.2.2.1.1
  have k0 : gi M 127 r = nI g := hA.sc.2.2.1.2.1.symm.trans l0
  have k1 : gi M 128 r = nI fd := hA.sc.2.2.1.2.2.1.symm.trans l1
  have k2 : gi M 129 r = nI cr := hA.sc.2.2.1.2.2.2.1.symm.trans l2
  have k3 : gi M 130 r = nI wk := hA.sc.2.2.1.2.2.2.2.1.symm.trans l3
  have k4 : gi M 131 r = nI sv := hA.sc.2.2.1.2.2.2.2.2.1.symm.trans l4
  have k5 : gi M 132 r = nI er := hA.sc.2.2.1.2.2.2.2.2.2.symm.trans l5
  obtain ⟨-, ⟨xD, xE⟩, ⟨xy1, xy2, xy3⟩, xw, ⟨xt1, xt2, xt3⟩, ⟨xL1, xL2, xL3⟩, ⟨xf1, xf2⟩, ⟨xd1, xd2, xd3⟩, ⟨xp1, xp2, xp3⟩, ⟨xr1, xr2, xr3, xr4⟩, xl⟩ := id hA.X
  obtain ⟨⟨mh, me, mo⟩, ⟨ml, mu⟩, ⟨gh, ge, go⟩, ⟨hD, hE⟩, dD, dE⟩ := id hA.m
  refine lift1 (R := fun M' => M' = M ∨ 0 ≤ x ∧ x ≤ gi M 1 2 ∧ sm [1, 120] M M' ∧ gi M' 1 = va_up (gi M 1) 2 x ∧ gi M' 120 = va_up (gi M 120) 2 x) (fun M' h => ?_) (op_end hS (xL1.trans xL2.symm))
  rcases h with h | ⟨h1, h2, s, e1, e2⟩
  · rw [h]; exact hL
  · by_cases q : ∃ n, n < L + 1 ∧ x = nI n
    · obtain ⟨n, hn, rfl⟩ := q
      refine hA.obj (s.mono (by decide)) (t' := t) (L' := n) ?_
      unfold RX
      rw [e1, e2, s.i (k := 0) (by decide), s.i (k := 33) (by decide), s.i (k := 81) (by decide), s.i (k := 87) (by decide), s.i (k := 93) (by decide), s.i (k := 50) (by decide), s.i (k := 51) (by decide)]
      simp (disch := decide) only [vu_ne, vu_eq]
      refine ⟨hbank, ⟨xD, xE⟩, ⟨xy1, xy2, xy3⟩, xw, ⟨xt1, xt2, xt3⟩, ⟨trivial, trivial, by omega⟩, ⟨xf1, xf2⟩, ⟨xd1, xd2, xd3⟩, ⟨xp1, xp2, xp3⟩, ⟨xr1, xr2, xr3, xr4⟩, ?_⟩
      rcases xl with z | z
      · exact Or.inl z
      · refine Or.inr ⟨z.1, z.2.1, fun i hi => ?_⟩
        rw [vu_ne (by omega)]
        exact z.2.2 i hi
    · exfalso
      rcases (ltnI (n := L + 1) (by omega)).mp q with z | z
      · exact absurd h1 (Int32.not_le.mpr z)
      · rw [xL1] at h2
        have := (nI_leI (by omega) (by omega)).mp (Int32.le_trans z h2)
        omega
theorem oz_later (hd : 50 ≤ d) (hL : RL M) {x : Int32} : opp d 59 60 [.int x] M := by
  obtain ⟨r, B, H, P, N, D, E, y, t, L, nd, np, nr, hA⟩ := id hL
  have hS := hA.S
  have hO := hA.ok
  have hbk := hA.bk
  have hbank : gi M 120 38 = nI r := hA.X.1
  have hB := hA.B24
  have b1 := hA.b1
  have b2 := hA.b2
  have hr := hA.r1
  have b3 : gi M 123 r = nI B := hA.sc.2.1.2.1
  obtain ⟨g, fd, cr, wk, sv, er, g1, g5, fd2, cr1, wk1, sv2, er2, l0, l1, l2, l3, l4, l5⟩ := hA.sc.2.2.1.1
  have k0 : gi M 127 r = nI g := hA.sc.2.2.1.2.1.symm.trans l0
  have k1 : gi M 128 r = nI fd := hA.sc.2.2.1.2.2.1.symm.trans l1
  have k2 : gi M 129 r = nI cr := hA.sc.2.2.1.2.2.2.1.symm.trans l2
  have k3 : gi M 130 r = nI wk := hA.sc.2.2.1.2.2.2.2.1.symm.trans l3
  have k4 : gi M 131 r = nI sv := hA.sc.2.2.1.2.2.2.2.2.1.symm.trans l4
  have k5 : gi M 132 r = nI er := hA.sc.2.2.1.2.2.2.2.2.2.symm.trans l5
  obtain ⟨-, ⟨xD, xE⟩, ⟨xy1, xy2, xy3⟩, xw, ⟨xt1, xt2, xt3⟩, ⟨xL1, xL2, xL3⟩, ⟨xf1, xf2⟩, ⟨xd1, xd2, xd3⟩, ⟨xp1, xp2, xp3⟩, ⟨xr1, xr2, xr3, xr4⟩, xl⟩ := id hA.X
  obtain ⟨⟨mh, me, mo⟩, ⟨ml, mu⟩, ⟨gh, ge, go⟩, ⟨hD, hE⟩, dD, dE⟩ := id hA.m
  refine lift1 (R := fun M' => M' = M ∨ ltr x (gi M 0 13) ∧ sm [0, 120] M M' ∧ gi M' 0 = va_up (gi M 0) 13 (gi M 0 13 + x) ∧ gi M' 120 = va_up (gi M 120) 91 (gi M 0 13 + x)) (fun M' h => ?_) (op_later (by omega) hS (xt1.trans xt2.symm))
  rcases h with h | ⟨⟨h1, h2, h3⟩, s, e1, e2⟩
  · rw [h]; exact hL
  · by_cases q : ∃ n, n < 1001 ∧ x = nI n
    · obtain ⟨n, hn, rfl⟩ := q
      rw [xt1, nI_add] at h3 e1 e2
      have h3' := (nI_leL (by omega) (by decide)).mp h3
      refine hA.obj (s.mono (by decide)) (t' := t + n) (L' := L) ?_
      unfold RX
      rw [e1, e2, s.i (k := 1) (by decide), s.i (k := 33) (by decide), s.i (k := 81) (by decide), s.i (k := 87) (by decide), s.i (k := 93) (by decide), s.i (k := 50) (by decide), s.i (k := 51) (by decide)]
      simp (disch := decide) only [vu_ne, vu_eq]
      refine ⟨hbank, ⟨xD, xE⟩, ⟨xy1, xy2, xy3⟩, xw, ⟨trivial, trivial, h3'⟩, ⟨xL1, xL2, xL3⟩, ⟨xf1, xf2⟩, ⟨xd1, xd2, xd3⟩, ⟨xp1, xp2, xp3⟩, ⟨xr1, xr2, xr3, xr4⟩, ?_⟩
      rcases xl with z | z
      · exact Or.inl z
      · refine Or.inr ⟨z.1, z.2.1, fun i hi => ?_⟩
        rw [vu_ne (by omega)]
        exact z.2.2 i hi
    · exfalso
      rcases (ltnI (n := 1001) (by decide)).mp q with z | z
      · exact absurd h1 (Int32.not_le.mpr z)
      · exact absurd (Int32.le_trans z h2) (by decide)
theorem oz_untell (hd : 50 ≤ d) (hL : RL M) {p w : Int32} : opp d 57 58 [.int p, .int w] M := by
  obtain ⟨r, B, H, P, N, D, E, y, t, L, nd, np, nr, hA⟩ := id hL
  have hS := hA.S
  have hO := hA.ok
  have hbk := hA.bk
  have hbank : gi M 120 38 = nI r := hA.X.1
  have hB := hA.B24
  have b1 := hA.b1
  have b2 := hA.b2
  have hr := hA.r1
  have b3 : gi M 123 r = nI B := hA.sc.2.1.2.1
  obtain ⟨g, fd, cr, wk, sv, er, g1, g5, fd2, cr1, wk1, sv2, er2, l0, l1, l2, l3, l4, l5⟩ := hA.sc.2.2.1.1
  have k0 : gi M 127 r = nI g := hA.sc.2.2.1.2.1.symm.trans l0
  have k1 : gi M 128 r = nI fd := hA.sc.2.2.1.2.2.1.symm.trans l1
  have k2 : gi M 129 r = nI cr := hA.sc.2.2.1.2.2.2.1.symm.trans l2
  have k3 : gi M 130 r = nI wk := hA.sc.2.2.1.2.2.2.2.1.symm.trans l3
  have k4 : gi M 131 r = nI sv := hA.sc.2.2.1.2.2.2.2.2.1.symm.trans l4
  have k5 : gi M 132 r = nI er := hA.sc.2.2.1.2.2.2.2.2.2.symm.trans l5
  obtain ⟨-, ⟨xD, xE⟩, ⟨xy1, xy2, xy3⟩, xw, ⟨xt1, xt2, xt3⟩, ⟨xL1, xL2, xL3⟩, ⟨xf1, xf2⟩, ⟨xd1, xd2, xd3⟩, ⟨xp1, xp2, xp3⟩, ⟨xr1, xr2, xr3, xr4⟩, xl⟩ := id hA.X
  obtain ⟨⟨mh, me, mo⟩, ⟨ml, mu⟩, ⟨gh, ge, go⟩, ⟨hD, hE⟩, dD, dE⟩ := id hA.m
  obtain ⟨-, -, -, -, aZ, aDi, aPa, aTb, aFl, ⟨aB0, aB1, aB2⟩, aRu, aWd⟩ := id hA
  have tU : isUn (gi M 0 13) := by
    rw [xt1]
    exact Or.inr (by rw [show (0 : Int32) = nI 0 from rfl]; exact (nI_leI (by omega) (by omega)).mpr (Nat.zero_le _))
  by_cases hp : p = 0
  · subst hp
    refine lift1 (R := fun M' => untO M M' 86 170 nd w) (fun M' h => ?_) (op_untellD (by omega) hS (xt1.trans xt2.symm) xd3 xd1 xd2 (fun i hi => ⟨by rw [aDi.2.2.2.1], (aDi.2.2.2.2 i hi).1⟩))
    rcases h with h | ⟨i, hi, -, s, e1, e2⟩
    · rw [h]; exact hL
    · have sg := s.sg hS
      refine RA.L (r := r) (B := B) (H := H) (P := P) (N := N) (D := D) (E := E) (y := y) (t := t) (L := L) (nd := nd) (np := np) (nr := nr) ⟨sg.S, hA.X.fr (sg.ag (by decide +kernel)), hA.sc.fr (sg.ag (by decide +kernel)), hA.m.fr (sg.ag (by decide +kernel)), aZ.fr (sg.ag (by decide +kernel)), ?_, aPa.fr (sg.ag (by decide +kernel)), aTb.fr (sg.ag (by decide +kernel)), aFl.fr (sg.ag (by decide +kernel)), ⟨aB0.fr (sg.ag (by decide +kernel)), aB1.fr (sg.ag (by decide +kernel)), aB2.fr (sg.ag (by decide +kernel))⟩, aRu.fr (sg.ag (by decide +kernel)), aWd.fr (sg.ag (by decide +kernel))⟩
      obtain ⟨d1, d2, d3, d4, d5⟩ := aDi
      refine ⟨?_, ?_, ?_, ?_, fun j hj => ?_⟩
      · rw [s.i (by decide), s.i (by decide)]; exact d1
      · rw [s.i (by decide), s.i (by decide)]; exact d2
      · rw [s.i (by decide), s.i (by decide)]; exact d3
      · rw [e1, e2, d4]
      · rw [e1, s.i (k := 82) (by decide)]
        refine ⟨?_, (d5 j hj).2⟩
        by_cases q : j = i
        · rw [q, vu_eq]; exact tU
        · rw [vu_ne q]; exact (d5 j hj).1
  · refine lift1 (R := fun M' => untO M M' 92 174 np w) (fun M' h => ?_) (op_untellP (by omega) hS (xt1.trans xt2.symm) hp xp3 xp1 xp2 (fun i hi => ⟨by rw [aPa.2.2.2.2.1], (aPa.2.2.2.2.2 i hi).1⟩))
    rcases h with h | ⟨i, hi, -, s, e1, e2⟩
    · rw [h]; exact hL
    · have sg := s.sg hS
      refine RA.L (r := r) (B := B) (H := H) (P := P) (N := N) (D := D) (E := E) (y := y) (t := t) (L := L) (nd := nd) (np := np) (nr := nr) ⟨sg.S, hA.X.fr (sg.ag (by decide +kernel)), hA.sc.fr (sg.ag (by decide +kernel)), hA.m.fr (sg.ag (by decide +kernel)), aZ.fr (sg.ag (by decide +kernel)), aDi.fr (sg.ag (by decide +kernel)), ?_, aTb.fr (sg.ag (by decide +kernel)), aFl.fr (sg.ag (by decide +kernel)), ⟨aB0.fr (sg.ag (by decide +kernel)), aB1.fr (sg.ag (by decide +kernel)), aB2.fr (sg.ag (by decide +kernel))⟩, aRu.fr (sg.ag (by decide +kernel)), aWd.fr (sg.ag (by decide +kernel))⟩
      obtain ⟨d1, d2, d3, d4, d5, d6⟩ := aPa
      refine ⟨?_, ?_, ?_, ?_, ?_, fun j hj => ?_⟩
      · rw [s.i (by decide), s.i (by decide)]; exact d1
      · rw [s.i (by decide), s.i (by decide)]; exact d2
      · rw [s.i (by decide), s.i (by decide)]; exact d3
      · rw [s.i (by decide), s.i (by decide)]; exact d4
      · rw [e1, e2, d5]
      · rw [e1, s.i (k := 88) (by decide), s.i (k := 89) (by decide), s.i (k := 90) (by decide)]
        refine ⟨?_, (d6 j hj).2⟩
        by_cases q : j = i
        · rw [q, vu_eq]; exact tU
        · rw [vu_ne q]; exact (d6 j hj).1
end LFT
