section PLAY9
variable {d : Nat} {M M' M'' : pz_M} {Q : Option Value × pz_M → Prop}
theorem plR_inv {B g cr wk sv er D E to : Nat} {al : Nat → Nat → Nat} {y : Int32} (hy : 0 ≤ y) (hg : g ≤ 1000) : ∀ n R w c b, b < B → okT R → (∀ i, rT (R i)) → okT (plR al g cr wk sv er B D E to y n R w c b).2.1 ∧ (∀ i, rT ((plR al g cr wk sv er B D E to y n R w c b).2.1 i)) ∧ ∀ i, B ≤ i → (plR al g cr wk sv er B D E to y n R w c b).2.1 i = R i := by
  intro n
  induction n with
  | zero => intro R w c b hb h1 h2; exact ⟨h1, h2, fun _ _ => rfl⟩
  | succ n ih =>
    intro R w c b hb h1 h2
    rw [plR]
    have q1 := pst_ok (al := al) (g := g) (cr := cr) (wk := wk) (sv := sv) (er := er) (B := B) (D := D) (E := E) (to := to) (w := w) (c := va_up c 1 (nI b)) (b := b) hy h1
    have q2 := pst_rT (al := al) (cr := cr) (wk := wk) (sv := sv) (er := er) (B := B) (D := D) (E := E) (to := to) (y := y) (w := w) (c := va_up c 1 (nI b)) (b := b) hg h2
    have q3 := fun i hi => pst_hi (al := al) (g := g) (cr := cr) (wk := wk) (sv := sv) (er := er) (D := D) (E := E) (to := to) (y := y) (w := w) (R := R) (c := va_up c 1 (nI b)) (b := b) (i := i) hb hi
    have q4 := fun b' => pst_b (al := al) (g := g) (cr := cr) (wk := wk) (sv := sv) (er := er) (D := D) (E := E) (to := to) (b' := b') (y := y) (w := w) (R := R) (c := va_up c 1 (nI b)) hb
    generalize pst al g cr wk sv er B D E to y R w (va_up c 1 (nI b)) b = P at q1 q2 q3 q4
    obtain ⟨R', w', c', nx⟩ := P
    cases nx with
    | inl b' =>
      obtain ⟨p1, p2, p3⟩ := ih R' w' c' b' (q4 b' rfl) q1 q2
      exact ⟨p1, p2, fun i hi => (p3 i hi).trans (q3 i hi)⟩
    | inr how => exact ⟨q1, q2, q3⟩
theorem RA.mindS {r B H P N D E y t L nd np nr D' E' y' : Nat} (hA : RA M r B H P N D E y t L nd np nr) (s : sm [33, 34, 35, 36, 37, 43, 44, 45, 51, 50, 120, 149, 150, 151, 152, 153, 154, 155] M M') (hX : RX M' r D' E' y' t L nd np nr) (hM : RMr M' B D' E') (hZ : ∀ i, 24 ≤ i → gi M' 34 i = 0 ∧ gi M' 35 i = 0 ∧ gi M' 36 i = 0) : RL M' := by
  have sg := s.sg hA.S
  obtain ⟨-, a1, a2, a3, a4, a5, a6, a7, a8, ⟨c0, c1, c2⟩, a9, a10⟩ := hA
  refine RA.L (r := r) (B := B) (H := H) (P := P) (N := N) (D := D') (E := E') (y := y') (t := t) (L := L) (nd := nd) (np := np) (nr := nr) ⟨sg.S, hX, a2.fr (sg.ag (by decide +kernel)), hM, ?_, a5.fr (sg.ag (by decide +kernel)), a6.fr (sg.ag (by decide +kernel)), a7.fr (sg.ag (by decide +kernel)), a8.fr (sg.ag (by decide +kernel)), ⟨c0.fr (sg.ag (by decide +kernel)), c1.fr (sg.ag (by decide +kernel)), c2.fr (sg.ag (by decide +kernel))⟩, a9.fr (sg.ag (by decide +kernel)), a10.fr (sg.ag (by decide +kernel))⟩
  intro i hi
  obtain ⟨z1, z2, z3, z⟩ := a4 i hi
  obtain ⟨w1, w2, w3⟩ := hZ i hi
  refine ⟨w1, w2, w3, ?_⟩
  rw [s.i (k := 57) (by decide), s.i (k := 58) (by decide), s.i (k := 59) (by decide), s.i (k := 62) (by decide), s.i (k := 63) (by decide), s.i (k := 64) (by decide), s.i (k := 67) (by decide), s.i (k := 68) (by decide), s.i (k := 69) (by decide), s.i (k := 72) (by decide), s.i (k := 73) (by decide), s.i (k := 74) (by decide), s.i (k := 77) (by decide), s.i (k := 78) (by decide), s.i (k := 79) (by decide)]
  exact z
theorem RX.play {r D E y t L nd np nr : Nat} {w' : Int32} (hX : RX M r D E y t L nd np nr) (e : ag [0, 1, 81, 87, 93] M M') (e33 : gi M' 33 = va_up (gi M 33) 7 w') (e50 : gi M' 50 = va_up (gi M 50) 4 1) (o : opl M M') (e47 : gi M' 120 47 = w') (h : ∀ i, i < 6 → gi M' 51 i = gi M' 120 (51 + i)) (h0 : 0 ≤ gi M' 120 51) : RX M' r D E y t L nd np nr := by
  obtain ⟨x0, xD, xy, xw, xt, xL, xf, xd, xp, xr, xl⟩ := hX
  unfold RX
  simp only [(e 0 (by decide)).1, (e 1 (by decide)).1, (e 81 (by decide)).1, (e 87 (by decide)).1, (e 93 (by decide)).1, e33, e50, e47]
  rw [vk (k := 7) (j := 4) (by decide), vk (k := 7) (j := 5) (by decide), vk (k := 7) (j := 6) (by decide), vu_eq, vu_eq, o 38 (by decide) (by decide) (by decide) (by decide), o 46 (by decide) (by decide) (by decide) (by decide), o 91 (by decide) (by decide) (by decide) (by decide), o 2 (by decide) (by decide) (by decide) (by decide), o 4 (by decide) (by decide) (by decide) (by decide), o 5 (by decide) (by decide) (by decide) (by decide), o 89 (by decide) (by decide) (by decide) (by decide), o 90 (by decide) (by decide) (by decide) (by decide), o 77 (by decide) (by decide) (by decide) (by decide), o 78 (by decide) (by decide) (by decide) (by decide)]
  exact ⟨x0, xD, xy, rfl, xt, xL, xf, xd, xp, xr, Or.inr ⟨rfl, h0, h⟩⟩
end PLAY9
