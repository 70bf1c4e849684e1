section PLAY7
variable {d : Nat} {M M' M'' : pz_M} {Q : Option Value × pz_M → Prop}
variable {r B g cr wk sv er D E to : Nat} {al : Nat → Nat → Nat} {R : Nat → T3} {y w : Int32} {c : Nat → Int32}
theorem stC_1 {er b : Nat} {D : Option Nat} {c : Nat → Int32} : stC er b D c 1 = c 1 := by
  unfold stC
  cases D with
  | none =>
    simp only
    rw [vu_ne (by decide), vu_ne (by decide)]
  | some dd =>
    simp only
    rw [vu_ne (by decide)]
    split
    · rw [vu_ne (by decide), vu_ne (by decide)]
    · rw [vu_ne (by decide)]
theorem pst_c1 {b : Nat} : (pst al g cr wk sv er B D E to y R w c b).2.2.1 1 = c 1 := by
  unfold pst
  split
  · split
    · exact stC_1 (er := er) (b := b) (c := c) (D := none)
    · rename_i dd _
      exact stC_1 (er := er) (b := b) (c := c) (D := some dd)
  · split
    · exact vu_ne (f := c) (k := 5) (j := 1) (x := c 5 + 1) (by decide)
    · rfl
theorem pst_how {b : Nat} {how : Int32} (h : (pst al g cr wk sv er B D E to y R w c b).2.2.2 = .inr how) : how = 0 ∨ how = 1 ∨ how = 2 := by
  unfold pst at h
  split at h
  · split at h
    · cases h
      exact Or.inr (Or.inr rfl)
    · cases h
  · split at h
    · simp only at h
      split at h
      · cases h
        exact Or.inr (Or.inl rfl)
      · cases h
    · simp only at h
      split at h
      · cases h
        exact Or.inl rfl
      · split at h
        · cases h
          exact Or.inr (Or.inl rfl)
        · cases h
theorem pst_ok {b : Nat} (hy : 0 ≤ y) (h : okT R) : okT (pst al g cr wk sv er B D E to y R w c b).1 := by
  unfold pst
  split
  · split
    · exact h
    · exact h
  · split
    · exact h.up (isUn_gT hy (h _))
    · exact h.up (isUn_gT hy (h _))
theorem rT.upx {v : T3} {j : Nat} (h : ∀ i, rT (R i)) (hv : rT v) : ∀ i, rT (upT R j v i) := fun i => by
  unfold upT
  split
  · exact hv
  · exact h i
theorem pst_rT {b : Nat} (hg : g ≤ 1000) (h : ∀ i, rT (R i)) : ∀ i, rT ((pst al g cr wk sv er B D E to y R w c b).1 i) := by
  unfold pst
  split
  · split
    · exact h
    · exact h
  · split
    · exact rT.upx h ((h _).g hg)
    · exact rT.upx h ((h _).g hg)
theorem pst_hi {b i : Nat} (hb : b < B) (hi : B ≤ i) : (pst al g cr wk sv er B D E to y R w c b).1 i = R i := by
  unfold pst
  split
  · split <;> rfl
  · split
    · rename_i q hq
      have hlt : lkG al B b q < B := by
        split at hq
        · cases hq
        · have := cfS_lt _ _ _ hq
          exact (lkG_inv (al := al) (i := b) B q (by omega)).2.1
      exact if_neg (by omega)
    · exact if_neg (by omega)
end PLAY7
