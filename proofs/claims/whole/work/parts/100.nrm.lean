/-! ===== rows that turn conditions over ints into conditions over Nat ===== -/
theorem nI_ltL {a n : Nat} (ha : a < 2 ^ 31) (hn : (OfNat.ofNat n : Nat) < 2 ^ 31) : nI a < (no_index (OfNat.ofNat n) : Int32) ↔ a < OfNat.ofNat n := nI_ltI ha hn
theorem nI_leL {a n : Nat} (ha : a < 2 ^ 31) (hn : (OfNat.ofNat n : Nat) < 2 ^ 31) : nI a ≤ (no_index (OfNat.ofNat n) : Int32) ↔ a ≤ OfNat.ofNat n := nI_leI ha hn
theorem nI_eqL {a n : Nat} (ha : a < 2 ^ 31) (hn : (OfNat.ofNat n : Nat) < 2 ^ 31) : nI a = (no_index (OfNat.ofNat n) : Int32) ↔ a = OfNat.ofNat n := nI_eq ha hn
theorem nI_Llt {a n : Nat} (ha : a < 2 ^ 31) (hn : (OfNat.ofNat n : Nat) < 2 ^ 31) : (no_index (OfNat.ofNat n) : Int32) < nI a ↔ OfNat.ofNat n < a := nI_ltI hn ha
theorem nI_Lle {a n : Nat} (ha : a < 2 ^ 31) (hn : (OfNat.ofNat n : Nat) < 2 ^ 31) : (no_index (OfNat.ofNat n) : Int32) ≤ nI a ↔ OfNat.ofNat n ≤ a := nI_leI hn ha
theorem nI_Leq {a n : Nat} (ha : a < 2 ^ 31) (hn : (OfNat.ofNat n : Nat) < 2 ^ 31) : (no_index (OfNat.ofNat n) : Int32) = nI a ↔ OfNat.ofNat n = a := nI_eq hn ha
theorem nI_mlt {a : Nat} (ha : a < 2 ^ 31) : (-1 : Int32) < nI a ↔ True := iff_true_intro (by
  rw [Int32.lt_iff_toInt_lt, nI_toInt ha]
  have : (-1 : Int32).toInt = -1 := by decide
  omega)
theorem nI_mle {a : Nat} (ha : a < 2 ^ 31) : (-1 : Int32) ≤ nI a ↔ True := iff_true_intro (by
  rw [Int32.le_iff_toInt_le, nI_toInt ha]
  have : (-1 : Int32).toInt = -1 := by decide
  omega)
theorem nI_lem {a : Nat} (ha : a < 2 ^ 31) : nI a ≤ (-1 : Int32) ↔ False := iff_false_intro (Int32.not_le.mpr ((nI_mlt ha).mpr trivial))
theorem nI_ltm {a : Nat} (ha : a < 2 ^ 31) : nI a < (-1 : Int32) ↔ False := iff_false_intro (Int32.not_lt.mpr ((nI_mle ha).mpr trivial))
theorem nI_eqm {a : Nat} (ha : a < 2 ^ 31) : nI a = (-1 : Int32) ↔ False := iff_false_intro (fun q => (nI_lem ha).mp (by rw [q]; decide))
theorem nI_meq {a : Nat} (ha : a < 2 ^ 31) : (-1 : Int32) = nI a ↔ False := iff_false_intro (fun q => (nI_eqm ha).mp q.symm)
theorem pz_in_nI2 {j n : Nat} (h : j < n) (hn : n < 2 ^ 31) : pz_in (nI j) n = true := pz_in_nI h hn
theorem pz_in_nI2L {j n : Nat} (h : (OfNat.ofNat j : Nat) < n) (hn : n < 2 ^ 31) : pz_in (no_index (OfNat.ofNat j) : Int32) n = true := pz_in_nI h hn
theorem nI_clampL {n : Nat} (h : (OfNat.ofNat n : Nat) < 2 ^ 31) : (no_index (OfNat.ofNat n) : Int32).toNatClampNeg = OfNat.ofNat n := nI_clamp h
theorem nI_addL {a n : Nat} : nI a + (no_index (OfNat.ofNat n) : Int32) = nI (a + OfNat.ofNat n) := nI_add a n
theorem nI_Ladd {a n : Nat} : (no_index (OfNat.ofNat n) : Int32) + nI a = nI (OfNat.ofNat n + a) := nI_add n a
theorem nI_mulL {a n : Nat} : nI a * (no_index (OfNat.ofNat n) : Int32) = nI (a * OfNat.ofNat n) := pk_mul a n
theorem nI_Lmul {a n : Nat} : (no_index (OfNat.ofNat n) : Int32) * nI a = nI (OfNat.ofNat n * a) := pk_mul n a
theorem nI_subL {a n : Nat} (h : (OfNat.ofNat n : Nat) ≤ a) : nI a - (no_index (OfNat.ofNat n) : Int32) = nI (a - OfNat.ofNat n) := pk_sub (a := a) (b := n) h
theorem nI_Lsub {a n : Nat} (h : a ≤ (OfNat.ofNat n : Nat)) : (no_index (OfNat.ofNat n) : Int32) - nI a = nI (OfNat.ofNat n - a) := pk_sub (a := n) (b := a) h
theorem nI_inc {a : Nat} {n : Nat} : nI a + Int32.ofInt (no_index (OfNat.ofNat n) : Int) = nI (a + OfNat.ofNat n) := by
  rw [← nI_add]
  congr 1
theorem lgg (x y : Int64) : 0 < lg_cmp x y ↔ y < x := by
  unfold lg_cmp
  constructor
  · intro h
    split at h
    · assumption
    · split at h
      · exact absurd h (by decide)
      · exact absurd h (by decide)
  · intro h
    rw [if_pos h]
    decide
theorem lgl (x y : Int64) : lg_cmp x y < 0 ↔ x < y := by
  unfold lg_cmp
  constructor
  · intro h
    split at h
    · exact absurd h (by decide)
    · split at h
      · exact absurd h (by decide)
      · rename_i h1 h2
        have a := Int64.not_lt.mp h1
        rw [Int64.le_iff_toInt_le] at a
        rw [Int64.lt_iff_toInt_lt]
        have b : ¬ x.toInt = y.toInt := fun q => h2 (Int64.toInt_inj.mp q)
        omega
  · intro h
    have h1 : ¬ x > y := fun q => by
      have q' : y < x := q
      rw [Int64.lt_iff_toInt_lt] at q' h
      omega
    have h2 : ¬ x = y := fun q => by
      rw [q] at h
      exact Int64.lt_irrefl h
    rw [if_neg h1, if_neg h2]
    decide
theorem lgle (x y : Int64) : lg_cmp x y ≤ 0 ↔ x ≤ y := by rw [← Int32.not_lt, lgg, Int64.not_lt]
theorem lgge (x y : Int64) : 0 ≤ lg_cmp x y ↔ y ≤ x := by rw [← Int32.not_lt, lgl, Int64.not_lt]
/-- from the top down -/
theorem upto {P : Nat → Prop} {N : Nat} (h : ∀ i, i ≤ N → (∀ j, i < j → j ≤ N → P j) → P i) : ∀ i, i ≤ N → P i := by
  have key : ∀ c i, i + c = N → P i := by
    intro c
    induction c using Nat.strongRecOn with
    | ind c ih => exact fun i hi => h i (by omega) (fun j h1 h2 => ih (N - j) (by omega) j (by omega))
  exact fun i hi => key (N - i) i (by omega)
theorem vu_eq {α : Type} {f : Nat → α} {k : Nat} {x : α} : va_up f k x k = x := if_pos rfl
theorem vu_ne {α : Type} {f : Nat → α} {k j : Nat} {x : α} (h : j ≠ k) : va_up f k x j = f j := if_neg h
theorem sm.mono_x {K K' : List Nat} {M M' : pz_M} (h : sm K M M') (hs : ∀ k, k ∈ K → k ∈ K') : sm K' M M' := ⟨h.1, h.2.1, h.2.2.1, fun k hk => h.2.2.2 k (fun q => hk (hs k q))⟩
theorem po_gI {d i n : Nat} {x : Int32} {k : Option pz_O} {Q : Option Value × pz_M → Prop} (h : pz_in x n = true) (hk : po d i k Q) : po d i (pv_g (pz_in x n) k) Q := po_g h hk
