/-! ===== how many bits are set ===== -/
section BITS
variable {d : Nat} {M M' : pz_M} {Q : Option Value × pz_M → Prop}
theorem bc_and_b {a b c d : Nat} (ha : a < 256) (hc : c < 256) : (a + 256 * b) &&& (c + 256 * d) = (a &&& c) + 256 * (b &&& d) := by
  have e1 : a + 256 * b = 2 ^ 8 * b + a := by omega
  have e2 : c + 256 * d = 2 ^ 8 * d + c := by omega
  have h3 : a &&& c < 2 ^ 8 := Nat.and_lt_two_pow a hc
  have e3 : (a &&& c) + 256 * (b &&& d) = 2 ^ 8 * (b &&& d) + (a &&& c) := by omega
  rw [e1, e2, e3]
  apply Nat.eq_of_testBit_eq
  intro i
  rw [Nat.testBit_and, Nat.testBit_two_pow_mul_add _ ha, Nat.testBit_two_pow_mul_add _ hc, Nat.testBit_two_pow_mul_add _ h3]
  split
  · rw [Nat.testBit_and]
  · rw [Nat.testBit_and]
def bc_t1 (a : Nat) : Nat := a - ((a / 2) &&& 85)
def bc_t2 (a : Nat) : Nat := (bc_t1 a &&& 51) + ((bc_t1 a / 4) &&& 51)
def bc_t3 (a : Nat) : Nat := (bc_t2 a + bc_t2 a / 16) &&& 15
theorem bc_k1 : ∀ a, a < 256 → ∀ r, r < 2 → (a / 2 + 128 * r) &&& 85 = (a / 2) &&& 85 := by decide +kernel
theorem bc_k1l : ∀ a, a < 256 → ((a / 2) &&& 85) ≤ a ∧ bc_t1 a < 256 := by decide +kernel
theorem bc_k2 : ∀ a, a < 256 → ∀ r, r < 4 → (a / 4 + 64 * r) &&& 51 = (a / 4) &&& 51 := by decide +kernel
theorem bc_k2l : ∀ a, a < 256 → bc_t2 a < 256 ∧ bc_t2 a % 16 ≤ 4 ∧ bc_t2 a / 16 ≤ 4 := by decide +kernel
theorem bc_k3 : ∀ a, a < 69 → ∀ r, r < 5 → (a + a / 16 + 16 * r) &&& 15 = (a + a / 16) &&& 15 := by decide +kernel
theorem bc_k3l : ∀ a, a < 256 → bc_t3 a = cnt a.testBit 8 ∧ bc_t3 a ≤ 8 := by decide +kernel
theorem bc_st1 {a b : Nat} (m : Nat) (ha : a < 256) : ((a + 256 * b) / 2) &&& (85 + 256 * m) = ((a / 2) &&& 85) + 256 * ((b / 2) &&& m) := by
  have e : (a + 256 * b) / 2 = (a / 2 + 128 * (b % 2)) + 256 * (b / 2) := by omega
  rw [e, bc_and_b (by omega) (by decide), bc_k1 a ha (b % 2) (by omega)]
theorem bc_st2 {a b : Nat} (m : Nat) (ha : a < 256) : ((a + 256 * b) / 4) &&& (51 + 256 * m) = ((a / 4) &&& 51) + 256 * ((b / 4) &&& m) := by
  have e : (a + 256 * b) / 4 = (a / 4 + 64 * (b % 4)) + 256 * (b / 4) := by omega
  rw [e, bc_and_b (by omega) (by decide), bc_k2 a ha (b % 4) (by omega)]
theorem bc_st3 {a b : Nat} (m : Nat) (ha : a % 16 ≤ 4) (ha2 : a / 16 ≤ 4) (hb : b % 16 ≤ 4) : ((a + 256 * b) + (a + 256 * b) / 16) &&& (15 + 256 * m) = ((a + a / 16) &&& 15) + 256 * ((b + b / 16) &&& m) := by
  have e : (a + 256 * b) + (a + 256 * b) / 16 = (a + a / 16 + 16 * (b % 16)) + 256 * (b + b / 16) := by omega
  rw [e, bc_and_b (by omega) (by decide), bc_k3 a (by omega) (b % 16) (by omega)]
theorem cnt_add {p : Nat → Bool} {n : Nat} : ∀ m, cnt p (n + m) = cnt p n + cnt (fun i => p (n + i)) m
  | 0 => rfl
  | m + 1 => by
    show cnt p (n + m) + _ = cnt p n + (cnt (fun i => p (n + i)) m + _)
    rw [cnt_add m, Nat.add_assoc]
    rfl
theorem cnt_bytes {a b : Nat} (ha : a < 256) (n : Nat) : cnt (a + 256 * b).testBit (8 + n) = cnt a.testBit 8 + cnt b.testBit n := by
  have e1 : a + 256 * b = 2 ^ 8 * b + a := by omega
  rw [cnt_add, e1]
  congr 1
  · apply cnt_cong
    intro i hi
    rw [Nat.testBit_two_pow_mul_add _ ha, if_pos hi]
  · apply cnt_cong
    intro i hi
    rw [Nat.testBit_two_pow_mul_add _ ha, if_neg (by omega), Nat.add_sub_cancel_left]
theorem bc_and_z (x : Nat) : (0 : Nat) &&& x = 0 := Nat.zero_and x
theorem bc_k5 : ∀ A, A < 9 → ∀ B, B < 9 → ∀ C, C < 9 → (A + 256 * (B + 256 * (C + 256 * 0)) + (A + 256 * (B + 256 * (C + 256 * 0))) / 256 + (A + 256 * (B + 256 * (C + 256 * 0)) + (A + 256 * (B + 256 * (C + 256 * 0))) / 256) / 65536) % 2 ^ 6 = A + (B + C) := by decide +kernel
/-- the steps of the count, over three bytes -/
theorem bc_bits {D : Nat} (hD : D < 2 ^ 24) : ∃ y1 x1 y2 y3 x2 x3 : Nat, y1 = (D / 2 &&& 1431655765) ∧ y1 ≤ D ∧ x1 = D - y1 ∧ y2 = (x1 &&& 858993459) ∧ y3 = (x1 / 4 &&& 858993459) ∧ x2 = y2 + y3 ∧ x2 < 2 ^ 24 ∧ x3 = (x2 + x2 / 16 &&& 252645135) ∧ x3 < 2 ^ 24 ∧ (x3 + x3 / 256 + (x3 + x3 / 256) / 65536) % 2 ^ 6 = cnt D.testBit 24 := by
  obtain ⟨a, b, c, ha, hb, hc, rfl⟩ : ∃ a b c, a < 256 ∧ b < 256 ∧ c < 256 ∧ D = a + 256 * (b + 256 * (c + 256 * 0)) := ⟨D % 256, D / 256 % 256, D / 65536, by omega, by omega, by omega, by omega⟩
  have A := bc_k1l a ha
  have B := bc_k1l b hb
  have C := bc_k1l c hc
  have A2 := bc_k2l a ha
  have B2 := bc_k2l b hb
  have C2 := bc_k2l c hc
  have A3 := bc_k3l a ha
  have B3 := bc_k3l b hb
  have C3 := bc_k3l c hc
  have e1 : (a + 256 * (b + 256 * (c + 256 * 0))) / 2 &&& 1431655765 = ((a / 2) &&& 85) + 256 * (((b / 2) &&& 85) + 256 * (((c / 2) &&& 85) + 256 * 0)) := by
    rw [show (1431655765 : Nat) = 85 + 256 * (85 + 256 * (85 + 256 * 85)) from rfl, bc_st1 _ ha, bc_st1 _ hb, bc_st1 _ hc]
    simp
  have x1e : (a + 256 * (b + 256 * (c + 256 * 0))) - (((a / 2) &&& 85) + 256 * (((b / 2) &&& 85) + 256 * (((c / 2) &&& 85) + 256 * 0))) = bc_t1 a + 256 * (bc_t1 b + 256 * (bc_t1 c + 256 * 0)) := by
    unfold bc_t1
    omega
  have e2 : (bc_t1 a + 256 * (bc_t1 b + 256 * (bc_t1 c + 256 * 0))) &&& 858993459 = (bc_t1 a &&& 51) + 256 * ((bc_t1 b &&& 51) + 256 * ((bc_t1 c &&& 51) + 256 * 0)) := by
    rw [show (858993459 : Nat) = 51 + 256 * (51 + 256 * (51 + 256 * 51)) from rfl, bc_and_b A.2 (by decide), bc_and_b B.2 (by decide), bc_and_b C.2 (by decide)]
    simp
  have e3 : (bc_t1 a + 256 * (bc_t1 b + 256 * (bc_t1 c + 256 * 0))) / 4 &&& 858993459 = ((bc_t1 a / 4) &&& 51) + 256 * (((bc_t1 b / 4) &&& 51) + 256 * (((bc_t1 c / 4) &&& 51) + 256 * 0)) := by
    rw [show (858993459 : Nat) = 51 + 256 * (51 + 256 * (51 + 256 * 51)) from rfl, bc_st2 _ A.2, bc_st2 _ B.2, bc_st2 _ C.2]
    simp
  have x2e : ((bc_t1 a &&& 51) + 256 * ((bc_t1 b &&& 51) + 256 * ((bc_t1 c &&& 51) + 256 * 0))) + (((bc_t1 a / 4) &&& 51) + 256 * (((bc_t1 b / 4) &&& 51) + 256 * (((bc_t1 c / 4) &&& 51) + 256 * 0))) = bc_t2 a + 256 * (bc_t2 b + 256 * (bc_t2 c + 256 * 0)) := by
    unfold bc_t2
    omega
  have e4 : (bc_t2 a + 256 * (bc_t2 b + 256 * (bc_t2 c + 256 * 0))) + (bc_t2 a + 256 * (bc_t2 b + 256 * (bc_t2 c + 256 * 0))) / 16 &&& 252645135 = bc_t3 a + 256 * (bc_t3 b + 256 * (bc_t3 c + 256 * 0)) := by
    rw [show (252645135 : Nat) = 15 + 256 * (15 + 256 * (15 + 256 * 15)) from rfl, bc_st3 _ A2.2.1 A2.2.2 (by omega), bc_st3 _ B2.2.1 B2.2.2 (by omega), bc_st3 _ C2.2.1 C2.2.2 (by decide)]
    simp [bc_t3]
  refine ⟨_, _, _, _, _, _, rfl, ?_, rfl, rfl, rfl, rfl, ?_, rfl, ?_, ?_⟩
  · rw [e1]; omega
  · rw [e1, x1e, e2, e3, x2e]; omega
  · rw [e1, x1e, e2, e3, x2e, e4]; omega
  · rw [e1, x1e, e2, e3, x2e, e4, show (24 : Nat) = 8 + 16 from rfl, cnt_bytes ha, show (16 : Nat) = 8 + 8 from rfl, cnt_bytes hb, show c + 256 * 0 = c from rfl, ← A3.1, ← B3.1, ← C3.1]
    exact bc_k5 _ (by omega) _ (by omega) _ (by omega)
theorem ev_ild0N {x : Int32} {f pc a b z : Nat} {es : List pz_E} {M : pz_M} {st : List Value} {L : pz_L} : pz_evB f ((pc, .iload_n 0, a, b, z) :: es) (some (.int x) :: L) (st) M = pz_evB f es (some (.int x) :: L) (.int x :: st) M := id rfl
theorem ev_ic1N {f pc a b z : Nat} {es : List pz_E} {M : pz_M} {st : List Value} {L : pz_L} : pz_evB f ((pc, .iconst 1, a, b, z) :: es) L (st) M = pz_evB f es L (.int 1 :: st) M := id rfl
theorem ev_ldc_w1431655765N {q : Nat} {f pc b z : Nat} {es : List pz_E} {M : pz_M} {st : List Value} {L : pz_L} : pz_evB f ((pc, .ldc_w q, 1431655765, b, z) :: es) L (st) M = pz_evB f es L (.int 1431655765 :: st) M := id rfl
theorem ev_iandN {x y : Int32} {f pc a b z : Nat} {es : List pz_E} {M : pz_M} {st : List Value} {L : pz_L} : pz_evB f ((pc, .iand, a, b, z) :: es) L (.int y :: .int x :: st) M = pz_evB f es L (.int (x &&& y) :: st) M := id rfl
theorem ev_isubN {x y : Int32} {f pc a b z : Nat} {es : List pz_E} {M : pz_M} {st : List Value} {L : pz_L} : pz_evB f ((pc, .isub, a, b, z) :: es) L (.int y :: .int x :: st) M = pz_evB f es L (.int (x - y) :: st) M := id rfl
theorem ev_ist0N {y : Option Value} {x : Int32} {f pc a b z : Nat} {es : List pz_E} {M : pz_M} {st : List Value} {L : pz_L} : pz_evB f ((pc, .istore_n 0, a, b, z) :: es) (y :: L) (.int x :: st) M = pz_evB f es (some (.int x) :: L) (st) M := id rfl
theorem ev_ldc_w858993459N {q : Nat} {f pc b z : Nat} {es : List pz_E} {M : pz_M} {st : List Value} {L : pz_L} : pz_evB f ((pc, .ldc_w q, 858993459, b, z) :: es) L (st) M = pz_evB f es L (.int 858993459 :: st) M := id rfl
theorem ev_ic2N {f pc a b z : Nat} {es : List pz_E} {M : pz_M} {st : List Value} {L : pz_L} : pz_evB f ((pc, .iconst 2, a, b, z) :: es) L (st) M = pz_evB f es L (.int 2 :: st) M := id rfl
theorem ev_ic4N {f pc a b z : Nat} {es : List pz_E} {M : pz_M} {st : List Value} {L : pz_L} : pz_evB f ((pc, .iconst 4, a, b, z) :: es) L (st) M = pz_evB f es L (.int 4 :: st) M := id rfl
theorem ev_ldc_w252645135N {q : Nat} {f pc b z : Nat} {es : List pz_E} {M : pz_M} {st : List Value} {L : pz_L} : pz_evB f ((pc, .ldc_w q, 252645135, b, z) :: es) L (st) M = pz_evB f es L (.int 252645135 :: st) M := id rfl
theorem ev_bp8N {f pc a b z : Nat} {es : List pz_E} {M : pz_M} {st : List Value} {L : pz_L} : pz_evB f ((pc, .bipush 8, a, b, z) :: es) L (st) M = pz_evB f es L (.int 8 :: st) M := id rfl
theorem ev_bp63N {f pc a b z : Nat} {es : List pz_E} {M : pz_M} {st : List Value} {L : pz_L} : pz_evB f ((pc, .bipush 63, a, b, z) :: es) L (st) M = pz_evB f es L (.int 63 :: st) M := id rfl
theorem and_nI (a b : Nat) : nI a &&& nI b = nI (a &&& b) := by
  apply Int32.toBitVec_inj.mp
  show BitVec.ofNat 32 a &&& BitVec.ofNat 32 b = BitVec.ofNat 32 (a &&& b)
  apply BitVec.eq_of_toNat_eq
  rw [BitVec.toNat_and, BitVec.toNat_ofNat, BitVec.toNat_ofNat, BitVec.toNat_ofNat, Nat.and_mod_two_pow]
theorem ush {a k : Nat} {y : Int32} (ha : a < 2 ^ 31) (hy : ((y.toUInt32 &&& Int32.toUInt32 31).toBitVec % 32#32).toNat = k) : ((nI a).toUInt32 >>> (y.toUInt32 &&& Int32.toUInt32 31)).toInt32 = nI (a / 2 ^ k) := by
  apply Int32.toBitVec_inj.mp
  show BitVec.ofNat 32 a >>> ((y.toUInt32 &&& Int32.toUInt32 31).toBitVec % 32#32).toNat = BitVec.ofNat 32 (a / 2 ^ k)
  rw [hy]
  apply BitVec.eq_of_toNat_eq
  have h1 : a / 2 ^ k ≤ a := Nat.div_le_self _ _
  rw [BitVec.toNat_ushiftRight, BitVec.toNat_ofNat, BitVec.toNat_ofNat, Nat.mod_eq_of_lt (by omega), Nat.mod_eq_of_lt (by omega), Nat.shiftRight_eq_div_pow]
theorem m_bitCount {D : Nat} (hD : D < 2 ^ 24) (h : Q (some (.int (nI (cnt D.testBit 24))), M)) : pm d 133 [.int (nI D)] M Q := by
  obtain ⟨y1, x1, y2, y3, x2, x3, e1, e2, e3, e4, e5, e6, e7, e8, e9, e10⟩ := bc_bits hD
  have f1 : ((nI D).toUInt32 >>> (Int32.toUInt32 1 &&& Int32.toUInt32 31)).toInt32 = nI (D / 2) := ush (k := 1) (by omega) (by decide)
  have f2 : nI (D / 2) &&& 1431655765 = nI y1 := by rw [e1]; exact and_nI _ _
  have f3 : nI D - nI y1 = nI x1 := by rw [e3]; exact pk_sub e2
  have hx1 : x1 < 2 ^ 24 := by omega
  have f4 : nI x1 &&& 858993459 = nI y2 := by rw [e4]; exact and_nI _ _
  have f5 : ((nI x1).toUInt32 >>> (Int32.toUInt32 2 &&& Int32.toUInt32 31)).toInt32 = nI (x1 / 4) := ush (k := 2) (by omega) (by decide)
  have f6 : nI (x1 / 4) &&& 858993459 = nI y3 := by rw [e5]; exact and_nI _ _
  have f7 : nI y2 + nI y3 = nI x2 := by rw [e6]; exact nI_add _ _
  have f8 : ((nI x2).toUInt32 >>> (Int32.toUInt32 4 &&& Int32.toUInt32 31)).toInt32 = nI (x2 / 16) := ush (k := 4) (by omega) (by decide)
  have f9 : nI x2 + nI (x2 / 16) = nI (x2 + x2 / 16) := nI_add _ _
  have f10 : nI (x2 + x2 / 16) &&& 252645135 = nI x3 := by rw [e8]; exact and_nI _ _
  have f11 : ((nI x3).toUInt32 >>> (Int32.toUInt32 8 &&& Int32.toUInt32 31)).toInt32 = nI (x3 / 256) := ush (k := 8) (by omega) (by decide)
  have f12 : nI x3 + nI (x3 / 256) = nI (x3 + x3 / 256) := nI_add _ _
  have f13 : ((nI (x3 + x3 / 256)).toUInt32 >>> (Int32.toUInt32 16 &&& Int32.toUInt32 31)).toInt32 = nI ((x3 + x3 / 256) / 65536) := ush (k := 16) (by omega) (by decide)
  have f14 : nI (x3 + x3 / 256) + nI ((x3 + x3 / 256) / 65536) = nI (x3 + x3 / 256 + (x3 + x3 / 256) / 65536) := nI_add _ _
  have f15 : nI (x3 + x3 / 256 + (x3 + x3 / 256) / 65536) &&& 63 = nI (cnt D.testBit 24) := by rw [pk_andN (by omega) 6 (by decide), e10]
  generalize nI D = w0 at f1 f3 ⊢
  generalize nI (D / 2) = w1 at f1 f2
  generalize nI y1 = w2 at f2 f3
  generalize nI x1 = w3 at f3 f4 f5
  generalize nI y2 = w4 at f4 f7
  generalize nI (x1 / 4) = w5 at f5 f6
  generalize nI y3 = w6 at f6 f7
  generalize nI x2 = w7 at f7 f8 f9
  generalize nI (x2 / 16) = w8 at f8 f9
  generalize nI (x2 + x2 / 16) = w9 at f9 f10
  generalize nI x3 = wa at f10 f11 f12
  generalize nI (x3 / 256) = wb at f11 f12
  generalize nI (x3 + x3 / 256) = wc at f12 f13 f14
  generalize nI ((x3 + x3 / 256) / 65536) = wd at f13 f14
  generalize nI (x3 + x3 / 256 + (x3 + x3 / 256) / 65536) = we at f14 f15
  clear e1 e2 e3 e4 e5 e6 e7 e8 e9 e10
  refine pm_ent (L := [some (.int w0)]) rfl (Nat.le_of_ble_eq_true rfl) ?_
  refine pw_blk (mi := mz_133) (b := bz_133_0) rfl rfl ?_
  simp only [bz_133_0, pz_cut_t, pz_cut_f, pz_cut_n, pv_gt, pv_ts, pv_tn, ev_ild0N, ev_ic1N, ev_iushrN, ev_ldc_w1431655765N, ev_iandN, ev_isubN, ev_ist0N, ev_ldc_w858993459N, ev_ic2N, ev_iaddN, ev_ic4N, ev_ldc_w252645135N, ev_bp8N, ev_bp16N, ev_bp63N, ev_iret0N, pz_wi_gc, pz_wi_ga, pz_wi_gn, pz_wi_gl, pz_wi_gr, pz_wi_same, pz_wi_X, pz_wl_gc, pz_wl_ga, pz_wl_gn, pz_wl_gi, pz_wl_gr, pz_wl_same, pz_wl_X, pz_wr_gc, pz_wr_ga, pz_wr_gn, pz_wr_gi, pz_wr_gl, pz_wr_same, pz_wr_X, f1, f2, f3, f4, f5, f6, f7, f8, f9, f10, f11, f12, f13, f14, f15]
  (try simp (disch := omega) only [nI_clamp, pz_in_nI2, pz_in_nI2L, pv_gt, nI_add, nI_addL, nI_Ladd, pk_mul, nI_mulL, nI_Lmul, pk_sub, nI_subL, nI_Lsub, nI_inc, nI_clampL, Nat.add_sub_cancel, pz_wi_else, pz_wl_else, vu_eq, vu_ne, pz_wi_gc, pz_wi_ga, pz_wi_gn, pz_wi_gl, pz_wi_gr, pz_wi_same, pz_wi_X, pz_wl_gc, pz_wl_ga, pz_wl_gn, pz_wl_gi, pz_wl_gr, pz_wl_same, pz_wl_X, pz_wr_gc, pz_wr_ga, pz_wr_gn, pz_wr_gi, pz_wr_gl, pz_wr_same, pz_wr_X, f1, f2, f3, f4, f5, f6, f7, f8, f9, f10, f11, f12, f13, f14, f15])
  exact po_ret h
end BITS
