section ALIKE2
variable {d : Nat} {M : pz_M} {Q : Option Value × pz_M → Prop}
theorem okB.nI (h : okB M) : bank M = nI (bk M) ∧ bk M < 2 := by
  unfold bk
  rcases h with h | h <;> rw [h] <;> exact ⟨rfl, by decide⟩
/-- the reference's looks -/
def rlk (M : pz_M) (b : Nat) : Int64 := gl M 136 (24 * bk M + b)
theorem r_lookOf (hS : SH M) (hO : okB M) {b : Nat} (hb : b < 24) (h : Q (some (.long (rlk M b)), M)) : pm d 200 [.ref 120, .int (nI b)] M Q := by
  obtain ⟨e0, hk⟩ := hO.nI
  have e1 : (24 : Int32) * bank M + nI b = nI (24 * bk M + b) := by
    rw [e0]
    show nI 24 * nI (bk M) + nI b = _
    rw [pk_mul, nI_add]
  have i1 : pz_in (nI (24 * bk M + b)) 48 = true := pz_in_nI (by omega) (by decide)
  have c1 : (nI (24 * bk M + b)).toNatClampNeg = 24 * bk M + b := nI_clamp (by omega)
  unfold bank at e1
  refine pm_ent (L := [some (.ref 120), some (.int (nI b))]) rfl (Nat.le_of_ble_eq_true rfl) ?_
  refine pw_blk (mi := mz_200) (b := bz_200_0) rfl rfl ?_
  simp only [bz_200_0, pz_cut_t, pz_cut_f, pz_cut_n, pv_gt, pv_ts, pv_tn, ev_ald0, ev_eld0, ev_gf11_2, ev_bp24, ev_gf11_0, ev_imul, ev_ild1, ev_iadd, ea_lald, ev_lret, pz_wi_gc, pz_wi_ga, pz_wi_gn, pz_wi_gl, pz_wi_gr, pz_wi_same, pz_wi_X, pz_wl_gc, pz_wl_ga, pz_wl_gn, pz_wl_gi, pz_wl_gr, pz_wl_same, pz_wl_X, pz_wr_gc, pz_wr_ga, pz_wr_gn, pz_wr_gi, pz_wr_gl, pz_wr_same, pz_wr_X, so_120 hS, sr_120_25 hS, sa_136 hS, sn_136 hS, e1, i1, c1]
  exact h
theorem l_alikeOf (hd : 1 ≤ d) (hS : SH M) (hO : okB M) {a b : Nat} (ha : a < 24) (hb : b < 24) : ∀ (c n : Nat), n + c = 9 → Q (some (.int (nI (alk (rlk M) a b c n))), M) → pw d 111 (2, [some (.ref 120), some (.int (nI a)), some (.int (nI b)), some (.int (nI n))], [], M) Q := by
  intro c
  induction c with
  | zero =>
    intro n hn h
    have hn' : n = 9 := by omega
    subst hn'
    refine pw_blk (mi := mz_111) (b := bz_111_2) rfl rfl ?_
    simp only [bz_111_2, pz_cut_t, pz_cut_f, pz_cut_n, pv_gt, pv_ts, pv_tn, ev_ild3, ev_bp9, ev_ic_ge, pz_wi_gc, pz_wi_ga, pz_wi_gn, pz_wi_gl, pz_wi_gr, pz_wi_same, pz_wi_X, pz_wl_gc, pz_wl_ga, pz_wl_gn, pz_wl_gi, pz_wl_gr, pz_wl_same, pz_wl_X, pz_wr_gc, pz_wr_ga, pz_wr_gn, pz_wr_gi, pz_wr_gl, pz_wr_same, pz_wr_X]
    refine po_brP (fun _ => ?_) (fun q => absurd (nI_le (Nat.le_refl 9) (by decide)) q)
    refine pw_blk (mi := mz_111) (b := bz_111_42) rfl rfl ?_
    simp only [bz_111_42, pz_cut_t, pz_cut_f, pz_cut_n, pv_gt, pv_ts, pv_tn, ev_ild3, ev_iret0, pz_wi_gc, pz_wi_ga, pz_wi_gn, pz_wi_gl, pz_wi_gr, pz_wi_same, pz_wi_X, pz_wl_gc, pz_wl_ga, pz_wl_gn, pz_wl_gi, pz_wl_gr, pz_wl_same, pz_wl_X, pz_wr_gc, pz_wr_ga, pz_wr_gn, pz_wr_gi, pz_wr_gl, pz_wr_same, pz_wr_X]
    exact h
  | succ c ih =>
    intro n hn h
    refine pw_blk (mi := mz_111) (b := bz_111_2) rfl rfl ?_
    simp only [bz_111_2, pz_cut_t, pz_cut_f, pz_cut_n, pv_gt, pv_ts, pv_tn, ev_ild3, ev_bp9, ev_ic_ge, pz_wi_gc, pz_wi_ga, pz_wi_gn, pz_wi_gl, pz_wi_gr, pz_wi_same, pz_wi_X, pz_wl_gc, pz_wl_ga, pz_wl_gn, pz_wl_gi, pz_wl_gr, pz_wl_same, pz_wl_X, pz_wr_gc, pz_wr_ga, pz_wr_gn, pz_wr_gi, pz_wr_gl, pz_wr_same, pz_wr_X]
    refine po_brP (fun q => absurd q (nI_ge (b := 9) (by omega) (by decide))) (fun _ => ?_)
    refine pw_blk (mi := mz_111) (b := bz_111_8) rfl rfl ?_
    simp only [bz_111_8, pz_cut_t, pz_cut_f, pz_cut_n, pv_gt, pv_ts, pv_tn, ev_ild3, ev_ild1, ev_ic_gt, pz_wi_gc, pz_wi_ga, pz_wi_gn, pz_wi_gl, pz_wi_gr, pz_wi_same, pz_wi_X, pz_wl_gc, pz_wl_ga, pz_wl_gn, pz_wl_gi, pz_wl_gr, pz_wl_same, pz_wl_X, pz_wr_gc, pz_wr_ga, pz_wr_gn, pz_wr_gi, pz_wr_gl, pz_wr_same, pz_wr_X]
    refine po_brP (fun q => ?_) (fun q => ?_)
    · refine pw_blk (mi := mz_111) (b := bz_111_42) rfl rfl ?_
      simp only [bz_111_42, pz_cut_t, pz_cut_f, pz_cut_n, pv_gt, pv_ts, pv_tn, ev_ild3, ev_iret0, pz_wi_gc, pz_wi_ga, pz_wi_gn, pz_wi_gl, pz_wi_gr, pz_wi_same, pz_wi_X, pz_wl_gc, pz_wl_ga, pz_wl_gn, pz_wl_gi, pz_wl_gr, pz_wl_same, pz_wl_X, pz_wr_gc, pz_wr_ga, pz_wr_gn, pz_wr_gi, pz_wr_gl, pz_wr_same, pz_wr_X]
      rw [alk, if_neg (fun z => absurd q (nI_nlt z.1 (by omega)))] at h
      exact h
    · have hna : n ≤ a := (Nat.lt_or_ge a n).elim (fun z => absurd (nI_lt z (by omega)) q) id
      refine pw_blk (mi := mz_111) (b := bz_111_13) rfl rfl ?_
      simp only [bz_111_13, pz_cut_t, pz_cut_f, pz_cut_n, pv_gt, pv_ts, pv_tn, ev_ild3, ev_ild2, ev_ic_gt, pz_wi_gc, pz_wi_ga, pz_wi_gn, pz_wi_gl, pz_wi_gr, pz_wi_same, pz_wi_X, pz_wl_gc, pz_wl_ga, pz_wl_gn, pz_wl_gi, pz_wl_gr, pz_wl_same, pz_wl_X, pz_wr_gc, pz_wr_ga, pz_wr_gn, pz_wr_gi, pz_wr_gl, pz_wr_same, pz_wr_X]
      refine po_brP (fun q2 => ?_) (fun q2 => ?_)
      · refine pw_blk (mi := mz_111) (b := bz_111_42) rfl rfl ?_
        simp only [bz_111_42, pz_cut_t, pz_cut_f, pz_cut_n, pv_gt, pv_ts, pv_tn, ev_ild3, ev_iret0, pz_wi_gc, pz_wi_ga, pz_wi_gn, pz_wi_gl, pz_wi_gr, pz_wi_same, pz_wi_X, pz_wl_gc, pz_wl_ga, pz_wl_gn, pz_wl_gi, pz_wl_gr, pz_wl_same, pz_wl_X, pz_wr_gc, pz_wr_ga, pz_wr_gn, pz_wr_gi, pz_wr_gl, pz_wr_same, pz_wr_X]
        rw [alk, if_neg (fun z => absurd q2 (nI_nlt z.2.1 (by omega)))] at h
        exact h
      · have hnb : n ≤ b := (Nat.lt_or_ge b n).elim (fun z => absurd (nI_lt z (by omega)) q2) id
        have e1 : nI a - nI n = nI (a - n) := pk_sub hna
        have e2 : nI b - nI n = nI (b - n) := pk_sub hnb
        refine pw_blk (mi := mz_111) (b := bz_111_18) rfl rfl ?_
        simp only [bz_111_18, pz_cut_t, pz_cut_f, pz_cut_n, pv_gt, pv_ts, pv_tn, ev_ald0, ev_eld0, ev_ild1, ev_ild3, ev_isub, ev_cv1_11, pz_wi_gc, pz_wi_ga, pz_wi_gn, pz_wi_gl, pz_wi_gr, pz_wi_same, pz_wi_X, pz_wl_gc, pz_wl_ga, pz_wl_gn, pz_wl_gi, pz_wl_gr, pz_wl_same, pz_wl_X, pz_wr_gc, pz_wr_ga, pz_wr_gn, pz_wr_gi, pz_wr_gl, pz_wr_same, pz_wr_X, so_120 hS, e1, ev_cv1_11]
        refine po_gP (Nat.le_of_ble_eq_true rfl) (po_call hd (r_lookOf hS hO (by omega) ?_))
        refine pw_blk (mi := mz_111) (b := bz_111_25) rfl rfl ?_
        simp only [bz_111_25, pz_cut_t, pz_cut_f, pz_cut_n, pv_gt, pv_ts, pv_tn, ev_ald0, ev_eld0, ev_ild2, ev_ild3, ev_isub, ev_cv1_11, pz_wi_gc, pz_wi_ga, pz_wi_gn, pz_wi_gl, pz_wi_gr, pz_wi_same, pz_wi_X, pz_wl_gc, pz_wl_ga, pz_wl_gn, pz_wl_gi, pz_wl_gr, pz_wl_same, pz_wl_X, pz_wr_gc, pz_wr_ga, pz_wr_gn, pz_wr_gi, pz_wr_gl, pz_wr_same, pz_wr_X, so_120 hS, e2, ev_cv1_11]
        refine po_gP (Nat.le_of_ble_eq_true rfl) (po_call hd (r_lookOf hS hO (by omega) ?_))
        refine pw_blk (mi := mz_111) (b := bz_111_32) rfl rfl ?_
        simp only [bz_111_32, pz_cut_t, pz_cut_f, pz_cut_n, pv_gt, pv_ts, pv_tn, ev_lcmp, ev_ifne, pz_wi_gc, pz_wi_ga, pz_wi_gn, pz_wi_gl, pz_wi_gr, pz_wi_same, pz_wi_X, pz_wl_gc, pz_wl_ga, pz_wl_gn, pz_wl_gi, pz_wl_gr, pz_wl_same, pz_wl_X, pz_wr_gc, pz_wr_ga, pz_wr_gn, pz_wr_gi, pz_wr_gl, pz_wr_same, pz_wr_X]
        refine po_brP (fun q3 => ?_) (fun q3 => ?_)
        · refine pw_blk (mi := mz_111) (b := bz_111_42) rfl rfl ?_
          simp only [bz_111_42, pz_cut_t, pz_cut_f, pz_cut_n, pv_gt, pv_ts, pv_tn, ev_ild3, ev_iret0, pz_wi_gc, pz_wi_ga, pz_wi_gn, pz_wi_gl, pz_wi_gr, pz_wi_same, pz_wi_X, pz_wl_gc, pz_wl_ga, pz_wl_gn, pz_wl_gi, pz_wl_gr, pz_wl_same, pz_wl_X, pz_wr_gc, pz_wr_ga, pz_wr_gn, pz_wr_gi, pz_wr_gl, pz_wr_same, pz_wr_X]
          rw [alk, if_neg (fun z => q3 ((lg0 _ _).mpr z.2.2))] at h
          exact h
        · refine pw_blk (mi := mz_111) (b := bz_111_36) rfl rfl ?_
          simp only [bz_111_36, pz_cut_t, pz_cut_f, pz_cut_n, pv_gt, pv_ts, pv_tn, ev_inc3n, ev_inc3i, ev_inc3r, ev_inc3e, ev_goto, pz_wi_gc, pz_wi_ga, pz_wi_gn, pz_wi_gl, pz_wi_gr, pz_wi_same, pz_wi_X, pz_wl_gc, pz_wl_ga, pz_wl_gn, pz_wl_gi, pz_wl_gr, pz_wl_same, pz_wl_X, pz_wr_gc, pz_wr_ga, pz_wr_gn, pz_wr_gi, pz_wr_gl, pz_wr_same, pz_wr_X, inc1]
          rw [alk, if_pos ⟨hna, hnb, (lg0 _ _).mp (Decidable.not_not.mp q3)⟩] at h
          refine po_go ?_
          exact ih (n + 1) (by omega) h
theorem r_alikeOf (hd : 1 ≤ d) (hS : SH M) (hO : okB M) {a b : Nat} (ha : a < 24) (hb : b < 24) (h : Q (some (.int (nI (alk (rlk M) a b 9 0))), M)) : pm d 111 [.ref 120, .int (nI a), .int (nI b)] M Q := by
  refine pm_ent (L := [some (.ref 120), some (.int (nI a)), some (.int (nI b)), none]) rfl (Nat.le_of_ble_eq_true rfl) ?_
  refine pw_blk (mi := mz_111) (b := bz_111_0) rfl rfl ?_
  simp only [bz_111_0, pz_cut_t, pz_cut_f, pz_cut_n, pv_gt, pv_ts, pv_tn, ev_ic0, ev_ist3n, ev_ist3i, ev_ist3r, ev_ist3e, ev_ist3l, ev_nil, pz_wi_gc, pz_wi_ga, pz_wi_gn, pz_wi_gl, pz_wi_gr, pz_wi_same, pz_wi_X, pz_wl_gc, pz_wl_ga, pz_wl_gn, pz_wl_gi, pz_wl_gr, pz_wl_same, pz_wl_X, pz_wr_gc, pz_wr_ga, pz_wr_gn, pz_wr_gi, pz_wr_gl, pz_wr_same, pz_wr_X]
  refine po_go ?_
  exact l_alikeOf hd hS hO ha hb 9 0 (by omega) h
theorem alk_ge (lk : Nat → Int64) (a b : Nat) : ∀ c n, n ≤ alk lk a b c n
  | 0, n => Nat.le_refl n
  | c + 1, n => by
    unfold alk
    split
    · have := alk_ge lk a b c (n + 1)
      omega
    · exact Nat.le_refl n
theorem alk_le (lk : Nat → Int64) (a b : Nat) : ∀ c n, alk lk a b c n ≤ n + c
  | 0, n => Nat.le_refl n
  | c + 1, n => by
    unfold alk
    split
    · have := alk_le lk a b c (n + 1)
      omega
    · omega
theorem alk_pos {lk : Nat → Int64} {a b : Nat} : alk lk a b 9 0 = 0 ↔ ¬ lk a = lk b := by
  rw [alk]
  constructor
  · intro h e
    rw [if_pos ⟨Nat.zero_le _, Nat.zero_le _, e⟩] at h
    have := alk_ge lk a b 8 (0 + 1)
    omega
  · intro h
    rw [if_neg (fun z => h z.2.2)]
theorem alk_cong {lk lk' : Nat → Int64} {a b B : Nat} (h : ∀ i j, i < B → j < B → (lk i = lk j ↔ lk' i = lk' j)) (ha : a < B) (hb : b < B) : ∀ c n, alk lk a b c n = alk lk' a b c n
  | 0, n => rfl
  | c + 1, n => by
    unfold alk
    rw [alk_cong h ha hb c (n + 1)]
    by_cases h1 : n ≤ a ∧ n ≤ b ∧ lk (a - n) = lk (b - n)
    · rw [if_pos h1, if_pos ⟨h1.1, h1.2.1, (h _ _ (by omega) (by omega)).mp h1.2.2⟩]
    · rw [if_neg h1, if_neg (fun z => h1 ⟨z.1, z.2.1, (h _ _ (by omega) (by omega)).mpr z.2.2⟩)]
/-- a fork at a, b of B bars -/
def isFk (lk : Nat → Int64) (B a b : Nat) : Bool := decide (lk a = lk b) && (decide (B ≤ b + 1) || decide (¬ lk (a + 1) = lk (b + 1)))
theorem m_forksAt (hS : SH M) {a b B : Nat} (hn : gi M 4 0 = nI B) (hB : B ≤ 24) (hab : a < b) (hb : b < B) (h1 : isFk (gl M 5) B a b = true → Q (some (.int 1), M)) (h0 : isFk (gl M 5) B a b = false → Q (some (.int 0), M)) : pm d 112 [.ref 4, .int (nI a), .int (nI b)] M Q := by
  have i1 : pz_in (nI a) 24 = true := pz_in_nI (by omega) (by decide)
  have i2 : pz_in (nI b) 24 = true := pz_in_nI (by omega) (by decide)
  have c1 : (nI a).toNatClampNeg = a := nI_clamp (by omega)
  have c2 : (nI b).toNatClampNeg = b := nI_clamp (by omega)
  refine pm_ent (L := [some (.ref 4), some (.int (nI a)), some (.int (nI b))]) rfl (Nat.le_of_ble_eq_true rfl) ?_
  refine pw_blk (mi := mz_112) (b := bz_112_0) rfl rfl ?_
  simp only [bz_112_0, pz_cut_t, pz_cut_f, pz_cut_n, pv_gt, pv_ts, pv_tn, ev_ald0, ev_eld0, ev_gf8_2, ev_ild1, ea_lald, ev_ild2, ev_lcmp, ev_ifeq, pz_wi_gc, pz_wi_ga, pz_wi_gn, pz_wi_gl, pz_wi_gr, pz_wi_same, pz_wi_X, pz_wl_gc, pz_wl_ga, pz_wl_gn, pz_wl_gi, pz_wl_gr, pz_wl_same, pz_wl_X, pz_wr_gc, pz_wr_ga, pz_wr_gn, pz_wr_gi, pz_wr_gl, pz_wr_same, pz_wr_X, so_4 hS, sr_4_1 hS, sa_5 hS, sn_5 hS, i1, i2, c1, c2]
  refine po_brP (fun q => ?_) (fun q => ?_)
  · have hq := (lg0 _ _).mp q
    refine pw_blk (mi := mz_112) (b := bz_112_18) rfl rfl ?_
    simp only [bz_112_18, pz_cut_t, pz_cut_f, pz_cut_n, pv_gt, pv_ts, pv_tn, ev_ild2, ev_ic1, ev_iadd, ev_ald0, ev_eld0, ev_gf8_0, ev_ic_ge, pz_wi_gc, pz_wi_ga, pz_wi_gn, pz_wi_gl, pz_wi_gr, pz_wi_same, pz_wi_X, pz_wl_gc, pz_wl_ga, pz_wl_gn, pz_wl_gi, pz_wl_gr, pz_wl_same, pz_wl_X, pz_wr_gc, pz_wr_ga, pz_wr_gn, pz_wr_gi, pz_wr_gl, pz_wr_same, pz_wr_X, so_4 hS, hn, nI_1]
    refine po_brP (fun q2 => ?_) (fun q2 => ?_)
    · refine pw_blk (mi := mz_112) (b := bz_112_48) rfl rfl ?_
      simp only [bz_112_48, pz_cut_t, pz_cut_f, pz_cut_n, pv_gt, pv_ts, pv_tn, ev_ic1, ev_goto, pz_wi_gc, pz_wi_ga, pz_wi_gn, pz_wi_gl, pz_wi_gr, pz_wi_same, pz_wi_X, pz_wl_gc, pz_wl_ga, pz_wl_gn, pz_wl_gi, pz_wl_gr, pz_wl_same, pz_wl_X, pz_wr_gc, pz_wr_ga, pz_wr_gn, pz_wr_gi, pz_wr_gl, pz_wr_same, pz_wr_X]
      refine pw_blk (mi := mz_112) (b := bz_112_53) rfl rfl ?_
      simp only [bz_112_53, pz_cut_t, pz_cut_f, pz_cut_n, pv_gt, pv_ts, pv_tn, ev_iret1, pz_wi_gc, pz_wi_ga, pz_wi_gn, pz_wi_gl, pz_wi_gr, pz_wi_same, pz_wi_X, pz_wl_gc, pz_wl_ga, pz_wl_gn, pz_wl_gi, pz_wl_gr, pz_wl_same, pz_wl_X, pz_wr_gc, pz_wr_ga, pz_wr_gn, pz_wr_gi, pz_wr_gl, pz_wr_same, pz_wr_X]
      have hB1 : B ≤ b + 1 := (nI_leI (by omega) (by omega)).mp q2
      first | exact po_ret (h1 (by unfold isFk; rw [decide_eq_true hq, decide_eq_true hB1]; rfl)) | exact po_gP (by decide) (po_ret (h1 (by unfold isFk; rw [decide_eq_true hq, decide_eq_true hB1]; rfl)))
    · have hB1 : ¬ B ≤ b + 1 := fun z => q2 ((nI_leI (by omega) (by omega)).mpr z)
      have i3 : pz_in (nI (a + 1)) 24 = true := pz_in_nI (by omega) (by decide)
      have i4 : pz_in (nI (b + 1)) 24 = true := pz_in_nI (by omega) (by decide)
      have c3 : (nI (a + 1)).toNatClampNeg = a + 1 := nI_clamp (by omega)
      have c4 : (nI (b + 1)).toNatClampNeg = b + 1 := nI_clamp (by omega)
      refine pw_blk (mi := mz_112) (b := bz_112_28) rfl rfl ?_
      simp only [bz_112_28, pz_cut_t, pz_cut_f, pz_cut_n, pv_gt, pv_ts, pv_tn, ev_ald0, ev_eld0, ev_gf8_2, ev_ild1, ev_ic1, ev_iadd, ea_lald, ev_ild2, ev_lcmp, ev_ifeq, pz_wi_gc, pz_wi_ga, pz_wi_gn, pz_wi_gl, pz_wi_gr, pz_wi_same, pz_wi_X, pz_wl_gc, pz_wl_ga, pz_wl_gn, pz_wl_gi, pz_wl_gr, pz_wl_same, pz_wl_X, pz_wr_gc, pz_wr_ga, pz_wr_gn, pz_wr_gi, pz_wr_gl, pz_wr_same, pz_wr_X, so_4 hS, sr_4_1 hS, sa_5 hS, sn_5 hS, nI_1, i3, i4, c3, c4]
      refine po_brP (fun q3 => ?_) (fun q3 => ?_)
      · refine pw_blk (mi := mz_112) (b := bz_112_52) rfl rfl ?_
        simp only [bz_112_52, pz_cut_t, pz_cut_f, pz_cut_n, pv_gt, pv_ts, pv_tn, ev_ic0, ev_nil, pz_wi_gc, pz_wi_ga, pz_wi_gn, pz_wi_gl, pz_wi_gr, pz_wi_same, pz_wi_X, pz_wl_gc, pz_wl_ga, pz_wl_gn, pz_wl_gi, pz_wl_gr, pz_wl_same, pz_wl_X, pz_wr_gc, pz_wr_ga, pz_wr_gn, pz_wr_gi, pz_wr_gl, pz_wr_same, pz_wr_X]
        refine pw_blk (mi := mz_112) (b := bz_112_53) rfl rfl ?_
        simp only [bz_112_53, pz_cut_t, pz_cut_f, pz_cut_n, pv_gt, pv_ts, pv_tn, ev_iret1, pz_wi_gc, pz_wi_ga, pz_wi_gn, pz_wi_gl, pz_wi_gr, pz_wi_same, pz_wi_X, pz_wl_gc, pz_wl_ga, pz_wl_gn, pz_wl_gi, pz_wl_gr, pz_wl_same, pz_wl_X, pz_wr_gc, pz_wr_ga, pz_wr_gn, pz_wr_gi, pz_wr_gl, pz_wr_same, pz_wr_X]
        first | exact po_ret (h0 (by simp [isFk, hB1, (lg0 _ _).mp q3])) | exact po_gP (by decide) (po_ret (h0 (by simp [isFk, hB1, (lg0 _ _).mp q3])))
      · refine pw_blk (mi := mz_112) (b := bz_112_48) rfl rfl ?_
        simp only [bz_112_48, pz_cut_t, pz_cut_f, pz_cut_n, pv_gt, pv_ts, pv_tn, ev_ic1, ev_goto, pz_wi_gc, pz_wi_ga, pz_wi_gn, pz_wi_gl, pz_wi_gr, pz_wi_same, pz_wi_X, pz_wl_gc, pz_wl_ga, pz_wl_gn, pz_wl_gi, pz_wl_gr, pz_wl_same, pz_wl_X, pz_wr_gc, pz_wr_ga, pz_wr_gn, pz_wr_gi, pz_wr_gl, pz_wr_same, pz_wr_X]
        refine pw_blk (mi := mz_112) (b := bz_112_53) rfl rfl ?_
        simp only [bz_112_53, pz_cut_t, pz_cut_f, pz_cut_n, pv_gt, pv_ts, pv_tn, ev_iret1, pz_wi_gc, pz_wi_ga, pz_wi_gn, pz_wi_gl, pz_wi_gr, pz_wi_same, pz_wi_X, pz_wl_gc, pz_wl_ga, pz_wl_gn, pz_wl_gi, pz_wl_gr, pz_wl_same, pz_wl_X, pz_wr_gc, pz_wr_ga, pz_wr_gn, pz_wr_gi, pz_wr_gl, pz_wr_same, pz_wr_X]
        first | exact po_ret (h1 (by simp [isFk, hq, mt (lg0 _ _).mpr q3])) | exact po_gP (by decide) (po_ret (h1 (by simp [isFk, hq, mt (lg0 _ _).mpr q3])))
  · refine pw_blk (mi := mz_112) (b := bz_112_16) rfl rfl ?_
    simp only [bz_112_16, pz_cut_t, pz_cut_f, pz_cut_n, pv_gt, pv_ts, pv_tn, ev_ic0, ev_iret1, pz_wi_gc, pz_wi_ga, pz_wi_gn, pz_wi_gl, pz_wi_gr, pz_wi_same, pz_wi_X, pz_wl_gc, pz_wl_ga, pz_wl_gn, pz_wl_gi, pz_wl_gr, pz_wl_same, pz_wl_X, pz_wr_gc, pz_wr_ga, pz_wr_gn, pz_wr_gi, pz_wr_gl, pz_wr_same, pz_wr_X]
    first | exact po_ret (h0 (by simp [isFk, mt (lg0 _ _).mpr q])) | exact po_gP (by decide) (po_ret (h0 (by simp [isFk, mt (lg0 _ _).mpr q])))
end ALIKE2
