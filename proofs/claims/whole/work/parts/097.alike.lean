/-! ===== bars that are there; alike ===== -/
section ALIKE
variable {d : Nat} {M : pz_M} {Q : Option Value × pz_M → Prop}
theorem lg0 (x y : Int64) : lg_cmp x y = 0 ↔ x = y := by
  unfold lg_cmp
  constructor
  · intro h
    split at h
    · exact absurd h (by decide)
    · split at h
      · assumption
      · exact absurd h (by decide)
  · intro h
    subst h
    rw [if_neg (by exact Int64.lt_irrefl), if_pos rfl]
theorem m_hasBar (hS : SH M) {B : Nat} {x : Int32} (hb : gi M 4 0 = nI B) (hB : B ≤ 24) (h1 : ∀ b, b < B → x = nI b → Q (some (.int 1), M)) (h0 : (∀ b, b < B → ¬ x = nI b) → Q (some (.int 0), M)) : pm d 107 [.ref 4, .int x] M Q := by
  refine pm_ent (L := [some (.ref 4), some (.int x)]) rfl (Nat.le_of_ble_eq_true rfl) ?_
  refine pw_blk (mi := mz_107) (b := bz_107_0) rfl rfl ?_
  simp only [bz_107_0, pz_cut_t, pz_cut_f, pz_cut_n, pv_gt, pv_ts, pv_tn, ev_ild1, ev_iflt, pz_wi_gc, pz_wi_ga, pz_wi_gn, pz_wi_gl, pz_wi_gr, pz_wi_same, pz_wi_X, pz_wl_gc, pz_wl_ga, pz_wl_gn, pz_wl_gi, pz_wl_gr, pz_wl_same, pz_wl_X, pz_wr_gc, pz_wr_ga, pz_wr_gn, pz_wr_gi, pz_wr_gl, pz_wr_same, pz_wr_X]
  refine po_brP (fun q => ?_) (fun q => ?_)
  · refine pw_blk (mi := mz_107) (b := bz_107_16) rfl rfl ?_
    simp only [bz_107_16, pz_cut_t, pz_cut_f, pz_cut_n, pv_gt, pv_ts, pv_tn, ev_ic0, ev_nil, pz_wi_gc, pz_wi_ga, pz_wi_gn, pz_wi_gl, pz_wi_gr, pz_wi_same, pz_wi_X, pz_wl_gc, pz_wl_ga, pz_wl_gn, pz_wl_gi, pz_wl_gr, pz_wl_same, pz_wl_X, pz_wr_gc, pz_wr_ga, pz_wr_gn, pz_wr_gi, pz_wr_gl, pz_wr_same, pz_wr_X]
    refine pw_blk (mi := mz_107) (b := bz_107_17) rfl rfl ?_
    simp only [bz_107_17, pz_cut_t, pz_cut_f, pz_cut_n, pv_gt, pv_ts, pv_tn, ev_iret1, pz_wi_gc, pz_wi_ga, pz_wi_gn, pz_wi_gl, pz_wi_gr, pz_wi_same, pz_wi_X, pz_wl_gc, pz_wl_ga, pz_wl_gn, pz_wl_gi, pz_wl_gr, pz_wl_same, pz_wl_X, pz_wr_gc, pz_wr_ga, pz_wr_gn, pz_wr_gi, pz_wr_gl, pz_wr_same, pz_wr_X]
    first | exact po_ret (h0 (fun b hb e => absurd q (by rw [e]; exact nI_pos (by omega)))) | exact po_gP (by decide) (po_ret (h0 (fun b hb e => absurd q (by rw [e]; exact nI_pos (by omega)))))
  · obtain ⟨i, hi, rfl⟩ := nI_of q
    refine pw_blk (mi := mz_107) (b := bz_107_4) rfl rfl ?_
    simp only [bz_107_4, pz_cut_t, pz_cut_f, pz_cut_n, pv_gt, pv_ts, pv_tn, ev_ild1, ev_ald0, ev_eld0, ev_gf8_0, ev_ic_ge, pz_wi_gc, pz_wi_ga, pz_wi_gn, pz_wi_gl, pz_wi_gr, pz_wi_same, pz_wi_X, pz_wl_gc, pz_wl_ga, pz_wl_gn, pz_wl_gi, pz_wl_gr, pz_wl_same, pz_wl_X, pz_wr_gc, pz_wr_ga, pz_wr_gn, pz_wr_gi, pz_wr_gl, pz_wr_same, pz_wr_X, so_4 hS, hb]
    refine po_brP (fun q2 => ?_) (fun q2 => ?_)
    · refine pw_blk (mi := mz_107) (b := bz_107_16) rfl rfl ?_
      simp only [bz_107_16, pz_cut_t, pz_cut_f, pz_cut_n, pv_gt, pv_ts, pv_tn, ev_ic0, ev_nil, pz_wi_gc, pz_wi_ga, pz_wi_gn, pz_wi_gl, pz_wi_gr, pz_wi_same, pz_wi_X, pz_wl_gc, pz_wl_ga, pz_wl_gn, pz_wl_gi, pz_wl_gr, pz_wl_same, pz_wl_X, pz_wr_gc, pz_wr_ga, pz_wr_gn, pz_wr_gi, pz_wr_gl, pz_wr_same, pz_wr_X]
      refine pw_blk (mi := mz_107) (b := bz_107_17) rfl rfl ?_
      simp only [bz_107_17, pz_cut_t, pz_cut_f, pz_cut_n, pv_gt, pv_ts, pv_tn, ev_iret1, pz_wi_gc, pz_wi_ga, pz_wi_gn, pz_wi_gl, pz_wi_gr, pz_wi_same, pz_wi_X, pz_wl_gc, pz_wl_ga, pz_wl_gn, pz_wl_gi, pz_wl_gr, pz_wl_same, pz_wl_X, pz_wr_gc, pz_wr_ga, pz_wr_gn, pz_wr_gi, pz_wr_gl, pz_wr_same, pz_wr_X]
      first | exact po_ret (h0 (fun b hb e => absurd q2 (by rw [e]; exact nI_ge hb (by omega)))) | exact po_gP (by decide) (po_ret (h0 (fun b hb e => absurd q2 (by rw [e]; exact nI_ge hb (by omega)))))
    · refine pw_blk (mi := mz_107) (b := bz_107_12) rfl rfl ?_
      simp only [bz_107_12, pz_cut_t, pz_cut_f, pz_cut_n, pv_gt, pv_ts, pv_tn, ev_ic1, ev_goto, pz_wi_gc, pz_wi_ga, pz_wi_gn, pz_wi_gl, pz_wi_gr, pz_wi_same, pz_wi_X, pz_wl_gc, pz_wl_ga, pz_wl_gn, pz_wl_gi, pz_wl_gr, pz_wl_same, pz_wl_X, pz_wr_gc, pz_wr_ga, pz_wr_gn, pz_wr_gi, pz_wr_gl, pz_wr_same, pz_wr_X]
      refine pw_blk (mi := mz_107) (b := bz_107_17) rfl rfl ?_
      simp only [bz_107_17, pz_cut_t, pz_cut_f, pz_cut_n, pv_gt, pv_ts, pv_tn, ev_iret1, pz_wi_gc, pz_wi_ga, pz_wi_gn, pz_wi_gl, pz_wi_gr, pz_wi_same, pz_wi_X, pz_wl_gc, pz_wl_ga, pz_wl_gn, pz_wl_gi, pz_wl_gr, pz_wl_same, pz_wl_X, pz_wr_gc, pz_wr_ga, pz_wr_gn, pz_wr_gi, pz_wr_gl, pz_wr_same, pz_wr_X]
      first | exact po_ret (h1 i ((Nat.lt_or_ge i B).elim id (fun z => absurd (nI_le z hi) q2)) rfl) | exact po_gP (by decide) (po_ret (h1 i ((Nat.lt_or_ge i B).elim id (fun z => absurd (nI_le z hi) q2)) rfl))
theorem m_hasBars (hS : SH M) {B : Nat} {x y : Int32} (hb : gi M 4 0 = nI B) (hB : B ≤ 24) (h1 : ∀ a b, a ≤ b → b < B → x = nI a → y = nI b → Q (some (.int 1), M)) (h0 : (∀ a b, a ≤ b → b < B → x = nI a → ¬ y = nI b) → Q (some (.int 0), M)) : pm d 121 [.ref 4, .int x, .int y] M Q := by
  refine pm_ent (L := [some (.ref 4), some (.int x), some (.int y)]) rfl (Nat.le_of_ble_eq_true rfl) ?_
  refine pw_blk (mi := mz_121) (b := bz_121_0) rfl rfl ?_
  simp only [bz_121_0, pz_cut_t, pz_cut_f, pz_cut_n, pv_gt, pv_ts, pv_tn, ev_ild1, ev_iflt, pz_wi_gc, pz_wi_ga, pz_wi_gn, pz_wi_gl, pz_wi_gr, pz_wi_same, pz_wi_X, pz_wl_gc, pz_wl_ga, pz_wl_gn, pz_wl_gi, pz_wl_gr, pz_wl_same, pz_wl_X, pz_wr_gc, pz_wr_ga, pz_wr_gn, pz_wr_gi, pz_wr_gl, pz_wr_same, pz_wr_X]
  refine po_brP (fun q => ?_) (fun q => ?_)
  · refine pw_blk (mi := mz_121) (b := bz_121_21) rfl rfl ?_
    simp only [bz_121_21, pz_cut_t, pz_cut_f, pz_cut_n, pv_gt, pv_ts, pv_tn, ev_ic0, ev_nil, pz_wi_gc, pz_wi_ga, pz_wi_gn, pz_wi_gl, pz_wi_gr, pz_wi_same, pz_wi_X, pz_wl_gc, pz_wl_ga, pz_wl_gn, pz_wl_gi, pz_wl_gr, pz_wl_same, pz_wl_X, pz_wr_gc, pz_wr_ga, pz_wr_gn, pz_wr_gi, pz_wr_gl, pz_wr_same, pz_wr_X]
    refine pw_blk (mi := mz_121) (b := bz_121_22) rfl rfl ?_
    simp only [bz_121_22, pz_cut_t, pz_cut_f, pz_cut_n, pv_gt, pv_ts, pv_tn, ev_iret1, pz_wi_gc, pz_wi_ga, pz_wi_gn, pz_wi_gl, pz_wi_gr, pz_wi_same, pz_wi_X, pz_wl_gc, pz_wl_ga, pz_wl_gn, pz_wl_gi, pz_wl_gr, pz_wl_same, pz_wl_X, pz_wr_gc, pz_wr_ga, pz_wr_gn, pz_wr_gi, pz_wr_gl, pz_wr_same, pz_wr_X]
    first | exact po_ret (h0 (fun a b h hb e => absurd q (by rw [e]; exact nI_pos (by omega)))) | exact po_gP (by decide) (po_ret (h0 (fun a b h hb e => absurd q (by rw [e]; exact nI_pos (by omega)))))
  · obtain ⟨i, hi, rfl⟩ := nI_of q
    refine pw_blk (mi := mz_121) (b := bz_121_4) rfl rfl ?_
    simp only [bz_121_4, pz_cut_t, pz_cut_f, pz_cut_n, pv_gt, pv_ts, pv_tn, ev_ild1, ev_ild2, ev_ic_gt, pz_wi_gc, pz_wi_ga, pz_wi_gn, pz_wi_gl, pz_wi_gr, pz_wi_same, pz_wi_X, pz_wl_gc, pz_wl_ga, pz_wl_gn, pz_wl_gi, pz_wl_gr, pz_wl_same, pz_wl_X, pz_wr_gc, pz_wr_ga, pz_wr_gn, pz_wr_gi, pz_wr_gl, pz_wr_same, pz_wr_X]
    refine po_brP (fun q2 => ?_) (fun q2 => ?_)
    · refine pw_blk (mi := mz_121) (b := bz_121_21) rfl rfl ?_
      simp only [bz_121_21, pz_cut_t, pz_cut_f, pz_cut_n, pv_gt, pv_ts, pv_tn, ev_ic0, ev_nil, pz_wi_gc, pz_wi_ga, pz_wi_gn, pz_wi_gl, pz_wi_gr, pz_wi_same, pz_wi_X, pz_wl_gc, pz_wl_ga, pz_wl_gn, pz_wl_gi, pz_wl_gr, pz_wl_same, pz_wl_X, pz_wr_gc, pz_wr_ga, pz_wr_gn, pz_wr_gi, pz_wr_gl, pz_wr_same, pz_wr_X]
      refine pw_blk (mi := mz_121) (b := bz_121_22) rfl rfl ?_
      simp only [bz_121_22, pz_cut_t, pz_cut_f, pz_cut_n, pv_gt, pv_ts, pv_tn, ev_iret1, pz_wi_gc, pz_wi_ga, pz_wi_gn, pz_wi_gl, pz_wi_gr, pz_wi_same, pz_wi_X, pz_wl_gc, pz_wl_ga, pz_wl_gn, pz_wl_gi, pz_wl_gr, pz_wl_same, pz_wl_X, pz_wr_gc, pz_wr_ga, pz_wr_gn, pz_wr_gi, pz_wr_gl, pz_wr_same, pz_wr_X]
      first | exact po_ret (h0 (fun a b h hb e e2 => absurd q2 (by rw [e, e2]; exact nI_nlt h (by omega)))) | exact po_gP (by decide) (po_ret (h0 (fun a b h hb e e2 => absurd q2 (by rw [e, e2]; exact nI_nlt h (by omega)))))
    · have hy : ¬ y < 0 := fun z => q2 (Int32.lt_of_lt_of_le z (nI_pos' hi))
      obtain ⟨j, hj, rfl⟩ := nI_of hy
      have hij : i ≤ j := (Nat.lt_or_ge j i).elim (fun z => absurd (nI_lt z hi) q2) id
      refine pw_blk (mi := mz_121) (b := bz_121_9) rfl rfl ?_
      simp only [bz_121_9, pz_cut_t, pz_cut_f, pz_cut_n, pv_gt, pv_ts, pv_tn, ev_ild2, ev_ald0, ev_eld0, ev_gf8_0, ev_ic_ge, pz_wi_gc, pz_wi_ga, pz_wi_gn, pz_wi_gl, pz_wi_gr, pz_wi_same, pz_wi_X, pz_wl_gc, pz_wl_ga, pz_wl_gn, pz_wl_gi, pz_wl_gr, pz_wl_same, pz_wl_X, pz_wr_gc, pz_wr_ga, pz_wr_gn, pz_wr_gi, pz_wr_gl, pz_wr_same, pz_wr_X, so_4 hS, hb]
      refine po_brP (fun q3 => ?_) (fun q3 => ?_)
      · refine pw_blk (mi := mz_121) (b := bz_121_21) rfl rfl ?_
        simp only [bz_121_21, pz_cut_t, pz_cut_f, pz_cut_n, pv_gt, pv_ts, pv_tn, ev_ic0, ev_nil, pz_wi_gc, pz_wi_ga, pz_wi_gn, pz_wi_gl, pz_wi_gr, pz_wi_same, pz_wi_X, pz_wl_gc, pz_wl_ga, pz_wl_gn, pz_wl_gi, pz_wl_gr, pz_wl_same, pz_wl_X, pz_wr_gc, pz_wr_ga, pz_wr_gn, pz_wr_gi, pz_wr_gl, pz_wr_same, pz_wr_X]
        refine pw_blk (mi := mz_121) (b := bz_121_22) rfl rfl ?_
        simp only [bz_121_22, pz_cut_t, pz_cut_f, pz_cut_n, pv_gt, pv_ts, pv_tn, ev_iret1, pz_wi_gc, pz_wi_ga, pz_wi_gn, pz_wi_gl, pz_wi_gr, pz_wi_same, pz_wi_X, pz_wl_gc, pz_wl_ga, pz_wl_gn, pz_wl_gi, pz_wl_gr, pz_wl_same, pz_wl_X, pz_wr_gc, pz_wr_ga, pz_wr_gn, pz_wr_gi, pz_wr_gl, pz_wr_same, pz_wr_X]
        first | exact po_ret (h0 (fun a b h hb e e2 => absurd q3 (by rw [e2]; exact nI_ge hb (by omega)))) | exact po_gP (by decide) (po_ret (h0 (fun a b h hb e e2 => absurd q3 (by rw [e2]; exact nI_ge hb (by omega)))))
      · refine pw_blk (mi := mz_121) (b := bz_121_17) rfl rfl ?_
        simp only [bz_121_17, pz_cut_t, pz_cut_f, pz_cut_n, pv_gt, pv_ts, pv_tn, ev_ic1, ev_goto, pz_wi_gc, pz_wi_ga, pz_wi_gn, pz_wi_gl, pz_wi_gr, pz_wi_same, pz_wi_X, pz_wl_gc, pz_wl_ga, pz_wl_gn, pz_wl_gi, pz_wl_gr, pz_wl_same, pz_wl_X, pz_wr_gc, pz_wr_ga, pz_wr_gn, pz_wr_gi, pz_wr_gl, pz_wr_same, pz_wr_X]
        refine pw_blk (mi := mz_121) (b := bz_121_22) rfl rfl ?_
        simp only [bz_121_22, pz_cut_t, pz_cut_f, pz_cut_n, pv_gt, pv_ts, pv_tn, ev_iret1, pz_wi_gc, pz_wi_ga, pz_wi_gn, pz_wi_gl, pz_wi_gr, pz_wi_same, pz_wi_X, pz_wl_gc, pz_wl_ga, pz_wl_gn, pz_wl_gi, pz_wl_gr, pz_wl_same, pz_wl_X, pz_wr_gc, pz_wr_ga, pz_wr_gn, pz_wr_gi, pz_wr_gl, pz_wr_same, pz_wr_X]
        first | exact po_ret (h1 i j hij ((Nat.lt_or_ge j B).elim id (fun z => absurd (nI_le z hj) q3)) rfl rfl) | exact po_gP (by decide) (po_ret (h1 i j hij ((Nat.lt_or_ge j B).elim id (fun z => absurd (nI_le z hj) q3)) rfl rfl))
/-- the reference's: a bar, or none -/
theorem r_isBarN (hd : 1 ≤ d) (hS : SH M) (hO : okB M) {B : Nat} {x : Int32} (hb : nb M = nI B) (hB : B ≤ 24) (h1 : ∀ b, b < B → x = nI b → Q (some (.int 1), M)) (h0 : (∀ b, b < B → ¬ x = nI b) → Q (some (.int 0), M)) : pm d 108 [.ref 120, .int x] M Q := by
  have hn : (nI B - 1).toInt = (B : Int) - 1 := pk_sub_toInt (a := B) (b := 1) (by omega) (by decide)
  refine r_isBar hd hS hO (fun a b => ?_) (fun a => ?_)
  · obtain ⟨i, hi, rfl⟩ := nI_of (Int32.not_lt.mpr a)
    refine h1 i ?_ rfl
    have := Int32.le_iff_toInt_le.mp b
    rw [hb, hn, nI_toInt hi] at this
    omega
  · refine h0 (fun b hb2 e => a ?_)
    rw [e]
    refine ⟨nI_pos' (by omega), Int32.le_iff_toInt_le.mpr ?_⟩
    rw [hb, hn, nI_toInt (by omega)]
    omega
/-- how many looks back from a and b are the same, from n on, c more at most -/
def alk (lk : Nat → Int64) (a b : Nat) : Nat → Nat → Nat
  | 0, n => n
  | c + 1, n => if n ≤ a ∧ n ≤ b ∧ lk (a - n) = lk (b - n) then alk lk a b c (n + 1) else n
theorem l_countAlike (hS : SH M) {a b : Nat} (ha : a < 24) (hb : b < 24) : ∀ (c n : Nat), n + c = 9 → Q (some (.int (nI (alk (gl M 5) a b c n))), M) → pw d 110 (2, [some (.ref 4), some (.int (nI a)), some (.int (nI b)), some (.int (nI n))], [], M) Q := by
  intro c
  induction c with
  | zero =>
    intro n hn h
    have hn' : n = 9 := by omega
    subst hn'
    refine pw_blk (mi := mz_110) (b := bz_110_2) rfl rfl ?_
    simp only [bz_110_2, pz_cut_t, pz_cut_f, pz_cut_n, pv_gt, pv_ts, pv_tn, ev_ild3, ev_bp9, ev_ic_ge, pz_wi_gc, pz_wi_ga, pz_wi_gn, pz_wi_gl, pz_wi_gr, pz_wi_same, pz_wi_X, pz_wl_gc, pz_wl_ga, pz_wl_gn, pz_wl_gi, pz_wl_gr, pz_wl_same, pz_wl_X, pz_wr_gc, pz_wr_ga, pz_wr_gn, pz_wr_gi, pz_wr_gl, pz_wr_same, pz_wr_X]
    refine po_brP (fun _ => ?_) (fun q => absurd (nI_le (Nat.le_refl 9) (by decide)) q)
    refine pw_blk (mi := mz_110) (b := bz_110_44) rfl rfl ?_
    simp only [bz_110_44, pz_cut_t, pz_cut_f, pz_cut_n, pv_gt, pv_ts, pv_tn, ev_ild3, ev_iret0, pz_wi_gc, pz_wi_ga, pz_wi_gn, pz_wi_gl, pz_wi_gr, pz_wi_same, pz_wi_X, pz_wl_gc, pz_wl_ga, pz_wl_gn, pz_wl_gi, pz_wl_gr, pz_wl_same, pz_wl_X, pz_wr_gc, pz_wr_ga, pz_wr_gn, pz_wr_gi, pz_wr_gl, pz_wr_same, pz_wr_X]
    exact h
  | succ c ih =>
    intro n hn h
    refine pw_blk (mi := mz_110) (b := bz_110_2) rfl rfl ?_
    simp only [bz_110_2, pz_cut_t, pz_cut_f, pz_cut_n, pv_gt, pv_ts, pv_tn, ev_ild3, ev_bp9, ev_ic_ge, pz_wi_gc, pz_wi_ga, pz_wi_gn, pz_wi_gl, pz_wi_gr, pz_wi_same, pz_wi_X, pz_wl_gc, pz_wl_ga, pz_wl_gn, pz_wl_gi, pz_wl_gr, pz_wl_same, pz_wl_X, pz_wr_gc, pz_wr_ga, pz_wr_gn, pz_wr_gi, pz_wr_gl, pz_wr_same, pz_wr_X]
    refine po_brP (fun q => absurd q (nI_ge (b := 9) (by omega) (by decide))) (fun _ => ?_)
    refine pw_blk (mi := mz_110) (b := bz_110_8) rfl rfl ?_
    simp only [bz_110_8, pz_cut_t, pz_cut_f, pz_cut_n, pv_gt, pv_ts, pv_tn, ev_ild3, ev_ild1, ev_ic_gt, pz_wi_gc, pz_wi_ga, pz_wi_gn, pz_wi_gl, pz_wi_gr, pz_wi_same, pz_wi_X, pz_wl_gc, pz_wl_ga, pz_wl_gn, pz_wl_gi, pz_wl_gr, pz_wl_same, pz_wl_X, pz_wr_gc, pz_wr_ga, pz_wr_gn, pz_wr_gi, pz_wr_gl, pz_wr_same, pz_wr_X]
    refine po_brP (fun q => ?_) (fun q => ?_)
    · refine pw_blk (mi := mz_110) (b := bz_110_44) rfl rfl ?_
      simp only [bz_110_44, pz_cut_t, pz_cut_f, pz_cut_n, pv_gt, pv_ts, pv_tn, ev_ild3, ev_iret0, pz_wi_gc, pz_wi_ga, pz_wi_gn, pz_wi_gl, pz_wi_gr, pz_wi_same, pz_wi_X, pz_wl_gc, pz_wl_ga, pz_wl_gn, pz_wl_gi, pz_wl_gr, pz_wl_same, pz_wl_X, pz_wr_gc, pz_wr_ga, pz_wr_gn, pz_wr_gi, pz_wr_gl, pz_wr_same, pz_wr_X]
      rw [alk, if_neg (fun z => absurd q (nI_nlt z.1 (by omega)))] at h
      exact h
    · have hna : n ≤ a := (Nat.lt_or_ge a n).elim (fun z => absurd (nI_lt z (by omega)) q) id
      refine pw_blk (mi := mz_110) (b := bz_110_13) rfl rfl ?_
      simp only [bz_110_13, pz_cut_t, pz_cut_f, pz_cut_n, pv_gt, pv_ts, pv_tn, ev_ild3, ev_ild2, ev_ic_gt, pz_wi_gc, pz_wi_ga, pz_wi_gn, pz_wi_gl, pz_wi_gr, pz_wi_same, pz_wi_X, pz_wl_gc, pz_wl_ga, pz_wl_gn, pz_wl_gi, pz_wl_gr, pz_wl_same, pz_wl_X, pz_wr_gc, pz_wr_ga, pz_wr_gn, pz_wr_gi, pz_wr_gl, pz_wr_same, pz_wr_X]
      refine po_brP (fun q2 => ?_) (fun q2 => ?_)
      · refine pw_blk (mi := mz_110) (b := bz_110_44) rfl rfl ?_
        simp only [bz_110_44, pz_cut_t, pz_cut_f, pz_cut_n, pv_gt, pv_ts, pv_tn, ev_ild3, ev_iret0, pz_wi_gc, pz_wi_ga, pz_wi_gn, pz_wi_gl, pz_wi_gr, pz_wi_same, pz_wi_X, pz_wl_gc, pz_wl_ga, pz_wl_gn, pz_wl_gi, pz_wl_gr, pz_wl_same, pz_wl_X, pz_wr_gc, pz_wr_ga, pz_wr_gn, pz_wr_gi, pz_wr_gl, pz_wr_same, pz_wr_X]
        rw [alk, if_neg (fun z => absurd q2 (nI_nlt z.2.1 (by omega)))] at h
        exact h
      · have hnb : n ≤ b := (Nat.lt_or_ge b n).elim (fun z => absurd (nI_lt z (by omega)) q2) id
        have e1 : nI a - nI n = nI (a - n) := pk_sub hna
        have e2 : nI b - nI n = nI (b - n) := pk_sub hnb
        have i1 : pz_in (nI (a - n)) 24 = true := pz_in_nI (by omega) (by decide)
        have i2 : pz_in (nI (b - n)) 24 = true := pz_in_nI (by omega) (by decide)
        have c1 : (nI (a - n)).toNatClampNeg = a - n := nI_clamp (by omega)
        have c2 : (nI (b - n)).toNatClampNeg = b - n := nI_clamp (by omega)
        refine pw_blk (mi := mz_110) (b := bz_110_18) rfl rfl ?_
        simp only [bz_110_18, pz_cut_t, pz_cut_f, pz_cut_n, pv_gt, pv_ts, pv_tn, ev_ald0, ev_eld0, ev_gf8_2, ev_ild1, ev_ild3, ev_isub, ea_lald, ev_ild2, ev_lcmp, ev_ifne, pz_wi_gc, pz_wi_ga, pz_wi_gn, pz_wi_gl, pz_wi_gr, pz_wi_same, pz_wi_X, pz_wl_gc, pz_wl_ga, pz_wl_gn, pz_wl_gi, pz_wl_gr, pz_wl_same, pz_wl_X, pz_wr_gc, pz_wr_ga, pz_wr_gn, pz_wr_gi, pz_wr_gl, pz_wr_same, pz_wr_X, so_4 hS, sr_4_1 hS, sa_5 hS, sn_5 hS, e1, e2, i1, i2, c1, c2]
        refine po_brP (fun q3 => ?_) (fun q3 => ?_)
        · refine pw_blk (mi := mz_110) (b := bz_110_44) rfl rfl ?_
          simp only [bz_110_44, pz_cut_t, pz_cut_f, pz_cut_n, pv_gt, pv_ts, pv_tn, ev_ild3, ev_iret0, pz_wi_gc, pz_wi_ga, pz_wi_gn, pz_wi_gl, pz_wi_gr, pz_wi_same, pz_wi_X, pz_wl_gc, pz_wl_ga, pz_wl_gn, pz_wl_gi, pz_wl_gr, pz_wl_same, pz_wl_X, pz_wr_gc, pz_wr_ga, pz_wr_gn, pz_wr_gi, pz_wr_gl, pz_wr_same, pz_wr_X]
          rw [alk, if_neg (fun z => q3 ((lg0 _ _).mpr z.2.2))] at h
          exact h
        · refine pw_blk (mi := mz_110) (b := bz_110_38) rfl rfl ?_
          simp only [bz_110_38, pz_cut_t, pz_cut_f, pz_cut_n, pv_gt, pv_ts, pv_tn, ev_inc3n, ev_inc3i, ev_inc3r, ev_inc3e, ev_goto, pz_wi_gc, pz_wi_ga, pz_wi_gn, pz_wi_gl, pz_wi_gr, pz_wi_same, pz_wi_X, pz_wl_gc, pz_wl_ga, pz_wl_gn, pz_wl_gi, pz_wl_gr, pz_wl_same, pz_wl_X, pz_wr_gc, pz_wr_ga, pz_wr_gn, pz_wr_gi, pz_wr_gl, pz_wr_same, pz_wr_X, inc1]
          rw [alk, if_pos ⟨hna, hnb, (lg0 _ _).mp (Decidable.not_not.mp q3)⟩] at h
          refine po_go ?_
          exact ih (n + 1) (by omega) h
theorem m_countAlike (hS : SH M) {a b : Nat} (ha : a < 24) (hb : b < 24) (h : Q (some (.int (nI (alk (gl M 5) a b 9 0))), M)) : pm d 110 [.ref 4, .int (nI a), .int (nI b)] M Q := by
  refine pm_ent (L := [some (.ref 4), some (.int (nI a)), some (.int (nI b)), none]) rfl (Nat.le_of_ble_eq_true rfl) ?_
  refine pw_blk (mi := mz_110) (b := bz_110_0) rfl rfl ?_
  simp only [bz_110_0, pz_cut_t, pz_cut_f, pz_cut_n, pv_gt, pv_ts, pv_tn, ev_ic0, ev_ist3n, ev_ist3i, ev_ist3r, ev_ist3e, ev_ist3l, ev_nil, pz_wi_gc, pz_wi_ga, pz_wi_gn, pz_wi_gl, pz_wi_gr, pz_wi_same, pz_wi_X, pz_wl_gc, pz_wl_ga, pz_wl_gn, pz_wl_gi, pz_wl_gr, pz_wl_same, pz_wl_X, pz_wr_gc, pz_wr_ga, pz_wr_gn, pz_wr_gi, pz_wr_gl, pz_wr_same, pz_wr_X]
  refine po_go ?_
  exact l_countAlike hS ha hb 9 0 (by omega) h
end ALIKE
