/-! ===== what a rule is worth, step by step ===== -/
section EVAL2
variable {d : Nat} {M M' : pz_M} {Q : Option Value × pz_M → Prop}
theorem n40 : Int32.ofNat 40 = nI 40 := rfl
def kdO (x : Int32) : Nat := x.toNatClampNeg / 65536
def vlO (x : Int32) : Nat := x.toNatClampNeg % 65536
/-- the pile behind c codes from f on, m high before -/
def ev (u : Nat → Nat → Int32) (st : Nat → Int32) : Nat → Nat → (Nat → Int32) → Nat → Nat → Int32
  | 0, _, s, _ => s
  | c + 1, f, s, m => if kdO (st f) < 6 then ev u st c (f + 1) (va_up s m (u (kdO (st f)) (vlO (st f)))) (m + 1) else if kdO (st f) = 6 then ev u st c (f + 1) (va_up s (m - 1) (if s (m - 1) = 0 then 1 else 0)) m else ev u st c (f + 1) (va_up s (m - 1 - 1) (jn (kdO (st f)) (s (m - 1 - 1)) (s (m - 1)))) (m - 1)
theorem kd_nI {k v : Nat} (hk : k < 15) (hv : v < 10000) : kdO (nI (65536 * k + v)) = k := by
  unfold kdO
  rw [nI_clamp (by omega)]
  omega
theorem vl_nI {k v : Nat} (hk : k < 15) (hv : v < 10000) : vlO (nI (65536 * k + v)) = v := by
  unfold vlO
  rw [nI_clamp (by omega)]
  omega
theorem st_shr {k v : Nat} (hk : k < 15) (hv : v < 10000) : nI (65536 * k + v) >>> ((16 : Int32) &&& 31) = nI k := by
  rw [pk_shrN (by omega) _ 16 (by decide), show (65536 * k + v) / 2 ^ 16 = k by omega]
theorem st_shr2 {k v : Nat} (hk : k < 15) (hv : v < 10000) : nI (65536 * k + v) >>> (16 : Int32) = nI k := st_shr hk hv
theorem st_and {k v : Nat} (hk : k < 15) (hv : v < 10000) : nI (65536 * k + v) &&& nI 65535 = nI v := by
  rw [pk_andN (by omega) 16 (by decide), show (65536 * k + v) % 2 ^ 16 = v by omega]
theorem st_and2 {k v : Nat} (hk : k < 15) (hv : v < 10000) : nI (65536 * k + v) &&& 65535 = nI v := st_and hk hv
theorem st_and3 {k v : Nat} (hk : k < 15) (hv : v < 10000) : nI (65536 * k + v) &&& Int32.ofNat 65535 = nI v := st_and hk hv
theorem nI_dec {m : Nat} (h : 1 ≤ m) : nI m + Int32.ofInt (-1) = nI (m - 1) := by
  have e : nI m = nI (m - 1) + nI 1 := by rw [nI_add, show m - 1 + 1 = m by omega]
  rw [e, Int32.add_assoc, show nI 1 + Int32.ofInt (-1) = 0 by decide, Int32.add_zero]
section
variable {u : Nat → Nat → Int32} {st s : Nat → Int32} {c f m k v : Nat}
theorem ev_push (e : st f = nI (65536 * k + v)) (hk : k < 15) (hv : v < 10000) (q : k < 6) : ev u st (c + 1) f s m = ev u st c (f + 1) (va_up s m (u k v)) (m + 1) := by
  rw [ev, e, kd_nI hk hv, vl_nI hk hv, if_pos q]
theorem ev_not (e : st f = nI (65536 * k + v)) (hk : k < 15) (hv : v < 10000) (q : k = 6) : ev u st (c + 1) f s m = ev u st c (f + 1) (va_up s (m - 1) (if s (m - 1) = 0 then 1 else 0)) m := by
  rw [ev, e, kd_nI hk hv, if_neg (by omega), if_pos q]
theorem ev_two (e : st f = nI (65536 * k + v)) (hk : k < 15) (hv : v < 10000) (q : 7 ≤ k) : ev u st (c + 1) f s m = ev u st c (f + 1) (va_up s (m - 1 - 1) (jn k (s (m - 1 - 1)) (s (m - 1)))) (m - 1) := by
  rw [ev, e, kd_nI hk hv, if_neg (by omega), if_neg (by omega)]
theorem pil_push {x : Nat} (e : st f = nI (65536 * k + v)) (hk : k < 15) (hv : v < 10000) (q : k < 6) (h : pil st (c + 1) f m = some x) : m < 40 ∧ pil st c (f + 1) (m + 1) = some x := by
  rw [pil, e, if_pos ((nI_ltI (by omega) (by decide)).mpr (by omega))] at h
  by_cases q2 : m < 40
  · rw [if_pos q2] at h
    exact ⟨q2, h⟩
  · rw [if_neg q2] at h
    cases h
theorem pil_not {x : Nat} (e : st f = nI (65536 * k + v)) (hk : k < 15) (hv : v < 10000) (q : k = 6) (h : pil st (c + 1) f m = some x) : 1 ≤ m ∧ pil st c (f + 1) m = some x := by
  rw [pil, e, if_neg (fun z => by have := (nI_ltI (by omega) (by decide)).mp z; omega), if_pos ((nI_ltI (by omega) (by decide)).mpr (by omega))] at h
  by_cases q2 : m = 0
  · rw [if_pos q2] at h
    cases h
  · rw [if_neg q2] at h
    exact ⟨by omega, h⟩
theorem pil_two {x : Nat} (e : st f = nI (65536 * k + v)) (hk : k < 15) (hv : v < 10000) (q : 7 ≤ k) (h : pil st (c + 1) f m = some x) : 2 ≤ m ∧ pil st c (f + 1) (m - 1) = some x := by
  rw [pil, e, if_neg (fun z => by have := (nI_ltI (by omega) (by decide)).mp z; omega), if_neg (fun z => by have := (nI_ltI (by omega) (by decide)).mp z; omega)] at h
  by_cases q2 : m ≤ 1
  · rw [if_pos q2] at h
    cases h
  · rw [if_neg q2] at h
    exact ⟨by omega, h⟩
end
theorem va_ag {f s : Nat → Int32} {m n : Nat} {x : Int32} (h : ∀ i, i < m → f i = s i) {j : Nat} (hjn : ∀ i, i < n → ¬ i < m → i = j) : ∀ i, i < n → va_up f j x i = va_up s j x i := fun i hi => by
  unfold va_up
  split
  · rfl
  · rename_i q
    by_cases q2 : i < m
    · exact h i q2
    · exact absurd (hjn i hi q2) q
theorem m_valueOf (hd : 2 ≤ d) {o B T : Nat} {h e cu : Nat → Int32} {y : Int32} (hS : SH M) (hM : isMind M o) (ho : o + 4 < 97) (hh : gi M (o + 1) = h) (he : gi M (o + 2) = e) (hy : gi M o 6 = y) (hc : ∀ v, v < B → gi M 104 v = cu v) (hr : ∀ i, r1k (h i)) (hB : B ≤ 24) (hT4 : T ≤ 400) {f c : Nat} (hT : f + c = T) (hp : pil (gi M 96) c f 0 = some 1) (hcd : ∀ k, f ≤ k → k < T → cdR (gi M 96 k) (gi M 159 k) (gi M 160 k) B) (K : ∀ M', sm [97] M M' → Q (some (.int (ev (uv h e y cu B) (gi M 96) c f (fun _ => 0) 0 0)), M')) : pm d 224 [.ref 93, .int (nI f), .int (nI T), .ref o, .ref 104, .int (nI B)] M Q := by
  have key : ∀ c f m s M', f + c = T → sm [97] M M' → m ≤ 40 → pil (gi M 96) c f m = some 1 → (∀ k, f ≤ k → k < T → cdR (gi M 96 k) (gi M 159 k) (gi M 160 k) B) → (∀ i, i < m → gi M' 97 i = s i) → (∀ M', sm [97] M M' → Q (some (.int (ev (uv h e y cu B) (gi M 96) c f s m 0)), M')) → pw d 224 (6, [some (.ref 93), none, some (.int (nI T)), some (.ref o), some (.ref 104), some (.int (nI B)), some (.int (nI m)), some (.int (nI f)), none, none], [], M') Q := by
    intro c
    induction c with
    | zero =>
      intro f m s M' hf s' hm hp hcd hag K
      have hS' := hS.sm s'
      have hm1 : m = 1 := by
        have z : some m = some 1 := hp
        exact Option.some.inj z
      subst hm1
      have hf2 : f = T := by omega
      subst hf2
      have g0 : gi M' 97 0 = s 0 := hag 0 (by decide)
      refine pw_blk (mi := mz_224) (b := bz_224_6) rfl rfl ?_
      simp only [bz_224_6, pz_cut_t, pz_cut_f, pz_cut_n, pv_gt, pv_ts, pv_tn, ev_ild7, ev_ild2, ev_ic_ge, pz_wi_gc, pz_wi_ga, pz_wi_gn, pz_wi_gl, pz_wi_gr, pz_wi_same, pz_wi_X, pz_wl_gc, pz_wl_ga, pz_wl_gn, pz_wl_gi, pz_wl_gr, pz_wl_same, pz_wl_X, pz_wr_gc, pz_wr_ga, pz_wr_gn, pz_wr_gi, pz_wr_gl, pz_wr_same, pz_wr_X, g0]
      (try simp (disch := omega) only [nI_clamp, pz_in_nI2, pz_in_nI2L, pv_gt, nI_add, nI_addL, nI_Ladd, pk_mul, nI_mulL, nI_Lmul, pk_sub, nI_subL, nI_Lsub, nI_inc, nI_clampL, Nat.add_sub_cancel, pz_wi_else, pz_wl_else, vu_eq, vu_ne, pz_wi_gc, pz_wi_ga, pz_wi_gn, pz_wi_gl, pz_wi_gr, pz_wi_same, pz_wi_X, pz_wl_gc, pz_wl_ga, pz_wl_gn, pz_wl_gi, pz_wl_gr, pz_wl_same, pz_wl_X, pz_wr_gc, pz_wr_ga, pz_wr_gn, pz_wr_gi, pz_wr_gl, pz_wr_same, pz_wr_X, g0])
      refine po_brP (fun q6 => ?_) (fun q6 => ?_)
      · skip
        (try simp (disch := omega) only [nI_ltI, nI_leI, nI_eq, nI_ltL, nI_leL, nI_eqL, nI_Llt, nI_Lle, nI_Leq, nI_eqm, nI_meq, nI_ltm, nI_lem, nI_mlt, nI_mle, lg0, lgl, lgg, lgle, lgge, Int32.not_lt, Int32.not_le, Int64.not_lt, Int64.not_le, not_false_eq_true, not_true_eq_false, Decidable.not_not, ge_iff_le, gt_iff_lt] at q6)
        refine pw_blk (mi := mz_224) (b := bz_224_164) rfl rfl ?_
        simp only [bz_224_164, pz_cut_t, pz_cut_f, pz_cut_n, pv_gt, pv_ts, pv_tn, ev_ild6, ev_ifle, pz_wi_gc, pz_wi_ga, pz_wi_gn, pz_wi_gl, pz_wi_gr, pz_wi_same, pz_wi_X, pz_wl_gc, pz_wl_ga, pz_wl_gn, pz_wl_gi, pz_wl_gr, pz_wl_same, pz_wl_X, pz_wr_gc, pz_wr_ga, pz_wr_gn, pz_wr_gi, pz_wr_gl, pz_wr_same, pz_wr_X, g0]
        (try simp (disch := omega) only [nI_clamp, pz_in_nI2, pz_in_nI2L, pv_gt, nI_add, nI_addL, nI_Ladd, pk_mul, nI_mulL, nI_Lmul, pk_sub, nI_subL, nI_Lsub, nI_inc, nI_clampL, Nat.add_sub_cancel, pz_wi_else, pz_wl_else, vu_eq, vu_ne, pz_wi_gc, pz_wi_ga, pz_wi_gn, pz_wi_gl, pz_wi_gr, pz_wi_same, pz_wi_X, pz_wl_gc, pz_wl_ga, pz_wl_gn, pz_wl_gi, pz_wl_gr, pz_wl_same, pz_wl_X, pz_wr_gc, pz_wr_ga, pz_wr_gn, pz_wr_gi, pz_wr_gl, pz_wr_same, pz_wr_X, g0])
        refine po_brP (fun q164 => ?_) (fun q164 => ?_)
        · first
          | exact absurd q164 (by decide)
          | exact absurd trivial q164
          | exact q164.elim
          | (exfalso; (try simp (disch := omega) only [nI_ltI, nI_leI, nI_eq, nI_ltL, nI_leL, nI_eqL, nI_Llt, nI_Lle, nI_Leq, nI_eqm, nI_meq, nI_ltm, nI_lem, nI_mlt, nI_mle, lg0, lgl, lgg, lgle, lgge, Int32.not_lt, Int32.not_le, Int64.not_lt, Int64.not_le, not_false_eq_true, not_true_eq_false, Decidable.not_not, ge_iff_le, gt_iff_lt] at q164) <;> omega)
          | exact absurd q164 (by with_reducible assumption)
          | exact absurd (by with_reducible assumption) q164
          | exact absurd (Decidable.not_not.mp q164) (by with_reducible assumption)
          | exact absurd (by with_reducible assumption) (Int32.not_le.mpr q164)
          | exact absurd (by with_reducible assumption) (Int32.not_lt.mpr q164)
        · skip
          (try simp (disch := omega) only [nI_ltI, nI_leI, nI_eq, nI_ltL, nI_leL, nI_eqL, nI_Llt, nI_Lle, nI_Leq, nI_eqm, nI_meq, nI_ltm, nI_lem, nI_mlt, nI_mle, lg0, lgl, lgg, lgle, lgge, Int32.not_lt, Int32.not_le, Int64.not_lt, Int64.not_le, not_false_eq_true, not_true_eq_false, Decidable.not_not, ge_iff_le, gt_iff_lt] at q164)
          refine pw_blk (mi := mz_224) (b := bz_224_169) rfl rfl ?_
          simp only [bz_224_169, pz_cut_t, pz_cut_f, pz_cut_n, pv_gt, pv_ts, pv_tn, ev_ald0, ev_eld0, ev_gf6_2, ev_ild6, ev_ic1, ev_isub, ea_iald, ev_goto, pz_wi_gc, pz_wi_ga, pz_wi_gn, pz_wi_gl, pz_wi_gr, pz_wi_same, pz_wi_X, pz_wl_gc, pz_wl_ga, pz_wl_gn, pz_wl_gi, pz_wl_gr, pz_wl_same, pz_wl_X, pz_wr_gc, pz_wr_ga, pz_wr_gn, pz_wr_gi, pz_wr_gl, pz_wr_same, pz_wr_X, so_93 hS', sr_93_6 hS', sa_97 hS', sn_97 hS', g0, sa_96 hS', sn_96 hS']
          (try simp (disch := omega) only [nI_clamp, pz_in_nI2, pz_in_nI2L, pv_gt, nI_add, nI_addL, nI_Ladd, pk_mul, nI_mulL, nI_Lmul, pk_sub, nI_subL, nI_Lsub, nI_inc, nI_clampL, Nat.add_sub_cancel, pz_wi_else, pz_wl_else, vu_eq, vu_ne, pz_wi_gc, pz_wi_ga, pz_wi_gn, pz_wi_gl, pz_wi_gr, pz_wi_same, pz_wi_X, pz_wl_gc, pz_wl_ga, pz_wl_gn, pz_wl_gi, pz_wl_gr, pz_wl_same, pz_wl_X, pz_wr_gc, pz_wr_ga, pz_wr_gn, pz_wr_gi, pz_wr_gl, pz_wr_same, pz_wr_X, g0])
          (try refine po_gI (by first | exact pz_in_nI (by omega) (by decide) | decide | assumption) ?_)
          refine po_go ?_
          refine pw_blk (mi := mz_224) (b := bz_224_182) rfl rfl ?_
          simp only [bz_224_182, pz_cut_t, pz_cut_f, pz_cut_n, pv_gt, pv_ts, pv_tn, ev_iret0, pz_wi_gc, pz_wi_ga, pz_wi_gn, pz_wi_gl, pz_wi_gr, pz_wi_same, pz_wi_X, pz_wl_gc, pz_wl_ga, pz_wl_gn, pz_wl_gi, pz_wl_gr, pz_wl_same, pz_wl_X, pz_wr_gc, pz_wr_ga, pz_wr_gn, pz_wr_gi, pz_wr_gl, pz_wr_same, pz_wr_X, g0]
          (try simp (disch := omega) only [nI_clamp, pz_in_nI2, pz_in_nI2L, pv_gt, nI_add, nI_addL, nI_Ladd, pk_mul, nI_mulL, nI_Lmul, pk_sub, nI_subL, nI_Lsub, nI_inc, nI_clampL, Nat.add_sub_cancel, pz_wi_else, pz_wl_else, vu_eq, vu_ne, pz_wi_gc, pz_wi_ga, pz_wi_gn, pz_wi_gl, pz_wi_gr, pz_wi_same, pz_wi_X, pz_wl_gc, pz_wl_ga, pz_wl_gn, pz_wl_gi, pz_wl_gr, pz_wl_same, pz_wl_X, pz_wr_gc, pz_wr_ga, pz_wr_gn, pz_wr_gi, pz_wr_gl, pz_wr_same, pz_wr_X, g0])
          exact po_ret (K M' s')
      · first
        | exact absurd q6 (by decide)
        | exact absurd trivial q6
        | exact q6.elim
        | (exfalso; (try simp (disch := omega) only [nI_ltI, nI_leI, nI_eq, nI_ltL, nI_leL, nI_eqL, nI_Llt, nI_Lle, nI_Leq, nI_eqm, nI_meq, nI_ltm, nI_lem, nI_mlt, nI_mle, lg0, lgl, lgg, lgle, lgge, Int32.not_lt, Int32.not_le, Int64.not_lt, Int64.not_le, not_false_eq_true, not_true_eq_false, Decidable.not_not, ge_iff_le, gt_iff_lt] at q6) <;> omega)
        | exact absurd q6 (by with_reducible assumption)
        | exact absurd (by with_reducible assumption) q6
        | exact absurd (Decidable.not_not.mp q6) (by with_reducible assumption)
        | exact absurd (by with_reducible assumption) (Int32.not_le.mpr q6)
        | exact absurd (by with_reducible assumption) (Int32.not_lt.mpr q6)
    | succ c ih =>
      intro f m s M' hf s' hm hp hcd hag K
      have hS' := hS.sm s'
      obtain ⟨k, v, hk, hv, e96, -, -, hvB⟩ := hcd f (Nat.le_refl _) (by omega)
      have e96' : gi M' 96 f = nI (65536 * k + v) := by rw [s'.i (by decide)]; exact e96
      have hcd' : ∀ k, f + 1 ≤ k → k < T → cdR (gi M 96 k) (gi M 159 k) (gi M 160 k) B := fun k h1 h2 => hcd k (by omega) h2
      by_cases k6 : k < 6
      · obtain ⟨hm4, hp'⟩ := pil_push e96 hk hv k6 hp
        refine pw_blk (mi := mz_224) (b := bz_224_6) rfl rfl ?_
        simp only [bz_224_6, pz_cut_t, pz_cut_f, pz_cut_n, pv_gt, pv_ts, pv_tn, ev_ild7, ev_ild2, ev_ic_ge, pz_wi_gc, pz_wi_ga, pz_wi_gn, pz_wi_gl, pz_wi_gr, pz_wi_same, pz_wi_X, pz_wl_gc, pz_wl_ga, pz_wl_gn, pz_wl_gi, pz_wl_gr, pz_wl_same, pz_wl_X, pz_wr_gc, pz_wr_ga, pz_wr_gn, pz_wr_gi, pz_wr_gl, pz_wr_same, pz_wr_X, e96', st_shr hk hv, st_and hk hv, st_shr2 hk hv, st_and2 hk hv, st_and3 hk hv]
        (try simp (disch := omega) only [nI_clamp, pz_in_nI2, pz_in_nI2L, pv_gt, nI_add, nI_addL, nI_Ladd, pk_mul, nI_mulL, nI_Lmul, pk_sub, nI_subL, nI_Lsub, nI_inc, nI_clampL, Nat.add_sub_cancel, pz_wi_else, pz_wl_else, vu_eq, vu_ne, pz_wi_gc, pz_wi_ga, pz_wi_gn, pz_wi_gl, pz_wi_gr, pz_wi_same, pz_wi_X, pz_wl_gc, pz_wl_ga, pz_wl_gn, pz_wl_gi, pz_wl_gr, pz_wl_same, pz_wl_X, pz_wr_gc, pz_wr_ga, pz_wr_gn, pz_wr_gi, pz_wr_gl, pz_wr_same, pz_wr_X, e96', st_shr hk hv, st_and hk hv, st_shr2 hk hv, st_and2 hk hv, st_and3 hk hv])
        refine po_brP (fun q6 => ?_) (fun q6 => ?_)
        · first
          | exact absurd q6 (by decide)
          | exact absurd trivial q6
          | exact q6.elim
          | (exfalso; (try simp (disch := omega) only [nI_ltI, nI_leI, nI_eq, nI_ltL, nI_leL, nI_eqL, nI_Llt, nI_Lle, nI_Leq, nI_eqm, nI_meq, nI_ltm, nI_lem, nI_mlt, nI_mle, lg0, lgl, lgg, lgle, lgge, Int32.not_lt, Int32.not_le, Int64.not_lt, Int64.not_le, not_false_eq_true, not_true_eq_false, Decidable.not_not, ge_iff_le, gt_iff_lt] at q6) <;> omega)
          | exact absurd q6 (by with_reducible assumption)
          | exact absurd (by with_reducible assumption) q6
          | exact absurd (Decidable.not_not.mp q6) (by with_reducible assumption)
          | exact absurd (by with_reducible assumption) (Int32.not_le.mpr q6)
          | exact absurd (by with_reducible assumption) (Int32.not_lt.mpr q6)
        · skip
          (try simp (disch := omega) only [nI_ltI, nI_leI, nI_eq, nI_ltL, nI_leL, nI_eqL, nI_Llt, nI_Lle, nI_Leq, nI_eqm, nI_meq, nI_ltm, nI_lem, nI_mlt, nI_mle, lg0, lgl, lgg, lgle, lgge, Int32.not_lt, Int32.not_le, Int64.not_lt, Int64.not_le, not_false_eq_true, not_true_eq_false, Decidable.not_not, ge_iff_le, gt_iff_lt] at q6)
          refine pw_blk (mi := mz_224) (b := bz_224_12) rfl rfl ?_
          simp only [bz_224_12, pz_cut_t, pz_cut_f, pz_cut_n, pv_gt, pv_ts, pv_tn, ev_ald0, ev_eld0, ev_gf6_2, ev_ild7, ea_iald, ev_bp16, ev_ishr, ev_ist8n, ev_ist8i, ev_ist8r, ev_ist8e, ev_ist8l, ev_ldc65535, ev_iand, ev_ist9n, ev_ist9i, ev_ist9r, ev_ist9e, ev_ist9l, ev_ild8, ev_bp6, ev_ic_ge, pz_wi_gc, pz_wi_ga, pz_wi_gn, pz_wi_gl, pz_wi_gr, pz_wi_same, pz_wi_X, pz_wl_gc, pz_wl_ga, pz_wl_gn, pz_wl_gi, pz_wl_gr, pz_wl_same, pz_wl_X, pz_wr_gc, pz_wr_ga, pz_wr_gn, pz_wr_gi, pz_wr_gl, pz_wr_same, pz_wr_X, so_93 hS', sr_93_5 hS', sa_96 hS', sn_96 hS', e96', st_shr hk hv, st_and hk hv, st_shr2 hk hv, st_and2 hk hv, st_and3 hk hv, sa_97 hS', sn_97 hS']
          (try simp (disch := omega) only [nI_clamp, pz_in_nI2, pz_in_nI2L, pv_gt, nI_add, nI_addL, nI_Ladd, pk_mul, nI_mulL, nI_Lmul, pk_sub, nI_subL, nI_Lsub, nI_inc, nI_clampL, Nat.add_sub_cancel, pz_wi_else, pz_wl_else, vu_eq, vu_ne, pz_wi_gc, pz_wi_ga, pz_wi_gn, pz_wi_gl, pz_wi_gr, pz_wi_same, pz_wi_X, pz_wl_gc, pz_wl_ga, pz_wl_gn, pz_wl_gi, pz_wl_gr, pz_wl_same, pz_wl_X, pz_wr_gc, pz_wr_ga, pz_wr_gn, pz_wr_gi, pz_wr_gl, pz_wr_same, pz_wr_X, e96', st_shr hk hv, st_and hk hv, st_shr2 hk hv, st_and2 hk hv, st_and3 hk hv])
          (try refine po_gI (by first | exact pz_in_nI (by omega) (by decide) | decide | assumption) ?_)
          (try refine po_gI (by first | exact pz_in_nI (by omega) (by decide) | decide | assumption) ?_)
          refine po_brP (fun q12 => ?_) (fun q12 => ?_)
          · first
            | exact absurd q12 (by decide)
            | exact absurd trivial q12
            | exact q12.elim
            | (exfalso; (try simp (disch := omega) only [nI_ltI, nI_leI, nI_eq, nI_ltL, nI_leL, nI_eqL, nI_Llt, nI_Lle, nI_Leq, nI_eqm, nI_meq, nI_ltm, nI_lem, nI_mlt, nI_mle, lg0, lgl, lgg, lgle, lgge, Int32.not_lt, Int32.not_le, Int64.not_lt, Int64.not_le, not_false_eq_true, not_true_eq_false, Decidable.not_not, ge_iff_le, gt_iff_lt] at q12) <;> omega)
            | exact absurd q12 (by with_reducible assumption)
            | exact absurd (by with_reducible assumption) q12
            | exact absurd (Decidable.not_not.mp q12) (by with_reducible assumption)
            | exact absurd (by with_reducible assumption) (Int32.not_le.mpr q12)
            | exact absurd (by with_reducible assumption) (Int32.not_lt.mpr q12)
          · skip
            (try simp (disch := omega) only [nI_ltI, nI_leI, nI_eq, nI_ltL, nI_leL, nI_eqL, nI_Llt, nI_Lle, nI_Leq, nI_eqm, nI_meq, nI_ltm, nI_lem, nI_mlt, nI_mle, lg0, lgl, lgg, lgle, lgge, Int32.not_lt, Int32.not_le, Int64.not_lt, Int64.not_le, not_false_eq_true, not_true_eq_false, Decidable.not_not, ge_iff_le, gt_iff_lt] at q12)
            refine pw_blk (mi := mz_224) (b := bz_224_43) rfl rfl ?_
            simp only [bz_224_43, pz_cut_t, pz_cut_f, pz_cut_n, pv_gt, pv_ts, pv_tn, ev_ild6, ev_ald0, ev_eld0, ev_gf6_2, ea_alen0, ea_alen1, ea_alen2, ea_alen3, ev_ic_ge, pz_wi_gc, pz_wi_ga, pz_wi_gn, pz_wi_gl, pz_wi_gr, pz_wi_same, pz_wi_X, pz_wl_gc, pz_wl_ga, pz_wl_gn, pz_wl_gi, pz_wl_gr, pz_wl_same, pz_wl_X, pz_wr_gc, pz_wr_ga, pz_wr_gn, pz_wr_gi, pz_wr_gl, pz_wr_same, pz_wr_X, so_93 hS', sr_93_6 hS', sa_97 hS', sn_97 hS', e96', st_shr hk hv, st_and hk hv, st_shr2 hk hv, st_and2 hk hv, st_and3 hk hv, n40, sa_96 hS', sn_96 hS']
            (try simp (disch := omega) only [nI_clamp, pz_in_nI2, pz_in_nI2L, pv_gt, nI_add, nI_addL, nI_Ladd, pk_mul, nI_mulL, nI_Lmul, pk_sub, nI_subL, nI_Lsub, nI_inc, nI_clampL, Nat.add_sub_cancel, pz_wi_else, pz_wl_else, vu_eq, vu_ne, pz_wi_gc, pz_wi_ga, pz_wi_gn, pz_wi_gl, pz_wi_gr, pz_wi_same, pz_wi_X, pz_wl_gc, pz_wl_ga, pz_wl_gn, pz_wl_gi, pz_wl_gr, pz_wl_same, pz_wl_X, pz_wr_gc, pz_wr_ga, pz_wr_gn, pz_wr_gi, pz_wr_gl, pz_wr_same, pz_wr_X, e96', st_shr hk hv, st_and hk hv, st_shr2 hk hv, st_and2 hk hv, st_and3 hk hv, n40])
            refine po_brP (fun q43 => ?_) (fun q43 => ?_)
            · first
              | exact absurd q43 (by decide)
              | exact absurd trivial q43
              | exact q43.elim
              | (exfalso; (try simp (disch := omega) only [nI_ltI, nI_leI, nI_eq, nI_ltL, nI_leL, nI_eqL, nI_Llt, nI_Lle, nI_Leq, nI_eqm, nI_meq, nI_ltm, nI_lem, nI_mlt, nI_mle, lg0, lgl, lgg, lgle, lgge, Int32.not_lt, Int32.not_le, Int64.not_lt, Int64.not_le, not_false_eq_true, not_true_eq_false, Decidable.not_not, ge_iff_le, gt_iff_lt] at q43) <;> omega)
              | exact absurd q43 (by with_reducible assumption)
              | exact absurd (by with_reducible assumption) q43
              | exact absurd (Decidable.not_not.mp q43) (by with_reducible assumption)
              | exact absurd (by with_reducible assumption) (Int32.not_le.mpr q43)
              | exact absurd (by with_reducible assumption) (Int32.not_lt.mpr q43)
            · skip
              (try simp (disch := omega) only [nI_ltI, nI_leI, nI_eq, nI_ltL, nI_leL, nI_eqL, nI_Llt, nI_Lle, nI_Leq, nI_eqm, nI_meq, nI_ltm, nI_lem, nI_mlt, nI_mle, lg0, lgl, lgg, lgle, lgge, Int32.not_lt, Int32.not_le, Int64.not_lt, Int64.not_le, not_false_eq_true, not_true_eq_false, Decidable.not_not, ge_iff_le, gt_iff_lt] at q43)
              refine pw_blk (mi := mz_224) (b := bz_224_53) rfl rfl ?_
              simp only [bz_224_53, pz_cut_t, pz_cut_f, pz_cut_n, pv_gt, pv_ts, pv_tn, ev_ald0, ev_eld0, ev_gf6_2, ev_ild6, ev_ild8, ev_ild9, ev_ald3, ev_eld3, ev_ald4, ev_eld4, ev_ild5, ev_cs5, pz_wi_gc, pz_wi_ga, pz_wi_gn, pz_wi_gl, pz_wi_gr, pz_wi_same, pz_wi_X, pz_wl_gc, pz_wl_ga, pz_wl_gn, pz_wl_gi, pz_wl_gr, pz_wl_same, pz_wl_X, pz_wr_gc, pz_wr_ga, pz_wr_gn, pz_wr_gi, pz_wr_gl, pz_wr_same, pz_wr_X, so_93 hS', sr_93_6 hS', sa_97 hS', sn_97 hS', e96', st_shr hk hv, st_and hk hv, st_shr2 hk hv, st_and2 hk hv, st_and3 hk hv]
              (try simp (disch := omega) only [nI_clamp, pz_in_nI2, pz_in_nI2L, pv_gt, nI_add, nI_addL, nI_Ladd, pk_mul, nI_mulL, nI_Lmul, pk_sub, nI_subL, nI_Lsub, nI_inc, nI_clampL, Nat.add_sub_cancel, pz_wi_else, pz_wl_else, vu_eq, vu_ne, pz_wi_gc, pz_wi_ga, pz_wi_gn, pz_wi_gl, pz_wi_gr, pz_wi_same, pz_wi_X, pz_wl_gc, pz_wl_ga, pz_wl_gn, pz_wl_gi, pz_wl_gr, pz_wl_same, pz_wl_X, pz_wr_gc, pz_wr_ga, pz_wr_gn, pz_wr_gi, pz_wr_gl, pz_wr_same, pz_wr_X, e96', st_shr hk hv, st_and hk hv, st_shr2 hk hv, st_and2 hk hv, st_and3 hk hv])
              (try refine po_gP (Nat.le_of_ble_eq_true rfl) ?_)
              refine po_call (by omega) (m_unitValue (h := h) (e := e) (cu := cu) (y := y) (by omega) hS' (hM.sm s') (by rw [s'.i (by simp; omega)]; exact hh) (by rw [s'.i (by simp; omega)]; exact he) (by rw [s'.i (by simp; omega)]; exact hy) (fun v hv => by rw [s'.i (by decide)]; exact hc v hv) hr hB k6 hv (fun z => hvB z k6) ?_)
              refine pw_blk (mi := mz_224) (b := bz_224_71) rfl rfl ?_
              simp only [bz_224_71, pz_cut_t, pz_cut_f, pz_cut_n, pv_gt, pv_ts, pv_tn, ea_iast, ev_inc6n, ev_inc6i, ev_inc6r, ev_inc6e, ev_goto, pz_wi_gc, pz_wi_ga, pz_wi_gn, pz_wi_gl, pz_wi_gr, pz_wi_same, pz_wi_X, pz_wl_gc, pz_wl_ga, pz_wl_gn, pz_wl_gi, pz_wl_gr, pz_wl_same, pz_wl_X, pz_wr_gc, pz_wr_ga, pz_wr_gn, pz_wr_gi, pz_wr_gl, pz_wr_same, pz_wr_X, e96', st_shr hk hv, st_and hk hv, st_shr2 hk hv, st_and2 hk hv, st_and3 hk hv, sa_96 hS', sn_96 hS', sa_97 hS', sn_97 hS']
              (try simp (disch := omega) only [nI_clamp, pz_in_nI2, pz_in_nI2L, pv_gt, nI_add, nI_addL, nI_Ladd, pk_mul, nI_mulL, nI_Lmul, pk_sub, nI_subL, nI_Lsub, nI_inc, nI_clampL, Nat.add_sub_cancel, pz_wi_else, pz_wl_else, vu_eq, vu_ne, pz_wi_gc, pz_wi_ga, pz_wi_gn, pz_wi_gl, pz_wi_gr, pz_wi_same, pz_wi_X, pz_wl_gc, pz_wl_ga, pz_wl_gn, pz_wl_gi, pz_wl_gr, pz_wl_same, pz_wl_X, pz_wr_gc, pz_wr_ga, pz_wr_gn, pz_wr_gi, pz_wr_gl, pz_wr_same, pz_wr_X, e96', st_shr hk hv, st_and hk hv, st_shr2 hk hv, st_and2 hk hv, st_and3 hk hv])
              (try refine po_gI (by first | exact pz_in_nI (by omega) (by decide) | decide | assumption) ?_)
              refine po_go ?_
              refine pw_blk (mi := mz_224) (b := bz_224_158) rfl rfl ?_
              simp only [bz_224_158, pz_cut_t, pz_cut_f, pz_cut_n, pv_gt, pv_ts, pv_tn, ev_inc7n, ev_inc7i, ev_inc7r, ev_inc7e, ev_goto, pz_wi_gc, pz_wi_ga, pz_wi_gn, pz_wi_gl, pz_wi_gr, pz_wi_same, pz_wi_X, pz_wl_gc, pz_wl_ga, pz_wl_gn, pz_wl_gi, pz_wl_gr, pz_wl_same, pz_wl_X, pz_wr_gc, pz_wr_ga, pz_wr_gn, pz_wr_gi, pz_wr_gl, pz_wr_same, pz_wr_X, e96', st_shr hk hv, st_and hk hv, st_shr2 hk hv, st_and2 hk hv, st_and3 hk hv]
              (try simp (disch := omega) only [nI_clamp, pz_in_nI2, pz_in_nI2L, pv_gt, nI_add, nI_addL, nI_Ladd, pk_mul, nI_mulL, nI_Lmul, pk_sub, nI_subL, nI_Lsub, nI_inc, nI_clampL, Nat.add_sub_cancel, pz_wi_else, pz_wl_else, vu_eq, vu_ne, pz_wi_gc, pz_wi_ga, pz_wi_gn, pz_wi_gl, pz_wi_gr, pz_wi_same, pz_wi_X, pz_wl_gc, pz_wl_ga, pz_wl_gn, pz_wl_gi, pz_wl_gr, pz_wl_same, pz_wl_X, pz_wr_gc, pz_wr_ga, pz_wr_gn, pz_wr_gi, pz_wr_gl, pz_wr_same, pz_wr_X, e96', st_shr hk hv, st_and hk hv, st_shr2 hk hv, st_and2 hk hv, st_and3 hk hv])
              refine po_go ?_
              refine pw_cut (mi := mz_224) (b := bz_224_6) rfl rfl (ih (f + 1) (m + 1) (va_up s m (uv h e y cu B k v)) _ (by omega) (sm.wi s' (by decide)) (by omega) hp' hcd' ?_ ?_) rfl
              · simp (disch := omega) only [pz_wi_same, pz_wi_else]
                exact va_ag hag (fun i hi h2 => by omega)
              · intro M2 s2
                have z := K M2 s2
                rw [ev_push e96 hk hv k6] at z
                exact z
      · by_cases k7 : k = 6
        · obtain ⟨hm1, hp'⟩ := pil_not e96 hk hv k7 hp
          have g1 : gi M' 97 (m - 1) = s (m - 1) := hag (m - 1) (by omega)
          refine pw_blk (mi := mz_224) (b := bz_224_6) rfl rfl ?_
          simp only [bz_224_6, pz_cut_t, pz_cut_f, pz_cut_n, pv_gt, pv_ts, pv_tn, ev_ild7, ev_ild2, ev_ic_ge, pz_wi_gc, pz_wi_ga, pz_wi_gn, pz_wi_gl, pz_wi_gr, pz_wi_same, pz_wi_X, pz_wl_gc, pz_wl_ga, pz_wl_gn, pz_wl_gi, pz_wl_gr, pz_wl_same, pz_wl_X, pz_wr_gc, pz_wr_ga, pz_wr_gn, pz_wr_gi, pz_wr_gl, pz_wr_same, pz_wr_X, e96', st_shr hk hv, st_and hk hv, st_shr2 hk hv, st_and2 hk hv, st_and3 hk hv, g1]
          (try simp (disch := omega) only [nI_clamp, pz_in_nI2, pz_in_nI2L, pv_gt, nI_add, nI_addL, nI_Ladd, pk_mul, nI_mulL, nI_Lmul, pk_sub, nI_subL, nI_Lsub, nI_inc, nI_clampL, Nat.add_sub_cancel, pz_wi_else, pz_wl_else, vu_eq, vu_ne, pz_wi_gc, pz_wi_ga, pz_wi_gn, pz_wi_gl, pz_wi_gr, pz_wi_same, pz_wi_X, pz_wl_gc, pz_wl_ga, pz_wl_gn, pz_wl_gi, pz_wl_gr, pz_wl_same, pz_wl_X, pz_wr_gc, pz_wr_ga, pz_wr_gn, pz_wr_gi, pz_wr_gl, pz_wr_same, pz_wr_X, e96', st_shr hk hv, st_and hk hv, st_shr2 hk hv, st_and2 hk hv, st_and3 hk hv, g1])
          refine po_brP (fun q6 => ?_) (fun q6 => ?_)
          · first
            | exact absurd q6 (by decide)
            | exact absurd trivial q6
            | exact q6.elim
            | (exfalso; (try simp (disch := omega) only [nI_ltI, nI_leI, nI_eq, nI_ltL, nI_leL, nI_eqL, nI_Llt, nI_Lle, nI_Leq, nI_eqm, nI_meq, nI_ltm, nI_lem, nI_mlt, nI_mle, lg0, lgl, lgg, lgle, lgge, Int32.not_lt, Int32.not_le, Int64.not_lt, Int64.not_le, not_false_eq_true, not_true_eq_false, Decidable.not_not, ge_iff_le, gt_iff_lt] at q6) <;> omega)
            | exact absurd q6 (by with_reducible assumption)
            | exact absurd (by with_reducible assumption) q6
            | exact absurd (Decidable.not_not.mp q6) (by with_reducible assumption)
            | exact absurd (by with_reducible assumption) (Int32.not_le.mpr q6)
            | exact absurd (by with_reducible assumption) (Int32.not_lt.mpr q6)
          · skip
            (try simp (disch := omega) only [nI_ltI, nI_leI, nI_eq, nI_ltL, nI_leL, nI_eqL, nI_Llt, nI_Lle, nI_Leq, nI_eqm, nI_meq, nI_ltm, nI_lem, nI_mlt, nI_mle, lg0, lgl, lgg, lgle, lgge, Int32.not_lt, Int32.not_le, Int64.not_lt, Int64.not_le, not_false_eq_true, not_true_eq_false, Decidable.not_not, ge_iff_le, gt_iff_lt] at q6)
            refine pw_blk (mi := mz_224) (b := bz_224_12) rfl rfl ?_
            simp only [bz_224_12, pz_cut_t, pz_cut_f, pz_cut_n, pv_gt, pv_ts, pv_tn, ev_ald0, ev_eld0, ev_gf6_2, ev_ild7, ea_iald, ev_bp16, ev_ishr, ev_ist8n, ev_ist8i, ev_ist8r, ev_ist8e, ev_ist8l, ev_ldc65535, ev_iand, ev_ist9n, ev_ist9i, ev_ist9r, ev_ist9e, ev_ist9l, ev_ild8, ev_bp6, ev_ic_ge, pz_wi_gc, pz_wi_ga, pz_wi_gn, pz_wi_gl, pz_wi_gr, pz_wi_same, pz_wi_X, pz_wl_gc, pz_wl_ga, pz_wl_gn, pz_wl_gi, pz_wl_gr, pz_wl_same, pz_wl_X, pz_wr_gc, pz_wr_ga, pz_wr_gn, pz_wr_gi, pz_wr_gl, pz_wr_same, pz_wr_X, so_93 hS', sr_93_5 hS', sa_96 hS', sn_96 hS', e96', st_shr hk hv, st_and hk hv, st_shr2 hk hv, st_and2 hk hv, st_and3 hk hv, g1, sa_97 hS', sn_97 hS']
            (try simp (disch := omega) only [nI_clamp, pz_in_nI2, pz_in_nI2L, pv_gt, nI_add, nI_addL, nI_Ladd, pk_mul, nI_mulL, nI_Lmul, pk_sub, nI_subL, nI_Lsub, nI_inc, nI_clampL, Nat.add_sub_cancel, pz_wi_else, pz_wl_else, vu_eq, vu_ne, pz_wi_gc, pz_wi_ga, pz_wi_gn, pz_wi_gl, pz_wi_gr, pz_wi_same, pz_wi_X, pz_wl_gc, pz_wl_ga, pz_wl_gn, pz_wl_gi, pz_wl_gr, pz_wl_same, pz_wl_X, pz_wr_gc, pz_wr_ga, pz_wr_gn, pz_wr_gi, pz_wr_gl, pz_wr_same, pz_wr_X, e96', st_shr hk hv, st_and hk hv, st_shr2 hk hv, st_and2 hk hv, st_and3 hk hv, g1])
            (try refine po_gI (by first | exact pz_in_nI (by omega) (by decide) | decide | assumption) ?_)
            (try refine po_gI (by first | exact pz_in_nI (by omega) (by decide) | decide | assumption) ?_)
            refine po_brP (fun q12 => ?_) (fun q12 => ?_)
            · skip
              (try simp (disch := omega) only [nI_ltI, nI_leI, nI_eq, nI_ltL, nI_leL, nI_eqL, nI_Llt, nI_Lle, nI_Leq, nI_eqm, nI_meq, nI_ltm, nI_lem, nI_mlt, nI_mle, lg0, lgl, lgg, lgle, lgge, Int32.not_lt, Int32.not_le, Int64.not_lt, Int64.not_le, not_false_eq_true, not_true_eq_false, Decidable.not_not, ge_iff_le, gt_iff_lt] at q12)
              refine pw_blk (mi := mz_224) (b := bz_224_78) rfl rfl ?_
              simp only [bz_224_78, pz_cut_t, pz_cut_f, pz_cut_n, pv_gt, pv_ts, pv_tn, ev_ild8, ev_bp6, ev_ic_ne, pz_wi_gc, pz_wi_ga, pz_wi_gn, pz_wi_gl, pz_wi_gr, pz_wi_same, pz_wi_X, pz_wl_gc, pz_wl_ga, pz_wl_gn, pz_wl_gi, pz_wl_gr, pz_wl_same, pz_wl_X, pz_wr_gc, pz_wr_ga, pz_wr_gn, pz_wr_gi, pz_wr_gl, pz_wr_same, pz_wr_X, e96', st_shr hk hv, st_and hk hv, st_shr2 hk hv, st_and2 hk hv, st_and3 hk hv, g1]
              (try simp (disch := omega) only [nI_clamp, pz_in_nI2, pz_in_nI2L, pv_gt, nI_add, nI_addL, nI_Ladd, pk_mul, nI_mulL, nI_Lmul, pk_sub, nI_subL, nI_Lsub, nI_inc, nI_clampL, Nat.add_sub_cancel, pz_wi_else, pz_wl_else, vu_eq, vu_ne, pz_wi_gc, pz_wi_ga, pz_wi_gn, pz_wi_gl, pz_wi_gr, pz_wi_same, pz_wi_X, pz_wl_gc, pz_wl_ga, pz_wl_gn, pz_wl_gi, pz_wl_gr, pz_wl_same, pz_wl_X, pz_wr_gc, pz_wr_ga, pz_wr_gn, pz_wr_gi, pz_wr_gl, pz_wr_same, pz_wr_X, e96', st_shr hk hv, st_and hk hv, st_shr2 hk hv, st_and2 hk hv, st_and3 hk hv, g1])
              refine po_brP (fun q78 => ?_) (fun q78 => ?_)
              · first
                | exact absurd q78 (by decide)
                | exact absurd trivial q78
                | exact q78.elim
                | (exfalso; (try simp (disch := omega) only [nI_ltI, nI_leI, nI_eq, nI_ltL, nI_leL, nI_eqL, nI_Llt, nI_Lle, nI_Leq, nI_eqm, nI_meq, nI_ltm, nI_lem, nI_mlt, nI_mle, lg0, lgl, lgg, lgle, lgge, Int32.not_lt, Int32.not_le, Int64.not_lt, Int64.not_le, not_false_eq_true, not_true_eq_false, Decidable.not_not, ge_iff_le, gt_iff_lt] at q78) <;> omega)
                | exact absurd q78 (by with_reducible assumption)
                | exact absurd (by with_reducible assumption) q78
                | exact absurd (Decidable.not_not.mp q78) (by with_reducible assumption)
                | exact absurd (by with_reducible assumption) (Int32.not_le.mpr q78)
                | exact absurd (by with_reducible assumption) (Int32.not_lt.mpr q78)
              · skip
                (try simp (disch := omega) only [nI_ltI, nI_leI, nI_eq, nI_ltL, nI_leL, nI_eqL, nI_Llt, nI_Lle, nI_Leq, nI_eqm, nI_meq, nI_ltm, nI_lem, nI_mlt, nI_mle, lg0, lgl, lgg, lgle, lgge, Int32.not_lt, Int32.not_le, Int64.not_lt, Int64.not_le, not_false_eq_true, not_true_eq_false, Decidable.not_not, ge_iff_le, gt_iff_lt] at q78)
                refine pw_blk (mi := mz_224) (b := bz_224_85) rfl rfl ?_
                simp only [bz_224_85, pz_cut_t, pz_cut_f, pz_cut_n, pv_gt, pv_ts, pv_tn, ev_ild6, ev_ifle, pz_wi_gc, pz_wi_ga, pz_wi_gn, pz_wi_gl, pz_wi_gr, pz_wi_same, pz_wi_X, pz_wl_gc, pz_wl_ga, pz_wl_gn, pz_wl_gi, pz_wl_gr, pz_wl_same, pz_wl_X, pz_wr_gc, pz_wr_ga, pz_wr_gn, pz_wr_gi, pz_wr_gl, pz_wr_same, pz_wr_X, e96', st_shr hk hv, st_and hk hv, st_shr2 hk hv, st_and2 hk hv, st_and3 hk hv, g1]
                (try simp (disch := omega) only [nI_clamp, pz_in_nI2, pz_in_nI2L, pv_gt, nI_add, nI_addL, nI_Ladd, pk_mul, nI_mulL, nI_Lmul, pk_sub, nI_subL, nI_Lsub, nI_inc, nI_clampL, Nat.add_sub_cancel, pz_wi_else, pz_wl_else, vu_eq, vu_ne, pz_wi_gc, pz_wi_ga, pz_wi_gn, pz_wi_gl, pz_wi_gr, pz_wi_same, pz_wi_X, pz_wl_gc, pz_wl_ga, pz_wl_gn, pz_wl_gi, pz_wl_gr, pz_wl_same, pz_wl_X, pz_wr_gc, pz_wr_ga, pz_wr_gn, pz_wr_gi, pz_wr_gl, pz_wr_same, pz_wr_X, e96', st_shr hk hv, st_and hk hv, st_shr2 hk hv, st_and2 hk hv, st_and3 hk hv, g1])
                refine po_brP (fun q85 => ?_) (fun q85 => ?_)
                · first
                  | exact absurd q85 (by decide)
                  | exact absurd trivial q85
                  | exact q85.elim
                  | (exfalso; (try simp (disch := omega) only [nI_ltI, nI_leI, nI_eq, nI_ltL, nI_leL, nI_eqL, nI_Llt, nI_Lle, nI_Leq, nI_eqm, nI_meq, nI_ltm, nI_lem, nI_mlt, nI_mle, lg0, lgl, lgg, lgle, lgge, Int32.not_lt, Int32.not_le, Int64.not_lt, Int64.not_le, not_false_eq_true, not_true_eq_false, Decidable.not_not, ge_iff_le, gt_iff_lt] at q85) <;> omega)
                  | exact absurd q85 (by with_reducible assumption)
                  | exact absurd (by with_reducible assumption) q85
                  | exact absurd (Decidable.not_not.mp q85) (by with_reducible assumption)
                  | exact absurd (by with_reducible assumption) (Int32.not_le.mpr q85)
                  | exact absurd (by with_reducible assumption) (Int32.not_lt.mpr q85)
                · skip
                  (try simp (disch := omega) only [nI_ltI, nI_leI, nI_eq, nI_ltL, nI_leL, nI_eqL, nI_Llt, nI_Lle, nI_Leq, nI_eqm, nI_meq, nI_ltm, nI_lem, nI_mlt, nI_mle, lg0, lgl, lgg, lgle, lgge, Int32.not_lt, Int32.not_le, Int64.not_lt, Int64.not_le, not_false_eq_true, not_true_eq_false, Decidable.not_not, ge_iff_le, gt_iff_lt] at q85)
                  refine pw_blk (mi := mz_224) (b := bz_224_90) rfl rfl ?_
                  simp only [bz_224_90, pz_cut_t, pz_cut_f, pz_cut_n, pv_gt, pv_ts, pv_tn, ev_ald0, ev_eld0, ev_gf6_2, ev_ild6, ev_ic1, ev_isub, ea_iald, ev_ifne, pz_wi_gc, pz_wi_ga, pz_wi_gn, pz_wi_gl, pz_wi_gr, pz_wi_same, pz_wi_X, pz_wl_gc, pz_wl_ga, pz_wl_gn, pz_wl_gi, pz_wl_gr, pz_wl_same, pz_wl_X, pz_wr_gc, pz_wr_ga, pz_wr_gn, pz_wr_gi, pz_wr_gl, pz_wr_same, pz_wr_X, so_93 hS', sr_93_6 hS', sa_97 hS', sn_97 hS', e96', st_shr hk hv, st_and hk hv, st_shr2 hk hv, st_and2 hk hv, st_and3 hk hv, g1, sa_96 hS', sn_96 hS']
                  (try simp (disch := omega) only [nI_clamp, pz_in_nI2, pz_in_nI2L, pv_gt, nI_add, nI_addL, nI_Ladd, pk_mul, nI_mulL, nI_Lmul, pk_sub, nI_subL, nI_Lsub, nI_inc, nI_clampL, Nat.add_sub_cancel, pz_wi_else, pz_wl_else, vu_eq, vu_ne, pz_wi_gc, pz_wi_ga, pz_wi_gn, pz_wi_gl, pz_wi_gr, pz_wi_same, pz_wi_X, pz_wl_gc, pz_wl_ga, pz_wl_gn, pz_wl_gi, pz_wl_gr, pz_wl_same, pz_wl_X, pz_wr_gc, pz_wr_ga, pz_wr_gn, pz_wr_gi, pz_wr_gl, pz_wr_same, pz_wr_X, e96', st_shr hk hv, st_and hk hv, st_shr2 hk hv, st_and2 hk hv, st_and3 hk hv, g1])
                  (try refine po_gI (by first | exact pz_in_nI (by omega) (by decide) | decide | assumption) ?_)
                  refine po_brP (fun q90 => ?_) (fun q90 => ?_)
                  · first
                    | exact absurd q90 (by decide)
                    | exact absurd trivial q90
                    | exact q90.elim
                    | (exfalso; (try simp (disch := omega) only [nI_ltI, nI_leI, nI_eq, nI_ltL, nI_leL, nI_eqL, nI_Llt, nI_Lle, nI_Leq, nI_eqm, nI_meq, nI_ltm, nI_lem, nI_mlt, nI_mle, lg0, lgl, lgg, lgle, lgge, Int32.not_lt, Int32.not_le, Int64.not_lt, Int64.not_le, not_false_eq_true, not_true_eq_false, Decidable.not_not, ge_iff_le, gt_iff_lt] at q90) <;> omega)
                    | exact absurd q90 (by with_reducible assumption)
                    | exact absurd (by with_reducible assumption) q90
                    | exact absurd (Decidable.not_not.mp q90) (by with_reducible assumption)
                    | exact absurd (by with_reducible assumption) (Int32.not_le.mpr q90)
                    | exact absurd (by with_reducible assumption) (Int32.not_lt.mpr q90)
                    | skip
                      (try simp (disch := omega) only [nI_ltI, nI_leI, nI_eq, nI_ltL, nI_leL, nI_eqL, nI_Llt, nI_Lle, nI_Leq, nI_eqm, nI_meq, nI_ltm, nI_lem, nI_mlt, nI_mle, lg0, lgl, lgg, lgle, lgge, Int32.not_lt, Int32.not_le, Int64.not_lt, Int64.not_le, not_false_eq_true, not_true_eq_false, Decidable.not_not, ge_iff_le, gt_iff_lt] at q90)
                      have z1 : (if s (m - 1) = 0 then (1 : Int32) else 0) = 0 := if_neg q90
                      refine pw_blk (mi := mz_224) (b := bz_224_114) rfl rfl ?_
                      simp only [bz_224_114, pz_cut_t, pz_cut_f, pz_cut_n, pv_gt, pv_ts, pv_tn, ev_ic0, ev_nil, pz_wi_gc, pz_wi_ga, pz_wi_gn, pz_wi_gl, pz_wi_gr, pz_wi_same, pz_wi_X, pz_wl_gc, pz_wl_ga, pz_wl_gn, pz_wl_gi, pz_wl_gr, pz_wl_same, pz_wl_X, pz_wr_gc, pz_wr_ga, pz_wr_gn, pz_wr_gi, pz_wr_gl, pz_wr_same, pz_wr_X, e96', st_shr hk hv, st_and hk hv, st_shr2 hk hv, st_and2 hk hv, st_and3 hk hv, g1]
                      (try simp (disch := omega) only [nI_clamp, pz_in_nI2, pz_in_nI2L, pv_gt, nI_add, nI_addL, nI_Ladd, pk_mul, nI_mulL, nI_Lmul, pk_sub, nI_subL, nI_Lsub, nI_inc, nI_clampL, Nat.add_sub_cancel, pz_wi_else, pz_wl_else, vu_eq, vu_ne, pz_wi_gc, pz_wi_ga, pz_wi_gn, pz_wi_gl, pz_wi_gr, pz_wi_same, pz_wi_X, pz_wl_gc, pz_wl_ga, pz_wl_gn, pz_wl_gi, pz_wl_gr, pz_wl_same, pz_wl_X, pz_wr_gc, pz_wr_ga, pz_wr_gn, pz_wr_gi, pz_wr_gl, pz_wr_same, pz_wr_X, e96', st_shr hk hv, st_and hk hv, st_shr2 hk hv, st_and2 hk hv, st_and3 hk hv, g1])
                      refine po_go ?_
                      refine pw_blk (mi := mz_224) (b := bz_224_115) rfl rfl ?_
                      simp only [bz_224_115, pz_cut_t, pz_cut_f, pz_cut_n, pv_gt, pv_ts, pv_tn, ea_iast, ev_goto, pz_wi_gc, pz_wi_ga, pz_wi_gn, pz_wi_gl, pz_wi_gr, pz_wi_same, pz_wi_X, pz_wl_gc, pz_wl_ga, pz_wl_gn, pz_wl_gi, pz_wl_gr, pz_wl_same, pz_wl_X, pz_wr_gc, pz_wr_ga, pz_wr_gn, pz_wr_gi, pz_wr_gl, pz_wr_same, pz_wr_X, e96', st_shr hk hv, st_and hk hv, st_shr2 hk hv, st_and2 hk hv, st_and3 hk hv, g1, sa_96 hS', sn_96 hS', sa_97 hS', sn_97 hS']
                      (try simp (disch := omega) only [nI_clamp, pz_in_nI2, pz_in_nI2L, pv_gt, nI_add, nI_addL, nI_Ladd, pk_mul, nI_mulL, nI_Lmul, pk_sub, nI_subL, nI_Lsub, nI_inc, nI_clampL, Nat.add_sub_cancel, pz_wi_else, pz_wl_else, vu_eq, vu_ne, pz_wi_gc, pz_wi_ga, pz_wi_gn, pz_wi_gl, pz_wi_gr, pz_wi_same, pz_wi_X, pz_wl_gc, pz_wl_ga, pz_wl_gn, pz_wl_gi, pz_wl_gr, pz_wl_same, pz_wl_X, pz_wr_gc, pz_wr_ga, pz_wr_gn, pz_wr_gi, pz_wr_gl, pz_wr_same, pz_wr_X, e96', st_shr hk hv, st_and hk hv, st_shr2 hk hv, st_and2 hk hv, st_and3 hk hv, g1])
                      (try refine po_gI (by first | exact pz_in_nI (by omega) (by decide) | decide | assumption) ?_)
                      refine po_go ?_
                      refine pw_blk (mi := mz_224) (b := bz_224_158) rfl rfl ?_
                      simp only [bz_224_158, pz_cut_t, pz_cut_f, pz_cut_n, pv_gt, pv_ts, pv_tn, ev_inc7n, ev_inc7i, ev_inc7r, ev_inc7e, ev_goto, pz_wi_gc, pz_wi_ga, pz_wi_gn, pz_wi_gl, pz_wi_gr, pz_wi_same, pz_wi_X, pz_wl_gc, pz_wl_ga, pz_wl_gn, pz_wl_gi, pz_wl_gr, pz_wl_same, pz_wl_X, pz_wr_gc, pz_wr_ga, pz_wr_gn, pz_wr_gi, pz_wr_gl, pz_wr_same, pz_wr_X, e96', st_shr hk hv, st_and hk hv, st_shr2 hk hv, st_and2 hk hv, st_and3 hk hv, g1]
                      (try simp (disch := omega) only [nI_clamp, pz_in_nI2, pz_in_nI2L, pv_gt, nI_add, nI_addL, nI_Ladd, pk_mul, nI_mulL, nI_Lmul, pk_sub, nI_subL, nI_Lsub, nI_inc, nI_clampL, Nat.add_sub_cancel, pz_wi_else, pz_wl_else, vu_eq, vu_ne, pz_wi_gc, pz_wi_ga, pz_wi_gn, pz_wi_gl, pz_wi_gr, pz_wi_same, pz_wi_X, pz_wl_gc, pz_wl_ga, pz_wl_gn, pz_wl_gi, pz_wl_gr, pz_wl_same, pz_wl_X, pz_wr_gc, pz_wr_ga, pz_wr_gn, pz_wr_gi, pz_wr_gl, pz_wr_same, pz_wr_X, e96', st_shr hk hv, st_and hk hv, st_shr2 hk hv, st_and2 hk hv, st_and3 hk hv, g1])
                      refine po_go ?_
                      refine pw_cut (mi := mz_224) (b := bz_224_6) rfl rfl (ih (f + 1) m (va_up s (m - 1) (if s (m - 1) = 0 then 1 else 0)) _ (by omega) (sm.wi s' (by decide)) (by omega) hp' hcd' ?_ ?_) rfl
                      · simp (disch := omega) only [pz_wi_same, pz_wi_else]
                        rw [z1]
                        exact va_ag hag (fun i hi h2 => by omega)
                      · intro M2 s2
                        have z := K M2 s2
                        rw [ev_not e96 hk hv k7] at z
                        exact z
                  · first
                    | exact absurd q90 (by decide)
                    | exact absurd trivial q90
                    | exact q90.elim
                    | (exfalso; (try simp (disch := omega) only [nI_ltI, nI_leI, nI_eq, nI_ltL, nI_leL, nI_eqL, nI_Llt, nI_Lle, nI_Leq, nI_eqm, nI_meq, nI_ltm, nI_lem, nI_mlt, nI_mle, lg0, lgl, lgg, lgle, lgge, Int32.not_lt, Int32.not_le, Int64.not_lt, Int64.not_le, not_false_eq_true, not_true_eq_false, Decidable.not_not, ge_iff_le, gt_iff_lt] at q90) <;> omega)
                    | exact absurd q90 (by with_reducible assumption)
                    | exact absurd (by with_reducible assumption) q90
                    | exact absurd (Decidable.not_not.mp q90) (by with_reducible assumption)
                    | exact absurd (by with_reducible assumption) (Int32.not_le.mpr q90)
                    | exact absurd (by with_reducible assumption) (Int32.not_lt.mpr q90)
                    | skip
                      (try simp (disch := omega) only [nI_ltI, nI_leI, nI_eq, nI_ltL, nI_leL, nI_eqL, nI_Llt, nI_Lle, nI_Leq, nI_eqm, nI_meq, nI_ltm, nI_lem, nI_mlt, nI_mle, lg0, lgl, lgg, lgle, lgge, Int32.not_lt, Int32.not_le, Int64.not_lt, Int64.not_le, not_false_eq_true, not_true_eq_false, Decidable.not_not, ge_iff_le, gt_iff_lt] at q90)
                      have z1 : (if s (m - 1) = 0 then (1 : Int32) else 0) = 1 := if_pos q90
                      refine pw_blk (mi := mz_224) (b := bz_224_110) rfl rfl ?_
                      simp only [bz_224_110, pz_cut_t, pz_cut_f, pz_cut_n, pv_gt, pv_ts, pv_tn, ev_ic1, ev_goto, pz_wi_gc, pz_wi_ga, pz_wi_gn, pz_wi_gl, pz_wi_gr, pz_wi_same, pz_wi_X, pz_wl_gc, pz_wl_ga, pz_wl_gn, pz_wl_gi, pz_wl_gr, pz_wl_same, pz_wl_X, pz_wr_gc, pz_wr_ga, pz_wr_gn, pz_wr_gi, pz_wr_gl, pz_wr_same, pz_wr_X, e96', st_shr hk hv, st_and hk hv, st_shr2 hk hv, st_and2 hk hv, st_and3 hk hv, g1]
                      (try simp (disch := omega) only [nI_clamp, pz_in_nI2, pz_in_nI2L, pv_gt, nI_add, nI_addL, nI_Ladd, pk_mul, nI_mulL, nI_Lmul, pk_sub, nI_subL, nI_Lsub, nI_inc, nI_clampL, Nat.add_sub_cancel, pz_wi_else, pz_wl_else, vu_eq, vu_ne, pz_wi_gc, pz_wi_ga, pz_wi_gn, pz_wi_gl, pz_wi_gr, pz_wi_same, pz_wi_X, pz_wl_gc, pz_wl_ga, pz_wl_gn, pz_wl_gi, pz_wl_gr, pz_wl_same, pz_wl_X, pz_wr_gc, pz_wr_ga, pz_wr_gn, pz_wr_gi, pz_wr_gl, pz_wr_same, pz_wr_X, e96', st_shr hk hv, st_and hk hv, st_shr2 hk hv, st_and2 hk hv, st_and3 hk hv, g1])
                      refine po_go ?_
                      refine pw_blk (mi := mz_224) (b := bz_224_115) rfl rfl ?_
                      simp only [bz_224_115, pz_cut_t, pz_cut_f, pz_cut_n, pv_gt, pv_ts, pv_tn, ea_iast, ev_goto, pz_wi_gc, pz_wi_ga, pz_wi_gn, pz_wi_gl, pz_wi_gr, pz_wi_same, pz_wi_X, pz_wl_gc, pz_wl_ga, pz_wl_gn, pz_wl_gi, pz_wl_gr, pz_wl_same, pz_wl_X, pz_wr_gc, pz_wr_ga, pz_wr_gn, pz_wr_gi, pz_wr_gl, pz_wr_same, pz_wr_X, e96', st_shr hk hv, st_and hk hv, st_shr2 hk hv, st_and2 hk hv, st_and3 hk hv, g1, sa_96 hS', sn_96 hS', sa_97 hS', sn_97 hS']
                      (try simp (disch := omega) only [nI_clamp, pz_in_nI2, pz_in_nI2L, pv_gt, nI_add, nI_addL, nI_Ladd, pk_mul, nI_mulL, nI_Lmul, pk_sub, nI_subL, nI_Lsub, nI_inc, nI_clampL, Nat.add_sub_cancel, pz_wi_else, pz_wl_else, vu_eq, vu_ne, pz_wi_gc, pz_wi_ga, pz_wi_gn, pz_wi_gl, pz_wi_gr, pz_wi_same, pz_wi_X, pz_wl_gc, pz_wl_ga, pz_wl_gn, pz_wl_gi, pz_wl_gr, pz_wl_same, pz_wl_X, pz_wr_gc, pz_wr_ga, pz_wr_gn, pz_wr_gi, pz_wr_gl, pz_wr_same, pz_wr_X, e96', st_shr hk hv, st_and hk hv, st_shr2 hk hv, st_and2 hk hv, st_and3 hk hv, g1])
                      (try refine po_gI (by first | exact pz_in_nI (by omega) (by decide) | decide | assumption) ?_)
                      refine po_go ?_
                      refine pw_blk (mi := mz_224) (b := bz_224_158) rfl rfl ?_
                      simp only [bz_224_158, pz_cut_t, pz_cut_f, pz_cut_n, pv_gt, pv_ts, pv_tn, ev_inc7n, ev_inc7i, ev_inc7r, ev_inc7e, ev_goto, pz_wi_gc, pz_wi_ga, pz_wi_gn, pz_wi_gl, pz_wi_gr, pz_wi_same, pz_wi_X, pz_wl_gc, pz_wl_ga, pz_wl_gn, pz_wl_gi, pz_wl_gr, pz_wl_same, pz_wl_X, pz_wr_gc, pz_wr_ga, pz_wr_gn, pz_wr_gi, pz_wr_gl, pz_wr_same, pz_wr_X, e96', st_shr hk hv, st_and hk hv, st_shr2 hk hv, st_and2 hk hv, st_and3 hk hv, g1]
                      (try simp (disch := omega) only [nI_clamp, pz_in_nI2, pz_in_nI2L, pv_gt, nI_add, nI_addL, nI_Ladd, pk_mul, nI_mulL, nI_Lmul, pk_sub, nI_subL, nI_Lsub, nI_inc, nI_clampL, Nat.add_sub_cancel, pz_wi_else, pz_wl_else, vu_eq, vu_ne, pz_wi_gc, pz_wi_ga, pz_wi_gn, pz_wi_gl, pz_wi_gr, pz_wi_same, pz_wi_X, pz_wl_gc, pz_wl_ga, pz_wl_gn, pz_wl_gi, pz_wl_gr, pz_wl_same, pz_wl_X, pz_wr_gc, pz_wr_ga, pz_wr_gn, pz_wr_gi, pz_wr_gl, pz_wr_same, pz_wr_X, e96', st_shr hk hv, st_and hk hv, st_shr2 hk hv, st_and2 hk hv, st_and3 hk hv, g1])
                      refine po_go ?_
                      refine pw_cut (mi := mz_224) (b := bz_224_6) rfl rfl (ih (f + 1) m (va_up s (m - 1) (if s (m - 1) = 0 then 1 else 0)) _ (by omega) (sm.wi s' (by decide)) (by omega) hp' hcd' ?_ ?_) rfl
                      · simp (disch := omega) only [pz_wi_same, pz_wi_else]
                        rw [z1]
                        exact va_ag hag (fun i hi h2 => by omega)
                      · intro M2 s2
                        have z := K M2 s2
                        rw [ev_not e96 hk hv k7] at z
                        exact z
            · first
              | exact absurd q12 (by decide)
              | exact absurd trivial q12
              | exact q12.elim
              | (exfalso; (try simp (disch := omega) only [nI_ltI, nI_leI, nI_eq, nI_ltL, nI_leL, nI_eqL, nI_Llt, nI_Lle, nI_Leq, nI_eqm, nI_meq, nI_ltm, nI_lem, nI_mlt, nI_mle, lg0, lgl, lgg, lgle, lgge, Int32.not_lt, Int32.not_le, Int64.not_lt, Int64.not_le, not_false_eq_true, not_true_eq_false, Decidable.not_not, ge_iff_le, gt_iff_lt] at q12) <;> omega)
              | exact absurd q12 (by with_reducible assumption)
              | exact absurd (by with_reducible assumption) q12
              | exact absurd (Decidable.not_not.mp q12) (by with_reducible assumption)
              | exact absurd (by with_reducible assumption) (Int32.not_le.mpr q12)
              | exact absurd (by with_reducible assumption) (Int32.not_lt.mpr q12)
        · obtain ⟨hm2, hp'⟩ := pil_two e96 hk hv (by omega) hp
          have g1 : gi M' 97 (m - 1) = s (m - 1) := hag (m - 1) (by omega)
          have g2 : gi M' 97 (m - 1 - 1) = s (m - 1 - 1) := hag (m - 1 - 1) (by omega)
          refine pw_blk (mi := mz_224) (b := bz_224_6) rfl rfl ?_
          simp only [bz_224_6, pz_cut_t, pz_cut_f, pz_cut_n, pv_gt, pv_ts, pv_tn, ev_ild7, ev_ild2, ev_ic_ge, pz_wi_gc, pz_wi_ga, pz_wi_gn, pz_wi_gl, pz_wi_gr, pz_wi_same, pz_wi_X, pz_wl_gc, pz_wl_ga, pz_wl_gn, pz_wl_gi, pz_wl_gr, pz_wl_same, pz_wl_X, pz_wr_gc, pz_wr_ga, pz_wr_gn, pz_wr_gi, pz_wr_gl, pz_wr_same, pz_wr_X, e96', st_shr hk hv, st_and hk hv, st_shr2 hk hv, st_and2 hk hv, st_and3 hk hv, g1, g2, nI_dec]
          (try simp (disch := omega) only [nI_clamp, pz_in_nI2, pz_in_nI2L, pv_gt, nI_add, nI_addL, nI_Ladd, pk_mul, nI_mulL, nI_Lmul, pk_sub, nI_subL, nI_Lsub, nI_inc, nI_clampL, Nat.add_sub_cancel, pz_wi_else, pz_wl_else, vu_eq, vu_ne, pz_wi_gc, pz_wi_ga, pz_wi_gn, pz_wi_gl, pz_wi_gr, pz_wi_same, pz_wi_X, pz_wl_gc, pz_wl_ga, pz_wl_gn, pz_wl_gi, pz_wl_gr, pz_wl_same, pz_wl_X, pz_wr_gc, pz_wr_ga, pz_wr_gn, pz_wr_gi, pz_wr_gl, pz_wr_same, pz_wr_X, e96', st_shr hk hv, st_and hk hv, st_shr2 hk hv, st_and2 hk hv, st_and3 hk hv, g1, g2, nI_dec])
          refine po_brP (fun q6 => ?_) (fun q6 => ?_)
          · first
            | exact absurd q6 (by decide)
            | exact absurd trivial q6
            | exact q6.elim
            | (exfalso; (try simp (disch := omega) only [nI_ltI, nI_leI, nI_eq, nI_ltL, nI_leL, nI_eqL, nI_Llt, nI_Lle, nI_Leq, nI_eqm, nI_meq, nI_ltm, nI_lem, nI_mlt, nI_mle, lg0, lgl, lgg, lgle, lgge, Int32.not_lt, Int32.not_le, Int64.not_lt, Int64.not_le, not_false_eq_true, not_true_eq_false, Decidable.not_not, ge_iff_le, gt_iff_lt] at q6) <;> omega)
            | exact absurd q6 (by with_reducible assumption)
            | exact absurd (by with_reducible assumption) q6
            | exact absurd (Decidable.not_not.mp q6) (by with_reducible assumption)
            | exact absurd (by with_reducible assumption) (Int32.not_le.mpr q6)
            | exact absurd (by with_reducible assumption) (Int32.not_lt.mpr q6)
          · skip
            (try simp (disch := omega) only [nI_ltI, nI_leI, nI_eq, nI_ltL, nI_leL, nI_eqL, nI_Llt, nI_Lle, nI_Leq, nI_eqm, nI_meq, nI_ltm, nI_lem, nI_mlt, nI_mle, lg0, lgl, lgg, lgle, lgge, Int32.not_lt, Int32.not_le, Int64.not_lt, Int64.not_le, not_false_eq_true, not_true_eq_false, Decidable.not_not, ge_iff_le, gt_iff_lt] at q6)
            refine pw_blk (mi := mz_224) (b := bz_224_12) rfl rfl ?_
            simp only [bz_224_12, pz_cut_t, pz_cut_f, pz_cut_n, pv_gt, pv_ts, pv_tn, ev_ald0, ev_eld0, ev_gf6_2, ev_ild7, ea_iald, ev_bp16, ev_ishr, ev_ist8n, ev_ist8i, ev_ist8r, ev_ist8e, ev_ist8l, ev_ldc65535, ev_iand, ev_ist9n, ev_ist9i, ev_ist9r, ev_ist9e, ev_ist9l, ev_ild8, ev_bp6, ev_ic_ge, pz_wi_gc, pz_wi_ga, pz_wi_gn, pz_wi_gl, pz_wi_gr, pz_wi_same, pz_wi_X, pz_wl_gc, pz_wl_ga, pz_wl_gn, pz_wl_gi, pz_wl_gr, pz_wl_same, pz_wl_X, pz_wr_gc, pz_wr_ga, pz_wr_gn, pz_wr_gi, pz_wr_gl, pz_wr_same, pz_wr_X, so_93 hS', sr_93_5 hS', sa_96 hS', sn_96 hS', e96', st_shr hk hv, st_and hk hv, st_shr2 hk hv, st_and2 hk hv, st_and3 hk hv, g1, g2, nI_dec, sa_97 hS', sn_97 hS']
            (try simp (disch := omega) only [nI_clamp, pz_in_nI2, pz_in_nI2L, pv_gt, nI_add, nI_addL, nI_Ladd, pk_mul, nI_mulL, nI_Lmul, pk_sub, nI_subL, nI_Lsub, nI_inc, nI_clampL, Nat.add_sub_cancel, pz_wi_else, pz_wl_else, vu_eq, vu_ne, pz_wi_gc, pz_wi_ga, pz_wi_gn, pz_wi_gl, pz_wi_gr, pz_wi_same, pz_wi_X, pz_wl_gc, pz_wl_ga, pz_wl_gn, pz_wl_gi, pz_wl_gr, pz_wl_same, pz_wl_X, pz_wr_gc, pz_wr_ga, pz_wr_gn, pz_wr_gi, pz_wr_gl, pz_wr_same, pz_wr_X, e96', st_shr hk hv, st_and hk hv, st_shr2 hk hv, st_and2 hk hv, st_and3 hk hv, g1, g2, nI_dec])
            (try refine po_gI (by first | exact pz_in_nI (by omega) (by decide) | decide | assumption) ?_)
            (try refine po_gI (by first | exact pz_in_nI (by omega) (by decide) | decide | assumption) ?_)
            refine po_brP (fun q12 => ?_) (fun q12 => ?_)
            · skip
              (try simp (disch := omega) only [nI_ltI, nI_leI, nI_eq, nI_ltL, nI_leL, nI_eqL, nI_Llt, nI_Lle, nI_Leq, nI_eqm, nI_meq, nI_ltm, nI_lem, nI_mlt, nI_mle, lg0, lgl, lgg, lgle, lgge, Int32.not_lt, Int32.not_le, Int64.not_lt, Int64.not_le, not_false_eq_true, not_true_eq_false, Decidable.not_not, ge_iff_le, gt_iff_lt] at q12)
              refine pw_blk (mi := mz_224) (b := bz_224_78) rfl rfl ?_
              simp only [bz_224_78, pz_cut_t, pz_cut_f, pz_cut_n, pv_gt, pv_ts, pv_tn, ev_ild8, ev_bp6, ev_ic_ne, pz_wi_gc, pz_wi_ga, pz_wi_gn, pz_wi_gl, pz_wi_gr, pz_wi_same, pz_wi_X, pz_wl_gc, pz_wl_ga, pz_wl_gn, pz_wl_gi, pz_wl_gr, pz_wl_same, pz_wl_X, pz_wr_gc, pz_wr_ga, pz_wr_gn, pz_wr_gi, pz_wr_gl, pz_wr_same, pz_wr_X, e96', st_shr hk hv, st_and hk hv, st_shr2 hk hv, st_and2 hk hv, st_and3 hk hv, g1, g2, nI_dec]
              (try simp (disch := omega) only [nI_clamp, pz_in_nI2, pz_in_nI2L, pv_gt, nI_add, nI_addL, nI_Ladd, pk_mul, nI_mulL, nI_Lmul, pk_sub, nI_subL, nI_Lsub, nI_inc, nI_clampL, Nat.add_sub_cancel, pz_wi_else, pz_wl_else, vu_eq, vu_ne, pz_wi_gc, pz_wi_ga, pz_wi_gn, pz_wi_gl, pz_wi_gr, pz_wi_same, pz_wi_X, pz_wl_gc, pz_wl_ga, pz_wl_gn, pz_wl_gi, pz_wl_gr, pz_wl_same, pz_wl_X, pz_wr_gc, pz_wr_ga, pz_wr_gn, pz_wr_gi, pz_wr_gl, pz_wr_same, pz_wr_X, e96', st_shr hk hv, st_and hk hv, st_shr2 hk hv, st_and2 hk hv, st_and3 hk hv, g1, g2, nI_dec])
              refine po_brP (fun q78 => ?_) (fun q78 => ?_)
              · skip
                (try simp (disch := omega) only [nI_ltI, nI_leI, nI_eq, nI_ltL, nI_leL, nI_eqL, nI_Llt, nI_Lle, nI_Leq, nI_eqm, nI_meq, nI_ltm, nI_lem, nI_mlt, nI_mle, lg0, lgl, lgg, lgle, lgge, Int32.not_lt, Int32.not_le, Int64.not_lt, Int64.not_le, not_false_eq_true, not_true_eq_false, Decidable.not_not, ge_iff_le, gt_iff_lt] at q78)
                refine pw_blk (mi := mz_224) (b := bz_224_119) rfl rfl ?_
                simp only [bz_224_119, pz_cut_t, pz_cut_f, pz_cut_n, pv_gt, pv_ts, pv_tn, ev_ild6, ev_ic1, ev_ic_le, pz_wi_gc, pz_wi_ga, pz_wi_gn, pz_wi_gl, pz_wi_gr, pz_wi_same, pz_wi_X, pz_wl_gc, pz_wl_ga, pz_wl_gn, pz_wl_gi, pz_wl_gr, pz_wl_same, pz_wl_X, pz_wr_gc, pz_wr_ga, pz_wr_gn, pz_wr_gi, pz_wr_gl, pz_wr_same, pz_wr_X, e96', st_shr hk hv, st_and hk hv, st_shr2 hk hv, st_and2 hk hv, st_and3 hk hv, g1, g2, nI_dec]
                (try simp (disch := omega) only [nI_clamp, pz_in_nI2, pz_in_nI2L, pv_gt, nI_add, nI_addL, nI_Ladd, pk_mul, nI_mulL, nI_Lmul, pk_sub, nI_subL, nI_Lsub, nI_inc, nI_clampL, Nat.add_sub_cancel, pz_wi_else, pz_wl_else, vu_eq, vu_ne, pz_wi_gc, pz_wi_ga, pz_wi_gn, pz_wi_gl, pz_wi_gr, pz_wi_same, pz_wi_X, pz_wl_gc, pz_wl_ga, pz_wl_gn, pz_wl_gi, pz_wl_gr, pz_wl_same, pz_wl_X, pz_wr_gc, pz_wr_ga, pz_wr_gn, pz_wr_gi, pz_wr_gl, pz_wr_same, pz_wr_X, e96', st_shr hk hv, st_and hk hv, st_shr2 hk hv, st_and2 hk hv, st_and3 hk hv, g1, g2, nI_dec])
                refine po_brP (fun q119 => ?_) (fun q119 => ?_)
                · first
                  | exact absurd q119 (by decide)
                  | exact absurd trivial q119
                  | exact q119.elim
                  | (exfalso; (try simp (disch := omega) only [nI_ltI, nI_leI, nI_eq, nI_ltL, nI_leL, nI_eqL, nI_Llt, nI_Lle, nI_Leq, nI_eqm, nI_meq, nI_ltm, nI_lem, nI_mlt, nI_mle, lg0, lgl, lgg, lgle, lgge, Int32.not_lt, Int32.not_le, Int64.not_lt, Int64.not_le, not_false_eq_true, not_true_eq_false, Decidable.not_not, ge_iff_le, gt_iff_lt] at q119) <;> omega)
                  | exact absurd q119 (by with_reducible assumption)
                  | exact absurd (by with_reducible assumption) q119
                  | exact absurd (Decidable.not_not.mp q119) (by with_reducible assumption)
                  | exact absurd (by with_reducible assumption) (Int32.not_le.mpr q119)
                  | exact absurd (by with_reducible assumption) (Int32.not_lt.mpr q119)
                · skip
                  (try simp (disch := omega) only [nI_ltI, nI_leI, nI_eq, nI_ltL, nI_leL, nI_eqL, nI_Llt, nI_Lle, nI_Leq, nI_eqm, nI_meq, nI_ltm, nI_lem, nI_mlt, nI_mle, lg0, lgl, lgg, lgle, lgge, Int32.not_lt, Int32.not_le, Int64.not_lt, Int64.not_le, not_false_eq_true, not_true_eq_false, Decidable.not_not, ge_iff_le, gt_iff_lt] at q119)
                  refine pw_blk (mi := mz_224) (b := bz_224_125) rfl rfl ?_
                  simp only [bz_224_125, pz_cut_t, pz_cut_f, pz_cut_n, pv_gt, pv_ts, pv_tn, ev_inc6n, ev_inc6i, ev_inc6r, ev_inc6e, ev_ald0, ev_eld0, ev_gf6_2, ev_ild6, ev_ic1, ev_isub, ev_ild8, ea_iald, ev_cs3, pz_wi_gc, pz_wi_ga, pz_wi_gn, pz_wi_gl, pz_wi_gr, pz_wi_same, pz_wi_X, pz_wl_gc, pz_wl_ga, pz_wl_gn, pz_wl_gi, pz_wl_gr, pz_wl_same, pz_wl_X, pz_wr_gc, pz_wr_ga, pz_wr_gn, pz_wr_gi, pz_wr_gl, pz_wr_same, pz_wr_X, so_93 hS', sr_93_6 hS', sa_97 hS', sn_97 hS', e96', st_shr hk hv, st_and hk hv, st_shr2 hk hv, st_and2 hk hv, st_and3 hk hv, g1, g2, nI_dec, sa_96 hS', sn_96 hS']
                  (try simp (disch := omega) only [nI_clamp, pz_in_nI2, pz_in_nI2L, pv_gt, nI_add, nI_addL, nI_Ladd, pk_mul, nI_mulL, nI_Lmul, pk_sub, nI_subL, nI_Lsub, nI_inc, nI_clampL, Nat.add_sub_cancel, pz_wi_else, pz_wl_else, vu_eq, vu_ne, pz_wi_gc, pz_wi_ga, pz_wi_gn, pz_wi_gl, pz_wi_gr, pz_wi_same, pz_wi_X, pz_wl_gc, pz_wl_ga, pz_wl_gn, pz_wl_gi, pz_wl_gr, pz_wl_same, pz_wl_X, pz_wr_gc, pz_wr_ga, pz_wr_gn, pz_wr_gi, pz_wr_gl, pz_wr_same, pz_wr_X, e96', st_shr hk hv, st_and hk hv, st_shr2 hk hv, st_and2 hk hv, st_and3 hk hv, g1, g2, nI_dec])
                  (try refine po_gI (by first | exact pz_in_nI (by omega) (by decide) | decide | assumption) ?_)
                  (try refine po_gI (by first | exact pz_in_nI (by omega) (by decide) | decide | assumption) ?_)
                  (try refine po_gP (Nat.le_of_ble_eq_true rfl) ?_)
                  refine po_call (by omega) (m_joined (by omega) hk ?_)
                  refine pw_blk (mi := mz_224) (b := bz_224_157) rfl rfl ?_
                  simp only [bz_224_157, pz_cut_t, pz_cut_f, pz_cut_n, pv_gt, pv_ts, pv_tn, ea_iast, ev_nil, pz_wi_gc, pz_wi_ga, pz_wi_gn, pz_wi_gl, pz_wi_gr, pz_wi_same, pz_wi_X, pz_wl_gc, pz_wl_ga, pz_wl_gn, pz_wl_gi, pz_wl_gr, pz_wl_same, pz_wl_X, pz_wr_gc, pz_wr_ga, pz_wr_gn, pz_wr_gi, pz_wr_gl, pz_wr_same, pz_wr_X, e96', st_shr hk hv, st_and hk hv, st_shr2 hk hv, st_and2 hk hv, st_and3 hk hv, g1, g2, nI_dec, sa_96 hS', sn_96 hS', sa_97 hS', sn_97 hS']
                  (try simp (disch := omega) only [nI_clamp, pz_in_nI2, pz_in_nI2L, pv_gt, nI_add, nI_addL, nI_Ladd, pk_mul, nI_mulL, nI_Lmul, pk_sub, nI_subL, nI_Lsub, nI_inc, nI_clampL, Nat.add_sub_cancel, pz_wi_else, pz_wl_else, vu_eq, vu_ne, pz_wi_gc, pz_wi_ga, pz_wi_gn, pz_wi_gl, pz_wi_gr, pz_wi_same, pz_wi_X, pz_wl_gc, pz_wl_ga, pz_wl_gn, pz_wl_gi, pz_wl_gr, pz_wl_same, pz_wl_X, pz_wr_gc, pz_wr_ga, pz_wr_gn, pz_wr_gi, pz_wr_gl, pz_wr_same, pz_wr_X, e96', st_shr hk hv, st_and hk hv, st_shr2 hk hv, st_and2 hk hv, st_and3 hk hv, g1, g2, nI_dec])
                  (try refine po_gI (by first | exact pz_in_nI (by omega) (by decide) | decide | assumption) ?_)
                  refine po_go ?_
                  refine pw_blk (mi := mz_224) (b := bz_224_158) rfl rfl ?_
                  simp only [bz_224_158, pz_cut_t, pz_cut_f, pz_cut_n, pv_gt, pv_ts, pv_tn, ev_inc7n, ev_inc7i, ev_inc7r, ev_inc7e, ev_goto, pz_wi_gc, pz_wi_ga, pz_wi_gn, pz_wi_gl, pz_wi_gr, pz_wi_same, pz_wi_X, pz_wl_gc, pz_wl_ga, pz_wl_gn, pz_wl_gi, pz_wl_gr, pz_wl_same, pz_wl_X, pz_wr_gc, pz_wr_ga, pz_wr_gn, pz_wr_gi, pz_wr_gl, pz_wr_same, pz_wr_X, e96', st_shr hk hv, st_and hk hv, st_shr2 hk hv, st_and2 hk hv, st_and3 hk hv, g1, g2, nI_dec]
                  (try simp (disch := omega) only [nI_clamp, pz_in_nI2, pz_in_nI2L, pv_gt, nI_add, nI_addL, nI_Ladd, pk_mul, nI_mulL, nI_Lmul, pk_sub, nI_subL, nI_Lsub, nI_inc, nI_clampL, Nat.add_sub_cancel, pz_wi_else, pz_wl_else, vu_eq, vu_ne, pz_wi_gc, pz_wi_ga, pz_wi_gn, pz_wi_gl, pz_wi_gr, pz_wi_same, pz_wi_X, pz_wl_gc, pz_wl_ga, pz_wl_gn, pz_wl_gi, pz_wl_gr, pz_wl_same, pz_wl_X, pz_wr_gc, pz_wr_ga, pz_wr_gn, pz_wr_gi, pz_wr_gl, pz_wr_same, pz_wr_X, e96', st_shr hk hv, st_and hk hv, st_shr2 hk hv, st_and2 hk hv, st_and3 hk hv, g1, g2, nI_dec])
                  refine po_go ?_
                  refine pw_cut (mi := mz_224) (b := bz_224_6) rfl rfl (ih (f + 1) (m - 1) (va_up s (m - 1 - 1) (jn k (s (m - 1 - 1)) (s (m - 1)))) _ (by omega) (sm.wi s' (by decide)) (by omega) hp' hcd' ?_ ?_) rfl
                  · simp (disch := omega) only [pz_wi_same, pz_wi_else]
                    exact va_ag hag (fun i hi h2 => by omega)
                  · intro M2 s2
                    have z := K M2 s2
                    rw [ev_two e96 hk hv (by omega)] at z
                    exact z
              · first
                | exact absurd q78 (by decide)
                | exact absurd trivial q78
                | exact q78.elim
                | (exfalso; (try simp (disch := omega) only [nI_ltI, nI_leI, nI_eq, nI_ltL, nI_leL, nI_eqL, nI_Llt, nI_Lle, nI_Leq, nI_eqm, nI_meq, nI_ltm, nI_lem, nI_mlt, nI_mle, lg0, lgl, lgg, lgle, lgge, Int32.not_lt, Int32.not_le, Int64.not_lt, Int64.not_le, not_false_eq_true, not_true_eq_false, Decidable.not_not, ge_iff_le, gt_iff_lt] at q78) <;> omega)
                | exact absurd q78 (by with_reducible assumption)
                | exact absurd (by with_reducible assumption) q78
                | exact absurd (Decidable.not_not.mp q78) (by with_reducible assumption)
                | exact absurd (by with_reducible assumption) (Int32.not_le.mpr q78)
                | exact absurd (by with_reducible assumption) (Int32.not_lt.mpr q78)
            · first
              | exact absurd q12 (by decide)
              | exact absurd trivial q12
              | exact q12.elim
              | (exfalso; (try simp (disch := omega) only [nI_ltI, nI_leI, nI_eq, nI_ltL, nI_leL, nI_eqL, nI_Llt, nI_Lle, nI_Leq, nI_eqm, nI_meq, nI_ltm, nI_lem, nI_mlt, nI_mle, lg0, lgl, lgg, lgle, lgge, Int32.not_lt, Int32.not_le, Int64.not_lt, Int64.not_le, not_false_eq_true, not_true_eq_false, Decidable.not_not, ge_iff_le, gt_iff_lt] at q12) <;> omega)
              | exact absurd q12 (by with_reducible assumption)
              | exact absurd (by with_reducible assumption) q12
              | exact absurd (Decidable.not_not.mp q12) (by with_reducible assumption)
              | exact absurd (by with_reducible assumption) (Int32.not_le.mpr q12)
              | exact absurd (by with_reducible assumption) (Int32.not_lt.mpr q12)
  refine pm_ent (L := [some (.ref 93), some (.int (nI f)), some (.int (nI T)), some (.ref o), some (.ref 104), some (.int (nI B)), none, none, none, none]) rfl (Nat.le_of_ble_eq_true rfl) ?_
  refine pw_blk (mi := mz_224) (b := bz_224_0) rfl rfl ?_
  simp only [bz_224_0, pz_cut_t, pz_cut_f, pz_cut_n, pv_gt, pv_ts, pv_tn, ev_ic0, ev_ist6n, ev_ist6i, ev_ist6r, ev_ist6e, ev_ist6l, ev_ild1, ev_ist7n, ev_ist7i, ev_ist7r, ev_ist7e, ev_ist7l, ev_nil, pz_wi_gc, pz_wi_ga, pz_wi_gn, pz_wi_gl, pz_wi_gr, pz_wi_same, pz_wi_X, pz_wl_gc, pz_wl_ga, pz_wl_gn, pz_wl_gi, pz_wl_gr, pz_wl_same, pz_wl_X, pz_wr_gc, pz_wr_ga, pz_wr_gn, pz_wr_gi, pz_wr_gl, pz_wr_same, pz_wr_X]
  (try simp (disch := omega) only [nI_clamp, pz_in_nI2, pz_in_nI2L, pv_gt, nI_add, nI_addL, nI_Ladd, pk_mul, nI_mulL, nI_Lmul, pk_sub, nI_subL, nI_Lsub, nI_inc, nI_clampL, Nat.add_sub_cancel, pz_wi_else, pz_wl_else, vu_eq, vu_ne, pz_wi_gc, pz_wi_ga, pz_wi_gn, pz_wi_gl, pz_wi_gr, pz_wi_same, pz_wi_X, pz_wl_gc, pz_wl_ga, pz_wl_gn, pz_wl_gi, pz_wl_gr, pz_wl_same, pz_wl_X, pz_wr_gc, pz_wr_ga, pz_wr_gn, pz_wr_gi, pz_wr_gl, pz_wr_same, pz_wr_X])
  refine po_go ?_
  refine pw_cut (mi := mz_224) (b := bz_224_6) rfl rfl (key c f 0 (fun _ => 0) M hT sm.rf (by omega) hp hcd (fun i hi => absurd hi (by omega)) K) rfl
theorem cdK_let : ∀ k, k < 6 → 97 ≤ cdK k ∧ cdK k ≤ 122 ∧ cdK k ≠ 126 := by decide
theorem cdK_sgn : ∀ k, k < 15 → 7 ≤ k → ¬ (97 ≤ cdK k ∧ cdK k ≤ 122) ∧ cdK k ≠ 126 ∧ cdK k < 126 := by decide
theorem r_isLetter1 {x : Nat} (h1 : 97 ≤ x) (h2 : x ≤ 122) (h : Q (some (.int 1), M)) : pm d 187 [.int (nI x)] M Q := by
  refine pm_ent (L := [some (.int (nI x))]) rfl (Nat.le_of_ble_eq_true rfl) ?_
  refine pw_blk (mi := mz_187) (b := bz_187_0) rfl rfl ?_
  simp only [bz_187_0, pz_cut_t, pz_cut_f, pz_cut_n, pv_gt, pv_ts, pv_tn, ev_ild0, ev_bp97, ev_ic_lt, pz_wi_gc, pz_wi_ga, pz_wi_gn, pz_wi_gl, pz_wi_gr, pz_wi_same, pz_wi_X, pz_wl_gc, pz_wl_ga, pz_wl_gn, pz_wl_gi, pz_wl_gr, pz_wl_same, pz_wl_X, pz_wr_gc, pz_wr_ga, pz_wr_gn, pz_wr_gi, pz_wr_gl, pz_wr_same, pz_wr_X]
  (try simp (disch := omega) only [nI_clamp, pz_in_nI2, pz_in_nI2L, pv_gt, nI_add, nI_addL, nI_Ladd, pk_mul, nI_mulL, nI_Lmul, pk_sub, nI_subL, nI_Lsub, nI_inc, nI_clampL, Nat.add_sub_cancel, pz_wi_else, pz_wl_else, vu_eq, vu_ne, pz_wi_gc, pz_wi_ga, pz_wi_gn, pz_wi_gl, pz_wi_gr, pz_wi_same, pz_wi_X, pz_wl_gc, pz_wl_ga, pz_wl_gn, pz_wl_gi, pz_wl_gr, pz_wl_same, pz_wl_X, pz_wr_gc, pz_wr_ga, pz_wr_gn, pz_wr_gi, pz_wr_gl, pz_wr_same, pz_wr_X])
  refine po_brP (fun q0 => ?_) (fun q0 => ?_)
  · first
    | exact absurd q0 (by decide)
    | exact absurd trivial q0
    | exact q0.elim
    | (exfalso; (try simp (disch := omega) only [nI_ltI, nI_leI, nI_eq, nI_ltL, nI_leL, nI_eqL, nI_Llt, nI_Lle, nI_Leq, nI_eqm, nI_meq, nI_ltm, nI_lem, nI_mlt, nI_mle, lg0, lgl, lgg, lgle, lgge, Int32.not_lt, Int32.not_le, Int64.not_lt, Int64.not_le, not_false_eq_true, not_true_eq_false, Decidable.not_not, ge_iff_le, gt_iff_lt] at q0) <;> omega)
    | exact absurd q0 (by with_reducible assumption)
    | exact absurd (by with_reducible assumption) q0
    | exact absurd (Decidable.not_not.mp q0) (by with_reducible assumption)
    | exact absurd (by with_reducible assumption) (Int32.not_le.mpr q0)
    | exact absurd (by with_reducible assumption) (Int32.not_lt.mpr q0)
  · skip
    (try simp (disch := omega) only [nI_ltI, nI_leI, nI_eq, nI_ltL, nI_leL, nI_eqL, nI_Llt, nI_Lle, nI_Leq, nI_eqm, nI_meq, nI_ltm, nI_lem, nI_mlt, nI_mle, lg0, lgl, lgg, lgle, lgge, Int32.not_lt, Int32.not_le, Int64.not_lt, Int64.not_le, not_false_eq_true, not_true_eq_false, Decidable.not_not, ge_iff_le, gt_iff_lt] at q0)
    refine pw_blk (mi := mz_187) (b := bz_187_6) rfl rfl ?_
    simp only [bz_187_6, pz_cut_t, pz_cut_f, pz_cut_n, pv_gt, pv_ts, pv_tn, ev_ild0, ev_bp122, ev_ic_gt, pz_wi_gc, pz_wi_ga, pz_wi_gn, pz_wi_gl, pz_wi_gr, pz_wi_same, pz_wi_X, pz_wl_gc, pz_wl_ga, pz_wl_gn, pz_wl_gi, pz_wl_gr, pz_wl_same, pz_wl_X, pz_wr_gc, pz_wr_ga, pz_wr_gn, pz_wr_gi, pz_wr_gl, pz_wr_same, pz_wr_X]
    (try simp (disch := omega) only [nI_clamp, pz_in_nI2, pz_in_nI2L, pv_gt, nI_add, nI_addL, nI_Ladd, pk_mul, nI_mulL, nI_Lmul, pk_sub, nI_subL, nI_Lsub, nI_inc, nI_clampL, Nat.add_sub_cancel, pz_wi_else, pz_wl_else, vu_eq, vu_ne, pz_wi_gc, pz_wi_ga, pz_wi_gn, pz_wi_gl, pz_wi_gr, pz_wi_same, pz_wi_X, pz_wl_gc, pz_wl_ga, pz_wl_gn, pz_wl_gi, pz_wl_gr, pz_wl_same, pz_wl_X, pz_wr_gc, pz_wr_ga, pz_wr_gn, pz_wr_gi, pz_wr_gl, pz_wr_same, pz_wr_X])
    refine po_brP (fun q6 => ?_) (fun q6 => ?_)
    · first
      | exact absurd q6 (by decide)
      | exact absurd trivial q6
      | exact q6.elim
      | (exfalso; (try simp (disch := omega) only [nI_ltI, nI_leI, nI_eq, nI_ltL, nI_leL, nI_eqL, nI_Llt, nI_Lle, nI_Leq, nI_eqm, nI_meq, nI_ltm, nI_lem, nI_mlt, nI_mle, lg0, lgl, lgg, lgle, lgge, Int32.not_lt, Int32.not_le, Int64.not_lt, Int64.not_le, not_false_eq_true, not_true_eq_false, Decidable.not_not, ge_iff_le, gt_iff_lt] at q6) <;> omega)
      | exact absurd q6 (by with_reducible assumption)
      | exact absurd (by with_reducible assumption) q6
      | exact absurd (Decidable.not_not.mp q6) (by with_reducible assumption)
      | exact absurd (by with_reducible assumption) (Int32.not_le.mpr q6)
      | exact absurd (by with_reducible assumption) (Int32.not_lt.mpr q6)
    · skip
      (try simp (disch := omega) only [nI_ltI, nI_leI, nI_eq, nI_ltL, nI_leL, nI_eqL, nI_Llt, nI_Lle, nI_Leq, nI_eqm, nI_meq, nI_ltm, nI_lem, nI_mlt, nI_mle, lg0, lgl, lgg, lgle, lgge, Int32.not_lt, Int32.not_le, Int64.not_lt, Int64.not_le, not_false_eq_true, not_true_eq_false, Decidable.not_not, ge_iff_le, gt_iff_lt] at q6)
      refine pw_blk (mi := mz_187) (b := bz_187_12) rfl rfl ?_
      simp only [bz_187_12, pz_cut_t, pz_cut_f, pz_cut_n, pv_gt, pv_ts, pv_tn, ev_ic1, ev_goto, pz_wi_gc, pz_wi_ga, pz_wi_gn, pz_wi_gl, pz_wi_gr, pz_wi_same, pz_wi_X, pz_wl_gc, pz_wl_ga, pz_wl_gn, pz_wl_gi, pz_wl_gr, pz_wl_same, pz_wl_X, pz_wr_gc, pz_wr_ga, pz_wr_gn, pz_wr_gi, pz_wr_gl, pz_wr_same, pz_wr_X]
      (try simp (disch := omega) only [nI_clamp, pz_in_nI2, pz_in_nI2L, pv_gt, nI_add, nI_addL, nI_Ladd, pk_mul, nI_mulL, nI_Lmul, pk_sub, nI_subL, nI_Lsub, nI_inc, nI_clampL, Nat.add_sub_cancel, pz_wi_else, pz_wl_else, vu_eq, vu_ne, pz_wi_gc, pz_wi_ga, pz_wi_gn, pz_wi_gl, pz_wi_gr, pz_wi_same, pz_wi_X, pz_wl_gc, pz_wl_ga, pz_wl_gn, pz_wl_gi, pz_wl_gr, pz_wl_same, pz_wl_X, pz_wr_gc, pz_wr_ga, pz_wr_gn, pz_wr_gi, pz_wr_gl, pz_wr_same, pz_wr_X])
      refine po_go ?_
      refine pw_blk (mi := mz_187) (b := bz_187_17) rfl rfl ?_
      simp only [bz_187_17, pz_cut_t, pz_cut_f, pz_cut_n, pv_gt, pv_ts, pv_tn, ev_iret1, pz_wi_gc, pz_wi_ga, pz_wi_gn, pz_wi_gl, pz_wi_gr, pz_wi_same, pz_wi_X, pz_wl_gc, pz_wl_ga, pz_wl_gn, pz_wl_gi, pz_wl_gr, pz_wl_same, pz_wl_X, pz_wr_gc, pz_wr_ga, pz_wr_gn, pz_wr_gi, pz_wr_gl, pz_wr_same, pz_wr_X]
      (try simp (disch := omega) only [nI_clamp, pz_in_nI2, pz_in_nI2L, pv_gt, nI_add, nI_addL, nI_Ladd, pk_mul, nI_mulL, nI_Lmul, pk_sub, nI_subL, nI_Lsub, nI_inc, nI_clampL, Nat.add_sub_cancel, pz_wi_else, pz_wl_else, vu_eq, vu_ne, pz_wi_gc, pz_wi_ga, pz_wi_gn, pz_wi_gl, pz_wi_gr, pz_wi_same, pz_wi_X, pz_wl_gc, pz_wl_ga, pz_wl_gn, pz_wl_gi, pz_wl_gr, pz_wl_same, pz_wl_X, pz_wr_gc, pz_wr_ga, pz_wr_gn, pz_wr_gi, pz_wr_gl, pz_wr_same, pz_wr_X])
      (try refine po_gP (by first | decide | assumption) ?_)
      exact po_ret h
theorem r_isLetter0 {x : Nat} (hx : x < 2 ^ 31) (h1 : ¬ (97 ≤ x ∧ x ≤ 122)) (h : Q (some (.int 0), M)) : pm d 187 [.int (nI x)] M Q := by
  refine pm_ent (L := [some (.int (nI x))]) rfl (Nat.le_of_ble_eq_true rfl) ?_
  refine pw_blk (mi := mz_187) (b := bz_187_0) rfl rfl ?_
  simp only [bz_187_0, pz_cut_t, pz_cut_f, pz_cut_n, pv_gt, pv_ts, pv_tn, ev_ild0, ev_bp97, ev_ic_lt, pz_wi_gc, pz_wi_ga, pz_wi_gn, pz_wi_gl, pz_wi_gr, pz_wi_same, pz_wi_X, pz_wl_gc, pz_wl_ga, pz_wl_gn, pz_wl_gi, pz_wl_gr, pz_wl_same, pz_wl_X, pz_wr_gc, pz_wr_ga, pz_wr_gn, pz_wr_gi, pz_wr_gl, pz_wr_same, pz_wr_X]
  (try simp (disch := omega) only [nI_clamp, pz_in_nI2, pz_in_nI2L, pv_gt, nI_add, nI_addL, nI_Ladd, pk_mul, nI_mulL, nI_Lmul, pk_sub, nI_subL, nI_Lsub, nI_inc, nI_clampL, Nat.add_sub_cancel, pz_wi_else, pz_wl_else, vu_eq, vu_ne, pz_wi_gc, pz_wi_ga, pz_wi_gn, pz_wi_gl, pz_wi_gr, pz_wi_same, pz_wi_X, pz_wl_gc, pz_wl_ga, pz_wl_gn, pz_wl_gi, pz_wl_gr, pz_wl_same, pz_wl_X, pz_wr_gc, pz_wr_ga, pz_wr_gn, pz_wr_gi, pz_wr_gl, pz_wr_same, pz_wr_X])
  refine po_brP (fun q0 => ?_) (fun q0 => ?_)
  · first
    | exact absurd q0 (by decide)
    | exact absurd trivial q0
    | exact q0.elim
    | (exfalso; (try simp (disch := omega) only [nI_ltI, nI_leI, nI_eq, nI_ltL, nI_leL, nI_eqL, nI_Llt, nI_Lle, nI_Leq, nI_eqm, nI_meq, nI_ltm, nI_lem, nI_mlt, nI_mle, lg0, lgl, lgg, lgle, lgge, Int32.not_lt, Int32.not_le, Int64.not_lt, Int64.not_le, not_false_eq_true, not_true_eq_false, Decidable.not_not, ge_iff_le, gt_iff_lt] at q0) <;> omega)
    | exact absurd q0 (by with_reducible assumption)
    | exact absurd (by with_reducible assumption) q0
    | exact absurd (Decidable.not_not.mp q0) (by with_reducible assumption)
    | exact absurd (by with_reducible assumption) (Int32.not_le.mpr q0)
    | exact absurd (by with_reducible assumption) (Int32.not_lt.mpr q0)
    | skip
      (try simp (disch := omega) only [nI_ltI, nI_leI, nI_eq, nI_ltL, nI_leL, nI_eqL, nI_Llt, nI_Lle, nI_Leq, nI_eqm, nI_meq, nI_ltm, nI_lem, nI_mlt, nI_mle, lg0, lgl, lgg, lgle, lgge, Int32.not_lt, Int32.not_le, Int64.not_lt, Int64.not_le, not_false_eq_true, not_true_eq_false, Decidable.not_not, ge_iff_le, gt_iff_lt] at q0)
      refine pw_blk (mi := mz_187) (b := bz_187_16) rfl rfl ?_
      simp only [bz_187_16, pz_cut_t, pz_cut_f, pz_cut_n, pv_gt, pv_ts, pv_tn, ev_ic0, ev_nil, pz_wi_gc, pz_wi_ga, pz_wi_gn, pz_wi_gl, pz_wi_gr, pz_wi_same, pz_wi_X, pz_wl_gc, pz_wl_ga, pz_wl_gn, pz_wl_gi, pz_wl_gr, pz_wl_same, pz_wl_X, pz_wr_gc, pz_wr_ga, pz_wr_gn, pz_wr_gi, pz_wr_gl, pz_wr_same, pz_wr_X]
      (try simp (disch := omega) only [nI_clamp, pz_in_nI2, pz_in_nI2L, pv_gt, nI_add, nI_addL, nI_Ladd, pk_mul, nI_mulL, nI_Lmul, pk_sub, nI_subL, nI_Lsub, nI_inc, nI_clampL, Nat.add_sub_cancel, pz_wi_else, pz_wl_else, vu_eq, vu_ne, pz_wi_gc, pz_wi_ga, pz_wi_gn, pz_wi_gl, pz_wi_gr, pz_wi_same, pz_wi_X, pz_wl_gc, pz_wl_ga, pz_wl_gn, pz_wl_gi, pz_wl_gr, pz_wl_same, pz_wl_X, pz_wr_gc, pz_wr_ga, pz_wr_gn, pz_wr_gi, pz_wr_gl, pz_wr_same, pz_wr_X])
      refine po_go ?_
      refine pw_blk (mi := mz_187) (b := bz_187_17) rfl rfl ?_
      simp only [bz_187_17, pz_cut_t, pz_cut_f, pz_cut_n, pv_gt, pv_ts, pv_tn, ev_iret1, pz_wi_gc, pz_wi_ga, pz_wi_gn, pz_wi_gl, pz_wi_gr, pz_wi_same, pz_wi_X, pz_wl_gc, pz_wl_ga, pz_wl_gn, pz_wl_gi, pz_wl_gr, pz_wl_same, pz_wl_X, pz_wr_gc, pz_wr_ga, pz_wr_gn, pz_wr_gi, pz_wr_gl, pz_wr_same, pz_wr_X]
      (try simp (disch := omega) only [nI_clamp, pz_in_nI2, pz_in_nI2L, pv_gt, nI_add, nI_addL, nI_Ladd, pk_mul, nI_mulL, nI_Lmul, pk_sub, nI_subL, nI_Lsub, nI_inc, nI_clampL, Nat.add_sub_cancel, pz_wi_else, pz_wl_else, vu_eq, vu_ne, pz_wi_gc, pz_wi_ga, pz_wi_gn, pz_wi_gl, pz_wi_gr, pz_wi_same, pz_wi_X, pz_wl_gc, pz_wl_ga, pz_wl_gn, pz_wl_gi, pz_wl_gr, pz_wl_same, pz_wl_X, pz_wr_gc, pz_wr_ga, pz_wr_gn, pz_wr_gi, pz_wr_gl, pz_wr_same, pz_wr_X])
      (try refine po_gP (by first | decide | assumption) ?_)
      first | exact po_ret h | (exfalso; omega)
  · first
    | exact absurd q0 (by decide)
    | exact absurd trivial q0
    | exact q0.elim
    | (exfalso; (try simp (disch := omega) only [nI_ltI, nI_leI, nI_eq, nI_ltL, nI_leL, nI_eqL, nI_Llt, nI_Lle, nI_Leq, nI_eqm, nI_meq, nI_ltm, nI_lem, nI_mlt, nI_mle, lg0, lgl, lgg, lgle, lgge, Int32.not_lt, Int32.not_le, Int64.not_lt, Int64.not_le, not_false_eq_true, not_true_eq_false, Decidable.not_not, ge_iff_le, gt_iff_lt] at q0) <;> omega)
    | exact absurd q0 (by with_reducible assumption)
    | exact absurd (by with_reducible assumption) q0
    | exact absurd (Decidable.not_not.mp q0) (by with_reducible assumption)
    | exact absurd (by with_reducible assumption) (Int32.not_le.mpr q0)
    | exact absurd (by with_reducible assumption) (Int32.not_lt.mpr q0)
    | skip
      (try simp (disch := omega) only [nI_ltI, nI_leI, nI_eq, nI_ltL, nI_leL, nI_eqL, nI_Llt, nI_Lle, nI_Leq, nI_eqm, nI_meq, nI_ltm, nI_lem, nI_mlt, nI_mle, lg0, lgl, lgg, lgle, lgge, Int32.not_lt, Int32.not_le, Int64.not_lt, Int64.not_le, not_false_eq_true, not_true_eq_false, Decidable.not_not, ge_iff_le, gt_iff_lt] at q0)
      refine pw_blk (mi := mz_187) (b := bz_187_6) rfl rfl ?_
      simp only [bz_187_6, pz_cut_t, pz_cut_f, pz_cut_n, pv_gt, pv_ts, pv_tn, ev_ild0, ev_bp122, ev_ic_gt, pz_wi_gc, pz_wi_ga, pz_wi_gn, pz_wi_gl, pz_wi_gr, pz_wi_same, pz_wi_X, pz_wl_gc, pz_wl_ga, pz_wl_gn, pz_wl_gi, pz_wl_gr, pz_wl_same, pz_wl_X, pz_wr_gc, pz_wr_ga, pz_wr_gn, pz_wr_gi, pz_wr_gl, pz_wr_same, pz_wr_X]
      (try simp (disch := omega) only [nI_clamp, pz_in_nI2, pz_in_nI2L, pv_gt, nI_add, nI_addL, nI_Ladd, pk_mul, nI_mulL, nI_Lmul, pk_sub, nI_subL, nI_Lsub, nI_inc, nI_clampL, Nat.add_sub_cancel, pz_wi_else, pz_wl_else, vu_eq, vu_ne, pz_wi_gc, pz_wi_ga, pz_wi_gn, pz_wi_gl, pz_wi_gr, pz_wi_same, pz_wi_X, pz_wl_gc, pz_wl_ga, pz_wl_gn, pz_wl_gi, pz_wl_gr, pz_wl_same, pz_wl_X, pz_wr_gc, pz_wr_ga, pz_wr_gn, pz_wr_gi, pz_wr_gl, pz_wr_same, pz_wr_X])
      refine po_brP (fun q6 => ?_) (fun q6 => ?_)
      · first
        | exact absurd q6 (by decide)
        | exact absurd trivial q6
        | exact q6.elim
        | (exfalso; (try simp (disch := omega) only [nI_ltI, nI_leI, nI_eq, nI_ltL, nI_leL, nI_eqL, nI_Llt, nI_Lle, nI_Leq, nI_eqm, nI_meq, nI_ltm, nI_lem, nI_mlt, nI_mle, lg0, lgl, lgg, lgle, lgge, Int32.not_lt, Int32.not_le, Int64.not_lt, Int64.not_le, not_false_eq_true, not_true_eq_false, Decidable.not_not, ge_iff_le, gt_iff_lt] at q6) <;> omega)
        | exact absurd q6 (by with_reducible assumption)
        | exact absurd (by with_reducible assumption) q6
        | exact absurd (Decidable.not_not.mp q6) (by with_reducible assumption)
        | exact absurd (by with_reducible assumption) (Int32.not_le.mpr q6)
        | exact absurd (by with_reducible assumption) (Int32.not_lt.mpr q6)
        | skip
          (try simp (disch := omega) only [nI_ltI, nI_leI, nI_eq, nI_ltL, nI_leL, nI_eqL, nI_Llt, nI_Lle, nI_Leq, nI_eqm, nI_meq, nI_ltm, nI_lem, nI_mlt, nI_mle, lg0, lgl, lgg, lgle, lgge, Int32.not_lt, Int32.not_le, Int64.not_lt, Int64.not_le, not_false_eq_true, not_true_eq_false, Decidable.not_not, ge_iff_le, gt_iff_lt] at q6)
          refine pw_blk (mi := mz_187) (b := bz_187_16) rfl rfl ?_
          simp only [bz_187_16, pz_cut_t, pz_cut_f, pz_cut_n, pv_gt, pv_ts, pv_tn, ev_ic0, ev_nil, pz_wi_gc, pz_wi_ga, pz_wi_gn, pz_wi_gl, pz_wi_gr, pz_wi_same, pz_wi_X, pz_wl_gc, pz_wl_ga, pz_wl_gn, pz_wl_gi, pz_wl_gr, pz_wl_same, pz_wl_X, pz_wr_gc, pz_wr_ga, pz_wr_gn, pz_wr_gi, pz_wr_gl, pz_wr_same, pz_wr_X]
          (try simp (disch := omega) only [nI_clamp, pz_in_nI2, pz_in_nI2L, pv_gt, nI_add, nI_addL, nI_Ladd, pk_mul, nI_mulL, nI_Lmul, pk_sub, nI_subL, nI_Lsub, nI_inc, nI_clampL, Nat.add_sub_cancel, pz_wi_else, pz_wl_else, vu_eq, vu_ne, pz_wi_gc, pz_wi_ga, pz_wi_gn, pz_wi_gl, pz_wi_gr, pz_wi_same, pz_wi_X, pz_wl_gc, pz_wl_ga, pz_wl_gn, pz_wl_gi, pz_wl_gr, pz_wl_same, pz_wl_X, pz_wr_gc, pz_wr_ga, pz_wr_gn, pz_wr_gi, pz_wr_gl, pz_wr_same, pz_wr_X])
          refine po_go ?_
          refine pw_blk (mi := mz_187) (b := bz_187_17) rfl rfl ?_
          simp only [bz_187_17, pz_cut_t, pz_cut_f, pz_cut_n, pv_gt, pv_ts, pv_tn, ev_iret1, pz_wi_gc, pz_wi_ga, pz_wi_gn, pz_wi_gl, pz_wi_gr, pz_wi_same, pz_wi_X, pz_wl_gc, pz_wl_ga, pz_wl_gn, pz_wl_gi, pz_wl_gr, pz_wl_same, pz_wl_X, pz_wr_gc, pz_wr_ga, pz_wr_gn, pz_wr_gi, pz_wr_gl, pz_wr_same, pz_wr_X]
          (try simp (disch := omega) only [nI_clamp, pz_in_nI2, pz_in_nI2L, pv_gt, nI_add, nI_addL, nI_Ladd, pk_mul, nI_mulL, nI_Lmul, pk_sub, nI_subL, nI_Lsub, nI_inc, nI_clampL, Nat.add_sub_cancel, pz_wi_else, pz_wl_else, vu_eq, vu_ne, pz_wi_gc, pz_wi_ga, pz_wi_gn, pz_wi_gl, pz_wi_gr, pz_wi_same, pz_wi_X, pz_wl_gc, pz_wl_ga, pz_wl_gn, pz_wl_gi, pz_wl_gr, pz_wl_same, pz_wl_X, pz_wr_gc, pz_wr_ga, pz_wr_gn, pz_wr_gi, pz_wr_gl, pz_wr_same, pz_wr_X])
          (try refine po_gP (by first | decide | assumption) ?_)
          first | exact po_ret h | (exfalso; omega)
      · first
        | exact absurd q6 (by decide)
        | exact absurd trivial q6
        | exact q6.elim
        | (exfalso; (try simp (disch := omega) only [nI_ltI, nI_leI, nI_eq, nI_ltL, nI_leL, nI_eqL, nI_Llt, nI_Lle, nI_Leq, nI_eqm, nI_meq, nI_ltm, nI_lem, nI_mlt, nI_mle, lg0, lgl, lgg, lgle, lgge, Int32.not_lt, Int32.not_le, Int64.not_lt, Int64.not_le, not_false_eq_true, not_true_eq_false, Decidable.not_not, ge_iff_le, gt_iff_lt] at q6) <;> omega)
        | exact absurd q6 (by with_reducible assumption)
        | exact absurd (by with_reducible assumption) q6
        | exact absurd (Decidable.not_not.mp q6) (by with_reducible assumption)
        | exact absurd (by with_reducible assumption) (Int32.not_le.mpr q6)
        | exact absurd (by with_reducible assumption) (Int32.not_lt.mpr q6)
        | skip
          (try simp (disch := omega) only [nI_ltI, nI_leI, nI_eq, nI_ltL, nI_leL, nI_eqL, nI_Llt, nI_Lle, nI_Leq, nI_eqm, nI_meq, nI_ltm, nI_lem, nI_mlt, nI_mle, lg0, lgl, lgg, lgle, lgge, Int32.not_lt, Int32.not_le, Int64.not_lt, Int64.not_le, not_false_eq_true, not_true_eq_false, Decidable.not_not, ge_iff_le, gt_iff_lt] at q6)
          refine pw_blk (mi := mz_187) (b := bz_187_12) rfl rfl ?_
          simp only [bz_187_12, pz_cut_t, pz_cut_f, pz_cut_n, pv_gt, pv_ts, pv_tn, ev_ic1, ev_goto, pz_wi_gc, pz_wi_ga, pz_wi_gn, pz_wi_gl, pz_wi_gr, pz_wi_same, pz_wi_X, pz_wl_gc, pz_wl_ga, pz_wl_gn, pz_wl_gi, pz_wl_gr, pz_wl_same, pz_wl_X, pz_wr_gc, pz_wr_ga, pz_wr_gn, pz_wr_gi, pz_wr_gl, pz_wr_same, pz_wr_X]
          (try simp (disch := omega) only [nI_clamp, pz_in_nI2, pz_in_nI2L, pv_gt, nI_add, nI_addL, nI_Ladd, pk_mul, nI_mulL, nI_Lmul, pk_sub, nI_subL, nI_Lsub, nI_inc, nI_clampL, Nat.add_sub_cancel, pz_wi_else, pz_wl_else, vu_eq, vu_ne, pz_wi_gc, pz_wi_ga, pz_wi_gn, pz_wi_gl, pz_wi_gr, pz_wi_same, pz_wi_X, pz_wl_gc, pz_wl_ga, pz_wl_gn, pz_wl_gi, pz_wl_gr, pz_wl_same, pz_wl_X, pz_wr_gc, pz_wr_ga, pz_wr_gn, pz_wr_gi, pz_wr_gl, pz_wr_same, pz_wr_X])
          refine po_go ?_
          refine pw_blk (mi := mz_187) (b := bz_187_17) rfl rfl ?_
          simp only [bz_187_17, pz_cut_t, pz_cut_f, pz_cut_n, pv_gt, pv_ts, pv_tn, ev_iret1, pz_wi_gc, pz_wi_ga, pz_wi_gn, pz_wi_gl, pz_wi_gr, pz_wi_same, pz_wi_X, pz_wl_gc, pz_wl_ga, pz_wl_gn, pz_wl_gi, pz_wl_gr, pz_wl_same, pz_wl_X, pz_wr_gc, pz_wr_ga, pz_wr_gn, pz_wr_gi, pz_wr_gl, pz_wr_same, pz_wr_X]
          (try simp (disch := omega) only [nI_clamp, pz_in_nI2, pz_in_nI2L, pv_gt, nI_add, nI_addL, nI_Ladd, pk_mul, nI_mulL, nI_Lmul, pk_sub, nI_subL, nI_Lsub, nI_inc, nI_clampL, Nat.add_sub_cancel, pz_wi_else, pz_wl_else, vu_eq, vu_ne, pz_wi_gc, pz_wi_ga, pz_wi_gn, pz_wi_gl, pz_wi_gr, pz_wi_same, pz_wi_X, pz_wl_gc, pz_wl_ga, pz_wl_gn, pz_wl_gi, pz_wl_gr, pz_wl_same, pz_wl_X, pz_wr_gc, pz_wr_ga, pz_wr_gn, pz_wr_gi, pz_wr_gl, pz_wr_same, pz_wr_X])
          (try refine po_gP (by first | decide | assumption) ?_)
          first | exact po_ret h | (exfalso; omega)
theorem r_holds (hd : 3 ≤ d) {B T nd r : Nat} {h e cu : Nat → Int32} {y : Int32} (hS : SH M) (hO : okB M) (b2 : nb M = nI B) (hh : gi M 149 = h) (he : gi M 150 = e) (hy : gi M 120 46 = y) (hn : gi M 120 89 = nI nd) (hn40 : nd ≤ 40) (hc : ∀ v, v < B → nI (cnt (dcut M (nI v) (gi M 120 91)) nd) = cu v) (hB : B ≤ 24) (hr6 : r < 6) (hT4 : T ≤ 400) {f c : Nat} (hT : f + c = T) (rf : gi M 164 r = nI f) (rt : gi M 165 r = nI T) (hp : pil (gi M 96) c f 0 = some 1) (hcd : ∀ k, f ≤ k → k < T → cdR (gi M 96 k) (gi M 159 k) (gi M 160 k) B) (K1 : ¬ ev (uv h e y cu B) (gi M 96) c f (fun _ => 0) 0 0 = 0 → ∀ M', sm [163] M M' → Q (some (.int 1), M')) (K0 : ev (uv h e y cu B) (gi M 96) c f (fun _ => 0) 0 0 = 0 → ∀ M', sm [163] M M' → Q (some (.int 0), M')) : pm d 154 [.ref 120, .int (nI r)] M Q := by
  have key : ∀ c f m s M', f + c = T → sm [163] M M' → m ≤ 40 → pil (gi M 96) c f m = some 1 → (∀ k, f ≤ k → k < T → cdR (gi M 96 k) (gi M 159 k) (gi M 160 k) B) → (∀ i, i < m → gi M' 163 i = s i) → (¬ ev (uv h e y cu B) (gi M 96) c f s m 0 = 0 → ∀ M', sm [163] M M' → Q (some (.int 1), M')) → (ev (uv h e y cu B) (gi M 96) c f s m 0 = 0 → ∀ M', sm [163] M M' → Q (some (.int 0), M')) → pw d 154 (9, [some (.ref 120), some (.int (nI r)), some (.int (nI m)), some (.int (nI f)), none], [], M') Q := by
    intro c
    induction c with
    | zero =>
      intro f m s M' hf s' hm hp hcd hag K1 K0
      have hS' := hS.sm s'
      have rt' : gi M' 165 r = nI T := by rw [s'.i (by decide)]; exact rt
      have hm1 : m = 1 := by
        have z : some m = some 1 := hp
        exact Option.some.inj z
      subst hm1
      have hf2 : f = T := by omega
      subst hf2
      have g0 : gi M' 163 0 = s 0 := hag 0 (by decide)
      refine pw_blk (mi := mz_154) (b := bz_154_9) rfl rfl ?_
      simp only [bz_154_9, pz_cut_t, pz_cut_f, pz_cut_n, pv_gt, pv_ts, pv_tn, ev_ild3, ev_ald0, ev_eld0, ev_gf11_2, ev_ild1, ea_iald, ev_ic_ge, pz_wi_gc, pz_wi_ga, pz_wi_gn, pz_wi_gl, pz_wi_gr, pz_wi_same, pz_wi_X, pz_wl_gc, pz_wl_ga, pz_wl_gn, pz_wl_gi, pz_wl_gr, pz_wl_same, pz_wl_X, pz_wr_gc, pz_wr_ga, pz_wr_gn, pz_wr_gi, pz_wr_gl, pz_wr_same, pz_wr_X, so_120 hS', sr_120_71 hS', sa_165 hS', sn_165 hS', g0, rt', sa_164 hS', sn_164 hS', sa_159 hS', sn_159 hS', sa_163 hS', sn_163 hS', sa_160 hS', sn_160 hS']
      (try simp (disch := omega) only [nI_clamp, pz_in_nI2, pz_in_nI2L, pv_gt, nI_add, nI_addL, nI_Ladd, pk_mul, nI_mulL, nI_Lmul, pk_sub, nI_subL, nI_Lsub, nI_inc, nI_clampL, Nat.add_sub_cancel, pz_wi_else, pz_wl_else, vu_eq, vu_ne, pz_wi_gc, pz_wi_ga, pz_wi_gn, pz_wi_gl, pz_wi_gr, pz_wi_same, pz_wi_X, pz_wl_gc, pz_wl_ga, pz_wl_gn, pz_wl_gi, pz_wl_gr, pz_wl_same, pz_wl_X, pz_wr_gc, pz_wr_ga, pz_wr_gn, pz_wr_gi, pz_wr_gl, pz_wr_same, pz_wr_X, g0, rt'])
      (try refine po_gI (by first | exact pz_in_nI (by omega) (by decide) | decide | assumption) ?_)
      refine po_brP (fun q9 => ?_) (fun q9 => ?_)
      · skip
        (try simp (disch := omega) only [nI_ltI, nI_leI, nI_eq, nI_ltL, nI_leL, nI_eqL, nI_Llt, nI_Lle, nI_Leq, nI_eqm, nI_meq, nI_ltm, nI_lem, nI_mlt, nI_mle, lg0, lgl, lgg, lgle, lgge, Int32.not_lt, Int32.not_le, Int64.not_lt, Int64.not_le, not_false_eq_true, not_true_eq_false, Decidable.not_not, ge_iff_le, gt_iff_lt] at q9)
        refine pw_blk (mi := mz_154) (b := bz_154_129) rfl rfl ?_
        simp only [bz_154_129, pz_cut_t, pz_cut_f, pz_cut_n, pv_gt, pv_ts, pv_tn, ev_ald0, ev_eld0, ev_gf11_2, ev_ic0, ea_iald, ev_ifeq, pz_wi_gc, pz_wi_ga, pz_wi_gn, pz_wi_gl, pz_wi_gr, pz_wi_same, pz_wi_X, pz_wl_gc, pz_wl_ga, pz_wl_gn, pz_wl_gi, pz_wl_gr, pz_wl_same, pz_wl_X, pz_wr_gc, pz_wr_ga, pz_wr_gn, pz_wr_gi, pz_wr_gl, pz_wr_same, pz_wr_X, so_120 hS', sr_120_69 hS', sa_163 hS', sn_163 hS', g0, rt', sa_164 hS', sn_164 hS', sa_165 hS', sn_165 hS', sa_159 hS', sn_159 hS', sa_160 hS', sn_160 hS']
        (try simp (disch := omega) only [nI_clamp, pz_in_nI2, pz_in_nI2L, pv_gt, nI_add, nI_addL, nI_Ladd, pk_mul, nI_mulL, nI_Lmul, pk_sub, nI_subL, nI_Lsub, nI_inc, nI_clampL, Nat.add_sub_cancel, pz_wi_else, pz_wl_else, vu_eq, vu_ne, pz_wi_gc, pz_wi_ga, pz_wi_gn, pz_wi_gl, pz_wi_gr, pz_wi_same, pz_wi_X, pz_wl_gc, pz_wl_ga, pz_wl_gn, pz_wl_gi, pz_wl_gr, pz_wl_same, pz_wl_X, pz_wr_gc, pz_wr_ga, pz_wr_gn, pz_wr_gi, pz_wr_gl, pz_wr_same, pz_wr_X, g0, rt'])
        (try refine po_gI (by first | exact pz_in_nI (by omega) (by decide) | decide | assumption) ?_)
        refine po_brP (fun q129 => ?_) (fun q129 => ?_)
        · first
          | exact absurd q129 (by decide)
          | exact absurd trivial q129
          | exact q129.elim
          | (exfalso; (try simp (disch := omega) only [nI_ltI, nI_leI, nI_eq, nI_ltL, nI_leL, nI_eqL, nI_Llt, nI_Lle, nI_Leq, nI_eqm, nI_meq, nI_ltm, nI_lem, nI_mlt, nI_mle, lg0, lgl, lgg, lgle, lgge, Int32.not_lt, Int32.not_le, Int64.not_lt, Int64.not_le, not_false_eq_true, not_true_eq_false, Decidable.not_not, ge_iff_le, gt_iff_lt] at q129) <;> omega)
          | exact absurd q129 (by with_reducible assumption)
          | exact absurd (by with_reducible assumption) q129
          | exact absurd (Decidable.not_not.mp q129) (by with_reducible assumption)
          | exact absurd (by with_reducible assumption) (Int32.not_le.mpr q129)
          | exact absurd (by with_reducible assumption) (Int32.not_lt.mpr q129)
          | skip
            (try simp (disch := omega) only [nI_ltI, nI_leI, nI_eq, nI_ltL, nI_leL, nI_eqL, nI_Llt, nI_Lle, nI_Leq, nI_eqm, nI_meq, nI_ltm, nI_lem, nI_mlt, nI_mle, lg0, lgl, lgg, lgle, lgge, Int32.not_lt, Int32.not_le, Int64.not_lt, Int64.not_le, not_false_eq_true, not_true_eq_false, Decidable.not_not, ge_iff_le, gt_iff_lt] at q129)
            have z := K0 q129
            refine pw_blk (mi := mz_154) (b := bz_154_142) rfl rfl ?_
            simp only [bz_154_142, pz_cut_t, pz_cut_f, pz_cut_n, pv_gt, pv_ts, pv_tn, ev_ic0, ev_nil, pz_wi_gc, pz_wi_ga, pz_wi_gn, pz_wi_gl, pz_wi_gr, pz_wi_same, pz_wi_X, pz_wl_gc, pz_wl_ga, pz_wl_gn, pz_wl_gi, pz_wl_gr, pz_wl_same, pz_wl_X, pz_wr_gc, pz_wr_ga, pz_wr_gn, pz_wr_gi, pz_wr_gl, pz_wr_same, pz_wr_X, g0, rt']
            (try simp (disch := omega) only [nI_clamp, pz_in_nI2, pz_in_nI2L, pv_gt, nI_add, nI_addL, nI_Ladd, pk_mul, nI_mulL, nI_Lmul, pk_sub, nI_subL, nI_Lsub, nI_inc, nI_clampL, Nat.add_sub_cancel, pz_wi_else, pz_wl_else, vu_eq, vu_ne, pz_wi_gc, pz_wi_ga, pz_wi_gn, pz_wi_gl, pz_wi_gr, pz_wi_same, pz_wi_X, pz_wl_gc, pz_wl_ga, pz_wl_gn, pz_wl_gi, pz_wl_gr, pz_wl_same, pz_wl_X, pz_wr_gc, pz_wr_ga, pz_wr_gn, pz_wr_gi, pz_wr_gl, pz_wr_same, pz_wr_X, g0, rt'])
            refine po_go ?_
            refine pw_blk (mi := mz_154) (b := bz_154_143) rfl rfl ?_
            simp only [bz_154_143, pz_cut_t, pz_cut_f, pz_cut_n, pv_gt, pv_ts, pv_tn, ev_iret1, pz_wi_gc, pz_wi_ga, pz_wi_gn, pz_wi_gl, pz_wi_gr, pz_wi_same, pz_wi_X, pz_wl_gc, pz_wl_ga, pz_wl_gn, pz_wl_gi, pz_wl_gr, pz_wl_same, pz_wl_X, pz_wr_gc, pz_wr_ga, pz_wr_gn, pz_wr_gi, pz_wr_gl, pz_wr_same, pz_wr_X, g0, rt']
            (try simp (disch := omega) only [nI_clamp, pz_in_nI2, pz_in_nI2L, pv_gt, nI_add, nI_addL, nI_Ladd, pk_mul, nI_mulL, nI_Lmul, pk_sub, nI_subL, nI_Lsub, nI_inc, nI_clampL, Nat.add_sub_cancel, pz_wi_else, pz_wl_else, vu_eq, vu_ne, pz_wi_gc, pz_wi_ga, pz_wi_gn, pz_wi_gl, pz_wi_gr, pz_wi_same, pz_wi_X, pz_wl_gc, pz_wl_ga, pz_wl_gn, pz_wl_gi, pz_wl_gr, pz_wl_same, pz_wl_X, pz_wr_gc, pz_wr_ga, pz_wr_gn, pz_wr_gi, pz_wr_gl, pz_wr_same, pz_wr_X, g0, rt'])
            (try refine po_gP (by first | decide | assumption) ?_)
            exact po_ret (z M' s')
        · first
          | exact absurd q129 (by decide)
          | exact absurd trivial q129
          | exact q129.elim
          | (exfalso; (try simp (disch := omega) only [nI_ltI, nI_leI, nI_eq, nI_ltL, nI_leL, nI_eqL, nI_Llt, nI_Lle, nI_Leq, nI_eqm, nI_meq, nI_ltm, nI_lem, nI_mlt, nI_mle, lg0, lgl, lgg, lgle, lgge, Int32.not_lt, Int32.not_le, Int64.not_lt, Int64.not_le, not_false_eq_true, not_true_eq_false, Decidable.not_not, ge_iff_le, gt_iff_lt] at q129) <;> omega)
          | exact absurd q129 (by with_reducible assumption)
          | exact absurd (by with_reducible assumption) q129
          | exact absurd (Decidable.not_not.mp q129) (by with_reducible assumption)
          | exact absurd (by with_reducible assumption) (Int32.not_le.mpr q129)
          | exact absurd (by with_reducible assumption) (Int32.not_lt.mpr q129)
          | skip
            (try simp (disch := omega) only [nI_ltI, nI_leI, nI_eq, nI_ltL, nI_leL, nI_eqL, nI_Llt, nI_Lle, nI_Leq, nI_eqm, nI_meq, nI_ltm, nI_lem, nI_mlt, nI_mle, lg0, lgl, lgg, lgle, lgge, Int32.not_lt, Int32.not_le, Int64.not_lt, Int64.not_le, not_false_eq_true, not_true_eq_false, Decidable.not_not, ge_iff_le, gt_iff_lt] at q129)
            have z := K1 q129
            refine pw_blk (mi := mz_154) (b := bz_154_138) rfl rfl ?_
            simp only [bz_154_138, pz_cut_t, pz_cut_f, pz_cut_n, pv_gt, pv_ts, pv_tn, ev_ic1, ev_goto, pz_wi_gc, pz_wi_ga, pz_wi_gn, pz_wi_gl, pz_wi_gr, pz_wi_same, pz_wi_X, pz_wl_gc, pz_wl_ga, pz_wl_gn, pz_wl_gi, pz_wl_gr, pz_wl_same, pz_wl_X, pz_wr_gc, pz_wr_ga, pz_wr_gn, pz_wr_gi, pz_wr_gl, pz_wr_same, pz_wr_X, g0, rt']
            (try simp (disch := omega) only [nI_clamp, pz_in_nI2, pz_in_nI2L, pv_gt, nI_add, nI_addL, nI_Ladd, pk_mul, nI_mulL, nI_Lmul, pk_sub, nI_subL, nI_Lsub, nI_inc, nI_clampL, Nat.add_sub_cancel, pz_wi_else, pz_wl_else, vu_eq, vu_ne, pz_wi_gc, pz_wi_ga, pz_wi_gn, pz_wi_gl, pz_wi_gr, pz_wi_same, pz_wi_X, pz_wl_gc, pz_wl_ga, pz_wl_gn, pz_wl_gi, pz_wl_gr, pz_wl_same, pz_wl_X, pz_wr_gc, pz_wr_ga, pz_wr_gn, pz_wr_gi, pz_wr_gl, pz_wr_same, pz_wr_X, g0, rt'])
            refine po_go ?_
            refine pw_blk (mi := mz_154) (b := bz_154_143) rfl rfl ?_
            simp only [bz_154_143, pz_cut_t, pz_cut_f, pz_cut_n, pv_gt, pv_ts, pv_tn, ev_iret1, pz_wi_gc, pz_wi_ga, pz_wi_gn, pz_wi_gl, pz_wi_gr, pz_wi_same, pz_wi_X, pz_wl_gc, pz_wl_ga, pz_wl_gn, pz_wl_gi, pz_wl_gr, pz_wl_same, pz_wl_X, pz_wr_gc, pz_wr_ga, pz_wr_gn, pz_wr_gi, pz_wr_gl, pz_wr_same, pz_wr_X, g0, rt']
            (try simp (disch := omega) only [nI_clamp, pz_in_nI2, pz_in_nI2L, pv_gt, nI_add, nI_addL, nI_Ladd, pk_mul, nI_mulL, nI_Lmul, pk_sub, nI_subL, nI_Lsub, nI_inc, nI_clampL, Nat.add_sub_cancel, pz_wi_else, pz_wl_else, vu_eq, vu_ne, pz_wi_gc, pz_wi_ga, pz_wi_gn, pz_wi_gl, pz_wi_gr, pz_wi_same, pz_wi_X, pz_wl_gc, pz_wl_ga, pz_wl_gn, pz_wl_gi, pz_wl_gr, pz_wl_same, pz_wl_X, pz_wr_gc, pz_wr_ga, pz_wr_gn, pz_wr_gi, pz_wr_gl, pz_wr_same, pz_wr_X, g0, rt'])
            (try refine po_gP (by first | decide | assumption) ?_)
            exact po_ret (z M' s')
      · first
        | exact absurd q9 (by decide)
        | exact absurd trivial q9
        | exact q9.elim
        | (exfalso; (try simp (disch := omega) only [nI_ltI, nI_leI, nI_eq, nI_ltL, nI_leL, nI_eqL, nI_Llt, nI_Lle, nI_Leq, nI_eqm, nI_meq, nI_ltm, nI_lem, nI_mlt, nI_mle, lg0, lgl, lgg, lgle, lgge, Int32.not_lt, Int32.not_le, Int64.not_lt, Int64.not_le, not_false_eq_true, not_true_eq_false, Decidable.not_not, ge_iff_le, gt_iff_lt] at q9) <;> omega)
        | exact absurd q9 (by with_reducible assumption)
        | exact absurd (by with_reducible assumption) q9
        | exact absurd (Decidable.not_not.mp q9) (by with_reducible assumption)
        | exact absurd (by with_reducible assumption) (Int32.not_le.mpr q9)
        | exact absurd (by with_reducible assumption) (Int32.not_lt.mpr q9)
    | succ c ih =>
      intro f m s M' hf s' hm hp hcd hag K1 K0
      have hS' := hS.sm s'
      have rt' : gi M' 165 r = nI T := by rw [s'.i (by decide)]; exact rt
      obtain ⟨k, v, hk, hv, e96, e159, e160, hvB⟩ := hcd f (Nat.le_refl _) (by omega)
      have e159' : gi M' 159 f = nI (cdK k) := by rw [s'.i (by decide)]; exact e159
      have hcd' : ∀ k, f + 1 ≤ k → k < T → cdR (gi M 96 k) (gi M 159 k) (gi M 160 k) B := fun k h1 h2 => hcd k (by omega) h2
      have e120 : gi M' 120 = gi M 120 := s'.i (by decide)
      have ebk : bk M' = bk M := by unfold bk bank; rw [e120]
      have hO' : okB M' := by unfold okB bank; rw [e120]; exact hO
      have b2' : nb M' = nI B := by unfold nb; rw [ebk, s'.i (k := 123) (by decide)]; exact b2
      by_cases k6 : k < 6
      · obtain ⟨hm4, hp'⟩ := pil_push e96 hk hv k6 hp
        have hl := cdK_let k k6
        have e160' : gi M' 160 f = nI v := by rw [s'.i (by decide)]; exact e160 k6
        refine pw_blk (mi := mz_154) (b := bz_154_9) rfl rfl ?_
        simp only [bz_154_9, pz_cut_t, pz_cut_f, pz_cut_n, pv_gt, pv_ts, pv_tn, ev_ild3, ev_ald0, ev_eld0, ev_gf11_2, ev_ild1, ea_iald, ev_ic_ge, pz_wi_gc, pz_wi_ga, pz_wi_gn, pz_wi_gl, pz_wi_gr, pz_wi_same, pz_wi_X, pz_wl_gc, pz_wl_ga, pz_wl_gn, pz_wl_gi, pz_wl_gr, pz_wl_same, pz_wl_X, pz_wr_gc, pz_wr_ga, pz_wr_gn, pz_wr_gi, pz_wr_gl, pz_wr_same, pz_wr_X, so_120 hS', sr_120_71 hS', sa_165 hS', sn_165 hS', rt', e159', e160', sa_164 hS', sn_164 hS', sa_159 hS', sn_159 hS', sa_163 hS', sn_163 hS', sa_160 hS', sn_160 hS']
        (try simp (disch := omega) only [nI_clamp, pz_in_nI2, pz_in_nI2L, pv_gt, nI_add, nI_addL, nI_Ladd, pk_mul, nI_mulL, nI_Lmul, pk_sub, nI_subL, nI_Lsub, nI_inc, nI_clampL, Nat.add_sub_cancel, pz_wi_else, pz_wl_else, vu_eq, vu_ne, pz_wi_gc, pz_wi_ga, pz_wi_gn, pz_wi_gl, pz_wi_gr, pz_wi_same, pz_wi_X, pz_wl_gc, pz_wl_ga, pz_wl_gn, pz_wl_gi, pz_wl_gr, pz_wl_same, pz_wl_X, pz_wr_gc, pz_wr_ga, pz_wr_gn, pz_wr_gi, pz_wr_gl, pz_wr_same, pz_wr_X, rt', e159', e160'])
        (try refine po_gI (by first | exact pz_in_nI (by omega) (by decide) | decide | assumption) ?_)
        refine po_brP (fun q9 => ?_) (fun q9 => ?_)
        · first
          | exact absurd q9 (by decide)
          | exact absurd trivial q9
          | exact q9.elim
          | (exfalso; (try simp (disch := omega) only [nI_ltI, nI_leI, nI_eq, nI_ltL, nI_leL, nI_eqL, nI_Llt, nI_Lle, nI_Leq, nI_eqm, nI_meq, nI_ltm, nI_lem, nI_mlt, nI_mle, lg0, lgl, lgg, lgle, lgge, Int32.not_lt, Int32.not_le, Int64.not_lt, Int64.not_le, not_false_eq_true, not_true_eq_false, Decidable.not_not, ge_iff_le, gt_iff_lt] at q9) <;> omega)
          | exact absurd q9 (by with_reducible assumption)
          | exact absurd (by with_reducible assumption) q9
          | exact absurd (Decidable.not_not.mp q9) (by with_reducible assumption)
          | exact absurd (by with_reducible assumption) (Int32.not_le.mpr q9)
          | exact absurd (by with_reducible assumption) (Int32.not_lt.mpr q9)
        · skip
          (try simp (disch := omega) only [nI_ltI, nI_leI, nI_eq, nI_ltL, nI_leL, nI_eqL, nI_Llt, nI_Lle, nI_Leq, nI_eqm, nI_meq, nI_ltm, nI_lem, nI_mlt, nI_mle, lg0, lgl, lgg, lgle, lgge, Int32.not_lt, Int32.not_le, Int64.not_lt, Int64.not_le, not_false_eq_true, not_true_eq_false, Decidable.not_not, ge_iff_le, gt_iff_lt] at q9)
          refine pw_blk (mi := mz_154) (b := bz_154_19) rfl rfl ?_
          simp only [bz_154_19, pz_cut_t, pz_cut_f, pz_cut_n, pv_gt, pv_ts, pv_tn, ev_ald0, ev_eld0, ev_gf11_2, ev_ild3, ea_iald, ev_ist4n, ev_ist4i, ev_ist4r, ev_ist4e, ev_ist4l, ev_ild4, ev_bp126, ev_ic_ne, pz_wi_gc, pz_wi_ga, pz_wi_gn, pz_wi_gl, pz_wi_gr, pz_wi_same, pz_wi_X, pz_wl_gc, pz_wl_ga, pz_wl_gn, pz_wl_gi, pz_wl_gr, pz_wl_same, pz_wl_X, pz_wr_gc, pz_wr_ga, pz_wr_gn, pz_wr_gi, pz_wr_gl, pz_wr_same, pz_wr_X, so_120 hS', sr_120_65 hS', sa_159 hS', sn_159 hS', rt', e159', e160', sa_164 hS', sn_164 hS', sa_165 hS', sn_165 hS', sa_163 hS', sn_163 hS', sa_160 hS', sn_160 hS']
          (try simp (disch := omega) only [nI_clamp, pz_in_nI2, pz_in_nI2L, pv_gt, nI_add, nI_addL, nI_Ladd, pk_mul, nI_mulL, nI_Lmul, pk_sub, nI_subL, nI_Lsub, nI_inc, nI_clampL, Nat.add_sub_cancel, pz_wi_else, pz_wl_else, vu_eq, vu_ne, pz_wi_gc, pz_wi_ga, pz_wi_gn, pz_wi_gl, pz_wi_gr, pz_wi_same, pz_wi_X, pz_wl_gc, pz_wl_ga, pz_wl_gn, pz_wl_gi, pz_wl_gr, pz_wl_same, pz_wl_X, pz_wr_gc, pz_wr_ga, pz_wr_gn, pz_wr_gi, pz_wr_gl, pz_wr_same, pz_wr_X, rt', e159', e160'])
          (try refine po_gI (by first | exact pz_in_nI (by omega) (by decide) | decide | assumption) ?_)
          refine po_brP (fun q19 => ?_) (fun q19 => ?_)
          · skip
            (try simp (disch := omega) only [nI_ltI, nI_leI, nI_eq, nI_ltL, nI_leL, nI_eqL, nI_Llt, nI_Lle, nI_Leq, nI_eqm, nI_meq, nI_ltm, nI_lem, nI_mlt, nI_mle, lg0, lgl, lgg, lgle, lgge, Int32.not_lt, Int32.not_le, Int64.not_lt, Int64.not_le, not_false_eq_true, not_true_eq_false, Decidable.not_not, ge_iff_le, gt_iff_lt] at q19)
            refine pw_blk (mi := mz_154) (b := bz_154_61) rfl rfl ?_
            simp only [bz_154_61, pz_cut_t, pz_cut_f, pz_cut_n, pv_gt, pv_ts, pv_tn, ev_ild4, ev_cs1, pz_wi_gc, pz_wi_ga, pz_wi_gn, pz_wi_gl, pz_wi_gr, pz_wi_same, pz_wi_X, pz_wl_gc, pz_wl_ga, pz_wl_gn, pz_wl_gi, pz_wl_gr, pz_wl_same, pz_wl_X, pz_wr_gc, pz_wr_ga, pz_wr_gn, pz_wr_gi, pz_wr_gl, pz_wr_same, pz_wr_X, rt', e159', e160']
            (try simp (disch := omega) only [nI_clamp, pz_in_nI2, pz_in_nI2L, pv_gt, nI_add, nI_addL, nI_Ladd, pk_mul, nI_mulL, nI_Lmul, pk_sub, nI_subL, nI_Lsub, nI_inc, nI_clampL, Nat.add_sub_cancel, pz_wi_else, pz_wl_else, vu_eq, vu_ne, pz_wi_gc, pz_wi_ga, pz_wi_gn, pz_wi_gl, pz_wi_gr, pz_wi_same, pz_wi_X, pz_wl_gc, pz_wl_ga, pz_wl_gn, pz_wl_gi, pz_wl_gr, pz_wl_same, pz_wl_X, pz_wr_gc, pz_wr_ga, pz_wr_gn, pz_wr_gi, pz_wr_gl, pz_wr_same, pz_wr_X, rt', e159', e160'])
            (try refine po_gP (Nat.le_of_ble_eq_true rfl) ?_)
            refine po_call (by omega) (r_isLetter1 hl.1 hl.2.1 ?_)
            refine pw_blk (mi := mz_154) (b := bz_154_66) rfl rfl ?_
            simp only [bz_154_66, pz_cut_t, pz_cut_f, pz_cut_n, pv_gt, pv_ts, pv_tn, ev_ifeq, pz_wi_gc, pz_wi_ga, pz_wi_gn, pz_wi_gl, pz_wi_gr, pz_wi_same, pz_wi_X, pz_wl_gc, pz_wl_ga, pz_wl_gn, pz_wl_gi, pz_wl_gr, pz_wl_same, pz_wl_X, pz_wr_gc, pz_wr_ga, pz_wr_gn, pz_wr_gi, pz_wr_gl, pz_wr_same, pz_wr_X, rt', e159', e160']
            (try simp (disch := omega) only [nI_clamp, pz_in_nI2, pz_in_nI2L, pv_gt, nI_add, nI_addL, nI_Ladd, pk_mul, nI_mulL, nI_Lmul, pk_sub, nI_subL, nI_Lsub, nI_inc, nI_clampL, Nat.add_sub_cancel, pz_wi_else, pz_wl_else, vu_eq, vu_ne, pz_wi_gc, pz_wi_ga, pz_wi_gn, pz_wi_gl, pz_wi_gr, pz_wi_same, pz_wi_X, pz_wl_gc, pz_wl_ga, pz_wl_gn, pz_wl_gi, pz_wl_gr, pz_wl_same, pz_wl_X, pz_wr_gc, pz_wr_ga, pz_wr_gn, pz_wr_gi, pz_wr_gl, pz_wr_same, pz_wr_X, rt', e159', e160'])
            refine po_brP (fun q66 => ?_) (fun q66 => ?_)
            · first
              | exact absurd q66 (by decide)
              | exact absurd trivial q66
              | exact q66.elim
              | (exfalso; (try simp (disch := omega) only [nI_ltI, nI_leI, nI_eq, nI_ltL, nI_leL, nI_eqL, nI_Llt, nI_Lle, nI_Leq, nI_eqm, nI_meq, nI_ltm, nI_lem, nI_mlt, nI_mle, lg0, lgl, lgg, lgle, lgge, Int32.not_lt, Int32.not_le, Int64.not_lt, Int64.not_le, not_false_eq_true, not_true_eq_false, Decidable.not_not, ge_iff_le, gt_iff_lt] at q66) <;> omega)
              | exact absurd q66 (by with_reducible assumption)
              | exact absurd (by with_reducible assumption) q66
              | exact absurd (Decidable.not_not.mp q66) (by with_reducible assumption)
              | exact absurd (by with_reducible assumption) (Int32.not_le.mpr q66)
              | exact absurd (by with_reducible assumption) (Int32.not_lt.mpr q66)
            · skip
              (try simp (disch := omega) only [nI_ltI, nI_leI, nI_eq, nI_ltL, nI_leL, nI_eqL, nI_Llt, nI_Lle, nI_Leq, nI_eqm, nI_meq, nI_ltm, nI_lem, nI_mlt, nI_mle, lg0, lgl, lgg, lgle, lgge, Int32.not_lt, Int32.not_le, Int64.not_lt, Int64.not_le, not_false_eq_true, not_true_eq_false, Decidable.not_not, ge_iff_le, gt_iff_lt] at q66)
              refine pw_blk (mi := mz_154) (b := bz_154_69) rfl rfl ?_
              simp only [bz_154_69, pz_cut_t, pz_cut_f, pz_cut_n, pv_gt, pv_ts, pv_tn, ev_ald0, ev_eld0, ev_gf11_2, ev_ild2, ev_ild4, ev_ild3, ea_iald, ev_cv2_11, pz_wi_gc, pz_wi_ga, pz_wi_gn, pz_wi_gl, pz_wi_gr, pz_wi_same, pz_wi_X, pz_wl_gc, pz_wl_ga, pz_wl_gn, pz_wl_gi, pz_wl_gr, pz_wl_same, pz_wl_X, pz_wr_gc, pz_wr_ga, pz_wr_gn, pz_wr_gi, pz_wr_gl, pz_wr_same, pz_wr_X, so_120 hS', sr_120_69 hS', sa_163 hS', sn_163 hS', sr_120_66 hS', sa_160 hS', sn_160 hS', rt', e159', e160', sa_164 hS', sn_164 hS', sa_165 hS', sn_165 hS', sa_159 hS', sn_159 hS']
              (try simp (disch := omega) only [nI_clamp, pz_in_nI2, pz_in_nI2L, pv_gt, nI_add, nI_addL, nI_Ladd, pk_mul, nI_mulL, nI_Lmul, pk_sub, nI_subL, nI_Lsub, nI_inc, nI_clampL, Nat.add_sub_cancel, pz_wi_else, pz_wl_else, vu_eq, vu_ne, pz_wi_gc, pz_wi_ga, pz_wi_gn, pz_wi_gl, pz_wi_gr, pz_wi_same, pz_wi_X, pz_wl_gc, pz_wl_ga, pz_wl_gn, pz_wl_gi, pz_wl_gr, pz_wl_same, pz_wl_X, pz_wr_gc, pz_wr_ga, pz_wr_gn, pz_wr_gi, pz_wr_gl, pz_wr_same, pz_wr_X, rt', e159', e160'])
              (try refine po_gI (by first | exact pz_in_nI (by omega) (by decide) | decide | assumption) ?_)
              (try refine po_gP (Nat.le_of_ble_eq_true rfl) ?_)
              refine po_call (by omega) (r_worth (h := h) (e := e) (cu := cu) (y := y) (v := v) (by omega) hS' hO' b2' (by rw [s'.i (by decide)]; exact hh) (by rw [s'.i (by decide)]; exact he) (by rw [e120]; exact hy) (by rw [e120]; exact hn) hn40 (fun v hv => by rw [dcut_fr (s'.i (by decide)) (s'.i (by decide)) (s'.i (by decide)), e120]; exact hc v hv) hB k6 hv (fun z => hvB z k6) rfl ?_)
              refine pw_blk (mi := mz_154) (b := bz_154_86) rfl rfl ?_
              simp only [bz_154_86, pz_cut_t, pz_cut_f, pz_cut_n, pv_gt, pv_ts, pv_tn, ea_iast, ev_inc2n, ev_inc2i, ev_inc2r, ev_inc2e, ev_goto, pz_wi_gc, pz_wi_ga, pz_wi_gn, pz_wi_gl, pz_wi_gr, pz_wi_same, pz_wi_X, pz_wl_gc, pz_wl_ga, pz_wl_gn, pz_wl_gi, pz_wl_gr, pz_wl_same, pz_wl_X, pz_wr_gc, pz_wr_ga, pz_wr_gn, pz_wr_gi, pz_wr_gl, pz_wr_same, pz_wr_X, rt', e159', e160', sa_164 hS', sn_164 hS', sa_165 hS', sn_165 hS', sa_159 hS', sn_159 hS', sa_163 hS', sn_163 hS', sa_160 hS', sn_160 hS']
              (try simp (disch := omega) only [nI_clamp, pz_in_nI2, pz_in_nI2L, pv_gt, nI_add, nI_addL, nI_Ladd, pk_mul, nI_mulL, nI_Lmul, pk_sub, nI_subL, nI_Lsub, nI_inc, nI_clampL, Nat.add_sub_cancel, pz_wi_else, pz_wl_else, vu_eq, vu_ne, pz_wi_gc, pz_wi_ga, pz_wi_gn, pz_wi_gl, pz_wi_gr, pz_wi_same, pz_wi_X, pz_wl_gc, pz_wl_ga, pz_wl_gn, pz_wl_gi, pz_wl_gr, pz_wl_same, pz_wl_X, pz_wr_gc, pz_wr_ga, pz_wr_gn, pz_wr_gi, pz_wr_gl, pz_wr_same, pz_wr_X, rt', e159', e160'])
              (try refine po_gI (by first | exact pz_in_nI (by omega) (by decide) | decide | assumption) ?_)
              refine po_go ?_
              refine pw_blk (mi := mz_154) (b := bz_154_123) rfl rfl ?_
              simp only [bz_154_123, pz_cut_t, pz_cut_f, pz_cut_n, pv_gt, pv_ts, pv_tn, ev_inc3n, ev_inc3i, ev_inc3r, ev_inc3e, ev_goto, pz_wi_gc, pz_wi_ga, pz_wi_gn, pz_wi_gl, pz_wi_gr, pz_wi_same, pz_wi_X, pz_wl_gc, pz_wl_ga, pz_wl_gn, pz_wl_gi, pz_wl_gr, pz_wl_same, pz_wl_X, pz_wr_gc, pz_wr_ga, pz_wr_gn, pz_wr_gi, pz_wr_gl, pz_wr_same, pz_wr_X, rt', e159', e160']
              (try simp (disch := omega) only [nI_clamp, pz_in_nI2, pz_in_nI2L, pv_gt, nI_add, nI_addL, nI_Ladd, pk_mul, nI_mulL, nI_Lmul, pk_sub, nI_subL, nI_Lsub, nI_inc, nI_clampL, Nat.add_sub_cancel, pz_wi_else, pz_wl_else, vu_eq, vu_ne, pz_wi_gc, pz_wi_ga, pz_wi_gn, pz_wi_gl, pz_wi_gr, pz_wi_same, pz_wi_X, pz_wl_gc, pz_wl_ga, pz_wl_gn, pz_wl_gi, pz_wl_gr, pz_wl_same, pz_wl_X, pz_wr_gc, pz_wr_ga, pz_wr_gn, pz_wr_gi, pz_wr_gl, pz_wr_same, pz_wr_X, rt', e159', e160'])
              refine po_go ?_
              refine pw_cut (mi := mz_154) (b := bz_154_9) rfl rfl (ih (f + 1) (m + 1) (va_up s m (uv h e y cu B k v)) _ (by omega) (sm.wi s' (by decide)) (by omega) hp' hcd' ?_ ?_ ?_) rfl
              · simp (disch := omega) only [pz_wi_same, pz_wi_else]
                exact va_ag hag (fun i hi h2 => by omega)
              · rw [ev_push e96 hk hv k6] at K1
                exact K1
              · rw [ev_push e96 hk hv k6] at K0
                exact K0
          · first
            | exact absurd q19 (by decide)
            | exact absurd trivial q19
            | exact q19.elim
            | (exfalso; (try simp (disch := omega) only [nI_ltI, nI_leI, nI_eq, nI_ltL, nI_leL, nI_eqL, nI_Llt, nI_Lle, nI_Leq, nI_eqm, nI_meq, nI_ltm, nI_lem, nI_mlt, nI_mle, lg0, lgl, lgg, lgle, lgge, Int32.not_lt, Int32.not_le, Int64.not_lt, Int64.not_le, not_false_eq_true, not_true_eq_false, Decidable.not_not, ge_iff_le, gt_iff_lt] at q19) <;> omega)
            | exact absurd q19 (by with_reducible assumption)
            | exact absurd (by with_reducible assumption) q19
            | exact absurd (Decidable.not_not.mp q19) (by with_reducible assumption)
            | exact absurd (by with_reducible assumption) (Int32.not_le.mpr q19)
            | exact absurd (by with_reducible assumption) (Int32.not_lt.mpr q19)
      · by_cases k7 : k = 6
        · obtain ⟨hm1, hp'⟩ := pil_not e96 hk hv k7 hp
          have g1 : gi M' 163 (m - 1) = s (m - 1) := hag (m - 1) (by omega)
          have e126 : cdK k = 126 := by rw [k7]; rfl
          refine pw_blk (mi := mz_154) (b := bz_154_9) rfl rfl ?_
          simp only [bz_154_9, pz_cut_t, pz_cut_f, pz_cut_n, pv_gt, pv_ts, pv_tn, ev_ild3, ev_ald0, ev_eld0, ev_gf11_2, ev_ild1, ea_iald, ev_ic_ge, pz_wi_gc, pz_wi_ga, pz_wi_gn, pz_wi_gl, pz_wi_gr, pz_wi_same, pz_wi_X, pz_wl_gc, pz_wl_ga, pz_wl_gn, pz_wl_gi, pz_wl_gr, pz_wl_same, pz_wl_X, pz_wr_gc, pz_wr_ga, pz_wr_gn, pz_wr_gi, pz_wr_gl, pz_wr_same, pz_wr_X, so_120 hS', sr_120_71 hS', sa_165 hS', sn_165 hS', rt', e159', g1, sa_164 hS', sn_164 hS', sa_159 hS', sn_159 hS', sa_163 hS', sn_163 hS', sa_160 hS', sn_160 hS']
          (try simp (disch := omega) only [nI_clamp, pz_in_nI2, pz_in_nI2L, pv_gt, nI_add, nI_addL, nI_Ladd, pk_mul, nI_mulL, nI_Lmul, pk_sub, nI_subL, nI_Lsub, nI_inc, nI_clampL, Nat.add_sub_cancel, pz_wi_else, pz_wl_else, vu_eq, vu_ne, pz_wi_gc, pz_wi_ga, pz_wi_gn, pz_wi_gl, pz_wi_gr, pz_wi_same, pz_wi_X, pz_wl_gc, pz_wl_ga, pz_wl_gn, pz_wl_gi, pz_wl_gr, pz_wl_same, pz_wl_X, pz_wr_gc, pz_wr_ga, pz_wr_gn, pz_wr_gi, pz_wr_gl, pz_wr_same, pz_wr_X, rt', e159', g1])
          (try refine po_gI (by first | exact pz_in_nI (by omega) (by decide) | decide | assumption) ?_)
          refine po_brP (fun q9 => ?_) (fun q9 => ?_)
          · first
            | exact absurd q9 (by decide)
            | exact absurd trivial q9
            | exact q9.elim
            | (exfalso; (try simp (disch := omega) only [nI_ltI, nI_leI, nI_eq, nI_ltL, nI_leL, nI_eqL, nI_Llt, nI_Lle, nI_Leq, nI_eqm, nI_meq, nI_ltm, nI_lem, nI_mlt, nI_mle, lg0, lgl, lgg, lgle, lgge, Int32.not_lt, Int32.not_le, Int64.not_lt, Int64.not_le, not_false_eq_true, not_true_eq_false, Decidable.not_not, ge_iff_le, gt_iff_lt] at q9) <;> omega)
            | exact absurd q9 (by with_reducible assumption)
            | exact absurd (by with_reducible assumption) q9
            | exact absurd (Decidable.not_not.mp q9) (by with_reducible assumption)
            | exact absurd (by with_reducible assumption) (Int32.not_le.mpr q9)
            | exact absurd (by with_reducible assumption) (Int32.not_lt.mpr q9)
          · skip
            (try simp (disch := omega) only [nI_ltI, nI_leI, nI_eq, nI_ltL, nI_leL, nI_eqL, nI_Llt, nI_Lle, nI_Leq, nI_eqm, nI_meq, nI_ltm, nI_lem, nI_mlt, nI_mle, lg0, lgl, lgg, lgle, lgge, Int32.not_lt, Int32.not_le, Int64.not_lt, Int64.not_le, not_false_eq_true, not_true_eq_false, Decidable.not_not, ge_iff_le, gt_iff_lt] at q9)
            refine pw_blk (mi := mz_154) (b := bz_154_19) rfl rfl ?_
            simp only [bz_154_19, pz_cut_t, pz_cut_f, pz_cut_n, pv_gt, pv_ts, pv_tn, ev_ald0, ev_eld0, ev_gf11_2, ev_ild3, ea_iald, ev_ist4n, ev_ist4i, ev_ist4r, ev_ist4e, ev_ist4l, ev_ild4, ev_bp126, ev_ic_ne, pz_wi_gc, pz_wi_ga, pz_wi_gn, pz_wi_gl, pz_wi_gr, pz_wi_same, pz_wi_X, pz_wl_gc, pz_wl_ga, pz_wl_gn, pz_wl_gi, pz_wl_gr, pz_wl_same, pz_wl_X, pz_wr_gc, pz_wr_ga, pz_wr_gn, pz_wr_gi, pz_wr_gl, pz_wr_same, pz_wr_X, so_120 hS', sr_120_65 hS', sa_159 hS', sn_159 hS', rt', e159', g1, sa_164 hS', sn_164 hS', sa_165 hS', sn_165 hS', sa_163 hS', sn_163 hS', sa_160 hS', sn_160 hS']
            (try simp (disch := omega) only [nI_clamp, pz_in_nI2, pz_in_nI2L, pv_gt, nI_add, nI_addL, nI_Ladd, pk_mul, nI_mulL, nI_Lmul, pk_sub, nI_subL, nI_Lsub, nI_inc, nI_clampL, Nat.add_sub_cancel, pz_wi_else, pz_wl_else, vu_eq, vu_ne, pz_wi_gc, pz_wi_ga, pz_wi_gn, pz_wi_gl, pz_wi_gr, pz_wi_same, pz_wi_X, pz_wl_gc, pz_wl_ga, pz_wl_gn, pz_wl_gi, pz_wl_gr, pz_wl_same, pz_wl_X, pz_wr_gc, pz_wr_ga, pz_wr_gn, pz_wr_gi, pz_wr_gl, pz_wr_same, pz_wr_X, rt', e159', g1])
            (try refine po_gI (by first | exact pz_in_nI (by omega) (by decide) | decide | assumption) ?_)
            refine po_brP (fun q19 => ?_) (fun q19 => ?_)
            · first
              | exact absurd q19 (by decide)
              | exact absurd trivial q19
              | exact q19.elim
              | (exfalso; (try simp (disch := omega) only [nI_ltI, nI_leI, nI_eq, nI_ltL, nI_leL, nI_eqL, nI_Llt, nI_Lle, nI_Leq, nI_eqm, nI_meq, nI_ltm, nI_lem, nI_mlt, nI_mle, lg0, lgl, lgg, lgle, lgge, Int32.not_lt, Int32.not_le, Int64.not_lt, Int64.not_le, not_false_eq_true, not_true_eq_false, Decidable.not_not, ge_iff_le, gt_iff_lt] at q19) <;> omega)
              | exact absurd q19 (by with_reducible assumption)
              | exact absurd (by with_reducible assumption) q19
              | exact absurd (Decidable.not_not.mp q19) (by with_reducible assumption)
              | exact absurd (by with_reducible assumption) (Int32.not_le.mpr q19)
              | exact absurd (by with_reducible assumption) (Int32.not_lt.mpr q19)
            · skip
              (try simp (disch := omega) only [nI_ltI, nI_leI, nI_eq, nI_ltL, nI_leL, nI_eqL, nI_Llt, nI_Lle, nI_Leq, nI_eqm, nI_meq, nI_ltm, nI_lem, nI_mlt, nI_mle, lg0, lgl, lgg, lgle, lgge, Int32.not_lt, Int32.not_le, Int64.not_lt, Int64.not_le, not_false_eq_true, not_true_eq_false, Decidable.not_not, ge_iff_le, gt_iff_lt] at q19)
              refine pw_blk (mi := mz_154) (b := bz_154_34) rfl rfl ?_
              simp only [bz_154_34, pz_cut_t, pz_cut_f, pz_cut_n, pv_gt, pv_ts, pv_tn, ev_ald0, ev_eld0, ev_gf11_2, ev_ild2, ev_ic1, ev_isub, ea_iald, ev_ifne, pz_wi_gc, pz_wi_ga, pz_wi_gn, pz_wi_gl, pz_wi_gr, pz_wi_same, pz_wi_X, pz_wl_gc, pz_wl_ga, pz_wl_gn, pz_wl_gi, pz_wl_gr, pz_wl_same, pz_wl_X, pz_wr_gc, pz_wr_ga, pz_wr_gn, pz_wr_gi, pz_wr_gl, pz_wr_same, pz_wr_X, so_120 hS', sr_120_69 hS', sa_163 hS', sn_163 hS', rt', e159', g1, sa_164 hS', sn_164 hS', sa_165 hS', sn_165 hS', sa_159 hS', sn_159 hS', sa_160 hS', sn_160 hS']
              (try simp (disch := omega) only [nI_clamp, pz_in_nI2, pz_in_nI2L, pv_gt, nI_add, nI_addL, nI_Ladd, pk_mul, nI_mulL, nI_Lmul, pk_sub, nI_subL, nI_Lsub, nI_inc, nI_clampL, Nat.add_sub_cancel, pz_wi_else, pz_wl_else, vu_eq, vu_ne, pz_wi_gc, pz_wi_ga, pz_wi_gn, pz_wi_gl, pz_wi_gr, pz_wi_same, pz_wi_X, pz_wl_gc, pz_wl_ga, pz_wl_gn, pz_wl_gi, pz_wl_gr, pz_wl_same, pz_wl_X, pz_wr_gc, pz_wr_ga, pz_wr_gn, pz_wr_gi, pz_wr_gl, pz_wr_same, pz_wr_X, rt', e159', g1])
              (try refine po_gI (by first | exact pz_in_nI (by omega) (by decide) | decide | assumption) ?_)
              refine po_brP (fun q34 => ?_) (fun q34 => ?_)
              · first
                | exact absurd q34 (by decide)
                | exact absurd trivial q34
                | exact q34.elim
                | (exfalso; (try simp (disch := omega) only [nI_ltI, nI_leI, nI_eq, nI_ltL, nI_leL, nI_eqL, nI_Llt, nI_Lle, nI_Leq, nI_eqm, nI_meq, nI_ltm, nI_lem, nI_mlt, nI_mle, lg0, lgl, lgg, lgle, lgge, Int32.not_lt, Int32.not_le, Int64.not_lt, Int64.not_le, not_false_eq_true, not_true_eq_false, Decidable.not_not, ge_iff_le, gt_iff_lt] at q34) <;> omega)
                | exact absurd q34 (by with_reducible assumption)
                | exact absurd (by with_reducible assumption) q34
                | exact absurd (Decidable.not_not.mp q34) (by with_reducible assumption)
                | exact absurd (by with_reducible assumption) (Int32.not_le.mpr q34)
                | exact absurd (by with_reducible assumption) (Int32.not_lt.mpr q34)
                | skip
                  (try simp (disch := omega) only [nI_ltI, nI_leI, nI_eq, nI_ltL, nI_leL, nI_eqL, nI_Llt, nI_Lle, nI_Leq, nI_eqm, nI_meq, nI_ltm, nI_lem, nI_mlt, nI_mle, lg0, lgl, lgg, lgle, lgge, Int32.not_lt, Int32.not_le, Int64.not_lt, Int64.not_le, not_false_eq_true, not_true_eq_false, Decidable.not_not, ge_iff_le, gt_iff_lt] at q34)
                  have z1 : (if s (m - 1) = 0 then (1 : Int32) else 0) = 0 := if_neg q34
                  refine pw_blk (mi := mz_154) (b := bz_154_56) rfl rfl ?_
                  simp only [bz_154_56, pz_cut_t, pz_cut_f, pz_cut_n, pv_gt, pv_ts, pv_tn, ev_ic0, ev_nil, pz_wi_gc, pz_wi_ga, pz_wi_gn, pz_wi_gl, pz_wi_gr, pz_wi_same, pz_wi_X, pz_wl_gc, pz_wl_ga, pz_wl_gn, pz_wl_gi, pz_wl_gr, pz_wl_same, pz_wl_X, pz_wr_gc, pz_wr_ga, pz_wr_gn, pz_wr_gi, pz_wr_gl, pz_wr_same, pz_wr_X, rt', e159', g1]
                  (try simp (disch := omega) only [nI_clamp, pz_in_nI2, pz_in_nI2L, pv_gt, nI_add, nI_addL, nI_Ladd, pk_mul, nI_mulL, nI_Lmul, pk_sub, nI_subL, nI_Lsub, nI_inc, nI_clampL, Nat.add_sub_cancel, pz_wi_else, pz_wl_else, vu_eq, vu_ne, pz_wi_gc, pz_wi_ga, pz_wi_gn, pz_wi_gl, pz_wi_gr, pz_wi_same, pz_wi_X, pz_wl_gc, pz_wl_ga, pz_wl_gn, pz_wl_gi, pz_wl_gr, pz_wl_same, pz_wl_X, pz_wr_gc, pz_wr_ga, pz_wr_gn, pz_wr_gi, pz_wr_gl, pz_wr_same, pz_wr_X, rt', e159', g1])
                  refine po_go ?_
                  refine pw_blk (mi := mz_154) (b := bz_154_57) rfl rfl ?_
                  simp only [bz_154_57, pz_cut_t, pz_cut_f, pz_cut_n, pv_gt, pv_ts, pv_tn, ea_iast, ev_goto, pz_wi_gc, pz_wi_ga, pz_wi_gn, pz_wi_gl, pz_wi_gr, pz_wi_same, pz_wi_X, pz_wl_gc, pz_wl_ga, pz_wl_gn, pz_wl_gi, pz_wl_gr, pz_wl_same, pz_wl_X, pz_wr_gc, pz_wr_ga, pz_wr_gn, pz_wr_gi, pz_wr_gl, pz_wr_same, pz_wr_X, rt', e159', g1, sa_164 hS', sn_164 hS', sa_165 hS', sn_165 hS', sa_159 hS', sn_159 hS', sa_163 hS', sn_163 hS', sa_160 hS', sn_160 hS']
                  (try simp (disch := omega) only [nI_clamp, pz_in_nI2, pz_in_nI2L, pv_gt, nI_add, nI_addL, nI_Ladd, pk_mul, nI_mulL, nI_Lmul, pk_sub, nI_subL, nI_Lsub, nI_inc, nI_clampL, Nat.add_sub_cancel, pz_wi_else, pz_wl_else, vu_eq, vu_ne, pz_wi_gc, pz_wi_ga, pz_wi_gn, pz_wi_gl, pz_wi_gr, pz_wi_same, pz_wi_X, pz_wl_gc, pz_wl_ga, pz_wl_gn, pz_wl_gi, pz_wl_gr, pz_wl_same, pz_wl_X, pz_wr_gc, pz_wr_ga, pz_wr_gn, pz_wr_gi, pz_wr_gl, pz_wr_same, pz_wr_X, rt', e159', g1])
                  (try refine po_gI (by first | exact pz_in_nI (by omega) (by decide) | decide | assumption) ?_)
                  refine po_go ?_
                  refine pw_blk (mi := mz_154) (b := bz_154_123) rfl rfl ?_
                  simp only [bz_154_123, pz_cut_t, pz_cut_f, pz_cut_n, pv_gt, pv_ts, pv_tn, ev_inc3n, ev_inc3i, ev_inc3r, ev_inc3e, ev_goto, pz_wi_gc, pz_wi_ga, pz_wi_gn, pz_wi_gl, pz_wi_gr, pz_wi_same, pz_wi_X, pz_wl_gc, pz_wl_ga, pz_wl_gn, pz_wl_gi, pz_wl_gr, pz_wl_same, pz_wl_X, pz_wr_gc, pz_wr_ga, pz_wr_gn, pz_wr_gi, pz_wr_gl, pz_wr_same, pz_wr_X, rt', e159', g1]
                  (try simp (disch := omega) only [nI_clamp, pz_in_nI2, pz_in_nI2L, pv_gt, nI_add, nI_addL, nI_Ladd, pk_mul, nI_mulL, nI_Lmul, pk_sub, nI_subL, nI_Lsub, nI_inc, nI_clampL, Nat.add_sub_cancel, pz_wi_else, pz_wl_else, vu_eq, vu_ne, pz_wi_gc, pz_wi_ga, pz_wi_gn, pz_wi_gl, pz_wi_gr, pz_wi_same, pz_wi_X, pz_wl_gc, pz_wl_ga, pz_wl_gn, pz_wl_gi, pz_wl_gr, pz_wl_same, pz_wl_X, pz_wr_gc, pz_wr_ga, pz_wr_gn, pz_wr_gi, pz_wr_gl, pz_wr_same, pz_wr_X, rt', e159', g1])
                  refine po_go ?_
                  refine pw_cut (mi := mz_154) (b := bz_154_9) rfl rfl (ih (f + 1) m (va_up s (m - 1) (if s (m - 1) = 0 then 1 else 0)) _ (by omega) (sm.wi s' (by decide)) (by omega) hp' hcd' ?_ ?_ ?_) rfl
                  · simp (disch := omega) only [pz_wi_same, pz_wi_else]
                    rw [z1]
                    exact va_ag hag (fun i hi h2 => by omega)
                  · rw [ev_not e96 hk hv k7] at K1
                    exact K1
                  · rw [ev_not e96 hk hv k7] at K0
                    exact K0
              · first
                | exact absurd q34 (by decide)
                | exact absurd trivial q34
                | exact q34.elim
                | (exfalso; (try simp (disch := omega) only [nI_ltI, nI_leI, nI_eq, nI_ltL, nI_leL, nI_eqL, nI_Llt, nI_Lle, nI_Leq, nI_eqm, nI_meq, nI_ltm, nI_lem, nI_mlt, nI_mle, lg0, lgl, lgg, lgle, lgge, Int32.not_lt, Int32.not_le, Int64.not_lt, Int64.not_le, not_false_eq_true, not_true_eq_false, Decidable.not_not, ge_iff_le, gt_iff_lt] at q34) <;> omega)
                | exact absurd q34 (by with_reducible assumption)
                | exact absurd (by with_reducible assumption) q34
                | exact absurd (Decidable.not_not.mp q34) (by with_reducible assumption)
                | exact absurd (by with_reducible assumption) (Int32.not_le.mpr q34)
                | exact absurd (by with_reducible assumption) (Int32.not_lt.mpr q34)
                | skip
                  (try simp (disch := omega) only [nI_ltI, nI_leI, nI_eq, nI_ltL, nI_leL, nI_eqL, nI_Llt, nI_Lle, nI_Leq, nI_eqm, nI_meq, nI_ltm, nI_lem, nI_mlt, nI_mle, lg0, lgl, lgg, lgle, lgge, Int32.not_lt, Int32.not_le, Int64.not_lt, Int64.not_le, not_false_eq_true, not_true_eq_false, Decidable.not_not, ge_iff_le, gt_iff_lt] at q34)
                  have z1 : (if s (m - 1) = 0 then (1 : Int32) else 0) = 1 := if_pos q34
                  refine pw_blk (mi := mz_154) (b := bz_154_52) rfl rfl ?_
                  simp only [bz_154_52, pz_cut_t, pz_cut_f, pz_cut_n, pv_gt, pv_ts, pv_tn, ev_ic1, ev_goto, pz_wi_gc, pz_wi_ga, pz_wi_gn, pz_wi_gl, pz_wi_gr, pz_wi_same, pz_wi_X, pz_wl_gc, pz_wl_ga, pz_wl_gn, pz_wl_gi, pz_wl_gr, pz_wl_same, pz_wl_X, pz_wr_gc, pz_wr_ga, pz_wr_gn, pz_wr_gi, pz_wr_gl, pz_wr_same, pz_wr_X, rt', e159', g1]
                  (try simp (disch := omega) only [nI_clamp, pz_in_nI2, pz_in_nI2L, pv_gt, nI_add, nI_addL, nI_Ladd, pk_mul, nI_mulL, nI_Lmul, pk_sub, nI_subL, nI_Lsub, nI_inc, nI_clampL, Nat.add_sub_cancel, pz_wi_else, pz_wl_else, vu_eq, vu_ne, pz_wi_gc, pz_wi_ga, pz_wi_gn, pz_wi_gl, pz_wi_gr, pz_wi_same, pz_wi_X, pz_wl_gc, pz_wl_ga, pz_wl_gn, pz_wl_gi, pz_wl_gr, pz_wl_same, pz_wl_X, pz_wr_gc, pz_wr_ga, pz_wr_gn, pz_wr_gi, pz_wr_gl, pz_wr_same, pz_wr_X, rt', e159', g1])
                  refine po_go ?_
                  refine pw_blk (mi := mz_154) (b := bz_154_57) rfl rfl ?_
                  simp only [bz_154_57, pz_cut_t, pz_cut_f, pz_cut_n, pv_gt, pv_ts, pv_tn, ea_iast, ev_goto, pz_wi_gc, pz_wi_ga, pz_wi_gn, pz_wi_gl, pz_wi_gr, pz_wi_same, pz_wi_X, pz_wl_gc, pz_wl_ga, pz_wl_gn, pz_wl_gi, pz_wl_gr, pz_wl_same, pz_wl_X, pz_wr_gc, pz_wr_ga, pz_wr_gn, pz_wr_gi, pz_wr_gl, pz_wr_same, pz_wr_X, rt', e159', g1, sa_164 hS', sn_164 hS', sa_165 hS', sn_165 hS', sa_159 hS', sn_159 hS', sa_163 hS', sn_163 hS', sa_160 hS', sn_160 hS']
                  (try simp (disch := omega) only [nI_clamp, pz_in_nI2, pz_in_nI2L, pv_gt, nI_add, nI_addL, nI_Ladd, pk_mul, nI_mulL, nI_Lmul, pk_sub, nI_subL, nI_Lsub, nI_inc, nI_clampL, Nat.add_sub_cancel, pz_wi_else, pz_wl_else, vu_eq, vu_ne, pz_wi_gc, pz_wi_ga, pz_wi_gn, pz_wi_gl, pz_wi_gr, pz_wi_same, pz_wi_X, pz_wl_gc, pz_wl_ga, pz_wl_gn, pz_wl_gi, pz_wl_gr, pz_wl_same, pz_wl_X, pz_wr_gc, pz_wr_ga, pz_wr_gn, pz_wr_gi, pz_wr_gl, pz_wr_same, pz_wr_X, rt', e159', g1])
                  (try refine po_gI (by first | exact pz_in_nI (by omega) (by decide) | decide | assumption) ?_)
                  refine po_go ?_
                  refine pw_blk (mi := mz_154) (b := bz_154_123) rfl rfl ?_
                  simp only [bz_154_123, pz_cut_t, pz_cut_f, pz_cut_n, pv_gt, pv_ts, pv_tn, ev_inc3n, ev_inc3i, ev_inc3r, ev_inc3e, ev_goto, pz_wi_gc, pz_wi_ga, pz_wi_gn, pz_wi_gl, pz_wi_gr, pz_wi_same, pz_wi_X, pz_wl_gc, pz_wl_ga, pz_wl_gn, pz_wl_gi, pz_wl_gr, pz_wl_same, pz_wl_X, pz_wr_gc, pz_wr_ga, pz_wr_gn, pz_wr_gi, pz_wr_gl, pz_wr_same, pz_wr_X, rt', e159', g1]
                  (try simp (disch := omega) only [nI_clamp, pz_in_nI2, pz_in_nI2L, pv_gt, nI_add, nI_addL, nI_Ladd, pk_mul, nI_mulL, nI_Lmul, pk_sub, nI_subL, nI_Lsub, nI_inc, nI_clampL, Nat.add_sub_cancel, pz_wi_else, pz_wl_else, vu_eq, vu_ne, pz_wi_gc, pz_wi_ga, pz_wi_gn, pz_wi_gl, pz_wi_gr, pz_wi_same, pz_wi_X, pz_wl_gc, pz_wl_ga, pz_wl_gn, pz_wl_gi, pz_wl_gr, pz_wl_same, pz_wl_X, pz_wr_gc, pz_wr_ga, pz_wr_gn, pz_wr_gi, pz_wr_gl, pz_wr_same, pz_wr_X, rt', e159', g1])
                  refine po_go ?_
                  refine pw_cut (mi := mz_154) (b := bz_154_9) rfl rfl (ih (f + 1) m (va_up s (m - 1) (if s (m - 1) = 0 then 1 else 0)) _ (by omega) (sm.wi s' (by decide)) (by omega) hp' hcd' ?_ ?_ ?_) rfl
                  · simp (disch := omega) only [pz_wi_same, pz_wi_else]
                    rw [z1]
                    exact va_ag hag (fun i hi h2 => by omega)
                  · rw [ev_not e96 hk hv k7] at K1
                    exact K1
                  · rw [ev_not e96 hk hv k7] at K0
                    exact K0
        · obtain ⟨hm2, hp'⟩ := pil_two e96 hk hv (by omega) hp
          have g1 : gi M' 163 (m - 1) = s (m - 1) := hag (m - 1) (by omega)
          have g2 : gi M' 163 (m - 1 - 1) = s (m - 1 - 1) := hag (m - 1 - 1) (by omega)
          have hl := cdK_sgn k hk (by omega)
          refine pw_blk (mi := mz_154) (b := bz_154_9) rfl rfl ?_
          simp only [bz_154_9, pz_cut_t, pz_cut_f, pz_cut_n, pv_gt, pv_ts, pv_tn, ev_ild3, ev_ald0, ev_eld0, ev_gf11_2, ev_ild1, ea_iald, ev_ic_ge, pz_wi_gc, pz_wi_ga, pz_wi_gn, pz_wi_gl, pz_wi_gr, pz_wi_same, pz_wi_X, pz_wl_gc, pz_wl_ga, pz_wl_gn, pz_wl_gi, pz_wl_gr, pz_wl_same, pz_wl_X, pz_wr_gc, pz_wr_ga, pz_wr_gn, pz_wr_gi, pz_wr_gl, pz_wr_same, pz_wr_X, so_120 hS', sr_120_71 hS', sa_165 hS', sn_165 hS', rt', e159', g1, g2, nI_dec, sa_164 hS', sn_164 hS', sa_159 hS', sn_159 hS', sa_163 hS', sn_163 hS', sa_160 hS', sn_160 hS']
          (try simp (disch := omega) only [nI_clamp, pz_in_nI2, pz_in_nI2L, pv_gt, nI_add, nI_addL, nI_Ladd, pk_mul, nI_mulL, nI_Lmul, pk_sub, nI_subL, nI_Lsub, nI_inc, nI_clampL, Nat.add_sub_cancel, pz_wi_else, pz_wl_else, vu_eq, vu_ne, pz_wi_gc, pz_wi_ga, pz_wi_gn, pz_wi_gl, pz_wi_gr, pz_wi_same, pz_wi_X, pz_wl_gc, pz_wl_ga, pz_wl_gn, pz_wl_gi, pz_wl_gr, pz_wl_same, pz_wl_X, pz_wr_gc, pz_wr_ga, pz_wr_gn, pz_wr_gi, pz_wr_gl, pz_wr_same, pz_wr_X, rt', e159', g1, g2, nI_dec])
          (try refine po_gI (by first | exact pz_in_nI (by omega) (by decide) | decide | assumption) ?_)
          refine po_brP (fun q9 => ?_) (fun q9 => ?_)
          · first
            | exact absurd q9 (by decide)
            | exact absurd trivial q9
            | exact q9.elim
            | (exfalso; (try simp (disch := omega) only [nI_ltI, nI_leI, nI_eq, nI_ltL, nI_leL, nI_eqL, nI_Llt, nI_Lle, nI_Leq, nI_eqm, nI_meq, nI_ltm, nI_lem, nI_mlt, nI_mle, lg0, lgl, lgg, lgle, lgge, Int32.not_lt, Int32.not_le, Int64.not_lt, Int64.not_le, not_false_eq_true, not_true_eq_false, Decidable.not_not, ge_iff_le, gt_iff_lt] at q9) <;> omega)
            | exact absurd q9 (by with_reducible assumption)
            | exact absurd (by with_reducible assumption) q9
            | exact absurd (Decidable.not_not.mp q9) (by with_reducible assumption)
            | exact absurd (by with_reducible assumption) (Int32.not_le.mpr q9)
            | exact absurd (by with_reducible assumption) (Int32.not_lt.mpr q9)
          · skip
            (try simp (disch := omega) only [nI_ltI, nI_leI, nI_eq, nI_ltL, nI_leL, nI_eqL, nI_Llt, nI_Lle, nI_Leq, nI_eqm, nI_meq, nI_ltm, nI_lem, nI_mlt, nI_mle, lg0, lgl, lgg, lgle, lgge, Int32.not_lt, Int32.not_le, Int64.not_lt, Int64.not_le, not_false_eq_true, not_true_eq_false, Decidable.not_not, ge_iff_le, gt_iff_lt] at q9)
            refine pw_blk (mi := mz_154) (b := bz_154_19) rfl rfl ?_
            simp only [bz_154_19, pz_cut_t, pz_cut_f, pz_cut_n, pv_gt, pv_ts, pv_tn, ev_ald0, ev_eld0, ev_gf11_2, ev_ild3, ea_iald, ev_ist4n, ev_ist4i, ev_ist4r, ev_ist4e, ev_ist4l, ev_ild4, ev_bp126, ev_ic_ne, pz_wi_gc, pz_wi_ga, pz_wi_gn, pz_wi_gl, pz_wi_gr, pz_wi_same, pz_wi_X, pz_wl_gc, pz_wl_ga, pz_wl_gn, pz_wl_gi, pz_wl_gr, pz_wl_same, pz_wl_X, pz_wr_gc, pz_wr_ga, pz_wr_gn, pz_wr_gi, pz_wr_gl, pz_wr_same, pz_wr_X, so_120 hS', sr_120_65 hS', sa_159 hS', sn_159 hS', rt', e159', g1, g2, nI_dec, sa_164 hS', sn_164 hS', sa_165 hS', sn_165 hS', sa_163 hS', sn_163 hS', sa_160 hS', sn_160 hS']
            (try simp (disch := omega) only [nI_clamp, pz_in_nI2, pz_in_nI2L, pv_gt, nI_add, nI_addL, nI_Ladd, pk_mul, nI_mulL, nI_Lmul, pk_sub, nI_subL, nI_Lsub, nI_inc, nI_clampL, Nat.add_sub_cancel, pz_wi_else, pz_wl_else, vu_eq, vu_ne, pz_wi_gc, pz_wi_ga, pz_wi_gn, pz_wi_gl, pz_wi_gr, pz_wi_same, pz_wi_X, pz_wl_gc, pz_wl_ga, pz_wl_gn, pz_wl_gi, pz_wl_gr, pz_wl_same, pz_wl_X, pz_wr_gc, pz_wr_ga, pz_wr_gn, pz_wr_gi, pz_wr_gl, pz_wr_same, pz_wr_X, rt', e159', g1, g2, nI_dec])
            (try refine po_gI (by first | exact pz_in_nI (by omega) (by decide) | decide | assumption) ?_)
            refine po_brP (fun q19 => ?_) (fun q19 => ?_)
            · skip
              (try simp (disch := omega) only [nI_ltI, nI_leI, nI_eq, nI_ltL, nI_leL, nI_eqL, nI_Llt, nI_Lle, nI_Leq, nI_eqm, nI_meq, nI_ltm, nI_lem, nI_mlt, nI_mle, lg0, lgl, lgg, lgle, lgge, Int32.not_lt, Int32.not_le, Int64.not_lt, Int64.not_le, not_false_eq_true, not_true_eq_false, Decidable.not_not, ge_iff_le, gt_iff_lt] at q19)
              refine pw_blk (mi := mz_154) (b := bz_154_61) rfl rfl ?_
              simp only [bz_154_61, pz_cut_t, pz_cut_f, pz_cut_n, pv_gt, pv_ts, pv_tn, ev_ild4, ev_cs1, pz_wi_gc, pz_wi_ga, pz_wi_gn, pz_wi_gl, pz_wi_gr, pz_wi_same, pz_wi_X, pz_wl_gc, pz_wl_ga, pz_wl_gn, pz_wl_gi, pz_wl_gr, pz_wl_same, pz_wl_X, pz_wr_gc, pz_wr_ga, pz_wr_gn, pz_wr_gi, pz_wr_gl, pz_wr_same, pz_wr_X, rt', e159', g1, g2, nI_dec]
              (try simp (disch := omega) only [nI_clamp, pz_in_nI2, pz_in_nI2L, pv_gt, nI_add, nI_addL, nI_Ladd, pk_mul, nI_mulL, nI_Lmul, pk_sub, nI_subL, nI_Lsub, nI_inc, nI_clampL, Nat.add_sub_cancel, pz_wi_else, pz_wl_else, vu_eq, vu_ne, pz_wi_gc, pz_wi_ga, pz_wi_gn, pz_wi_gl, pz_wi_gr, pz_wi_same, pz_wi_X, pz_wl_gc, pz_wl_ga, pz_wl_gn, pz_wl_gi, pz_wl_gr, pz_wl_same, pz_wl_X, pz_wr_gc, pz_wr_ga, pz_wr_gn, pz_wr_gi, pz_wr_gl, pz_wr_same, pz_wr_X, rt', e159', g1, g2, nI_dec])
              (try refine po_gP (Nat.le_of_ble_eq_true rfl) ?_)
              refine po_call (by omega) (r_isLetter0 (by omega) hl.1 ?_)
              refine pw_blk (mi := mz_154) (b := bz_154_66) rfl rfl ?_
              simp only [bz_154_66, pz_cut_t, pz_cut_f, pz_cut_n, pv_gt, pv_ts, pv_tn, ev_ifeq, pz_wi_gc, pz_wi_ga, pz_wi_gn, pz_wi_gl, pz_wi_gr, pz_wi_same, pz_wi_X, pz_wl_gc, pz_wl_ga, pz_wl_gn, pz_wl_gi, pz_wl_gr, pz_wl_same, pz_wl_X, pz_wr_gc, pz_wr_ga, pz_wr_gn, pz_wr_gi, pz_wr_gl, pz_wr_same, pz_wr_X, rt', e159', g1, g2, nI_dec]
              (try simp (disch := omega) only [nI_clamp, pz_in_nI2, pz_in_nI2L, pv_gt, nI_add, nI_addL, nI_Ladd, pk_mul, nI_mulL, nI_Lmul, pk_sub, nI_subL, nI_Lsub, nI_inc, nI_clampL, Nat.add_sub_cancel, pz_wi_else, pz_wl_else, vu_eq, vu_ne, pz_wi_gc, pz_wi_ga, pz_wi_gn, pz_wi_gl, pz_wi_gr, pz_wi_same, pz_wi_X, pz_wl_gc, pz_wl_ga, pz_wl_gn, pz_wl_gi, pz_wl_gr, pz_wl_same, pz_wl_X, pz_wr_gc, pz_wr_ga, pz_wr_gn, pz_wr_gi, pz_wr_gl, pz_wr_same, pz_wr_X, rt', e159', g1, g2, nI_dec])
              refine po_brP (fun q66 => ?_) (fun q66 => ?_)
              · skip
                (try simp (disch := omega) only [nI_ltI, nI_leI, nI_eq, nI_ltL, nI_leL, nI_eqL, nI_Llt, nI_Lle, nI_Leq, nI_eqm, nI_meq, nI_ltm, nI_lem, nI_mlt, nI_mle, lg0, lgl, lgg, lgle, lgge, Int32.not_lt, Int32.not_le, Int64.not_lt, Int64.not_le, not_false_eq_true, not_true_eq_false, Decidable.not_not, ge_iff_le, gt_iff_lt] at q66)
                refine pw_blk (mi := mz_154) (b := bz_154_93) rfl rfl ?_
                simp only [bz_154_93, pz_cut_t, pz_cut_f, pz_cut_n, pv_gt, pv_ts, pv_tn, ev_inc2n, ev_inc2i, ev_inc2r, ev_inc2e, ev_ald0, ev_eld0, ev_gf11_2, ev_ild2, ev_ic1, ev_isub, ev_ild4, ea_iald, ev_cs3, pz_wi_gc, pz_wi_ga, pz_wi_gn, pz_wi_gl, pz_wi_gr, pz_wi_same, pz_wi_X, pz_wl_gc, pz_wl_ga, pz_wl_gn, pz_wl_gi, pz_wl_gr, pz_wl_same, pz_wl_X, pz_wr_gc, pz_wr_ga, pz_wr_gn, pz_wr_gi, pz_wr_gl, pz_wr_same, pz_wr_X, so_120 hS', sr_120_69 hS', sa_163 hS', sn_163 hS', rt', e159', g1, g2, nI_dec, sa_164 hS', sn_164 hS', sa_165 hS', sn_165 hS', sa_159 hS', sn_159 hS', sa_160 hS', sn_160 hS']
                (try simp (disch := omega) only [nI_clamp, pz_in_nI2, pz_in_nI2L, pv_gt, nI_add, nI_addL, nI_Ladd, pk_mul, nI_mulL, nI_Lmul, pk_sub, nI_subL, nI_Lsub, nI_inc, nI_clampL, Nat.add_sub_cancel, pz_wi_else, pz_wl_else, vu_eq, vu_ne, pz_wi_gc, pz_wi_ga, pz_wi_gn, pz_wi_gl, pz_wi_gr, pz_wi_same, pz_wi_X, pz_wl_gc, pz_wl_ga, pz_wl_gn, pz_wl_gi, pz_wl_gr, pz_wl_same, pz_wl_X, pz_wr_gc, pz_wr_ga, pz_wr_gn, pz_wr_gi, pz_wr_gl, pz_wr_same, pz_wr_X, rt', e159', g1, g2, nI_dec])
                (try refine po_gI (by first | exact pz_in_nI (by omega) (by decide) | decide | assumption) ?_)
                (try refine po_gI (by first | exact pz_in_nI (by omega) (by decide) | decide | assumption) ?_)
                (try refine po_gP (Nat.le_of_ble_eq_true rfl) ?_)
                refine po_call (by omega) (r_two (by omega) hk ?_)
                refine pw_blk (mi := mz_154) (b := bz_154_122) rfl rfl ?_
                simp only [bz_154_122, pz_cut_t, pz_cut_f, pz_cut_n, pv_gt, pv_ts, pv_tn, ea_iast, ev_nil, pz_wi_gc, pz_wi_ga, pz_wi_gn, pz_wi_gl, pz_wi_gr, pz_wi_same, pz_wi_X, pz_wl_gc, pz_wl_ga, pz_wl_gn, pz_wl_gi, pz_wl_gr, pz_wl_same, pz_wl_X, pz_wr_gc, pz_wr_ga, pz_wr_gn, pz_wr_gi, pz_wr_gl, pz_wr_same, pz_wr_X, rt', e159', g1, g2, nI_dec, sa_164 hS', sn_164 hS', sa_165 hS', sn_165 hS', sa_159 hS', sn_159 hS', sa_163 hS', sn_163 hS', sa_160 hS', sn_160 hS']
                (try simp (disch := omega) only [nI_clamp, pz_in_nI2, pz_in_nI2L, pv_gt, nI_add, nI_addL, nI_Ladd, pk_mul, nI_mulL, nI_Lmul, pk_sub, nI_subL, nI_Lsub, nI_inc, nI_clampL, Nat.add_sub_cancel, pz_wi_else, pz_wl_else, vu_eq, vu_ne, pz_wi_gc, pz_wi_ga, pz_wi_gn, pz_wi_gl, pz_wi_gr, pz_wi_same, pz_wi_X, pz_wl_gc, pz_wl_ga, pz_wl_gn, pz_wl_gi, pz_wl_gr, pz_wl_same, pz_wl_X, pz_wr_gc, pz_wr_ga, pz_wr_gn, pz_wr_gi, pz_wr_gl, pz_wr_same, pz_wr_X, rt', e159', g1, g2, nI_dec])
                (try refine po_gI (by first | exact pz_in_nI (by omega) (by decide) | decide | assumption) ?_)
                refine po_go ?_
                refine pw_blk (mi := mz_154) (b := bz_154_123) rfl rfl ?_
                simp only [bz_154_123, pz_cut_t, pz_cut_f, pz_cut_n, pv_gt, pv_ts, pv_tn, ev_inc3n, ev_inc3i, ev_inc3r, ev_inc3e, ev_goto, pz_wi_gc, pz_wi_ga, pz_wi_gn, pz_wi_gl, pz_wi_gr, pz_wi_same, pz_wi_X, pz_wl_gc, pz_wl_ga, pz_wl_gn, pz_wl_gi, pz_wl_gr, pz_wl_same, pz_wl_X, pz_wr_gc, pz_wr_ga, pz_wr_gn, pz_wr_gi, pz_wr_gl, pz_wr_same, pz_wr_X, rt', e159', g1, g2, nI_dec]
                (try simp (disch := omega) only [nI_clamp, pz_in_nI2, pz_in_nI2L, pv_gt, nI_add, nI_addL, nI_Ladd, pk_mul, nI_mulL, nI_Lmul, pk_sub, nI_subL, nI_Lsub, nI_inc, nI_clampL, Nat.add_sub_cancel, pz_wi_else, pz_wl_else, vu_eq, vu_ne, pz_wi_gc, pz_wi_ga, pz_wi_gn, pz_wi_gl, pz_wi_gr, pz_wi_same, pz_wi_X, pz_wl_gc, pz_wl_ga, pz_wl_gn, pz_wl_gi, pz_wl_gr, pz_wl_same, pz_wl_X, pz_wr_gc, pz_wr_ga, pz_wr_gn, pz_wr_gi, pz_wr_gl, pz_wr_same, pz_wr_X, rt', e159', g1, g2, nI_dec])
                refine po_go ?_
                refine pw_cut (mi := mz_154) (b := bz_154_9) rfl rfl (ih (f + 1) (m - 1) (va_up s (m - 1 - 1) (jn k (s (m - 1 - 1)) (s (m - 1)))) _ (by omega) (sm.wi s' (by decide)) (by omega) hp' hcd' ?_ ?_ ?_) rfl
                · simp (disch := omega) only [pz_wi_same, pz_wi_else]
                  exact va_ag hag (fun i hi h2 => by omega)
                · rw [ev_two e96 hk hv (by omega)] at K1
                  exact K1
                · rw [ev_two e96 hk hv (by omega)] at K0
                  exact K0
              · first
                | exact absurd q66 (by decide)
                | exact absurd trivial q66
                | exact q66.elim
                | (exfalso; (try simp (disch := omega) only [nI_ltI, nI_leI, nI_eq, nI_ltL, nI_leL, nI_eqL, nI_Llt, nI_Lle, nI_Leq, nI_eqm, nI_meq, nI_ltm, nI_lem, nI_mlt, nI_mle, lg0, lgl, lgg, lgle, lgge, Int32.not_lt, Int32.not_le, Int64.not_lt, Int64.not_le, not_false_eq_true, not_true_eq_false, Decidable.not_not, ge_iff_le, gt_iff_lt] at q66) <;> omega)
                | exact absurd q66 (by with_reducible assumption)
                | exact absurd (by with_reducible assumption) q66
                | exact absurd (Decidable.not_not.mp q66) (by with_reducible assumption)
                | exact absurd (by with_reducible assumption) (Int32.not_le.mpr q66)
                | exact absurd (by with_reducible assumption) (Int32.not_lt.mpr q66)
            · first
              | exact absurd q19 (by decide)
              | exact absurd trivial q19
              | exact q19.elim
              | (exfalso; (try simp (disch := omega) only [nI_ltI, nI_leI, nI_eq, nI_ltL, nI_leL, nI_eqL, nI_Llt, nI_Lle, nI_Leq, nI_eqm, nI_meq, nI_ltm, nI_lem, nI_mlt, nI_mle, lg0, lgl, lgg, lgle, lgge, Int32.not_lt, Int32.not_le, Int64.not_lt, Int64.not_le, not_false_eq_true, not_true_eq_false, Decidable.not_not, ge_iff_le, gt_iff_lt] at q19) <;> omega)
              | exact absurd q19 (by with_reducible assumption)
              | exact absurd (by with_reducible assumption) q19
              | exact absurd (Decidable.not_not.mp q19) (by with_reducible assumption)
              | exact absurd (by with_reducible assumption) (Int32.not_le.mpr q19)
              | exact absurd (by with_reducible assumption) (Int32.not_lt.mpr q19)
  refine pm_ent (L := [some (.ref 120), some (.int (nI r)), none, none, none]) rfl (Nat.le_of_ble_eq_true rfl) ?_
  refine pw_blk (mi := mz_154) (b := bz_154_0) rfl rfl ?_
  simp only [bz_154_0, pz_cut_t, pz_cut_f, pz_cut_n, pv_gt, pv_ts, pv_tn, ev_ic0, ev_ist2n, ev_ist2i, ev_ist2r, ev_ist2e, ev_ist2l, ev_ald0, ev_eld0, ev_gf11_2, ev_ild1, ea_iald, ev_ist3n, ev_ist3i, ev_ist3r, ev_ist3e, ev_ist3l, ev_nil, pz_wi_gc, pz_wi_ga, pz_wi_gn, pz_wi_gl, pz_wi_gr, pz_wi_same, pz_wi_X, pz_wl_gc, pz_wl_ga, pz_wl_gn, pz_wl_gi, pz_wl_gr, pz_wl_same, pz_wl_X, pz_wr_gc, pz_wr_ga, pz_wr_gn, pz_wr_gi, pz_wr_gl, pz_wr_same, pz_wr_X, so_120 hS, sr_120_70 hS, sa_164 hS, sn_164 hS, rf, sa_165 hS, sn_165 hS, sa_159 hS, sn_159 hS, sa_163 hS, sn_163 hS, sa_160 hS, sn_160 hS]
  (try simp (disch := omega) only [nI_clamp, pz_in_nI2, pz_in_nI2L, pv_gt, nI_add, nI_addL, nI_Ladd, pk_mul, nI_mulL, nI_Lmul, pk_sub, nI_subL, nI_Lsub, nI_inc, nI_clampL, Nat.add_sub_cancel, pz_wi_else, pz_wl_else, vu_eq, vu_ne, pz_wi_gc, pz_wi_ga, pz_wi_gn, pz_wi_gl, pz_wi_gr, pz_wi_same, pz_wi_X, pz_wl_gc, pz_wl_ga, pz_wl_gn, pz_wl_gi, pz_wl_gr, pz_wl_same, pz_wl_X, pz_wr_gc, pz_wr_ga, pz_wr_gn, pz_wr_gi, pz_wr_gl, pz_wr_same, pz_wr_X, rf])
  (try refine po_gI (by first | exact pz_in_nI (by omega) (by decide) | decide | assumption) ?_)
  refine po_go ?_
  exact key c f 0 (fun _ => 0) M hT sm.rf (by omega) hp hcd (fun i hi => absurd hi (by omega)) K1 K0
end EVAL2
