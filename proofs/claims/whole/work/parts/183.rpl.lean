/-! ===== all lines: the reference ===== -/
section RV
variable {d : Nat} {M M' : pz_M} {Q : Option Value × pz_M → Prop} {ru : Bool} {T : Nat → Nat} {L : Nat} {b : Nat}
theorem nxt_en {p : Nat} : p ≤ (nxt ru T L p).2.2.2.2 ∧ ((nxt ru T L p).1 = 0 ∨ p < (nxt ru T L p).2.2.2.2) := by
  have r1 := (rn_b (p := isSp) (T := T) (L := L) _ p rfl).1
  unfold nxt
  by_cases h1 : L ≤ rn isSp T L p
  · rw [if_pos h1]
    exact ⟨r1, Or.inl rfl⟩
  · rw [if_neg h1]
    have hs : rn isSp T L p < L := by omega
    by_cases h2 : isLt (T (rn isSp T L p)) = true
    · rw [if_pos h2]
      have w1 := (rn_b (p := isLt) (T := T) (L := L) _ (rn isSp T L p + 1) rfl).1
      have w2 : p < rn isLt T L (rn isSp T L p) := by
        rw [rn_s hs h2]
        omega
      by_cases h3 : 8 < rn isLt T L (rn isSp T L p) - rn isSp T L p
      · rw [if_pos h3]
        exact ⟨Nat.le_of_lt w2, Or.inr w2⟩
      · rw [if_neg h3]
        by_cases h4 : kw (wdO T (rn isSp T L p) (rn isLt T L (rn isSp T L p) - rn isSp T L p)) < 26
        · rw [if_pos h4]
          exact ⟨Nat.le_of_lt w2, Or.inr w2⟩
        · rw [if_neg h4]
          exact ⟨Nat.le_of_lt w2, Or.inr w2⟩
    · rw [if_neg h2]
      by_cases h3 : isDg (T (rn isSp T L p)) = true
      · rw [if_pos h3]
        have w1 := (rn_b (p := isDg) (T := T) (L := L) _ (rn isSp T L p + 1) rfl).1
        have w2 : p < rn isDg T L (rn isSp T L p) := by
          rw [rn_s hs h3]
          omega
        by_cases h4 : 4 < rn isDg T L (rn isSp T L p) - rn isSp T L p ∨ (rn isDg T L (rn isSp T L p) < L ∧ isLt (T (rn isDg T L (rn isSp T L p))) = true)
        · rw [if_pos h4]
          exact ⟨Nat.le_of_lt w2, Or.inr w2⟩
        · rw [if_neg h4]
          exact ⟨Nat.le_of_lt w2, Or.inr w2⟩
      · rw [if_neg h3]
        by_cases h4 : isSg ru (T (rn isSp T L p)) = true
        · rw [if_pos h4]
          exact ⟨by show p ≤ rn isSp T L p + 1; omega, Or.inr (by show p < rn isSp T L p + 1; omega)⟩
        · rw [if_neg h4]
          exact ⟨by show p ≤ rn isSp T L p + 1; omega, Or.inr (by show p < rn isSp T L p + 1; omega)⟩
/-- a token of τ ends no earlier than that of σ -/
def mo (σ τ : Sg) : Prop := ∀ t', τ = .inr t' → ∃ t, σ = .inr t ∧ t.2.2.2.2 ≤ t'.2.2.2.2
theorem mo.rf {σ : Sg} : mo σ σ := fun t h => ⟨t, h, Nat.le_refl _⟩
theorem mo.tr {σ τ ρ : Sg} (a : mo σ τ) (e : mo τ ρ) : mo σ ρ := fun t h => by
  obtain ⟨t1, h1, h2⟩ := e t h
  obtain ⟨t2, h3, h4⟩ := a t1 h1
  exact ⟨t2, h3, by omega⟩
theorem mo.f {σ τ : Sg} (h : isG τ = false) : mo σ τ := fun t e => by rw [e] at h; cases h
theorem mo.nx {σ : Sg} : mo σ (nxF ru T L σ) := fun t' h => by
  cases σ with
  | inl f => cases h
  | inr t =>
    have h' : nxS ru T L t = .inr t' := h
    unfold nxS at h'
    by_cases q : (nxt ru T L t.2.2.2.2).1 = 1
    · rw [if_pos q] at h'
      cases h'
    · rw [if_neg q] at h'
      refine ⟨t, rfl, ?_⟩
      have e : nxt ru T L t.2.2.2.2 = t' := by injection h'
      rw [← e]
      exact nxt_en.1
theorem mo_tw {w : Nat} {σ : Sg} : mo σ (twF ru T L w σ) := by
  cases z : isG (twF ru T L w σ) with
  | false => exact mo.f z
  | true => rw [(twF_G z).2]; exact mo.nx
theorem mo_th {c : Sc} {lo : Nat} {σ : Sg} : mo σ (thF ru T L c lo σ) := by
  cases z : isG (thF ru T L c lo σ) with
  | false => exact mo.f z
  | true => rw [(thF_g z).2.1]; exact mo.nx
theorem mo_tn {w lo hi : Nat} {σ : Sg} : mo σ (tnF ru T L w lo hi σ) := by
  cases z : isG (tnF ru T L w lo hi σ) with
  | false => exact mo.f z
  | true => rw [(tnF_g z).2.1]; exact mo.nx.tr mo.nx
theorem mo_fr {n : Nat} {nm : Nat → List Nat} {σ : Sg} : mo σ (frF ru T L n nm σ) := by
  cases z : isG (frF ru T L n nm σ) with
  | false => exact mo.f z
  | true => rw [(frF_G z).2.2]; exact mo.nx
theorem mo_an {σ : Sg} : mo σ (anF σ) := by
  cases z : isG (anF σ) with
  | false => exact mo.f z
  | true => rw [(anF_G z).1]; exact mo.rf
theorem mo_rk : ∀ f σ c, mo σ (rkS ru T L f σ c).1 := by
  intro f
  induction f with
  | zero => intro σ c; exact mo.rf
  | succ f ih =>
    intro σ c
    rw [rkS]
    by_cases h : isG (anF σ) = true
    · rw [if_pos h]
      by_cases h2 : c.B < 24
      · rw [if_pos h2]
        exact mo.nx.tr (ih _ _)
      · rw [if_neg h2]
        exact mo.f flF_G
    · rw [if_neg h]
      exact mo.rf
theorem mo_rl : ∀ f i σ c, mo σ (rlL ru T L f i σ c).1 := by
  intro f
  induction f with
  | zero => intro i σ c; exact mo.rf
  | succ f ih =>
    intro i σ c
    rw [rlL]
    exact mo_tn.tr (ih _ _ _)
theorem mo_rs {B X : Nat} {σ : Sg} : mo σ (rsF ru T L B X σ) := by
  unfold rsF
  by_cases h : isG (atF 0 B σ) = true
  · rw [if_pos h]
    by_cases h2 : X.testBit (nuV σ) = true
    · rw [if_pos h2]
      exact mo.f flF_G
    · rw [if_neg h2]
      exact mo.nx
  · rw [if_neg h]
    exact mo.f (isG_f h)
theorem mo_rh {σ : Sg} {c : Sc} : mo σ (rhS ru T L σ c).1 := by
  unfold rhS
  by_cases h : isG (anF (frF ru T L c.H c.hw σ)) = true
  · rw [if_pos h]
    exact mo_fr.tr (mo_rk _ _ _)
  · rw [if_neg h]
    exact mo_fr.tr mo_an
theorem mo_rp {σ : Sg} {c : Sc} : mo σ (rpS ru T L σ c).1 := ((mo_fr.tr mo_tw).tr mo_th).tr (mo_tw.tr mo_th)
theorem mo_rn {σ : Sg} {c : Sc} : mo σ (rnS ru T L σ c).1 := ((mo_fr.tr mo_tn).tr mo_tn).tr (mo_tn.tr mo_tn)
theorem ts_en {c : Nat} {σ τ : Sg} (h : mo σ τ) {t' : Tk} (e : tsF ru T L c τ = .inr t') : ∃ t, σ = .inr t ∧ (t'.1 = 0 ∨ t.2.2.2.2 < t'.2.2.2.2) := by
  have hc : isC c τ = true := tsF_G (ru := ru) (T := T) (L := L) (by rw [e]; rfl)
  unfold tsF at e
  rw [if_pos hc] at e
  cases τ with
  | inl f => cases hc
  | inr t1 =>
    obtain ⟨t, h1, h2⟩ := h t1 rfl
    refine ⟨t, h1, ?_⟩
    have h' : nxS ru T L t1 = .inr t' := e
    unfold nxS at h'
    by_cases q : (nxt ru T L t1.2.2.2.2).1 = 1
    · rw [if_pos q] at h'
      cases h'
    · rw [if_neg q] at h'
      have e2 : nxt ru T L t1.2.2.2.2 = t' := by injection h'
      rw [← e2]
      have z := (nxt_en (ru := ru) (T := T) (L := L) (p := t1.2.2.2.2)).2
      rcases z with z | z
      · exact Or.inl z
      · exact Or.inr (by omega)
/-- a line that is read to its end goes on -/
theorem line_mo {σ : Sg} {c : Sc} {t' : Tk} (o : okS c) (h : (lineS ru T L σ c).1 = .inr t') : ∃ t, σ = .inr t ∧ (t'.1 = 0 ∨ t.2.2.2.2 < t'.2.2.2.2) := by
  obtain ⟨o1, o2, o3, o4, -⟩ := o.1
  by_cases hw : ∃ t, σ = .inr t ∧ t.1 = 3
  · obtain ⟨t, rfl, t3⟩ := hw
    cases zf : fulB c (.inr t) with
    | true => rw [line_full zf] at h; cases h
    | false =>
      by_cases hv0 : t.2.1 = 0
      · have hx : c.H < 8 := by
          unfold fulB isWs at zf
          simp [t3, hv0] at zf
          omega
        have el : lineS ru T L (.inr t) c = heapS ru T L (.inr t) c := by
          unfold lineS isWs
          simp [t3, hv0]
        rw [el, (heap_eq hx).1] at h
        exact ts_en (mo.nx.tr mo_rh) h
      by_cases hv1 : t.2.1 = 1
      · have hx : c.P < 4 := by
          unfold fulB isWs at zf
          simp [t3, hv1] at zf
          omega
        have el : lineS ru T L (.inr t) c = partS ru T L (.inr t) c := by
          unfold lineS isWs
          simp [t3, hv1]
        rw [el, (part_eq hx).1] at h
        exact ts_en (mo.nx.tr mo_rp) h
      by_cases hv4 : t.2.1 = 4
      · have el : lineS ru T L (.inr t) c = (wbF ru T L c.B c.D (.inr t), c.door (nuV (nxF ru T L (.inr t)))) := by
          unfold lineS isWs
          simp [t3, hv4]
        rw [el] at h
        have h2 : wbF ru T L c.B c.D (.inr t) = .inr t' := h
        rw [spot_eq] at h2
        exact ts_en (mo.nx.tr mo_rs) h2
      by_cases hv5 : t.2.1 = 5
      · have el : lineS ru T L (.inr t) c = (wbF ru T L c.B c.E (.inr t), c.mark (nuV (nxF ru T L (.inr t)))) := by
          unfold lineS isWs
          simp [t3, hv5]
        rw [el] at h
        have h2 : wbF ru T L c.B c.E (.inr t) = .inr t' := h
        rw [spot_eq] at h2
        exact ts_en (mo.nx.tr mo_rs) h2
      by_cases hv6 : t.2.1 = 6
      · have hx : c.lt = false := by
          unfold fulB isWs at zf
          simp [t3, hv6] at zf
          exact zf
        have el : lineS ru T L (.inr t) c = lawS ru T L (.inr t) c := by
          unfold lineS isWs
          simp [t3, hv6]
        rw [el, (lawS_eq hx).1] at h
        exact ts_en (mo.nx.tr (mo_rl _ _ _ _)) h
      by_cases hv13 : t.2.1 = 13
      · have hx : c.N < 6 := by
          unfold fulB isWs at zf
          simp [t3, hv13] at zf
          omega
        have el : lineS ru T L (.inr t) c = planS ru T L (.inr t) c := by
          unfold lineS isWs
          simp [t3, hv13]
        rw [el, (plan_eq hx).1] at h
        exact ts_en (mo.nx.tr mo_rn) h
      exfalso
      unfold fulB isWs at zf
      simp [t3, hv0, hv1, hv4, hv5, hv6, hv13] at zf
  · rw [line_n (fun t et y => hw ⟨t, et, y⟩)] at h
    have h2 : flF 2 σ = .inr t' := h
    have := flF_G (k := 2) (σ := σ)
    rw [h2] at this
    cases this
theorem ex_rows (F : Nat → Nat → Int32) (G : Nat → Nat → Int64) : ∀ (K : List Nat) (M : pz_M), ∃ M', sm K M M' ∧ ∀ k, k ∈ K → gi M' k = F k ∧ gl M' k = G k := by
  intro K
  induction K with
  | nil => intro M; exact ⟨M, sm.rf, fun k hk => by cases hk⟩
  | cons k K ih =>
    intro M
    obtain ⟨M1, s1, h1⟩ := ih M
    refine ⟨pz_wi (pz_wl M1 k (G k)) k (F k), sm.wi (sm.wl (s1.mono (fun j hj => List.mem_cons_of_mem _ hj)) (List.mem_cons_self ..)) (List.mem_cons_self ..), fun j hj => ?_⟩
    by_cases q : j = k
    · subst q
      rw [pz_wi_same, pz_wi_gl, pz_wl_same]
      exact ⟨rfl, rfl⟩
    · rw [pz_wi_else q, pz_wi_gl, pz_wl_gi, pz_wl_else q]
      rcases List.mem_cons.mp hj with z | z
      · exact absurd z q
      · exact h1 j z
/-- a class's reader that stands so -/
def syF (L : Nat) (t : Tk) (c : Sc) (k j : Nat) : Int32 := if k = 1 then (if j = 2 then nI L else if j = 4 then nI t.2.2.2.2 else if j = 5 then nI t.2.2.2.1 else if j = 11 then 0 else if j = 12 then -1 else if j = 6 then nI (ckd t.1) else if j = 7 then (if t.1 = 3 then nI t.2.1 else -1) else nI t.2.1) else if k = 19 then (if j = 0 then nI c.B else if j = 3 then nI c.H else if j = 6 then nI c.P else if j = 10 then nI c.N else if j = 16 then nI c.D else if j = 17 then nI c.E else bI c.lt) else if k = 21 then nI (c.ho j) else if k = 23 then nI (c.hf j) else if k = 25 then nI (c.hf (c.pf j)) else if k = 26 then nI (c.he (c.pt j)) - 1 else if k = 28 then nI (c.na j) else if k = 29 then nI (c.nb j) else if k = 30 then nI (c.nt j) else if k = 31 then nI (c.ns j) else nI (c.lw j)
def syG (t : Tk) (c : Sc) (k j : Nat) : Int64 := if k = 1 then p5 t.2.2.1 else if k = 20 then p5 (c.lk j) else if k = 22 then p5 (c.hw j) else if k = 24 then p5 (c.pw j) else p5 (c.nw j)
theorem ok_line {t : Tk} {c : Sc} (x : txC M ru T L) (hO : stO L (.inr t)) (o : okS c) (h : isG (lineS ru T L (.inr t) c).1 = true) : okS (lineS ru T L (.inr t) c).2 := by
  obtain ⟨M1, sx, e⟩ := ex_rows (syF L t c) (syG t c) (1 :: scK) M
  have i1 := (e 1 (by decide)).1
  have xc : csc M1 c := by
    unfold csc
    rw [(e 19 (by decide)).1, (e 20 (by decide)).2, (e 21 (by decide)).1, (e 22 (by decide)).2, (e 23 (by decide)).1, (e 24 (by decide)).2, (e 25 (by decide)).1, (e 26 (by decide)).1, (e 27 (by decide)).2, (e 28 (by decide)).1, (e 29 (by decide)).1, (e 30 (by decide)).1, (e 31 (by decide)).1, (e 32 (by decide)).1]
    exact ⟨⟨rfl, rfl, rfl, rfl, rfl, rfl, rfl⟩, fun _ _ => ⟨rfl, rfl⟩, fun _ _ => ⟨rfl, rfl⟩, fun _ _ => ⟨rfl, rfl, rfl⟩, fun _ _ => ⟨rfl, rfl, rfl, rfl, rfl⟩, fun _ _ => rfl⟩
  have st : cSt M1 ru T L (.inr t) := by
    obtain ⟨x1, x2, x3, x4, x5, x6⟩ := x
    refine ⟨⟨x1.sm sx, ?_, x3, ?_, ?_, ?_⟩, hO, ?_⟩
    · rw [i1]
      rfl
    · rw [sx.i (by decide)]
      exact x4
    · exact x5.fr (fun k hk => by rw [List.mem_singleton] at hk; subst hk; exact ⟨sx.i (by decide), sx.l (by decide)⟩)
    · rw [← x6]
      unfold gr
      rw [sx.2.2.1]
    · show cTk M1 t
      unfold cTk
      rw [i1, (e 1 (by decide)).2]
      exact ⟨⟨rfl, rfl, rfl, rfl⟩, hO.2, rfl, rfl, fun _ => rfl, fun _ => rfl, fun _ => rfl⟩
  have fin : ∀ i, i + 1 = 1500 → ∀ M2, cSt M2 ru T L (lineS ru T L (.inr t) c).1 → okS (lineS ru T L (.inr t) c).2 → pw 20 98 (202, [some (.ref 18), some (.int (nI i))], [], M2) (fun _ => okS (lineS ru T L (.inr t) c).2) := by
    intro i hi M2 t2 k2
    have hS2 := t2.1.1
    refine pw_blk (mi := mz_98) (b := bz_98_202) rfl rfl ?_
    simp only [bz_98_202, pz_cut_t, pz_cut_f, pz_cut_n, pv_gt, pv_ts, pv_tn, ev_inc1n, ev_inc1i, ev_inc1r, ev_inc1e, ev_goto, pz_wi_gc, pz_wi_ga, pz_wi_gn, pz_wi_gl, pz_wi_gr, pz_wi_same, pz_wi_X, pz_wl_gc, pz_wl_ga, pz_wl_gn, pz_wl_gi, pz_wl_gr, pz_wl_same, pz_wl_X, pz_wr_gc, pz_wr_ga, pz_wr_gn, pz_wr_gi, pz_wr_gl, pz_wr_same, pz_wr_X]
    (try simp (disch := omega) only [nI_clamp, pz_in_nI2, pz_in_nI2L, pv_gt, nI_add, nI_addL, nI_Ladd, pk_mul, nI_mulL, nI_Lmul, pk_sub, nI_subL, nI_Lsub, nI_inc, nI_clampL, Nat.add_sub_cancel, pz_wi_else, pz_wl_else, vu_eq, vu_ne, pz_wi_gc, pz_wi_ga, pz_wi_gn, pz_wi_gl, pz_wi_gr, pz_wi_same, pz_wi_X, pz_wl_gc, pz_wl_ga, pz_wl_gn, pz_wl_gi, pz_wl_gr, pz_wl_same, pz_wl_X, pz_wr_gc, pz_wr_ga, pz_wr_gn, pz_wr_gi, pz_wr_gl, pz_wr_same, pz_wr_X])
    refine po_go ?_
    refine pw_blk (mi := mz_98) (b := bz_98_18) rfl rfl ?_
    simp only [bz_98_18, pz_cut_t, pz_cut_f, pz_cut_n, pv_gt, pv_ts, pv_tn, ev_ild1, ev_sp1500, ev_ic_ge, pz_wi_gc, pz_wi_ga, pz_wi_gn, pz_wi_gl, pz_wi_gr, pz_wi_same, pz_wi_X, pz_wl_gc, pz_wl_ga, pz_wl_gn, pz_wl_gi, pz_wl_gr, pz_wl_same, pz_wl_X, pz_wr_gc, pz_wr_ga, pz_wr_gn, pz_wr_gi, pz_wr_gl, pz_wr_same, pz_wr_X]
    (try simp (disch := omega) only [nI_clamp, pz_in_nI2, pz_in_nI2L, pv_gt, nI_add, nI_addL, nI_Ladd, pk_mul, nI_mulL, nI_Lmul, pk_sub, nI_subL, nI_Lsub, nI_inc, nI_clampL, Nat.add_sub_cancel, pz_wi_else, pz_wl_else, vu_eq, vu_ne, pz_wi_gc, pz_wi_ga, pz_wi_gn, pz_wi_gl, pz_wi_gr, pz_wi_same, pz_wi_X, pz_wl_gc, pz_wl_ga, pz_wl_gn, pz_wl_gi, pz_wl_gr, pz_wl_same, pz_wl_X, pz_wr_gc, pz_wr_ga, pz_wr_gn, pz_wr_gi, pz_wr_gl, pz_wr_same, pz_wr_X])
    refine po_brP (fun q18 => ?_) (fun q18 => ?_)
    · skip
      (try simp (disch := omega) only [nI_ltI, nI_leI, nI_eq, nI_ltL, nI_leL, nI_eqL, nI_Llt, nI_Lle, nI_Leq, nI_eqm, nI_meq, nI_ltm, nI_lem, nI_mlt, nI_mle, lg0, lgl, lgg, lgle, lgge, Int32.not_lt, Int32.not_le, Int64.not_lt, Int64.not_le, not_false_eq_true, not_true_eq_false, Decidable.not_not, ge_iff_le, gt_iff_lt] at q18)
      refine pw_blk (mi := mz_98) (b := bz_98_208) rfl rfl ?_
      simp only [bz_98_208, pz_cut_t, pz_cut_f, pz_cut_n, pv_gt, pv_ts, pv_tn, ev_ald0, ev_eld0, ev_gf4_2, ev_cv0_10, pz_wi_gc, pz_wi_ga, pz_wi_gn, pz_wi_gl, pz_wi_gr, pz_wi_same, pz_wi_X, pz_wl_gc, pz_wl_ga, pz_wl_gn, pz_wl_gi, pz_wl_gr, pz_wl_same, pz_wl_X, pz_wr_gc, pz_wr_ga, pz_wr_gn, pz_wr_gi, pz_wr_gl, pz_wr_same, pz_wr_X, so_18 hS2, sr_18_0 hS2, so_1 hS2]
      (try simp (disch := omega) only [nI_clamp, pz_in_nI2, pz_in_nI2L, pv_gt, nI_add, nI_addL, nI_Ladd, pk_mul, nI_mulL, nI_Lmul, pk_sub, nI_subL, nI_Lsub, nI_inc, nI_clampL, Nat.add_sub_cancel, pz_wi_else, pz_wl_else, vu_eq, vu_ne, pz_wi_gc, pz_wi_ga, pz_wi_gn, pz_wi_gl, pz_wi_gr, pz_wi_same, pz_wi_X, pz_wl_gc, pz_wl_ga, pz_wl_gn, pz_wl_gi, pz_wl_gr, pz_wl_same, pz_wl_X, pz_wr_gc, pz_wr_ga, pz_wr_gn, pz_wr_gi, pz_wr_gl, pz_wr_same, pz_wr_X])
      (try refine po_gP (Nat.le_of_ble_eq_true rfl) ?_)
      refine po_call (by omega) (m_isFine t2 ?_)
      rw [h]
      refine pw_blk (mi := mz_98) (b := bz_98_215) rfl rfl ?_
      simp only [bz_98_215, pz_cut_t, pz_cut_f, pz_cut_n, pv_gt, pv_ts, pv_tn, ev_iret1, pz_wi_gc, pz_wi_ga, pz_wi_gn, pz_wi_gl, pz_wi_gr, pz_wi_same, pz_wi_X, pz_wl_gc, pz_wl_ga, pz_wl_gn, pz_wl_gi, pz_wl_gr, pz_wl_same, pz_wl_X, pz_wr_gc, pz_wr_ga, pz_wr_gn, pz_wr_gi, pz_wr_gl, pz_wr_same, pz_wr_X, bI_t]
      (try simp (disch := omega) only [nI_clamp, pz_in_nI2, pz_in_nI2L, pv_gt, nI_add, nI_addL, nI_Ladd, pk_mul, nI_mulL, nI_Lmul, pk_sub, nI_subL, nI_Lsub, nI_inc, nI_clampL, Nat.add_sub_cancel, pz_wi_else, pz_wl_else, vu_eq, vu_ne, pz_wi_gc, pz_wi_ga, pz_wi_gn, pz_wi_gl, pz_wi_gr, pz_wi_same, pz_wi_X, pz_wl_gc, pz_wl_ga, pz_wl_gn, pz_wl_gi, pz_wl_gr, pz_wl_same, pz_wl_X, pz_wr_gc, pz_wr_ga, pz_wr_gn, pz_wr_gi, pz_wr_gl, pz_wr_same, pz_wr_X, bI_t])
      (try refine po_gP (by first | decide | assumption) ?_)
      exact po_ret k2
    · first
      | exact absurd q18 (by decide)
      | exact absurd trivial q18
      | exact q18.elim
      | (exfalso; (try simp (disch := omega) only [nI_ltI, nI_leI, nI_eq, nI_ltL, nI_leL, nI_eqL, nI_Llt, nI_Lle, nI_Leq, nI_eqm, nI_meq, nI_ltm, nI_lem, nI_mlt, nI_mle, lg0, lgl, lgg, lgle, lgge, Int32.not_lt, Int32.not_le, Int64.not_lt, Int64.not_le, not_false_eq_true, not_true_eq_false, Decidable.not_not, ge_iff_le, gt_iff_lt] at q18) <;> omega)
      | exact absurd q18 (by with_reducible assumption)
      | exact absurd (by with_reducible assumption) q18
      | exact absurd (Decidable.not_not.mp q18) (by with_reducible assumption)
      | exact absurd (by with_reducible assumption) (Int32.not_le.mpr q18)
      | exact absurd (by with_reducible assumption) (Int32.not_lt.mpr q18)
  obtain ⟨n, r, -, q⟩ := m_line (d := 20) (i := 1499) (Q := fun _ => okS (lineS ru T L (.inr t) c).2) (by decide) st o xc (fun M' _ _ t2 k => fin 1499 rfl M' t2 (k h).2)
  exact q
end RV
