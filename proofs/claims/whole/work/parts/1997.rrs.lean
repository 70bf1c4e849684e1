/-! ===== rules: all of them, the reference ===== -/
section RRS
variable {d : Nat} {M M' : pz_M} {Q : Option Value × pz_M → Prop} {T : Nat → Nat} {L B N : Nat} {nm : Nat → List Nat}
/-- what rules are worth that were read -/
def wfX (L B N : Nat) (x : Rr) : Prop := stO L x.1.1 ∧ (∀ c, c ∈ x.1.2.2 → okC B c) ∧ ∀ i, i < x.2.1 → x.2.2.1 i < N ∧ stF x.2.2.2 i ≤ x.2.2.2 i ∧ x.2.2.2 i ≤ x.1.2.2.length ∧ ∃ A D Bt, x.1.2.2 = A ++ (D ++ Bt) ∧ Bt.length = stF x.2.2.2 i ∧ D.length + stF x.2.2.2 i = x.2.2.2 i ∧ hgD D 0 = some 1
theorem ru_wf (hT : ∀ i, i < L → T i < 256) (hB : B ≤ 24) {x : Rr} (hx : wfX L B N x) (ok : okX x) (hg : isG (ruF T L B N nm x).1.1 = true) : wfX L B N (ruF T L B N nm x) ∧ (ruF T L B N nm x).2.1 = x.2.1 + 1 := by
  obtain ⟨h1, h2, h3⟩ := hx
  obtain ⟨o1, o2, o3, o4⟩ := ok
  have hw := (PF_wf (T := T) (L := L) (B := B) hT hB 7 (by decide)).1
  unfold ruF at hg ⊢
  generalize (PF T L B 8).1 = E at hg hw ⊢
  by_cases n6 : 6 ≤ x.2.1
  · rw [if_pos n6] at hg
    exact absurd hg (by show ¬ isG (flF 2 x.1.1) = true; rw [flF_G]; decide)
  rw [if_neg n6] at hg ⊢
  cases w16 : isWs 16 x.1.1 with
  | false =>
    rw [w16, if_neg (by decide)] at hg
    exact absurd hg (by show ¬ isG (flF 2 x.1.1) = true; rw [flF_G]; decide)
  | true =>
    rw [w16, if_pos rfl] at hg
    rw [if_pos rfl]
    cases w17 : isWs 17 (E (rAdv T L x.1)).1 with
    | false =>
      rw [w17, if_neg (by decide)] at hg
      exact absurd hg (by show ¬ isG (flF 2 (E (rAdv T L x.1)).1) = true; rw [flF_G]; decide)
    | true =>
      rw [w17, if_pos rfl] at hg
      rw [if_pos rfl]
      cases zg : isG (anF (rAdv T L (E (rAdv T L x.1))).1) with
      | false =>
        rw [zg, if_neg (by decide)] at hg
        have hg' : isG (anF (rAdv T L (E (rAdv T L x.1))).1) = true := hg
        rw [zg] at hg'
        cases hg'
      | true =>
        rw [zg, if_pos rfl] at hg
        rw [if_pos rfl]
        by_cases fz : fnd nm (nmV (rAdv T L (E (rAdv T L x.1))).1) N < N
        · rw [if_pos fz] at hg ⊢
          obtain ⟨b1, b2, b3, D, e, l, o, p⟩ := hw (rAdv T L x.1) (nx_ok hT h1) o2 o1 (isWs_G w17)
          have e' : (E (rAdv T L x.1)).2.2 = D ++ x.1.2.2 := e
          have b3' : x.1.2.1 < (E (rAdv T L x.1)).2.1 := b3
          have p0 : hgD D 0 = some 1 := p 0 (by omega)
          have hg2 : isG (tsF true T L 59 (nxF true T L (nxF true T L (E (rAdv T L x.1)).1))) = true := hg
          have st : stO L (tsF true T L 59 (nxF true T L (nxF true T L (E (rAdv T L x.1)).1))) := by
            unfold tsF
            rw [tsF_G hg2, if_pos rfl]
            exact nx_ok hT (nx_ok hT (nx_ok hT b1))
          have el : (E (rAdv T L x.1)).2.2.length = D.length + x.1.2.2.length := by rw [e', List.length_append]
          generalize hfp : fnd nm (nmV (rAdv T L (E (rAdv T L x.1))).1) N = fp at fz
          refine ⟨⟨st, fun c hc => ?_, fun i hi => ?_⟩, rfl⟩
          · have hc' : c ∈ (E (rAdv T L x.1)).2.2 := hc
            rw [e'] at hc'
            rcases List.mem_append.mp hc' with q | q
            · exact o c q
            · exact h2 c q
          · have hi' : i < x.2.1 + 1 := hi
            show va_up x.2.2.1 x.2.1 fp i < N ∧ stF (va_up x.2.2.2 x.2.1 (E (rAdv T L x.1)).2.2.length) i ≤ va_up x.2.2.2 x.2.1 (E (rAdv T L x.1)).2.2.length i ∧ va_up x.2.2.2 x.2.1 (E (rAdv T L x.1)).2.2.length i ≤ (E (rAdv T L x.1)).2.2.length ∧ ∃ A D Bt, (E (rAdv T L x.1)).2.2 = A ++ (D ++ Bt) ∧ Bt.length = stF (va_up x.2.2.2 x.2.1 (E (rAdv T L x.1)).2.2.length) i ∧ D.length + stF (va_up x.2.2.2 x.2.1 (E (rAdv T L x.1)).2.2.length) i = va_up x.2.2.2 x.2.1 (E (rAdv T L x.1)).2.2.length i ∧ hgD D 0 = some 1
            by_cases q : i = x.2.1
            · subst q
              have es : stF (va_up x.2.2.2 x.2.1 (E (rAdv T L x.1)).2.2.length) x.2.1 = x.1.2.2.length := by
                rw [o4]
                unfold stF
                by_cases q0 : x.2.1 = 0
                · rw [if_pos q0, if_pos q0]
                · rw [if_neg q0, if_neg q0, vu_ne (by omega)]
              rw [es, vu_eq, vu_eq]
              exact ⟨fz, by omega, Nat.le_refl _, [], D, x.1.2.2, e', rfl, by omega, p0⟩
            · have es : stF (va_up x.2.2.2 x.2.1 (E (rAdv T L x.1)).2.2.length) i = stF x.2.2.2 i := by
                unfold stF
                by_cases q0 : i = 0
                · rw [if_pos q0, if_pos q0]
                · rw [if_neg q0, if_neg q0, vu_ne (by omega)]
              rw [es, vu_ne q, vu_ne q]
              obtain ⟨c1, c2, c3, A, D', Bt, c4, c5, c6, c7⟩ := h3 i (by omega)
              exact ⟨c1, c2, by omega, D ++ A, D', Bt, by rw [e', c4, List.append_assoc], c5, c6, c7⟩
        · rw [if_neg fz] at hg
          exact absurd hg (by show ¬ isG (flF 5 (rAdv T L (E (rAdv T L x.1))).1) = true; rw [flF_G]; decide)
def rfK : List Nat := [120, 122, 159, 160, 161, 162, 164, 165, 166]
/-- what reading rules leaves alone if there is a fault -/
def rff (M M' : pz_M) : Prop := sm rfK M M' ∧ (∀ j, j ≠ 2 → j ≠ 3 → j ≠ 4 → j ≠ 5 → j ≠ 6 → j ≠ 7 → j ≠ 8 → j ≠ 9 → j ≠ 11 → j ≠ 39 → j ≠ 73 → j ≠ 74 → j ≠ 75 → j ≠ 76 → j ≠ 79 → gi M' 120 j = gi M 120 j) ∧ (∀ i, i < 400 → gi M' 159 i = gi M 159 i ∧ gi M' 160 i = gi M 160 i) ∧ ∀ i, i < 6 → gi M' 164 i = gi M 164 i ∧ gi M' 165 i = gi M 165 i ∧ gi M' 166 i = gi M 166 i
theorem rff.y {M'' : pz_M} (a : rff M M') (b : efy M' M'') : rff M M'' := ⟨a.1.tr b.1 (by decide), fun j h2 h3 h4 h5 h6 h7 h8 h9 h11 h39 h73 h74 h75 h76 h79 => (b.2.1 j h4 h5 h6 h7 h8 h9 h73 h74 h75 h76 h79).trans (a.2.1 j h2 h3 h4 h5 h6 h7 h8 h9 h11 h39 h73 h74 h75 h76 h79), fun i hi => ⟨(b.2.2.1 i hi).1.trans (a.2.2.1 i hi).1, (b.2.2.1 i hi).2.trans (a.2.2.1 i hi).2⟩, fun i hi => ⟨(b.2.2.2 i hi).1.trans (a.2.2.2 i hi).1, (b.2.2.2 i hi).2.1.trans (a.2.2.2 i hi).2.1, (b.2.2.2 i hi).2.2.trans (a.2.2.2 i hi).2.2⟩⟩
def cdG (f g : Nat → Int32) : Pl → Prop
  | [] => True
  | x :: C => f C.length = nI (cdK x.1) ∧ (x.1 < 6 → g C.length = nI x.2) ∧ cdG f g C
theorem cdL.g {C : Pl} (h : cdL M C) {f g : Nat → Int32} (e : ∀ i, i < C.length → f i = gi M 159 (400 + i) ∧ g i = gi M 160 (400 + i)) : cdG f g C := by
  induction C with
  | nil => trivial
  | cons x C ih =>
    have w := e C.length (by rw [List.length_cons]; omega)
    exact ⟨by rw [w.1]; exact h.1, fun q => by rw [w.2]; exact h.2.1 q, ih h.2.2 (fun i hi => e i (by rw [List.length_cons]; omega))⟩
def rgN (M M' : pz_M) (x : Rr) : Prop := (sm rfK M M' ∧ ∀ j, j ≠ 2 → j ≠ 3 → j ≠ 4 → j ≠ 5 → j ≠ 6 → j ≠ 7 → j ≠ 8 → j ≠ 9 → j ≠ 11 → j ≠ 39 → j ≠ 73 → j ≠ 74 → j ≠ 75 → j ≠ 76 → j ≠ 77 → j ≠ 78 → j ≠ 79 → gi M' 120 j = gi M 120 j) ∧ (gi M' 120 2 = 0 ∧ gi M' 120 4 = 0 ∧ gi M' 120 5 = -1 ∧ gi M' 120 77 = nI x.2.1 ∧ gi M' 120 78 = nI x.1.2.1) ∧ cdG (gi M' 159) (gi M' 160) x.1.2.2 ∧ ∀ i, i < x.2.1 → gi M' 164 i = nI (stF x.2.2.2 i) ∧ gi M' 165 i = nI (x.2.2.2 i) ∧ gi M' 166 i = nI (x.2.2.1 i)
/-- behind all rules: they are taken over -/
theorem l_take {M0 : pz_M} {x : Rr} (f0 : rff M0 M) (hS : SH M) (g2 : gi M 120 2 = 0) (g4 : gi M 120 4 = 0) (g5 : gi M 120 5 = -1) (n : rN M x) (ok : okX x) (w : wfX L B N x) (k : ∀ M', SH M' → rgN M0 M' x → Q (some (.int (nI x.2.1)), M')) : pw d 44 (77, [some (.ref 120), none], [], M) Q := by
  obtain ⟨⟨n74, n73, n79⟩, ncd, nrow⟩ := n
  obtain ⟨o1, o2, o3, o4⟩ := ok
  have endb : ∀ i, i < x.2.1 → x.2.2.2 i ≤ 400 ∧ stF x.2.2.2 i ≤ 400 := fun i hi => by
    obtain ⟨-, a, b, -⟩ := w.2.2 i hi
    omega
  have fin : ∀ M2, sm [159, 160, 164, 165, 166] M M2 → cdG (gi M2 159) (gi M2 160) x.1.2.2 → (∀ i, i < x.2.1 → gi M2 164 i = nI (stF x.2.2.2 i) ∧ gi M2 165 i = nI (x.2.2.2 i) ∧ gi M2 166 i = nI (x.2.2.1 i)) → pw d 44 (193, [some (.ref 120), none], [], M2) Q := by
    intro M2 s2 c2 r2
    have hS2 := hS.sm s2
    have h79 : gi M2 120 79 = nI x.2.1 := by rw [s2.i (by decide)]; exact n79
    have h74 : gi M2 120 74 = nI x.1.2.1 := by rw [s2.i (by decide)]; exact n74
    refine pw_blk (mi := mz_44) (b := bz_44_193) rfl rfl ?_
    simp only [bz_44_193, pz_cut_t, pz_cut_f, pz_cut_n, pv_gt, pv_ts, pv_tn, ev_ald0, ev_eld0, ev_gf11_0, ev_pf11_0, ev_iret0, pz_wi_gc, pz_wi_ga, pz_wi_gn, pz_wi_gl, pz_wi_gr, pz_wi_same, pz_wi_X, pz_wl_gc, pz_wl_ga, pz_wl_gn, pz_wl_gi, pz_wl_gr, pz_wl_same, pz_wl_X, pz_wr_gc, pz_wr_ga, pz_wr_gn, pz_wr_gi, pz_wr_gl, pz_wr_same, pz_wr_X, so_120 hS2, h79, h74]
    (try simp (disch := omega) only [nI_clamp, pz_in_nI2, pz_in_nI2L, pv_gt, nI_add, nI_addL, nI_Ladd, pk_mul, nI_mulL, nI_Lmul, pk_sub, nI_subL, nI_Lsub, nI_inc, nI_clampL, Nat.add_sub_cancel, pz_wi_else, pz_wl_else, vu_eq, vu_ne, pz_wi_gc, pz_wi_ga, pz_wi_gn, pz_wi_gl, pz_wi_gr, pz_wi_same, pz_wi_X, pz_wl_gc, pz_wl_ga, pz_wl_gn, pz_wl_gi, pz_wl_gr, pz_wl_same, pz_wl_X, pz_wr_gc, pz_wr_ga, pz_wr_gn, pz_wr_gi, pz_wr_gl, pz_wr_same, pz_wr_X, h79, h74])
    refine po_then (fun M3 hM3 => ?_)
    have s3 : sm [120] M2 M3 := by rw [hM3]; exact sm.wi (sm.wi sm.rf (by decide)) (by decide)
    have e3 : gi M3 120 = va_up (va_up (gi M2 120) 77 (nI x.2.1)) 78 (nI x.1.2.1) := by rw [hM3, pz_wi_same]
    have i2 : gi M2 120 = gi M 120 := s2.i (by decide)
    refine k M3 (hS2.sm s3) ⟨⟨(f0.1.tr s2 (by decide)).tr s3 (by decide), fun j h2 h3 h4 h5 h6 h7 h8 h9 h11 h39 h73 h74 h75 h76 h77 h78 h79 => ?_⟩, ⟨?_, ?_, ?_, ?_, ?_⟩, ?_, fun i hi => ?_⟩
    · rw [e3, vu_ne h78, vu_ne h77, i2]; exact f0.2.1 j h2 h3 h4 h5 h6 h7 h8 h9 h11 h39 h73 h74 h75 h76 h79
    · rw [e3, vu_ne (by decide), vu_ne (by decide), i2]; exact g2
    · rw [e3, vu_ne (by decide), vu_ne (by decide), i2]; exact g4
    · rw [e3, vu_ne (by decide), vu_ne (by decide), i2]; exact g5
    · rw [e3, vu_ne (by decide), vu_eq]
    · rw [e3, vu_eq]
    · rw [s3.i (by decide), s3.i (by decide)]; exact c2
    · rw [s3.i (by decide), s3.i (by decide), s3.i (by decide)]; exact r2 i hi
  have rows : ∀ M1, sm [159, 160] M M1 → cdG (gi M1 159) (gi M1 160) x.1.2.2 → pw d 44 (126, [some (.ref 120), some (.int (nI 0))], [], M1) Q := by
    intro M1 s1 c1
    have loop : ∀ i, i ≤ x.2.1 → ∀ M2, sm [164, 165, 166] M1 M2 → (∀ j, 6 ≤ j → gi M2 164 j = gi M 164 j ∧ gi M2 165 j = gi M 165 j ∧ gi M2 166 j = gi M 166 j) → (∀ j, j < i → gi M2 164 j = nI (stF x.2.2.2 j) ∧ gi M2 165 j = nI (x.2.2.2 j) ∧ gi M2 166 j = nI (x.2.2.1 j)) → pw d 44 (126, [some (.ref 120), some (.int (nI i))], [], M2) Q := by
      refine upto (fun i hi ih => ?_)
      intro M2 s2 hu hr
      have hS2 := (hS.sm s1).sm s2
      have h79 : gi M2 120 79 = nI x.2.1 := by rw [s2.i (by decide), s1.i (by decide)]; exact n79
      by_cases q : i = x.2.1
      · have ff := fin M2 ((s1.mono (by decide)).tr s2 (by decide)) (by rw [s2.i (by decide), s2.i (by decide)]; exact c1) (fun j hj => hr j (by omega))
        rw [← q] at h79
        generalize hii : i = ii at h79
        have o3' : ii ≤ 6 := by omega
        refine pw_blk (mi := mz_44) (b := bz_44_126) rfl rfl ?_
        simp only [bz_44_126, pz_cut_t, pz_cut_f, pz_cut_n, pv_gt, pv_ts, pv_tn, ev_ild1, ev_ald0, ev_eld0, ev_gf11_0, ev_ic_ge, pz_wi_gc, pz_wi_ga, pz_wi_gn, pz_wi_gl, pz_wi_gr, pz_wi_same, pz_wi_X, pz_wl_gc, pz_wl_ga, pz_wl_gn, pz_wl_gi, pz_wl_gr, pz_wl_same, pz_wl_X, pz_wr_gc, pz_wr_ga, pz_wr_gn, pz_wr_gi, pz_wr_gl, pz_wr_same, pz_wr_X, so_120 hS2, h79]
        (try simp (disch := omega) only [nI_clamp, pz_in_nI2, pz_in_nI2L, pv_gt, nI_add, nI_addL, nI_Ladd, pk_mul, nI_mulL, nI_Lmul, pk_sub, nI_subL, nI_Lsub, nI_inc, nI_clampL, Nat.add_sub_cancel, pz_wi_else, pz_wl_else, vu_eq, vu_ne, pz_wi_gc, pz_wi_ga, pz_wi_gn, pz_wi_gl, pz_wi_gr, pz_wi_same, pz_wi_X, pz_wl_gc, pz_wl_ga, pz_wl_gn, pz_wl_gi, pz_wl_gr, pz_wl_same, pz_wl_X, pz_wr_gc, pz_wr_ga, pz_wr_gn, pz_wr_gi, pz_wr_gl, pz_wr_same, pz_wr_X, h79])
        refine po_brP (fun q126 => ?_) (fun q126 => ?_)
        · skip
          (try simp (disch := omega) only [nI_ltI, nI_leI, nI_eq, nI_ltL, nI_leL, nI_eqL, nI_Llt, nI_Lle, nI_Leq, nI_eqm, nI_meq, nI_ltm, nI_lem, nI_mlt, nI_mle, lg0, lgl, lgg, lgle, lgge, Int32.not_lt, Int32.not_le, Int64.not_lt, Int64.not_le, not_false_eq_true, not_true_eq_false, Decidable.not_not, ge_iff_le, gt_iff_lt] at q126)
          exact pw_cut (mi := mz_44) (b := bz_44_193) rfl rfl ff rfl
        · first
          | exact absurd q126 (by decide)
          | exact absurd trivial q126
          | exact q126.elim
          | (exfalso; (try simp (disch := omega) only [nI_ltI, nI_leI, nI_eq, nI_ltL, nI_leL, nI_eqL, nI_Llt, nI_Lle, nI_Leq, nI_eqm, nI_meq, nI_ltm, nI_lem, nI_mlt, nI_mle, lg0, lgl, lgg, lgle, lgge, Int32.not_lt, Int32.not_le, Int64.not_lt, Int64.not_le, not_false_eq_true, not_true_eq_false, Decidable.not_not, ge_iff_le, gt_iff_lt] at q126) <;> omega)
          | exact absurd q126 (by with_reducible assumption)
          | exact absurd (by with_reducible assumption) q126
          | exact absurd (Decidable.not_not.mp q126) (by with_reducible assumption)
          | exact absurd (by with_reducible assumption) (Int32.not_le.mpr q126)
          | exact absurd (by with_reducible assumption) (Int32.not_lt.mpr q126)
      · obtain ⟨w1, w2, w3⟩ := nrow i (by omega)
        obtain ⟨eb1, eb2⟩ := endb i (by omega)
        obtain ⟨u1, u2, u3⟩ := hu (6 + i) (by omega)
        have v1 : gi M2 164 (6 + i) = nI (400 + stF x.2.2.2 i) := u1.trans w1
        have v2 : gi M2 165 (6 + i) = nI (400 + x.2.2.2 i) := u2.trans w2
        have v3 : gi M2 166 (6 + i) = nI (x.2.2.1 i) := u3.trans w3
        have nx := ih (i + 1) (by omega) (by omega) (pz_wi (pz_wi (pz_wi M2 164 (va_up (gi M2 164) i (nI (stF x.2.2.2 i)))) 165 (va_up (gi M2 165) i (nI (x.2.2.2 i)))) 166 (va_up (gi M2 166) i (nI (x.2.2.1 i)))) (sm.wi (sm.wi (sm.wi s2 (by decide)) (by decide)) (by decide)) (fun j hj => by
          simp (disch := decide) only [pz_wi_else, pz_wi_same]
          rw [vu_ne (by omega), vu_ne (by omega), vu_ne (by omega)]
          exact hu j hj) (fun j hj => by
          simp (disch := decide) only [pz_wi_else, pz_wi_same]
          by_cases z : j = i
          · rw [z, vu_eq, vu_eq, vu_eq]; exact ⟨rfl, rfl, rfl⟩
          · rw [vu_ne z, vu_ne z, vu_ne z]; exact hr j (by omega))
        have hix : i < x.2.1 := by omega
        generalize hnx : x.2.1 = nx6 at h79 o3 hix
        generalize stF x.2.2.2 i = a1 at v1 nx eb2
        generalize x.2.2.2 i = a2 at v2 nx eb1
        generalize nI (x.2.2.1 i) = a3 at v3 nx
        refine pw_blk (mi := mz_44) (b := bz_44_126) rfl rfl ?_
        simp only [bz_44_126, pz_cut_t, pz_cut_f, pz_cut_n, pv_gt, pv_ts, pv_tn, ev_ild1, ev_ald0, ev_eld0, ev_gf11_0, ev_ic_ge, pz_wi_gc, pz_wi_ga, pz_wi_gn, pz_wi_gl, pz_wi_gr, pz_wi_same, pz_wi_X, pz_wl_gc, pz_wl_ga, pz_wl_gn, pz_wl_gi, pz_wl_gr, pz_wl_same, pz_wl_X, pz_wr_gc, pz_wr_ga, pz_wr_gn, pz_wr_gi, pz_wr_gl, pz_wr_same, pz_wr_X, so_120 hS2, h79, v1, v2, v3, Nat.add_sub_cancel_left]
        (try simp (disch := omega) only [nI_clamp, pz_in_nI2, pz_in_nI2L, pv_gt, nI_add, nI_addL, nI_Ladd, pk_mul, nI_mulL, nI_Lmul, pk_sub, nI_subL, nI_Lsub, nI_inc, nI_clampL, Nat.add_sub_cancel, pz_wi_else, pz_wl_else, vu_eq, vu_ne, pz_wi_gc, pz_wi_ga, pz_wi_gn, pz_wi_gl, pz_wi_gr, pz_wi_same, pz_wi_X, pz_wl_gc, pz_wl_ga, pz_wl_gn, pz_wl_gi, pz_wl_gr, pz_wl_same, pz_wl_X, pz_wr_gc, pz_wr_ga, pz_wr_gn, pz_wr_gi, pz_wr_gl, pz_wr_same, pz_wr_X, h79, v1, v2, v3, Nat.add_sub_cancel_left])
        refine po_brP (fun q126 => ?_) (fun q126 => ?_)
        · first
          | exact absurd q126 (by decide)
          | exact absurd trivial q126
          | exact q126.elim
          | (exfalso; (try simp (disch := omega) only [nI_ltI, nI_leI, nI_eq, nI_ltL, nI_leL, nI_eqL, nI_Llt, nI_Lle, nI_Leq, nI_eqm, nI_meq, nI_ltm, nI_lem, nI_mlt, nI_mle, lg0, lgl, lgg, lgle, lgge, Int32.not_lt, Int32.not_le, Int64.not_lt, Int64.not_le, not_false_eq_true, not_true_eq_false, Decidable.not_not, ge_iff_le, gt_iff_lt] at q126) <;> omega)
          | exact absurd q126 (by with_reducible assumption)
          | exact absurd (by with_reducible assumption) q126
          | exact absurd (Decidable.not_not.mp q126) (by with_reducible assumption)
          | exact absurd (by with_reducible assumption) (Int32.not_le.mpr q126)
          | exact absurd (by with_reducible assumption) (Int32.not_lt.mpr q126)
        · skip
          (try simp (disch := omega) only [nI_ltI, nI_leI, nI_eq, nI_ltL, nI_leL, nI_eqL, nI_Llt, nI_Lle, nI_Leq, nI_eqm, nI_meq, nI_ltm, nI_lem, nI_mlt, nI_mle, lg0, lgl, lgg, lgle, lgge, Int32.not_lt, Int32.not_le, Int64.not_lt, Int64.not_le, not_false_eq_true, not_true_eq_false, Decidable.not_not, ge_iff_le, gt_iff_lt] at q126)
          refine pw_blk (mi := mz_44) (b := bz_44_134) rfl rfl ?_
          simp only [bz_44_134, pz_cut_t, pz_cut_f, pz_cut_n, pv_gt, pv_ts, pv_tn, ev_ald0, ev_eld0, ev_gf11_2, ev_ild1, ev_bp6, ev_iadd, ea_iald, ev_sp400, ev_isub, ea_iast, ev_inc1n, ev_inc1i, ev_inc1r, ev_inc1e, ev_goto, pz_wi_gc, pz_wi_ga, pz_wi_gn, pz_wi_gl, pz_wi_gr, pz_wi_same, pz_wi_X, pz_wl_gc, pz_wl_ga, pz_wl_gn, pz_wl_gi, pz_wl_gr, pz_wl_same, pz_wl_X, pz_wr_gc, pz_wr_ga, pz_wr_gn, pz_wr_gi, pz_wr_gl, pz_wr_same, pz_wr_X, so_120 hS2, sr_120_70 hS2, sa_164 hS2, sn_164 hS2, sr_120_71 hS2, sa_165 hS2, sn_165 hS2, sr_120_72 hS2, sa_166 hS2, sn_166 hS2, h79, v1, v2, v3, Nat.add_sub_cancel_left, sa_159 hS2, sn_159 hS2, sa_160 hS2, sn_160 hS2]
          (try simp (disch := omega) only [nI_clamp, pz_in_nI2, pz_in_nI2L, pv_gt, nI_add, nI_addL, nI_Ladd, pk_mul, nI_mulL, nI_Lmul, pk_sub, nI_subL, nI_Lsub, nI_inc, nI_clampL, Nat.add_sub_cancel, pz_wi_else, pz_wl_else, vu_eq, vu_ne, pz_wi_gc, pz_wi_ga, pz_wi_gn, pz_wi_gl, pz_wi_gr, pz_wi_same, pz_wi_X, pz_wl_gc, pz_wl_ga, pz_wl_gn, pz_wl_gi, pz_wl_gr, pz_wl_same, pz_wl_X, pz_wr_gc, pz_wr_ga, pz_wr_gn, pz_wr_gi, pz_wr_gl, pz_wr_same, pz_wr_X, h79, v1, v2, v3, Nat.add_sub_cancel_left])
          (try refine po_gI (by first | exact pz_in_nI (by omega) (by decide) | decide | assumption) ?_)
          (try refine po_gI (by first | exact pz_in_nI (by omega) (by decide) | decide | assumption) ?_)
          (try refine po_gI (by first | exact pz_in_nI (by omega) (by decide) | decide | assumption) ?_)
          (try refine po_gI (by first | exact pz_in_nI (by omega) (by decide) | decide | assumption) ?_)
          (try refine po_gI (by first | exact pz_in_nI (by omega) (by decide) | decide | assumption) ?_)
          (try refine po_gI (by first | exact pz_in_nI (by omega) (by decide) | decide | assumption) ?_)
          refine po_go ?_
          exact nx
    exact loop 0 (by omega) M1 sm.rf (fun j _ => by rw [s1.i (by decide), s1.i (by decide), s1.i (by decide)]; exact ⟨rfl, rfl, rfl⟩) (fun j hj => absurd hj (by omega))
  have codes : ∀ i, i ≤ 400 → ∀ M1, sm [159, 160] M M1 → (∀ j, 400 ≤ j → gi M1 159 j = gi M 159 j ∧ gi M1 160 j = gi M 160 j) → (∀ j, j < i → gi M1 159 j = gi M 159 (400 + j) ∧ gi M1 160 j = gi M 160 (400 + j)) → pw d 44 (79, [some (.ref 120), some (.int (nI i))], [], M1) Q := by
    refine upto (fun i hi ih => ?_)
    intro M1 s1 hu hr
    have hS1 := hS.sm s1
    by_cases q : i = 400
    · subst q
      have rr := rows M1 s1 (ncd.g (fun j hj => hr j (by omega)))
      refine pw_blk (mi := mz_44) (b := bz_44_79) rfl rfl ?_
      simp only [bz_44_79, pz_cut_t, pz_cut_f, pz_cut_n, pv_gt, pv_ts, pv_tn, ev_ild1, ev_sp400, ev_ic_ge, pz_wi_gc, pz_wi_ga, pz_wi_gn, pz_wi_gl, pz_wi_gr, pz_wi_same, pz_wi_X, pz_wl_gc, pz_wl_ga, pz_wl_gn, pz_wl_gi, pz_wl_gr, pz_wl_same, pz_wl_X, pz_wr_gc, pz_wr_ga, pz_wr_gn, pz_wr_gi, pz_wr_gl, pz_wr_same, pz_wr_X]
      (try simp (disch := omega) only [nI_clamp, pz_in_nI2, pz_in_nI2L, pv_gt, nI_add, nI_addL, nI_Ladd, pk_mul, nI_mulL, nI_Lmul, pk_sub, nI_subL, nI_Lsub, nI_inc, nI_clampL, Nat.add_sub_cancel, pz_wi_else, pz_wl_else, vu_eq, vu_ne, pz_wi_gc, pz_wi_ga, pz_wi_gn, pz_wi_gl, pz_wi_gr, pz_wi_same, pz_wi_X, pz_wl_gc, pz_wl_ga, pz_wl_gn, pz_wl_gi, pz_wl_gr, pz_wl_same, pz_wl_X, pz_wr_gc, pz_wr_ga, pz_wr_gn, pz_wr_gi, pz_wr_gl, pz_wr_same, pz_wr_X])
      refine po_brP (fun q79 => ?_) (fun q79 => ?_)
      · skip
        (try simp (disch := omega) only [nI_ltI, nI_leI, nI_eq, nI_ltL, nI_leL, nI_eqL, nI_Llt, nI_Lle, nI_Leq, nI_eqm, nI_meq, nI_ltm, nI_lem, nI_mlt, nI_mle, lg0, lgl, lgg, lgle, lgge, Int32.not_lt, Int32.not_le, Int64.not_lt, Int64.not_le, not_false_eq_true, not_true_eq_false, Decidable.not_not, ge_iff_le, gt_iff_lt] at q79)
        refine pw_blk (mi := mz_44) (b := bz_44_124) rfl rfl ?_
        simp only [bz_44_124, pz_cut_t, pz_cut_f, pz_cut_n, pv_gt, pv_ts, pv_tn, ev_ic0, ev_ist1n, ev_ist1i, ev_ist1r, ev_ist1e, ev_ist1l, ev_nil, pz_wi_gc, pz_wi_ga, pz_wi_gn, pz_wi_gl, pz_wi_gr, pz_wi_same, pz_wi_X, pz_wl_gc, pz_wl_ga, pz_wl_gn, pz_wl_gi, pz_wl_gr, pz_wl_same, pz_wl_X, pz_wr_gc, pz_wr_ga, pz_wr_gn, pz_wr_gi, pz_wr_gl, pz_wr_same, pz_wr_X]
        (try simp (disch := omega) only [nI_clamp, pz_in_nI2, pz_in_nI2L, pv_gt, nI_add, nI_addL, nI_Ladd, pk_mul, nI_mulL, nI_Lmul, pk_sub, nI_subL, nI_Lsub, nI_inc, nI_clampL, Nat.add_sub_cancel, pz_wi_else, pz_wl_else, vu_eq, vu_ne, pz_wi_gc, pz_wi_ga, pz_wi_gn, pz_wi_gl, pz_wi_gr, pz_wi_same, pz_wi_X, pz_wl_gc, pz_wl_ga, pz_wl_gn, pz_wl_gi, pz_wl_gr, pz_wl_same, pz_wl_X, pz_wr_gc, pz_wr_ga, pz_wr_gn, pz_wr_gi, pz_wr_gl, pz_wr_same, pz_wr_X])
        refine po_go ?_
        exact rr
      · first
        | exact absurd q79 (by decide)
        | exact absurd trivial q79
        | exact q79.elim
        | (exfalso; (try simp (disch := omega) only [nI_ltI, nI_leI, nI_eq, nI_ltL, nI_leL, nI_eqL, nI_Llt, nI_Lle, nI_Leq, nI_eqm, nI_meq, nI_ltm, nI_lem, nI_mlt, nI_mle, lg0, lgl, lgg, lgle, lgge, Int32.not_lt, Int32.not_le, Int64.not_lt, Int64.not_le, not_false_eq_true, not_true_eq_false, Decidable.not_not, ge_iff_le, gt_iff_lt] at q79) <;> omega)
        | exact absurd q79 (by with_reducible assumption)
        | exact absurd (by with_reducible assumption) q79
        | exact absurd (Decidable.not_not.mp q79) (by with_reducible assumption)
        | exact absurd (by with_reducible assumption) (Int32.not_le.mpr q79)
        | exact absurd (by with_reducible assumption) (Int32.not_lt.mpr q79)
    · obtain ⟨u1, u2⟩ := hu (400 + i) (by omega)
      have nx := ih (i + 1) (by omega) (by omega) (pz_wi (pz_wi M1 159 (va_up (gi M1 159) i (gi M1 159 (400 + i)))) 160 (va_up (gi M1 160) i (gi M1 160 (400 + i)))) (sm.wi (sm.wi s1 (by decide)) (by decide)) (fun j hj => by
        simp (disch := decide) only [pz_wi_else, pz_wi_same]
        rw [vu_ne (by omega), vu_ne (by omega)]
        exact hu j hj) (fun j hj => by
        simp (disch := decide) only [pz_wi_else, pz_wi_same]
        by_cases z : j = i
        · rw [z, vu_eq, vu_eq, u1, u2]; exact ⟨rfl, rfl⟩
        · rw [vu_ne z, vu_ne z]; exact hr j (by omega))
      refine pw_blk (mi := mz_44) (b := bz_44_79) rfl rfl ?_
      simp only [bz_44_79, pz_cut_t, pz_cut_f, pz_cut_n, pv_gt, pv_ts, pv_tn, ev_ild1, ev_sp400, ev_ic_ge, pz_wi_gc, pz_wi_ga, pz_wi_gn, pz_wi_gl, pz_wi_gr, pz_wi_same, pz_wi_X, pz_wl_gc, pz_wl_ga, pz_wl_gn, pz_wl_gi, pz_wl_gr, pz_wl_same, pz_wl_X, pz_wr_gc, pz_wr_ga, pz_wr_gn, pz_wr_gi, pz_wr_gl, pz_wr_same, pz_wr_X]
      (try simp (disch := omega) only [nI_clamp, pz_in_nI2, pz_in_nI2L, pv_gt, nI_add, nI_addL, nI_Ladd, pk_mul, nI_mulL, nI_Lmul, pk_sub, nI_subL, nI_Lsub, nI_inc, nI_clampL, Nat.add_sub_cancel, pz_wi_else, pz_wl_else, vu_eq, vu_ne, pz_wi_gc, pz_wi_ga, pz_wi_gn, pz_wi_gl, pz_wi_gr, pz_wi_same, pz_wi_X, pz_wl_gc, pz_wl_ga, pz_wl_gn, pz_wl_gi, pz_wl_gr, pz_wl_same, pz_wl_X, pz_wr_gc, pz_wr_ga, pz_wr_gn, pz_wr_gi, pz_wr_gl, pz_wr_same, pz_wr_X])
      refine po_brP (fun q79 => ?_) (fun q79 => ?_)
      · first
        | exact absurd q79 (by decide)
        | exact absurd trivial q79
        | exact q79.elim
        | (exfalso; (try simp (disch := omega) only [nI_ltI, nI_leI, nI_eq, nI_ltL, nI_leL, nI_eqL, nI_Llt, nI_Lle, nI_Leq, nI_eqm, nI_meq, nI_ltm, nI_lem, nI_mlt, nI_mle, lg0, lgl, lgg, lgle, lgge, Int32.not_lt, Int32.not_le, Int64.not_lt, Int64.not_le, not_false_eq_true, not_true_eq_false, Decidable.not_not, ge_iff_le, gt_iff_lt] at q79) <;> omega)
        | exact absurd q79 (by with_reducible assumption)
        | exact absurd (by with_reducible assumption) q79
        | exact absurd (Decidable.not_not.mp q79) (by with_reducible assumption)
        | exact absurd (by with_reducible assumption) (Int32.not_le.mpr q79)
        | exact absurd (by with_reducible assumption) (Int32.not_lt.mpr q79)
      · skip
        (try simp (disch := omega) only [nI_ltI, nI_leI, nI_eq, nI_ltL, nI_leL, nI_eqL, nI_Llt, nI_Lle, nI_Leq, nI_eqm, nI_meq, nI_ltm, nI_lem, nI_mlt, nI_mle, lg0, lgl, lgg, lgle, lgge, Int32.not_lt, Int32.not_le, Int64.not_lt, Int64.not_le, not_false_eq_true, not_true_eq_false, Decidable.not_not, ge_iff_le, gt_iff_lt] at q79)
        refine pw_blk (mi := mz_44) (b := bz_44_86) rfl rfl ?_
        simp only [bz_44_86, pz_cut_t, pz_cut_f, pz_cut_n, pv_gt, pv_ts, pv_tn, ev_ald0, ev_eld0, ev_gf11_2, ev_ild1, ev_sp400, ev_iadd, ea_iald, ea_iast, ev_inc1n, ev_inc1i, ev_inc1r, ev_inc1e, ev_goto, pz_wi_gc, pz_wi_ga, pz_wi_gn, pz_wi_gl, pz_wi_gr, pz_wi_same, pz_wi_X, pz_wl_gc, pz_wl_ga, pz_wl_gn, pz_wl_gi, pz_wl_gr, pz_wl_same, pz_wl_X, pz_wr_gc, pz_wr_ga, pz_wr_gn, pz_wr_gi, pz_wr_gl, pz_wr_same, pz_wr_X, so_120 hS1, sr_120_65 hS1, sa_159 hS1, sn_159 hS1, sr_120_66 hS1, sa_160 hS1, sn_160 hS1, sa_164 hS1, sn_164 hS1, sa_165 hS1, sn_165 hS1, sa_166 hS1, sn_166 hS1]
        (try simp (disch := omega) only [nI_clamp, pz_in_nI2, pz_in_nI2L, pv_gt, nI_add, nI_addL, nI_Ladd, pk_mul, nI_mulL, nI_Lmul, pk_sub, nI_subL, nI_Lsub, nI_inc, nI_clampL, Nat.add_sub_cancel, pz_wi_else, pz_wl_else, vu_eq, vu_ne, pz_wi_gc, pz_wi_ga, pz_wi_gn, pz_wi_gl, pz_wi_gr, pz_wi_same, pz_wi_X, pz_wl_gc, pz_wl_ga, pz_wl_gn, pz_wl_gi, pz_wl_gr, pz_wl_same, pz_wl_X, pz_wr_gc, pz_wr_ga, pz_wr_gn, pz_wr_gi, pz_wr_gl, pz_wr_same, pz_wr_X])
        (try refine po_gI (by first | exact pz_in_nI (by omega) (by decide) | decide | assumption) ?_)
        (try refine po_gI (by first | exact pz_in_nI (by omega) (by decide) | decide | assumption) ?_)
        (try refine po_gI (by first | exact pz_in_nI (by omega) (by decide) | decide | assumption) ?_)
        (try refine po_gI (by first | exact pz_in_nI (by omega) (by decide) | decide | assumption) ?_)
        refine po_go ?_
        exact nx
  have c0 := codes 0 (by omega) M sm.rf (fun _ _ => ⟨rfl, rfl⟩) (fun j hj => absurd hj (by omega))
  refine pw_blk (mi := mz_44) (b := bz_44_77) rfl rfl ?_
  simp only [bz_44_77, pz_cut_t, pz_cut_f, pz_cut_n, pv_gt, pv_ts, pv_tn, ev_ic0, ev_ist1n, ev_ist1i, ev_ist1r, ev_ist1e, ev_ist1l, ev_nil, pz_wi_gc, pz_wi_ga, pz_wi_gn, pz_wi_gl, pz_wi_gr, pz_wi_same, pz_wi_X, pz_wl_gc, pz_wl_ga, pz_wl_gn, pz_wl_gi, pz_wl_gr, pz_wl_same, pz_wl_X, pz_wr_gc, pz_wr_ga, pz_wr_gn, pz_wr_gi, pz_wr_gl, pz_wr_same, pz_wr_X]
  (try simp (disch := omega) only [nI_clamp, pz_in_nI2, pz_in_nI2L, pv_gt, nI_add, nI_addL, nI_Ladd, pk_mul, nI_mulL, nI_Lmul, pk_sub, nI_subL, nI_Lsub, nI_inc, nI_clampL, Nat.add_sub_cancel, pz_wi_else, pz_wl_else, vu_eq, vu_ne, pz_wi_gc, pz_wi_ga, pz_wi_gn, pz_wi_gl, pz_wi_gr, pz_wi_same, pz_wi_X, pz_wl_gc, pz_wl_ga, pz_wl_gn, pz_wl_gi, pz_wl_gr, pz_wl_same, pz_wl_X, pz_wr_gc, pz_wr_ga, pz_wr_gn, pz_wr_gi, pz_wr_gl, pz_wr_same, pz_wr_X])
  refine po_go ?_
  exact c0
end RRS
