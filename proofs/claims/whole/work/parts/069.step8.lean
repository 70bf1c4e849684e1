section PSA
variable {p : Program} {l : Launch} {e : Env} {R : Room} {s : State} {m : MethodId} {args : Array Value} {below : List Frame} {meth : Method} {c : Code} {Q : State → Prop} {base : Nat} {ex : Nat → Nat} {fz : Value} {dC : Nat → ClassId} {dI : Nat → Nat → Nat} {cA : Nat → ClassId} {X : pz_X} {own : Nat} {cc : ByteArray} {nL : Nat} {ini : Bool} {c0 s0 pc : Nat} {L : pz_L} {st : List Value} {M : pz_M}
variable {ret : Option FieldType} {mt : List pz_I} {fall : Nat}
theorem pz_evB_ok (C : pz_Cx p s m args meth c base ex fz dC dI cA X own cc nL ini c0) (hR : 1 ≤ R.frames ∧ 60 ≤ R.locals) : ∀ (es : List pz_E) (pc : Nat) (L : pz_L) (st : List Value) (M : pz_M) (w : pz_O), pz_chn own cc ret ini es pc fall = true → pz_evB fall es L st M = some w → L.length = nL → M.1 = X → ((pz_oM w).1 = X ∧ M.2.1.length ≤ (pz_oM w).2.1.length ∧ pz_slo M.2.1 ≤ pz_slo (pz_oM w).2.1 ∧ pz_nz w) ∧ ((pz_oM w).2.1.length ≤ R.cells + c0 → pz_slo (pz_oM w).2.1 ≤ R.slots + s0 → pz_oK p l e R s m args below meth c Q base ex fz dC dI cA nL c0 s0 cc ret w → pz_At p l e R s m args below meth c Q base ex fz dC dI cA nL c0 s0 pc L st M) := by
  intro es
  induction es with
  | nil =>
    intro pc L st M w hch h hlen hX
    simp only [pz_chn, beq_iff_eq] at hch
    subst hch
    simp only [pz_evB, Option.some.injEq] at h
    subst h
    exact ⟨⟨hX, Nat.le_refl _, Nat.le_refl _, trivial⟩, fun _ _ k => k hlen⟩
  | cons en es ih =>
    intro pc L st M w hch h hlen hX
    simp only [pz_chn, Bool.and_eq_true, beq_iff_eq] at hch
    obtain ⟨hpc, hchk, hch⟩ := hch
    simp only [pz_evB] at h
    cases hctl : pz_ctl en L st M with
    | some o =>
      rw [hctl] at h
      simp only at h
      subst h
      obtain ⟨h1, h2, h3⟩ := pz_ctl_ok C hX hpc hchk hctl hlen
      rw [h1]
      exact ⟨⟨hX, Nat.le_refl _, Nat.le_refl _, h2⟩, fun _ _ k => h3 k⟩
    | none =>
      rw [hctl] at h
      simp only at h
      cases hs : pz_stp en L st M with
      | none => rw [hs] at h; cases h
      | some q =>
        rw [hs] at h
        simp only at h
        obtain ⟨⟨g1, g2, g3, g4⟩, g5⟩ := pz_step C hX hpc hchk hctl hs hlen hR
        obtain ⟨⟨k1, k2, k3, k4⟩, k5⟩ := ih _ _ _ _ w hch h g1 g2
        exact ⟨⟨k1, Nat.le_trans g3 k2, Nat.le_trans g4 k3, k4⟩, fun a b k => g5 (Nat.le_trans k2 a) (Nat.le_trans k3 b) (k5 a b k)⟩
end PSA
/-- the pure machine's run: fuel, calls that may stand open, the method's number, where it stands -/
def pz_rn (mt : List pz_I) : Nat → Nat → Nat → Nat × pz_L × List Value × pz_M → Option (Option Value × pz_M)
  | 0, _, _, _ => none
  | n + 1, d, i, w => match mt[i]? with
    | none => none
    | some mi => match mi.2.2.2.2.2.find? (fun b => b.1 == w.1) with
      | none => none
      | some b => match pz_evB b.2.2.2 b.2.2.1 (pz_cut b.2.1 w.2.1) w.2.2.1 w.2.2.2 with
        | none => none
        | some (.inl w') => pz_rn mt n d i w'
        | some (.inr (.inl r)) => some r
        | some (.inr (.inr q)) => match d, mt[q.1]? with
          | d' + 1, some mj => if (q.2.1.map fun v => v.category).sum ≤ mj.2.2.2.1 then (match pz_rn mt n d' q.1 (0, pz_sp mj.2.2.2.1 q.2.1, [], q.2.2.2.2.2) with
            | none => none
            | some v => pz_rn mt n d i (q.2.2.1, q.2.2.2.1, v.1.toList ++ q.2.2.2.2.1, v.2)) else none
          | _, _ => none
/-- a table of methods that is checked; number 0 is the law, which nothing calls -/
def pz_okt (mt : List pz_I) : Prop := ∀ (i : Nat) (mi : pz_I), mt[i]? = some mi → i ≠ 0 → pz_okm i mi
/-- what a run is worth: whatever frame it stands in -/
def pz_good (mt : List pz_I) (n : Nat) : Prop := ∀ (d i : Nat) (w : Nat × pz_L × List Value × pz_M) (r : Option Value × pz_M) (mi : pz_I), pz_rn mt n d i w = some r → mt[i]? = some mi → pz_chm mi = true → w.2.1.length = mi.2.2.2.1 →
  (w.2.2.2.1 = r.2.1 ∧ w.2.2.2.2.1.length ≤ r.2.2.1.length ∧ pz_slo w.2.2.2.2.1 ≤ pz_slo r.2.2.1) ∧
  ∀ (p : Program) (l : Launch) (e : Env) (R : Room) (s : State) (m : MethodId) (args : Array Value) (below : List Frame) (meth : Method) (c : Code) (Q : State → Prop) (base : Nat) (ex : Nat → Nat) (fz : Value) (dC : Nat → ClassId) (dI : Nat → Nat → Nat) (cA : Nat → ClassId) (c0 s0 : Nat),
    pz_Cx p s m args meth c base ex fz dC dI cA w.2.2.2.1 mi.1 mi.2.2.1 mi.2.2.2.1 (mi.2.1.name == "<init>") c0 → (d + 1 ≤ R.frames ∧ 60 * d + 100 ≤ R.locals) → r.2.2.1.length ≤ R.cells + c0 → pz_slo r.2.2.1 ≤ R.slots + s0 →
    pz_RH p l e R s m args below meth c Q base ex fz dC dI cA mi.2.2.2.1 c0 s0 mi.2.2.1 mi.2.2.2.2.1 r → pz_At p l e R s m args below meth c Q base ex fz dC dI cA mi.2.2.2.1 c0 s0 w.1 w.2.1 w.2.2.1 w.2.2.2
/-- a run from a method's entry is its contract -/
theorem pz_met {mt : List pz_I} {n d i : Nat} {mi : pz_I} (G : pz_good mt n) (hmi : mt[i]? = some mi) (hok : pz_okm i mi) {vs : List Value} {M : pz_M} {r : Option Value × pz_M} (h : pz_rn mt n d i (0, pz_sp mi.2.2.2.1 vs, [], M) = some r) (l : Launch) (base : Nat) (ex : Nat → Nat) (fz : Value) (dC : Nat → ClassId) (dI : Nat → Nat → Nat) (cA : Nat → ClassId) (hsp : (lg_sl (vs.map (pz_rv base ex fz))).length ≤ mi.2.2.2.1) : pz_Met l base ex fz dC dI cA mi d vs M r := by
  obtain ⟨⟨g1, g2, g3⟩, g4⟩ := G d i _ r mi h hmi hok.2.2.2.2.2.2 (pz_sp_len _ _)
  simp only at g1 g2 g3 g4
  unfold pz_Met
  refine Met.ofW (cc := mi.2.2.1) (maxL := mi.2.2.2.1) (ret := mi.2.2.2.2.1) hok.2.2.2.2.2.1 rfl ?_
  intro p e s m args below meth c s₁ B hml hv
  obtain ⟨hargs, hsz, hW, hC⟩ := hv
  have hts := atoms_spec (ws := pz_wd mi :: gw_tbl) B.pre
  have hown : s.vm.findClass (cz_own mi.1) = some m.cls := by rw [hok.2.2.2.2.1]; exact findClass_of_methodNamed B.named
  have hin : (mi.2.1.name == "<init>") = true → meth.name = "<init>" := fun q => by
    rw [(name_of_methodNamed B.named B.method).1]
    exact eq_of_beq q
  have hlocks := B.notSynchronized
  have hr := B.returns
  have C : pz_Cx p s m args meth c base ex fz dC dI cA M.1 mi.1 mi.2.2.1 mi.2.2.2.1 (mi.2.1.name == "<init>") M.2.1.length := ⟨B.exec, B.bytes, hml, hown, fun w hw => hts w (List.mem_cons_of_mem _ hw), hC, hsz, hin⟩
  have hz := hC.2.1
  have key := g4 p l e (headSpec (pz_wd mi :: gw_tbl) (pz_room d (r.2.2.1.length - M.2.1.length) (pz_slo r.2.2.1 - pz_slo M.2.1))).room s m args below meth c (MQ below (pz_Qc base ex fz dC dI cA r) args s (r.2.2.1.length - M.2.1.length) (pz_slo r.2.2.1 - pz_slo M.2.1) (pz_A base)) base ex fz dC dI cA M.2.1.length (pz_slo M.2.1) C ⟨Nat.le_refl _, Nat.le_refl _⟩ (by show _ ≤ (r.2.2.1.length - M.2.1.length) + M.2.1.length; omega) (by show _ ≤ (pz_slo r.2.2.1 - pz_slo M.2.1) + pz_slo M.2.1; omega) ?_
  · have hl := lv_entry (vs.map (pz_rv base ex fz)) (n := mi.2.2.2.1) hsp
    rw [hargs, lg_entry_eq]
    generalize (lg_sl (vs.map (pz_rv base ex fz)) ++ List.replicate (mi.2.2.2.1 - (lg_sl (vs.map (pz_rv base ex fz))).length) Slot.unset).toArray = ls at hl ⊢
    have := key s.heap [] 0 0 ls ⟨hl.1, hl.2.1, fun i v hi => hl.2.2 (i, pz_rv base ex fz v) (by have := pz_sp_at (base := base) (ex := ex) hz _ vs 0 i v hi; rwa [Nat.zero_add] at this)⟩ hW va_S.rf (by omega) (by omega)
    rw [hargs] at this
    exact this
  · refine ⟨?_, ?_, ?_, ?_⟩
    · intro pc L x hx hd hty H locs cells slots ls hL hWr hS hc hs
      obtain ⟨ty, hty, hn⟩ := hty
      have e1 : r.2.2.1.length - M.2.1.length = cells := by omega
      have e2 : pz_slo r.2.2.1 - pz_slo M.2.1 = slots := by omega
      rw [e1, e2]
      exact W.zret B.exec B.bytes (by rw [hr, hty]) hn (fun t ht _ => ⟨by rw [hx]; rfl, by rw [ht]; exact hWr, hS.F ht⟩) hS.2.2 hd hlocks
    · intro pc L x hx hd hty H locs cells slots ls hL hWr hS hc hs
      have e1 : r.2.2.1.length - M.2.1.length = cells := by omega
      have e2 : pz_slo r.2.2.1 - pz_slo M.2.1 = slots := by omega
      rw [e1, e2]
      exact W.lret B.exec B.bytes (by rw [hr, hty]) (fun t ht _ => ⟨by rw [hx]; rfl, by rw [ht]; exact hWr, hS.F ht⟩) hS.2.2 hd hlocks
    · intro pc L x hx hd hty H locs cells slots ls hL hWr hS hc hs
      have e1 : r.2.2.1.length - M.2.1.length = cells := by omega
      have e2 : pz_slo r.2.2.1 - pz_slo M.2.1 = slots := by omega
      rw [e1, e2]
      exact W.aret B.exec B.bytes (by rw [hr, hty]) (Or.inl ⟨_, rfl⟩) (Or.inr ⟨_, rfl⟩) (fun t ht _ => ⟨by rw [hx]; rfl, by rw [ht]; exact hWr, hS.F ht⟩) hS.2.2 hd hlocks
    · intro pc L hx hd hty H locs cells slots ls hL hWr hS hc hs
      have e1 : r.2.2.1.length - M.2.1.length = cells := by omega
      have e2 : pz_slo r.2.2.1 - pz_slo M.2.1 = slots := by omega
      rw [e1, e2]
      exact W.vret B.exec B.bytes (by rw [hr, hty]) (fun t ht _ => ⟨by rw [hx]; rfl, by rw [ht]; exact hWr, hS.F ht⟩) hS.2.2 hd hlocks
theorem pz_nu_slo (M : pz_M) (d : pz_D) : pz_slo M.2.1 ≤ pz_slo (pz_nu M d).2.1 := by
  rw [show (pz_nu M d).2.1 = M.2.1 ++ [d] from rfl, pz_slo_app]
  omega
theorem pz_nu_len (M : pz_M) (d : pz_D) : M.2.1.length ≤ (pz_nu M d).2.1.length := by simp [pz_nu]
theorem pz_stp_mono {en : pz_E} {L : pz_L} {st : List Value} {M : pz_M} {q : pz_L × List Value × pz_M} (h : pz_stp en L st M = some q) : q.1.length = L.length ∧ q.2.2.1 = M.1 ∧ M.2.1.length ≤ q.2.2.2.1.length ∧ pz_slo M.2.1 ≤ pz_slo q.2.2.2.1 := by
  obtain ⟨pc, ins, a, b, z⟩ := en
  cases ins <;> simp only [pz_stp, pz_li, pz_ll, pz_la, pz_si, pz_sl, pz_sa, pz_ii, pz_jj, pz_gf, pz_pf, pz_iald, pz_bald, pz_lald, pz_aald, pz_iast, pz_bast, pz_last, pz_aast, pz_alen, pz_cp, pz_ma] at h <;> (repeat' split at h) <;> first | (cases h; done) | (cases h; exact ⟨rfl, rfl, Nat.le_refl _, Nat.le_refl _⟩) | (cases h; exact ⟨pz_s1_len, rfl, Nat.le_refl _, Nat.le_refl _⟩) | (cases h; exact ⟨pz_s2_len, rfl, Nat.le_refl _, Nat.le_refl _⟩) | (cases h; exact ⟨rfl, rfl, pz_nu_len _ _, pz_nu_slo _ _⟩)
def pz_oL : pz_O → pz_L → Prop
  | .inl w, L => w.2.1.length = L.length
  | .inr (.inr q), L => q.2.2.2.1.length = L.length
  | _, _ => True
theorem pz_ctl_out {own : Nat} {cc : ByteArray} {ret : Option FieldType} {ini : Bool} {en : pz_E} {L : pz_L} {st : List Value} {M : pz_M} {w : pz_O} (hchk : pz_chk own cc ret ini en = true) (h : pz_ctl en L st M = some (some w)) : pz_oM w = M ∧ pz_oL w L ∧ pz_nz w := by
  obtain ⟨pc, ins, a, b, z⟩ := en
  simp only [pz_chk, Bool.and_eq_true, decide_eq_true_eq] at hchk
  obtain ⟨-, hlk⟩ := hchk
  cases ins
  case invokestatic i =>
    simp only [pz_ctl] at h
    simp only [pz_lk] at hlk
    split at h
    · rename_i hz
      rw [if_pos hz] at hlk
      have hn := cz_nz _ (List.mem_append.mpr (Or.inr (of_decide_eq_true hlk)))
      simp only [Option.some.injEq, pz_inv] at h
      (repeat' split at h) <;> first | (cases h; done) | (cases h; exact ⟨rfl, rfl, hn⟩)
    · cases h
  case invokevirtual i =>
    have hn := cz_nz _ (List.mem_append.mpr (Or.inl (List.mem_append.mpr (Or.inl (of_decide_eq_true hlk)))))
    simp only [pz_ctl, Option.some.injEq, pz_inv] at h
    (repeat' split at h) <;> first | (cases h; done) | (cases h; exact ⟨rfl, rfl, hn⟩)
  case invokespecial i =>
    simp only [pz_ctl] at h
    simp only [pz_lk] at hlk
    split at h
    · cases h
    · rename_i hz
      rw [if_neg hz] at hlk
      simp only [Bool.or_eq_true, decide_eq_true_eq] at hlk
      have hn := cz_nz _ (List.mem_append.mpr (Or.inl (List.mem_append.mpr (Or.inr (List.mem_append.mpr hlk)))))
      simp only [Option.some.injEq, pz_inv] at h
      (repeat' split at h) <;> first | (cases h; done) | (cases h; exact ⟨rfl, rfl, hn⟩)
  all_goals (simp only [pz_ctl, pz_br, Option.some.injEq] at h; (repeat' split at h) <;> first | (cases h; done) | (cases h; exact ⟨rfl, rfl, trivial⟩) | (cases h; exact ⟨rfl, trivial, trivial⟩))
theorem pz_evB_out {own : Nat} {cc : ByteArray} {ret : Option FieldType} {ini : Bool} {fall : Nat} : ∀ (es : List pz_E) (pc : Nat) (L : pz_L) (st : List Value) (M : pz_M) (w : pz_O), pz_chn own cc ret ini es pc fall = true → pz_evB fall es L st M = some w → ((pz_oM w).1 = M.1 ∧ M.2.1.length ≤ (pz_oM w).2.1.length ∧ pz_slo M.2.1 ≤ pz_slo (pz_oM w).2.1 ∧ pz_nz w) ∧ pz_oL w L := by
  intro es
  induction es with
  | nil =>
    intro pc L st M w _ h
    simp only [pz_evB, Option.some.injEq] at h
    subst h
    exact ⟨⟨rfl, Nat.le_refl _, Nat.le_refl _, trivial⟩, rfl⟩
  | cons en es ih =>
    intro pc L st M w hch h
    simp only [pz_chn, Bool.and_eq_true, beq_iff_eq] at hch
    obtain ⟨hpc, hchk, hch⟩ := hch
    simp only [pz_evB] at h
    cases hctl : pz_ctl en L st M with
    | some o =>
      rw [hctl] at h
      simp only at h
      subst h
      obtain ⟨h1, h2, h3⟩ := pz_ctl_out hchk hctl
      rw [h1]
      exact ⟨⟨rfl, Nat.le_refl _, Nat.le_refl _, h3⟩, h2⟩
    | none =>
      rw [hctl] at h
      simp only at h
      cases hs : pz_stp en L st M with
      | none => rw [hs] at h; cases h
      | some q =>
        rw [hs] at h
        simp only at h
        obtain ⟨g1, g2, g3, g4⟩ := pz_stp_mono hs
        obtain ⟨⟨k1, k2, k3, k4⟩, k5⟩ := ih _ _ _ _ w hch h
        refine ⟨⟨k1.trans g2, Nat.le_trans g3 k2, Nat.le_trans g4 k3, k4⟩, ?_⟩
        match w, k5 with
        | .inl w', k5 => exact Eq.trans k5 g1
        | .inr (.inl _), _ => exact trivial
        | .inr (.inr q'), k5 => exact Eq.trans k5 g1
theorem pz_sl_len (hz : True) : ∀ (vs : List Value), (lg_sl vs).length = (vs.map fun v => v.category).sum
  | [] => rfl
  | v :: vs => by
    have ih := pz_sl_len hz vs
    unfold lg_sl at ih ⊢
    simp only [List.flatMap_cons, List.length_append, List.map_cons, List.sum_cons, ih]
    congr 1
    split
    · rename_i h; rw [h]; rfl
    · cases v <;> first | rfl | (rename_i h; exact absurd rfl h)
/-- every run of the pure machine is one of the machine's -/
theorem pz_sound {mt : List pz_I} (hmt : pz_okt mt) : ∀ n, pz_good mt n := by
  intro n
  induction n with
  | zero => intro d i w r mi h; cases h
  | succ n G =>
    intro d i w r mi h hmi hchm hlen
    simp only [pz_rn, hmi] at h
    cases hb : mi.2.2.2.2.2.find? (fun b => b.1 == w.1) with
    | none => rw [hb] at h; cases h
    | some b =>
      rw [hb] at h
      simp only at h
      have hb1 : b.1 = w.1 := by simpa using List.find?_some hb
      have hbm := List.mem_of_find?_eq_some hb
      have hch := List.all_eq_true.mp hchm b hbm
      simp only [Bool.and_eq_true, beq_iff_eq] at hch
      obtain ⟨hbl, hch⟩ := hch
      have hcl : (pz_cut b.2.1 w.2.1).length = mi.2.2.2.1 := by rw [pz_cut_len (by rw [hbl, hlen]), hlen]
      cases ho : pz_evB b.2.2.2 b.2.2.1 (pz_cut b.2.1 w.2.1) w.2.2.1 w.2.2.2 with
      | none => rw [ho] at h; cases h
      | some o =>
        rw [ho] at h
        -- what the block is worth in a frame
        have blk : ∀ (p : Program) (l : Launch) (e : Env) (R : Room) (s : State) (m : MethodId) (args : Array Value) (below : List Frame) (meth : Method) (c : Code) (Q : State → Prop) (base : Nat) (ex : Nat → Nat) (fz : Value) (dC : Nat → ClassId) (dI : Nat → Nat → Nat) (cA : Nat → ClassId) (c0 s0 : Nat),
            pz_Cx p s m args meth c base ex fz dC dI cA w.2.2.2.1 mi.1 mi.2.2.1 mi.2.2.2.1 (mi.2.1.name == "<init>") c0 → (d + 1 ≤ R.frames ∧ 60 * d + 100 ≤ R.locals) → (pz_oM o).2.1.length ≤ R.cells + c0 → pz_slo (pz_oM o).2.1 ≤ R.slots + s0 → pz_oK p l e R s m args below meth c Q base ex fz dC dI cA mi.2.2.2.1 c0 s0 mi.2.2.1 mi.2.2.2.2.1 o → pz_At p l e R s m args below meth c Q base ex fz dC dI cA mi.2.2.2.1 c0 s0 w.1 w.2.1 w.2.2.1 w.2.2.2 := by
          intro p l e R s m args below meth c Q base ex fz dC dI cA c0 s0 C hR h1 h2 k H locs cells slots ls hL hW hS hc hs
          have := (pz_evB_ok (l := l) (e := e) (below := below) (Q := Q) (s0 := s0) C (R := R) (by omega) _ _ _ _ _ o hch ho hcl rfl).2 h1 h2 k
          rw [hb1] at this
          exact this H locs cells slots ls (hL.cut b.2.1) hW hS hc hs
        have mono : (pz_oM o).1 = w.2.2.2.1 ∧ w.2.2.2.2.1.length ≤ (pz_oM o).2.1.length ∧ pz_slo w.2.2.2.2.1 ≤ pz_slo (pz_oM o).2.1 ∧ pz_nz o := (pz_evB_out _ _ _ _ _ o hch ho).1
        match o, h, ho, blk, mono with
        | .inl w', h, ho, blk, mono =>
          simp only at h
          have hl' : w'.2.1.length = mi.2.2.2.1 := (show w'.2.1.length = (pz_cut b.2.1 w.2.1).length from (pz_evB_out _ _ _ _ _ _ hch ho).2).trans hcl
          obtain ⟨⟨g1, g2, g3⟩, g4⟩ := G d i w' r mi h hmi hchm hl'
          refine ⟨⟨mono.1.symm.trans g1, Nat.le_trans mono.2.1 g2, Nat.le_trans mono.2.2.1 g3⟩, ?_⟩
          intro p l e R s m args below meth c Q base ex fz dC dI cA c0 s0 C hR h1 h2 hRH
          refine blk p l e R s m args below meth c Q base ex fz dC dI cA c0 s0 C hR (Nat.le_trans g2 h1) (Nat.le_trans g3 h2) (fun _ => ?_)
          exact g4 p l e R s m args below meth c Q base ex fz dC dI cA c0 s0 (by rw [show w'.2.2.2.1 = w.2.2.2.1 from mono.1]; exact C) hR h1 h2 hRH
        | .inr (.inl r'), h, ho, blk, mono =>
          simp only [Option.some.injEq] at h
          subst h
          exact ⟨⟨mono.1.symm, mono.2.1, mono.2.2.1⟩, fun p l e R s m args below meth c Q base ex fz dC dI cA c0 s0 C hR h1 h2 hRH => blk p l e R s m args below meth c Q base ex fz dC dI cA c0 s0 C hR h1 h2 hRH⟩
        | .inr (.inr q), h, ho, blk, mono =>
          simp only at h
          cases d with
          | zero => simp at h
          | succ d =>
            cases hj : mt[q.1]? with
            | none => rw [hj] at h; simp at h
            | some mj =>
              rw [hj] at h
              simp only at h
              split at h
              · rename_i hsum
                cases hv : pz_rn mt n d q.1 (0, pz_sp mj.2.2.2.1 q.2.1, [], q.2.2.2.2.2) with
                | none => rw [hv] at h; cases h
                | some v =>
                  rw [hv] at h
                  simp only at h
                  have hokj := hmt q.1 mj hj mono.2.2.2
                  have hl' : q.2.2.2.1.length = mi.2.2.2.1 := (show q.2.2.2.1.length = (pz_cut b.2.1 w.2.1).length from (pz_evB_out _ _ _ _ _ _ hch ho).2).trans hcl
                  obtain ⟨⟨a1, a2, a3⟩, -⟩ := G d q.1 _ v mj hv hj hokj.2.2.2.2.2.2 (pz_sp_len _ _)
                  simp only at a1 a2 a3
                  obtain ⟨⟨g1, g2, g3⟩, g4⟩ := G (d + 1) i _ r mi h hmi hchm hl'
                  simp only at g1 g2 g3 g4
                  have m1 : q.2.2.2.2.2.1 = w.2.2.2.1 := mono.1
                  refine ⟨⟨m1.symm.trans (a1.trans g1), Nat.le_trans mono.2.1 (Nat.le_trans a2 g2), Nat.le_trans mono.2.2.1 (Nat.le_trans a3 g3)⟩, ?_⟩
                  intro p l e R s m args below meth c Q base ex fz dC dI cA c0 s0 C hR h1 h2 hRH
                  refine blk p l e R s m args below meth c Q base ex fz dC dI cA c0 s0 C hR (Nat.le_trans a2 (Nat.le_trans g2 h1)) (Nat.le_trans a3 (Nat.le_trans g3 h2)) (fun _ => ?_)
                  refine ⟨v, d, mj, hokj, pz_met G hj hokj hv l base ex fz dC dI cA ?_, ⟨a2, a3⟩, ⟨by omega, by omega⟩, ⟨Nat.le_trans g2 h1, Nat.le_trans g3 h2⟩, ?_⟩
                  · rw [pz_sl_len trivial, pz_rv_cats C.2.2.2.2.2.1.2.1]
                    exact hsum
                  · exact g4 p l e R s m args below meth c Q base ex fz dC dI cA c0 s0 (by rw [show v.2.1 = w.2.2.2.1 from a1.symm.trans m1]; exact C) hR h1 h2 hRH
              · cases h
