section PS8
variable {p : Program} {l : Launch} {e : Env} {R : Room} {s : State} {m : MethodId} {args : Array Value} {below : List Frame} {meth : Method} {c : Code} {Q : State → Prop} {base : Nat} {ex : Nat → Nat} {fz : Value} {dC : Nat → ClassId} {dI : Nat → Nat → Nat} {cA : Nat → ClassId} {X : pz_X} {own : Nat} {cc : ByteArray} {nL : Nat} {ini : Bool} {c0 s0 pc : Nat} {L : pz_L} {st : List Value} {M : pz_M}
theorem pz_step (C : pz_Cx p s m args meth c base ex fz dC dI cA X own cc nL ini c0) (hX : M.1 = X) {en : pz_E} {ret : Option FieldType} (hpc : en.1 = pc) (hchk : pz_chk own cc ret ini en = true) (hctl : pz_ctl en L st M = none) {q : pz_L × List Value × pz_M} (h : pz_stp en L st M = some q) (hlen : L.length = nL) (hR : 1 ≤ R.frames ∧ 60 ≤ R.locals) : (q.1.length = nL ∧ q.2.2.1 = X ∧ M.2.1.length ≤ q.2.2.2.1.length ∧ pz_slo M.2.1 ≤ pz_slo q.2.2.2.1) ∧ (q.2.2.2.1.length ≤ R.cells + c0 → pz_slo q.2.2.2.1 ≤ R.slots + s0 → pz_At p l e R s m args below meth c Q base ex fz dC dI cA nL c0 s0 (pc + pz_len en) q.1 q.2.1 q.2.2 → pz_At p l e R s m args below meth c Q base ex fz dC dI cA nL c0 s0 pc L st M) := by
  obtain ⟨pc', ins, a, b, z⟩ := en
  simp only at hpc
  subst hpc
  simp only [pz_chk, Bool.and_eq_true, decide_eq_true_eq] at hchk
  obtain ⟨hd, hlk⟩ := hchk
  cases ins
  case iadd => exact pz_t_iadd C hX hd hlk h hlen hR
  case isub => exact pz_t_isub C hX hd hlk h hlen hR
  case imul => exact pz_t_imul C hX hd hlk h hlen hR
  case iand => exact pz_t_iand C hX hd hlk h hlen hR
  case ior => exact pz_t_ior C hX hd hlk h hlen hR
  case ixor => exact pz_t_ixor C hX hd hlk h hlen hR
  case ishl => exact pz_t_ishl C hX hd hlk h hlen hR
  case ishr => exact pz_t_ishr C hX hd hlk h hlen hR
  case iushr => exact pz_t_iushr C hX hd hlk h hlen hR
  case ladd => exact pz_t_ladd C hX hd hlk h hlen hR
  case lsub => exact pz_t_lsub C hX hd hlk h hlen hR
  case lmul => exact pz_t_lmul C hX hd hlk h hlen hR
  case lor => exact pz_t_lor C hX hd hlk h hlen hR
  case lneg => exact pz_t_lneg C hX hd hlk h hlen hR
  case lshl => exact pz_t_lshl C hX hd hlk h hlen hR
  case lcmp => exact pz_t_lcmp C hX hd hlk h hlen hR
  case i2l => exact pz_t_i2l C hX hd hlk h hlen hR
  case l2i => exact pz_t_l2i C hX hd hlk h hlen hR
  case i2b => exact pz_t_i2b C hX hd hlk h hlen hR
  case i2c => exact pz_t_i2c C hX hd hlk h hlen hR
  case idiv => exact pz_t_idiv C hX hd hlk h hlen hR
  case irem => exact pz_t_irem C hX hd hlk h hlen hR
  case ldiv => exact pz_t_ldiv C hX hd hlk h hlen hR
  case lrem => exact pz_t_lrem C hX hd hlk h hlen hR
  case dup => exact pz_t_dup C hX hd hlk h hlen hR
  case pop => exact pz_t_pop C hX hd hlk h hlen hR
  case dup2 => exact pz_t_dup2 C hX hd hlk h hlen hR
  case iload _ => exact pz_t_iload C hX hd hlk h hlen hR
  case iload_n _ => exact pz_t_iload_n C hX hd hlk h hlen hR
  case lload _ => exact pz_t_lload C hX hd hlk h hlen hR
  case lload_n _ => exact pz_t_lload_n C hX hd hlk h hlen hR
  case aload _ => exact pz_t_aload C hX hd hlk h hlen hR
  case aload_n _ => exact pz_t_aload_n C hX hd hlk h hlen hR
  case istore _ => exact pz_t_istore C hX hd hlk h hlen hR
  case istore_n _ => exact pz_t_istore_n C hX hd hlk h hlen hR
  case lstore _ => exact pz_t_lstore C hX hd hlk h hlen hR
  case lstore_n _ => exact pz_t_lstore_n C hX hd hlk h hlen hR
  case astore _ => exact pz_t_astore C hX hd hlk h hlen hR
  case astore_n _ => exact pz_t_astore_n C hX hd hlk h hlen hR
  case iinc _ _ => exact pz_t_iinc C hX hd hlk h hlen hR
  case iconst _ => exact pz_t_iconst C hX hd hlk h hlen hR
  case bipush _ => exact pz_t_bipush C hX hd hlk h hlen hR
  case sipush _ => exact pz_t_sipush C hX hd hlk h hlen hR
  case lconst _ => exact pz_t_lconst C hX hd hlk h hlen hR
  case ldc _ => exact pz_t_ldc C hX hd hlk h hlen hR
  case ldc_w _ => exact pz_t_ldc_w C hX hd hlk h hlen hR
  case ldc2_w _ => exact pz_t_ldc2_w C hX hd hlk h hlen hR
  case getstatic _ => exact pz_t_getstatic C hX hd hlk h hlen hR
  case getfield _ => exact pz_t_getfield C hX hd hlk h hlen hR
  case putfield _ => exact pz_t_putfield C hX hd hlk h hlen hR
  case iaload => exact pz_t_iaload C hX hd hlk h hlen hR
  case baload => exact pz_t_baload C hX hd hlk h hlen hR
  case laload => exact pz_t_laload C hX hd hlk h hlen hR
  case aaload => exact pz_t_aaload C hX hd hlk h hlen hR
  case iastore => exact pz_t_iastore C hX hd hlk h hlen hR
  case bastore => exact pz_t_bastore C hX hd hlk h hlen hR
  case lastore => exact pz_t_lastore C hX hd hlk h hlen hR
  case arraylength => exact pz_t_arraylength C hX hd hlk h hlen hR
  case aastore => exact pz_t_aastore C hX hd hlk h hlen hR
  case new _ => exact pz_t_new C hX hd hlk h hlen hR
  case newarray _ => exact pz_t_newarray C hX hd hlk h hlen hR
  case anewarray _ => exact pz_t_anewarray C hX hd hlk h hlen hR
  case invokestatic i =>
    have hz : ¬ z = 0 := by
      simp only [pz_ctl] at hctl
      split at hctl
      · cases hctl
      · assumption
    exact pz_t_invokestatic C hX hd hlk h hz hlen hR
  case invokespecial i =>
    have hz : z = 7 := by
      simp only [pz_ctl] at hctl
      split at hctl
      · assumption
      · cases hctl
    exact pz_t_invokespecial C hX hd hlk h hz hlen hR
  all_goals (simp only [pz_stp] at h; cases h)
end PS8
theorem cz_nz : ∀ q ∈ (cz_mv ++ (cz_ms ++ cz_msn)) ++ cz_mt, q.2.2.1 ≠ 0 := by decide +kernel
def pz_nz : pz_O → Prop
  | .inr (.inr q) => q.1 ≠ 0
  | _ => True
def pz_oM : pz_O → pz_M
  | .inl c => c.2.2.2
  | .inr (.inl r) => r.2
  | .inr (.inr q) => q.2.2.2.2.2
/-- what is known of the method of number i -/
def pz_okm (i : Nat) (mi : pz_I) : Prop := mi.2.1 = cz_y i ∧ pz_wd mi ∈ lw_tbl ∧ mi.2.2.2.1 ≤ 41 ∧ (mi.2.1.name = "<init>" → mi.2.2.2.2.1 = none) ∧ cz_own mi.1 = mi.2.1.cls ∧ plainName mi.2.1.cls = true ∧ pz_chm mi = true
theorem pz_nar_c {x : Int32} (h1 : 0 ≤ x) (h2 : x ≤ 65535) : narrow .char (.int x) = .int x := by
  have e1 := Int32.le_iff_toInt_le.mp h1
  have e2 := Int32.le_iff_toInt_le.mp h2
  have h0 : ¬ x < 0 := Int32.not_lt.mpr h1
  obtain ⟨j, hj, rfl⟩ := nI_of h0
  have h65 : (65535 : Int32).toInt = 65535 := rfl
  rw [nI_toInt hj, h65] at e2
  exact (pk_charN (q := j) (by omega)).1
theorem pz_nar_b {x : Int32} (h1 : -128 ≤ x) (h2 : x ≤ 127) : narrow .byte (.int x) = .int x := by
  have e1 := Int32.le_iff_toInt_le.mp h1
  have e2 := Int32.le_iff_toInt_le.mp h2
  have h127 : (127 : Int32).toInt = 127 := rfl
  have h128 : (-128 : Int32).toInt = -128 := rfl
  rw [h127] at e2
  rw [h128] at e1
  show Value.int x.toInt8.toInt32 = .int x
  congr 1
  apply Int32.toInt.inj
  rw [Int8.toInt_toInt32, Int32.toInt_toInt8]
  exact Int.bmod_eq_of_le (by omega) (by omega)
section PS9
variable {p : Program} {l : Launch} {e : Env} {R : Room} {s : State} {m : MethodId} {args : Array Value} {below : List Frame} {meth : Method} {c : Code} {Q : State → Prop} {base : Nat} {ex : Nat → Nat} {fz : Value} {dC : Nat → ClassId} {dI : Nat → Nat → Nat} {cA : Nat → ClassId} {X : pz_X} {own : Nat} {cc : ByteArray} {nL : Nat} {ini : Bool} {c0 s0 pc : Nat} {L : pz_L} {st : List Value} {M : pz_M}
variable {ret : Option FieldType} {mt : List pz_I}
/-- from a return on, with that answer and memory -/
def pz_RH (p : Program) (l : Launch) (e : Env) (R : Room) (s : State) (m : MethodId) (args : Array Value) (below : List Frame) (meth : Method) (c : Code) (Q : State → Prop) (base : Nat) (ex : Nat → Nat) (fz : Value) (dC : Nat → ClassId) (dI : Nat → Nat → Nat) (cA : Nat → ClassId) (nL c0 s0 : Nat) (cc : ByteArray) (ret : Option FieldType) (r : Option Value × pz_M) : Prop :=
  (∀ (pc : Nat) (L : pz_L) (x : Int32), r.1 = some (.int x) → decode cc pc = .ok (.ireturn, 1) → (∃ ty, ret = some ty ∧ narrow ty (.int x) = .int x) → pz_At p l e R s m args below meth c Q base ex fz dC dI cA nL c0 s0 pc L [.int x] r.2) ∧
  (∀ (pc : Nat) (L : pz_L) (x : Int64), r.1 = some (.long x) → decode cc pc = .ok (.lreturn, 1) → ret = some .long → pz_At p l e R s m args below meth c Q base ex fz dC dI cA nL c0 s0 pc L [.long x] r.2) ∧
  (∀ (pc : Nat) (L : pz_L) (x : Nat), r.1 = some (.ref x) → decode cc pc = .ok (.areturn, 1) → ret = some (.object "ByHeart$Mind") → pz_At p l e R s m args below meth c Q base ex fz dC dI cA nL c0 s0 pc L [.ref x] r.2) ∧
  (∀ (pc : Nat) (L : pz_L), r.1 = none → decode cc pc = .ok (.return_, 1) → ret = none → pz_At p l e R s m args below meth c Q base ex fz dC dI cA nL c0 s0 pc L [] r.2)
/-- a call that is met, and goes on behind it -/
def pz_KC (p : Program) (l : Launch) (e : Env) (R : Room) (s : State) (m : MethodId) (args : Array Value) (below : List Frame) (meth : Method) (c : Code) (Q : State → Prop) (base : Nat) (ex : Nat → Nat) (fz : Value) (dC : Nat → ClassId) (dI : Nat → Nat → Nat) (cA : Nat → ClassId) (nL c0 s0 : Nat) (q : Nat × List Value × Nat × pz_L × List Value × pz_M) : Prop :=
  ∃ (r : Option Value × pz_M) (d : Nat) (mj : pz_I), pz_okm q.1 mj ∧ pz_Met l base ex fz dC dI cA mj d q.2.1 q.2.2.2.2.2 r ∧ (q.2.2.2.2.2.2.1.length ≤ r.2.2.1.length ∧ pz_slo q.2.2.2.2.2.2.1 ≤ pz_slo r.2.2.1) ∧ (d + 2 ≤ R.frames ∧ 60 * (d + 1) + 100 ≤ R.locals) ∧ (r.2.2.1.length ≤ R.cells + c0 ∧ pz_slo r.2.2.1 ≤ R.slots + s0) ∧ pz_At p l e R s m args below meth c Q base ex fz dC dI cA nL c0 s0 q.2.2.1 q.2.2.2.1 (r.1.toList ++ q.2.2.2.2.1) r.2
def pz_oK (p : Program) (l : Launch) (e : Env) (R : Room) (s : State) (m : MethodId) (args : Array Value) (below : List Frame) (meth : Method) (c : Code) (Q : State → Prop) (base : Nat) (ex : Nat → Nat) (fz : Value) (dC : Nat → ClassId) (dI : Nat → Nat → Nat) (cA : Nat → ClassId) (nL c0 s0 : Nat) (cc : ByteArray) (ret : Option FieldType) : pz_O → Prop
  | .inl w => w.2.1.length = nL → pz_At p l e R s m args below meth c Q base ex fz dC dI cA nL c0 s0 w.1 w.2.1 w.2.2.1 w.2.2.2
  | .inr (.inl r) => pz_RH p l e R s m args below meth c Q base ex fz dC dI cA nL c0 s0 cc ret r
  | .inr (.inr q) => q.2.2.2.1.length = nL → pz_KC p l e R s m args below meth c Q base ex fz dC dI cA nL c0 s0 q
theorem pz_br_ok {b : Bool} {t f : Nat} {w : pz_O} (h : pz_br b t f L st M = some w) : w = .inl (if b = true then t else f, L, st, M) := by
  unfold pz_br at h
  split at h
  · cases h; rw [if_pos (by assumption)]
  · cases h; rw [if_neg (by assumption)]
theorem pz_ctl_ok (C : pz_Cx p s m args meth c base ex fz dC dI cA X own cc nL ini c0) (hX : M.1 = X) {en : pz_E} (hpc : en.1 = pc) (hchk : pz_chk own cc ret ini en = true) {w : pz_O} (h : pz_ctl en L st M = some (some w)) (hlen : L.length = nL) : pz_oM w = M ∧ pz_nz w ∧ (pz_oK p l e R s m args below meth c Q base ex fz dC dI cA nL c0 s0 cc ret w → pz_At p l e R s m args below meth c Q base ex fz dC dI cA nL c0 s0 pc L st M) := by
  obtain ⟨pc', ins, a, b, z⟩ := en
  simp only at hpc
  subst hpc
  simp only [pz_chk, Bool.and_eq_true, decide_eq_true_eq] at hchk
  obtain ⟨hd, hlk⟩ := hchk
  cases ins
  case goto off =>
    simp only [pz_ctl, Option.some.injEq] at h
    subst h
    exact ⟨rfl, trivial, fun k => pz_k_goto C hd (of_decide_eq_true hlk) (k hlen)⟩
  case ifCond cd off =>
    simp only [pz_ctl, Option.some.injEq] at h
    split at h
    · have := pz_br_ok h
      subst this
      refine ⟨rfl, trivial, fun k => pz_k_if C hd (of_decide_eq_true hlk) (fun g => ?_) (fun g => ?_)⟩
      · have k := k hlen
        simp only [g, if_true] at k
        exact k
      · have k := k hlen
        simp only [g] at k
        exact k
    · cases h
  case if_icmp cd off =>
    simp only [pz_ctl, Option.some.injEq] at h
    split at h
    · have := pz_br_ok h
      subst this
      refine ⟨rfl, trivial, fun k => pz_k_icmp C hd (of_decide_eq_true hlk) (fun g => ?_) (fun g => ?_)⟩
      · have k := k hlen
        simp only [g, if_true] at k
        exact k
      · have k := k hlen
        simp only [g] at k
        exact k
    · cases h
  case tableswitch d lo hi offs =>
    simp only [pz_ctl, Option.some.injEq] at h
    simp only [pz_lk, Bool.and_eq_true, decide_eq_true_eq] at hlk
    split at h
    · cases h
      exact ⟨rfl, trivial, fun k => pz_k_tsw C hd hlk.1.1 hlk.1.2 hlk.2 (k hlen)⟩
    · cases h
  case ireturn =>
    simp only [pz_ctl, Option.some.injEq] at h
    simp only [pz_lk, decide_eq_true_eq] at hlk
    split at h
    · split at h
      · rename_i x hq
        cases h
        refine ⟨rfl, trivial, fun k => k.1 _ L x rfl hd ?_⟩
        rcases hlk with ⟨ha, hr⟩ | ⟨ha, hr⟩ | ⟨ha, hr⟩ | ⟨ha, hr⟩
        · exact ⟨_, hr, rfl⟩
        · refine ⟨_, hr, ?_⟩
          have : x = 0 ∨ x = 1 := by
            rcases hq with g | ⟨-, g⟩ | ⟨g, -⟩ | ⟨g, -⟩
            · omega
            · exact g
            · omega
            · omega
          rcases this with rfl | rfl <;> rfl
        · refine ⟨_, hr, ?_⟩
          have : 0 ≤ x ∧ x ≤ 65535 := by
            rcases hq with g | ⟨g, -⟩ | ⟨-, g⟩ | ⟨g, -⟩
            · omega
            · omega
            · exact g
            · omega
          exact pz_nar_c this.1 this.2
        · refine ⟨_, hr, ?_⟩
          have : -128 ≤ x ∧ x ≤ 127 := by
            rcases hq with g | ⟨g, -⟩ | ⟨g, -⟩ | ⟨-, g⟩
            · omega
            · omega
            · omega
            · exact g
          exact pz_nar_b this.1 this.2
      · cases h
    · cases h
  case lreturn =>
    simp only [pz_ctl, Option.some.injEq] at h
    split at h
    · cases h
      exact ⟨rfl, trivial, fun k => k.2.1 _ L _ rfl hd (of_decide_eq_true hlk)⟩
    · cases h
  case areturn =>
    simp only [pz_ctl, Option.some.injEq] at h
    split at h
    · cases h
      exact ⟨rfl, trivial, fun k => k.2.2.1 _ L _ rfl hd (of_decide_eq_true hlk)⟩
    · cases h
  case return_ =>
    simp only [pz_ctl, Option.some.injEq] at h
    split at h
    · cases h
      exact ⟨rfl, trivial, fun k => k.2.2.2 _ L rfl hd (of_decide_eq_true hlk)⟩
    · cases h
  case invokestatic i =>
    simp only [pz_ctl] at h
    simp only [pz_lk] at hlk
    split at h
    · rename_i hz0
      subst hz0
      rw [if_pos rfl] at hlk
      have hlk := of_decide_eq_true hlk
      simp only [Option.some.injEq, pz_inv, if_true] at h
      split at h
      · rename_i hq
        cases h
        refine ⟨rfl, cz_nz _ (List.mem_append.mpr (Or.inr hlk)), fun k => ?_⟩
        obtain ⟨r, d, mj, hok, hMet, hmono, hRr, hRc, kk⟩ := k hlen
        have := pz_k_cS (q := 0) C hX hok.1 hok.2.1 hok.2.2.1 hMet hq.2 hmono hRr hRc hlk (by simp; omega) hd kk
        simp only [List.reverse_reverse, List.take_append_drop] at this
        exact this
      · cases h
    · cases h
  case invokevirtual i =>
    simp only [pz_ctl, Option.some.injEq] at h
    have hlk := of_decide_eq_true hlk
    have hc := (cz_mv_c _ hlk).2
    simp only at hc
    simp only [pz_inv] at h
    rw [if_neg (by omega)] at h
    split at h
    · rename_i v r0 hdr
      split at h
      · rename_i hq
        cases h
        refine ⟨rfl, cz_nz _ (List.mem_append.mpr (Or.inl (List.mem_append.mpr (Or.inl hlk)))), fun k => ?_⟩
        obtain ⟨r, d, mj, hok, hMet, hmono, hRr, hRc, kk⟩ := k hlen
        have hb : b ≤ st.length := by
          have := congrArg List.length hdr
          simp at this
          omega
        have hst : st = (st.take b).reverse.reverse ++ v :: r0 := by
          rw [List.reverse_reverse, ← hdr, List.take_append_drop]
        have hl : (st.take b).reverse.length = b := by simp; omega
        rcases hc with hc | hc
        · obtain ⟨ci, rfl⟩ : ∃ ci, z = 10 + ci := ⟨z - 10, by omega⟩
          have hv := hq.1
          rw [Nat.add_sub_cancel_left] at hv
          cases v <;> simp only [pz_rc, decide_eq_true_eq, Bool.false_eq_true] at hv
          · rw [hst]
            exact pz_k_cV C hX hok.1 hok.2.1 hok.2.2.1 hMet hq.2 hmono hRr hRc hlk hv.2 hv.1 hl hd kk
          · exact absurd hv.1 (by omega)
        · subst hc
          have hv := hq.1
          cases v <;> simp only [pz_rc, decide_eq_true_eq, Bool.false_eq_true] at hv
          · exact absurd hv.2 (by omega)
          · rw [hst]
            exact pz_k_cE C hX hok.1 hok.2.1 hok.2.2.1 hMet hq.2 hmono hRr hRc hlk hv.2 hl hd kk
      · cases h
    · cases h
  case invokespecial i =>
    simp only [pz_ctl] at h
    simp only [pz_lk] at hlk
    split at h
    · cases h
    · rename_i hz
      rw [if_neg hz] at hlk
      simp only [Bool.or_eq_true, decide_eq_true_eq] at hlk
      have hc := cz_ms_c _ (List.mem_append.mpr hlk)
      simp only at hc
      simp only [Option.some.injEq, pz_inv] at h
      rw [if_neg (by omega)] at h
      split at h
      · rename_i v r0 hdr
        split at h
        · rename_i hq
          cases h
          refine ⟨rfl, cz_nz _ (List.mem_append.mpr (Or.inl (List.mem_append.mpr (Or.inr (List.mem_append.mpr hlk))))), fun k => ?_⟩
          obtain ⟨r, d, mj, hok, hMet, hmono, hRr, hRc, kk⟩ := k hlen
          have hb : b ≤ st.length := by
            have := congrArg List.length hdr
            simp at this
            omega
          have hst : st = (st.take b).reverse.reverse ++ v :: r0 := by
            rw [List.reverse_reverse, ← hdr, List.take_append_drop]
          have hl : (st.take b).reverse.length = b := by simp; omega
          have hret := hok.2.2.2.1 (by rw [hok.1]; exact hc.2.2)
          have hv := hq.1
          cases v <;> simp only [pz_rc, decide_eq_true_eq, Bool.false_eq_true] at hv
          · rw [hst]
            rcases hlk with hlk | hlk
            · exact pz_k_cI C hX hok.1 hok.2.1 hok.2.2.1 hMet hq.2 hmono hRr hRc hlk hret hl hd kk
            · exact pz_k_cN C hX hok.1 hok.2.1 hok.2.2.1 hMet hq.2 hmono hRr hRc hlk hret hl hd kk
          · exact absurd hv.1 (by omega)
        · cases h
      · cases h
  all_goals (simp only [pz_ctl] at h; cases h)
end PS9
