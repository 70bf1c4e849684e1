section PS6
variable {p : Program} {l : Launch} {e : Env} {R : Room} {s : State} {m : MethodId} {args : Array Value} {below : List Frame} {meth : Method} {c : Code} {Q : State → Prop} {base : Nat} {ex : Nat → Nat} {fz : Value} {dC : Nat → ClassId} {dI : Nat → Nat → Nat} {cA : Nat → ClassId} {X : pz_X} {own : Nat} {cc : ByteArray} {nL : Nat} {ini : Bool} {c0 s0 pc : Nat} {L : pz_L} {st : List Value} {M : pz_M}
theorem pz_k_cS (C : pz_Cx p s m args meth c base ex fz dC dI cA X own cc nL ini c0) (hX : M.1 = X) {i j b q : Nat} {mj : pz_I} {vs rest : List Value} {r : Option Value × pz_M} {d : Nat} (hmj : mj.2.1 = cz_y j) (hcode : pz_wd mj ∈ lw_tbl) (hmx : mj.2.2.2.1 ≤ 41) (hMet : pz_Met l base ex fz dC dI cA mj d vs M r) (hcat : (rest.map fun v => v.category).sum ≤ 8) (hmono : M.2.1.length ≤ r.2.2.1.length ∧ pz_slo M.2.1 ≤ pz_slo r.2.2.1) (hR : d + 2 ≤ R.frames ∧ 60 * (d + 1) + 100 ≤ R.locals) (hRc : r.2.2.1.length ≤ R.cells + c0 ∧ pz_slo r.2.2.1 ≤ R.slots + s0) (hw : (own, i, j, b, 0) ∈ cz_mt) (hlen : vs.length = b) (hd : decode cc pc = .ok (.invokestatic i, 3)) (kk : pz_At p l e R s m args below meth c Q base ex fz dC dI cA nL c0 s0 (pc + 3) L (r.1.toList ++ rest) r.2) : pz_At p l e R s m args below meth c Q base ex fz dC dI cA nL c0 s0 pc L (vs.reverse ++ rest) M := by
  intro H locs cells slots ls hL hW hS hc hs T hT Y
  have hz := pz_size C.2.2.2.2.2.2.1 hT Y hW hS hc
  have hpre := pz_Pc.pre C hX hz hW hS (vs)
  have hcat' : ((rest.map (pz_rv base ex fz)).map fun v => v.category).sum ≤ 8 := by rw [pz_rv_cats C.2.2.2.2.2.1.2.1]; exact hcat
  have hf : cells + (r.2.2.1.length - M.2.1.length) ≤ R.cells ∧ slots + (pz_slo r.2.2.1 - pz_slo M.2.1) ≤ R.slots := by omega
  have hrun : va_Run p l e R s m args below meth c H locs cells slots (r.2.2.1.length - M.2.1.length) (pz_slo r.2.2.1 - pz_slo M.2.1) (F0 m pc ls ((vs.reverse ++ rest).map (pz_rv base ex fz))) (rest.map (pz_rv base ex fz)) (pz_Qc base ex fz dC dI cA r ((vs.map (pz_rv base ex fz)).toArray)) (pz_A base) := va_runS (As := vs.map (pz_rv base ex fz)) (rest := rest.map (pz_rv base ex fz)) ⟨C.1, C.2.1, C.2.2.1, C.2.2.2.1, C.2.2.2.2.1⟩ hMet ⟨callB_of (ws' := gw_tbl) b C.2.2.2.2.1 (gw_good hcode) rfl rfl rfl (by rw [hmj]; exact C.2.2.2.2.1 _ (gw_in (cz_mt_ii _ hw) rfl)) (by rw [hmj]; exact C.2.2.2.2.1 _ (gw_in (cz_mt_ok _ hw) rfl)) (by rw [hmj]; exact cz_mt_d _ hw) ⟨by show d + 1 + 1 ≤ _; omega, by show 8 + (mj.2.2.2.1 + 11) + (60 * d + 100) ≤ _; omega⟩, by rw [hmj]; exact C.2.2.2.2.1 _ (gw_in (cz_mt_st _ hw) rfl)⟩ ⟨pz_Pc.blind, hpre⟩ rfl (by simpa using hlen) hL.1 (by simp [List.map_reverse]) (lv_room hcat') hd hf
  refine pz_run_call hrun hS (fun H1 locs1 hW1 hS1 => ?_) T hT Y
  · have e : (r.1.map (pz_rv base ex fz)).toList ++ rest.map (pz_rv base ex fz) = (r.1.toList ++ rest).map (pz_rv base ex fz) := by
      rw [List.map_append]
      cases r.1 <;> rfl
    rw [e]
    exact kk H1 locs1 _ _ ls hL hW1 hS1 (by omega) (by omega)
theorem pz_k_cV (C : pz_Cx p s m args meth c base ex fz dC dI cA X own cc nL ini c0) (hX : M.1 = X) {i j b q : Nat} {mj : pz_I} {vs rest : List Value} {r : Option Value × pz_M} {d : Nat} (hmj : mj.2.1 = cz_y j) (hcode : pz_wd mj ∈ lw_tbl) (hmx : mj.2.2.2.1 ≤ 41) (hMet : pz_Met l base ex fz dC dI cA mj d (.ref q :: vs) M r) (hcat : (rest.map fun v => v.category).sum ≤ 8) (hmono : M.2.1.length ≤ r.2.2.1.length ∧ pz_slo M.2.1 ≤ pz_slo r.2.2.1) (hR : d + 2 ≤ R.frames ∧ 60 * (d + 1) + 100 ≤ R.locals) (hRc : r.2.2.1.length ≤ R.cells + c0 ∧ pz_slo r.2.2.1 ≤ R.slots + s0) {ci : Nat} (hw : (own, i, j, b, 10 + ci) ∈ cz_mv) (hci : ci < 12) (hq : M.2.1[q]? = some (.inl ci)) (hlen : vs.length = b) (hd : decode cc pc = .ok (.invokevirtual i, 3)) (kk : pz_At p l e R s m args below meth c Q base ex fz dC dI cA nL c0 s0 (pc + 3) L (r.1.toList ++ rest) r.2) : pz_At p l e R s m args below meth c Q base ex fz dC dI cA nL c0 s0 pc L (vs.reverse ++ .ref q :: rest) M := by
  intro H locs cells slots ls hL hW hS hc hs T hT Y
  have hz := pz_size C.2.2.2.2.2.2.1 hT Y hW hS hc
  have hpre := pz_Pc.pre C hX hz hW hS (.ref q :: vs)
  have hcat' : ((rest.map (pz_rv base ex fz)).map fun v => v.category).sum ≤ 8 := by rw [pz_rv_cats C.2.2.2.2.2.1.2.1]; exact hcat
  have hf : cells + (r.2.2.1.length - M.2.1.length) ≤ R.cells ∧ slots + (pz_slo r.2.2.1 - pz_slo M.2.1) ≤ R.slots := by omega
  have hrun : va_Run p l e R s m args below meth c H locs cells slots (r.2.2.1.length - M.2.1.length) (pz_slo r.2.2.1 - pz_slo M.2.1) (F0 m pc ls ((vs.reverse ++ .ref q :: rest).map (pz_rv base ex fz))) (rest.map (pz_rv base ex fz)) (pz_Qc base ex fz dC dI cA r ((Value.ref (base + q) :: vs.map (pz_rv base ex fz)).toArray)) (pz_A base) := va_runV (C := cz_own ci) (b := base + q) (As := vs.map (pz_rv base ex fz)) (rest := rest.map (pz_rv base ex fz)) ⟨C.1, C.2.1, C.2.2.1, C.2.2.2.1, C.2.2.2.2.1⟩ hMet ⟨callB_of (ws' := gw_tbl) b C.2.2.2.2.1 (gw_good hcode) rfl rfl rfl (by rw [hmj]; exact C.2.2.2.2.1 _ (gw_in (cz_mv_ii _ hw) rfl)) (by rw [hmj]; exact C.2.2.2.2.1 _ (gw_in (cz_mv_ok _ hw) rfl)) (by rw [hmj]; exact cz_mv_d _ hw) ⟨by show d + 1 + 1 ≤ _; omega, by show 8 + (mj.2.2.2.1 + 11) + (60 * d + 100) ≤ _; omega⟩, by rw [hmj]; exact C.2.2.2.2.1 _ (gw_in (cz_mv_im _ hw) rfl), by
      have e1 := (cz_mv_c _ hw).1
      have e2 : cz_rn (10 + ci) = cz_own ci := by unfold cz_rn; rw [if_neg (by omega), Nat.add_sub_cancel_left]
      have e3 := C.2.2.2.2.1 _ (gw_in (cz_mv_se _ hw) rfl)
      rw [hmj]
      simp only at e1 e3
      rw [e1, e2] at e3
      exact e3⟩ ⟨pz_Pc.blind, va_recv C.2.2.2.2.2.1.1 hW (cz_cl_at hci) (pz_ws_at hq), hpre⟩ rfl (by simpa using hlen) hL.1 (by simp [List.map_reverse, pz_rv]) (lv_room hcat') hd hf
  refine pz_run_call hrun hS (fun H1 locs1 hW1 hS1 => ?_) T hT Y
  · have e : (r.1.map (pz_rv base ex fz)).toList ++ rest.map (pz_rv base ex fz) = (r.1.toList ++ rest).map (pz_rv base ex fz) := by
      rw [List.map_append]
      cases r.1 <;> rfl
    rw [e]
    exact kk H1 locs1 _ _ ls hL hW1 hS1 (by omega) (by omega)
theorem pz_k_cI (C : pz_Cx p s m args meth c base ex fz dC dI cA X own cc nL ini c0) (hX : M.1 = X) {i j b q q2 : Nat} {mj : pz_I} {vs rest : List Value} {r : Option Value × pz_M} {d : Nat} (hmj : mj.2.1 = cz_y j) (hcode : pz_wd mj ∈ lw_tbl) (hmx : mj.2.2.2.1 ≤ 41) (hMet : pz_Met l base ex fz dC dI cA mj d (.ref q :: vs) M r) (hcat : (rest.map fun v => v.category).sum ≤ 8) (hmono : M.2.1.length ≤ r.2.2.1.length ∧ pz_slo M.2.1 ≤ pz_slo r.2.2.1) (hR : d + 2 ≤ R.frames ∧ 60 * (d + 1) + 100 ≤ R.locals) (hRc : r.2.2.1.length ≤ R.cells + c0 ∧ pz_slo r.2.2.1 ≤ R.slots + s0) (hw : (own, i, j, b, q2) ∈ cz_ms) (hret : mj.2.2.2.2.1 = none) (hlen : vs.length = b) (hd : decode cc pc = .ok (.invokespecial i, 3)) (kk : pz_At p l e R s m args below meth c Q base ex fz dC dI cA nL c0 s0 (pc + 3) L (r.1.toList ++ rest) r.2) : pz_At p l e R s m args below meth c Q base ex fz dC dI cA nL c0 s0 pc L (vs.reverse ++ .ref q :: rest) M := by
  intro H locs cells slots ls hL hW hS hc hs T hT Y
  have hz := pz_size C.2.2.2.2.2.2.1 hT Y hW hS hc
  have hpre := pz_Pc.pre C hX hz hW hS (.ref q :: vs)
  have hcat' : ((rest.map (pz_rv base ex fz)).map fun v => v.category).sum ≤ 8 := by rw [pz_rv_cats C.2.2.2.2.2.1.2.1]; exact hcat
  have hf : cells + (r.2.2.1.length - M.2.1.length) ≤ R.cells ∧ slots + (pz_slo r.2.2.1 - pz_slo M.2.1) ≤ R.slots := by omega
  have hB0 : CallB R s args (cz_own own) i mj.2.1 mj.2.2.1 mj.2.2.2.1 mj.2.2.2.2.1 (pz_wd mj :: gw_tbl) (pz_room d (r.2.2.1.length - M.2.1.length) (pz_slo r.2.2.1 - pz_slo M.2.1)) (r.2.2.1.length - M.2.1.length) (pz_slo r.2.2.1 - pz_slo M.2.1) b := callB_of (ws' := gw_tbl) b C.2.2.2.2.1 (gw_good hcode) rfl rfl rfl (by rw [hmj]; exact C.2.2.2.2.1 _ (gw_in (cz_ms_ii _ hw) rfl)) (by rw [hmj]; exact C.2.2.2.2.1 _ (gw_in (cz_ms_ok _ hw) rfl)) (by rw [hmj]; exact cz_ms_d _ hw) ⟨by show d + 1 + 1 ≤ _; omega, by show 8 + (mj.2.2.2.1 + 11) + (60 * d + 100) ≤ _; omega⟩
  rw [hret] at hB0
  have hrun : va_Run p l e R s m args below meth c H locs cells slots (r.2.2.1.length - M.2.1.length) (pz_slo r.2.2.1 - pz_slo M.2.1) (F0 m pc ls ((vs.reverse ++ .ref q :: rest).map (pz_rv base ex fz))) (rest.map (pz_rv base ex fz)) (pz_Qc base ex fz dC dI cA r ((Value.ref (base + q) :: vs.map (pz_rv base ex fz)).toArray)) (pz_A base) := va_runI (b := base + q) (As := vs.map (pz_rv base ex fz)) (rest := rest.map (pz_rv base ex fz)) ⟨C.1, C.2.1, C.2.2.1, C.2.2.2.1, C.2.2.2.2.1⟩ hMet ⟨hB0, by rw [hmj]; exact (cz_ms_c _ (List.mem_append.mpr (Or.inl hw))).2.2, by rw [hmj]; exact C.2.2.2.2.1 _ (gw_in (cz_ms_im _ hw) rfl)⟩ ⟨pz_Pc.blind, hpre⟩ rfl (by simpa using hlen) hL.1 (by simp [List.map_reverse, pz_rv]) (lv_room hcat') hd hf
  refine pz_run_call hrun hS (fun H1 locs1 hW1 hS1 => ?_) T hT Y
  · have e : (r.1.map (pz_rv base ex fz)).toList ++ rest.map (pz_rv base ex fz) = (r.1.toList ++ rest).map (pz_rv base ex fz) := by
      rw [List.map_append]
      cases r.1 <;> rfl
    rw [e]
    exact kk H1 locs1 _ _ ls hL hW1 hS1 (by omega) (by omega)
theorem pz_k_cN (C : pz_Cx p s m args meth c base ex fz dC dI cA X own cc nL ini c0) (hX : M.1 = X) {i j b q q2 : Nat} {mj : pz_I} {vs rest : List Value} {r : Option Value × pz_M} {d : Nat} (hmj : mj.2.1 = cz_y j) (hcode : pz_wd mj ∈ lw_tbl) (hmx : mj.2.2.2.1 ≤ 41) (hMet : pz_Met l base ex fz dC dI cA mj d (.ref q :: vs) M r) (hcat : (rest.map fun v => v.category).sum ≤ 8) (hmono : M.2.1.length ≤ r.2.2.1.length ∧ pz_slo M.2.1 ≤ pz_slo r.2.2.1) (hR : d + 2 ≤ R.frames ∧ 60 * (d + 1) + 100 ≤ R.locals) (hRc : r.2.2.1.length ≤ R.cells + c0 ∧ pz_slo r.2.2.1 ≤ R.slots + s0) (hw : (own, i, j, b, q2) ∈ cz_msn) (hret : mj.2.2.2.2.1 = none) (hlen : vs.length = b) (hd : decode cc pc = .ok (.invokespecial i, 3)) (kk : pz_At p l e R s m args below meth c Q base ex fz dC dI cA nL c0 s0 (pc + 3) L (r.1.toList ++ rest) r.2) : pz_At p l e R s m args below meth c Q base ex fz dC dI cA nL c0 s0 pc L (vs.reverse ++ .ref q :: rest) M := by
  intro H locs cells slots ls hL hW hS hc hs T hT Y
  have hz := pz_size C.2.2.2.2.2.2.1 hT Y hW hS hc
  have hpre := pz_Pc.pre C hX hz hW hS (.ref q :: vs)
  have hcat' : ((rest.map (pz_rv base ex fz)).map fun v => v.category).sum ≤ 8 := by rw [pz_rv_cats C.2.2.2.2.2.1.2.1]; exact hcat
  have hf : cells + (r.2.2.1.length - M.2.1.length) ≤ R.cells ∧ slots + (pz_slo r.2.2.1 - pz_slo M.2.1) ≤ R.slots := by omega
  have hB0 : va_CN R s args (cz_own own) i mj.2.1 "ByHeart" mj.2.2.1 mj.2.2.2.1 mj.2.2.2.2.1 (pz_wd mj :: gw_tbl) (pz_room d (r.2.2.1.length - M.2.1.length) (pz_slo r.2.2.1 - pz_slo M.2.1)) (r.2.2.1.length - M.2.1.length) (pz_slo r.2.2.1 - pz_slo M.2.1) b := va_cnB (ws' := gw_tbl) (host := "ByHeart") b C.2.2.2.2.1 (gw_good hcode) rfl rfl rfl (by rw [hmj]; exact C.2.2.2.2.2.1.2.2.2.2.2.2.2.1 _ hw) (by rw [hmj]; exact C.2.2.2.2.1 _ (gw_in (cz_msn_ii _ hw) rfl)) (by rw [hmj]; exact cz_msn_d _ hw) ⟨by show d + 1 + 1 ≤ _; omega, by show 8 + (mj.2.2.2.1 + 11) + (60 * d + 100) ≤ _; omega⟩
  rw [hret] at hB0
  have hrun : va_Run p l e R s m args below meth c H locs cells slots (r.2.2.1.length - M.2.1.length) (pz_slo r.2.2.1 - pz_slo M.2.1) (F0 m pc ls ((vs.reverse ++ .ref q :: rest).map (pz_rv base ex fz))) (rest.map (pz_rv base ex fz)) (pz_Qc base ex fz dC dI cA r ((Value.ref (base + q) :: vs.map (pz_rv base ex fz)).toArray)) (pz_A base) := va_runIN (host := "ByHeart") (b := base + q) (As := vs.map (pz_rv base ex fz)) (rest := rest.map (pz_rv base ex fz)) ⟨C.1, C.2.1, C.2.2.1, C.2.2.2.1, C.2.2.2.2.1⟩ hMet ⟨hB0, by rw [hmj]; exact (cz_ms_c _ (List.mem_append.mpr (Or.inr hw))).2.2, by rw [hmj]; exact C.2.2.2.2.1 _ (gw_in (cz_msn_im _ hw) rfl)⟩ ⟨pz_Pc.blind, hpre⟩ rfl (by simpa using hlen) hL.1 (by simp [List.map_reverse, pz_rv]) (lv_room hcat') hd hf
  refine pz_run_call hrun hS (fun H1 locs1 hW1 hS1 => ?_) T hT Y
  · have e : (r.1.map (pz_rv base ex fz)).toList ++ rest.map (pz_rv base ex fz) = (r.1.toList ++ rest).map (pz_rv base ex fz) := by
      rw [List.map_append]
      cases r.1 <;> rfl
    rw [e]
    exact kk H1 locs1 _ _ ls hL hW1 hS1 (by omega) (by omega)
theorem pz_k_cE (C : pz_Cx p s m args meth c base ex fz dC dI cA X own cc nL ini c0) (hX : M.1 = X) {i j b q : Nat} {mj : pz_I} {vs rest : List Value} {r : Option Value × pz_M} {d : Nat} (hmj : mj.2.1 = cz_y j) (hcode : pz_wd mj ∈ lw_tbl) (hmx : mj.2.2.2.1 ≤ 41) (hMet : pz_Met l base ex fz dC dI cA mj d (.retAddr q :: vs) M r) (hcat : (rest.map fun v => v.category).sum ≤ 8) (hmono : M.2.1.length ≤ r.2.2.1.length ∧ pz_slo M.2.1 ≤ pz_slo r.2.2.1) (hR : d + 2 ≤ R.frames ∧ 60 * (d + 1) + 100 ≤ R.locals) (hRc : r.2.2.1.length ≤ R.cells + c0 ∧ pz_slo r.2.2.1 ≤ R.slots + s0) (hw : (own, i, j, b, 110) ∈ cz_mv) (hq : 4 ≤ q ∧ q < 8) (hlen : vs.length = b) (hd : decode cc pc = .ok (.invokevirtual i, 3)) (kk : pz_At p l e R s m args below meth c Q base ex fz dC dI cA nL c0 s0 (pc + 3) L (r.1.toList ++ rest) r.2) : pz_At p l e R s m args below meth c Q base ex fz dC dI cA nL c0 s0 pc L (vs.reverse ++ .retAddr q :: rest) M := by
  intro H locs cells slots ls hL hW hS hc hs T hT Y
  have hz := pz_size C.2.2.2.2.2.2.1 hT Y hW hS hc
  have hpre := pz_Pc.pre C hX hz hW hS (.retAddr q :: vs)
  have hcat' : ((rest.map (pz_rv base ex fz)).map fun v => v.category).sum ≤ 8 := by rw [pz_rv_cats C.2.2.2.2.2.1.2.1]; exact hcat
  have hf : cells + (r.2.2.1.length - M.2.1.length) ≤ R.cells ∧ slots + (pz_slo r.2.2.1 - pz_slo M.2.1) ≤ R.slots := by omega
  have hrecv : ∃ cellB : Cell, H[ex q]? = some cellB ∧ cellB.vm.isStatics = false ∧ s.vm.findClass "java/lang/String" = some cellB.cls := by
    obtain ⟨cell, g1, g2, g3, g4⟩ := (C.2.2.2.2.2.1.2.2.2.1 q hq.1 hq.2).1
    exact ⟨cell, by rw [hS.2.1 _ (Array.getElem?_eq_some_iff.mp g1).1 g4]; exact g1, g2, g3⟩
  have hrun : va_Run p l e R s m args below meth c H locs cells slots (r.2.2.1.length - M.2.1.length) (pz_slo r.2.2.1 - pz_slo M.2.1) (F0 m pc ls ((vs.reverse ++ .retAddr q :: rest).map (pz_rv base ex fz))) (rest.map (pz_rv base ex fz)) (pz_Qc base ex fz dC dI cA r ((Value.ref (ex q) :: vs.map (pz_rv base ex fz)).toArray)) (pz_A base) := va_runV (C := "java/lang/String") (b := ex q) (As := vs.map (pz_rv base ex fz)) (rest := rest.map (pz_rv base ex fz)) ⟨C.1, C.2.1, C.2.2.1, C.2.2.2.1, C.2.2.2.2.1⟩ hMet ⟨callB_of (ws' := gw_tbl) b C.2.2.2.2.1 (gw_good hcode) rfl rfl rfl (by rw [hmj]; exact C.2.2.2.2.1 _ (gw_in (cz_mv_ii _ hw) rfl)) (by rw [hmj]; exact C.2.2.2.2.1 _ (gw_in (cz_mv_ok _ hw) rfl)) (by rw [hmj]; exact cz_mv_d _ hw) ⟨by show d + 1 + 1 ≤ _; omega, by show 8 + (mj.2.2.2.1 + 11) + (60 * d + 100) ≤ _; omega⟩, by rw [hmj]; exact C.2.2.2.2.1 _ (gw_in (cz_mv_im _ hw) rfl), by
      have e1 := (cz_mv_c _ hw).1
      have e2 : cz_rn 110 = "java/lang/String" := rfl
      have e3 := C.2.2.2.2.1 _ (gw_in (cz_mv_se _ hw) rfl)
      rw [hmj]
      simp only at e1 e3
      rw [e1, e2] at e3
      exact e3⟩ ⟨pz_Pc.blind, hrecv, hpre⟩ rfl (by simpa using hlen) hL.1 (by simp [List.map_reverse, pz_rv]) (lv_room hcat') hd hf
  refine pz_run_call hrun hS (fun H1 locs1 hW1 hS1 => ?_) T hT Y
  · have e : (r.1.map (pz_rv base ex fz)).toList ++ rest.map (pz_rv base ex fz) = (r.1.toList ++ rest).map (pz_rv base ex fz) := by
      rw [List.map_append]
      cases r.1 <;> rfl
    rw [e]
    exact kk H1 locs1 _ _ ls hL hW1 hS1 (by omega) (by omega)
end PS6
