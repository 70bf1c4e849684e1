section PS3
variable {p : Program} {l : Launch} {e : Env} {R : Room} {s : State} {m : MethodId} {args : Array Value} {below : List Frame} {meth : Method} {c : Code} {Q : State → Prop} {base : Nat} {ex : Nat → Nat} {fz : Value} {dC : Nat → ClassId} {dI : Nat → Nat → Nat} {cA : Nat → ClassId} {X : pz_X} {own : Nat} {cc : ByteArray} {nL : Nat} {ini : Bool} {c0 s0 pc : Nat} {L : pz_L} {st : List Value} {M : pz_M}
theorem pz_nu_ws (d : pz_D) : pz_ws base ex fz cA (pz_nu M d) = pz_ws base ex fz cA M ++ [(base + M.2.1.length, pz_ent base ex fz cA (pz_nu M d) M.2.1.length d)] := by
  have hlen : (pz_ws base ex fz cA M).length = M.2.1.length := by simp [pz_ws]
  refine List.ext_getElem? (fun j => ?_)
  rcases Nat.lt_trichotomy j M.2.1.length with hj | hj | hj
  · rw [List.getElem?_append_left (by rw [hlen]; exact hj)]
    have h1 : (pz_nu M d).2.1[j]? = some M.2.1[j] := by
      show (M.2.1 ++ [d])[j]? = _
      rw [List.getElem?_append_left hj, List.getElem?_eq_getElem hj]
    rw [pz_ws_at h1, pz_ws_at (List.getElem?_eq_getElem hj)]
    rw [pz_ent_cong (M := M) (M' := pz_nu M d) (pz_row_ne (by omega)) (pz_row_ne (by omega)) (pz_row_ne (by omega))]
  · subst hj
    have h1 : (pz_nu M d).2.1[M.2.1.length]? = some d := by
      show (M.2.1 ++ [d])[M.2.1.length]? = _
      rw [List.getElem?_append_right (Nat.le_refl _), Nat.sub_self]
      rfl
    rw [pz_ws_at h1, List.getElem?_append_right (by rw [hlen]; exact Nat.le_refl _), hlen, Nat.sub_self]
    rfl
  · rw [List.getElem?_eq_none (by simp [pz_ws, pz_nu]; omega), List.getElem?_eq_none (by simp [hlen]; omega)]
theorem pz_newq {T : State} {H1 : Heap} {locs : List Loc} {cells sl q : Nat} {w : va_E} (hsz : s.heap.size = base + c0) (hP1 : va_P (dC, dI) cz_cl (pz_ws base ex fz cA M ++ [(q, w)]) H1) (hD1 : va_D (pz_A base) (pz_ws base ex fz cA M ++ [(q, w)])) (hT : T.heap = H1) (Y : Stand p l e R s m args below meth c T locs (cells + 1) sl) (hc : cells + c0 = M.2.1.length) : q = base + M.2.1.length := by
  have hlen : (pz_ws base ex fz cA M).length = M.2.1.length := by simp [pz_ws]
  have hl : (pz_ws base ex fz cA M ++ [(q, w)])[M.2.1.length]? = some (q, w) := by
    rw [List.getElem?_append_right (by rw [hlen]; exact Nat.le_refl _), hlen, Nat.sub_self]
    rfl
  have h1 := Y.heapSize
  rw [hT] at h1
  have h2 := (hP1 _ _ hl).lt
  have h3 : base ≤ q := hD1.2 _ _ hl
  simp only at h2
  rcases Nat.lt_or_ge q (base + M.2.1.length) with hq | hq
  · have hi : q - base < M.2.1.length := by omega
    have h4 : (pz_ws base ex fz cA M ++ [(q, w)])[q - base]? = some (base + (q - base), pz_ent base ex fz cA M (q - base) M.2.1[q - base]) := by
      rw [List.getElem?_append_left (by rw [hlen]; exact hi)]
      exact pz_ws_at (List.getElem?_eq_getElem hi)
    have := hD1.1 _ _ _ _ h4 hl (by simp only; omega)
    omega
  · omega
theorem pz_slo_app (l : List pz_D) (d : pz_D) : pz_slo (l ++ [d]) = pz_slo l + pz_sz d := by simp [pz_slo]
theorem pz_k_new (C : pz_Cx p s m args meth c base ex fz dC dI cA X own cc nL ini c0) {i ci : Nat} (hw : (own, i, ci) ∈ cz_nw) (hd : decode cc pc = .ok (.new i, 3)) (hRc : (pz_nu M (.inl ci)).2.1.length ≤ R.cells + c0) (hRs : pz_slo (pz_nu M (.inl ci)).2.1 ≤ R.slots + s0) (kk : pz_At p l e R s m args below meth c Q base ex fz dC dI cA nL c0 s0 (pc + 3) L (.ref M.2.1.length :: st) (pz_nu M (.inl ci))) : pz_At p l e R s m args below meth c Q base ex fz dC dI cA nL c0 s0 pc L st M := by
  intro H locs cells slots ls hL hW hS hc hs
  have h1 : ci < 12 := cz_nw_lt _ hw
  have hlen : (pz_nu M (.inl ci)).2.1.length = M.2.1.length + 1 := by simp [pz_nu]
  have hslo : pz_slo (pz_nu M (.inl ci)).2.1 = pz_slo M.2.1 + cz_N ci := pz_slo_app _ _
  rw [hlen] at hRc
  rw [hslo] at hRs
  refine va_new (ci := ci) (fs := pz_fs base ex fz (pz_nu M (.inl ci)) M.2.1.length ci) (C := cz_own ci) (T := cz_T ci) (N := cz_N ci) C.1 C.2.1 C.2.2.2.2.1 (cz_inT h1) (cz_yt ci) (cz_okT h1) C.2.2.2.1 (C.2.2.2.2.1 _ (gw_in (cz_nw_ok _ hw) rfl)) (C.2.2.2.2.1 _ (gw_in (cz_nw_in _ hw) rfl)) (C.2.2.2.2.1 _ (gw_in (cz_nw_ii _ hw) rfl)) C.2.2.2.2.2.1.1 hW pz_D_ws hS (fun q hq => by have := C.2.2.2.2.2.2.1; show base ≤ q; omega) (cz_cl_at h1) ?_ (by omega) (by omega) hd ?_
  · intro j hj
    have hv : vp_V (pz_fs base ex fz (pz_nu M (.inl ci)) M.2.1.length ci) j = pz_rv base ex fz (pz_fv (cz_kd ci j) M.2.1.length j (pz_nu M (.inl ci))) := by
      unfold vp_V
      rw [List.getD_eq_getElem?_getD, pz_fs_at hj]
      rfl
    rw [hv]
    unfold cz_kd
    rcases cz_nk ci h1 j hj with ht | ht | ht | ht
    · rw [ht]; simp only [pz_kd, pz_fv, pz_nu, pz_row_eq]; rfl
    · rw [ht]; simp only [pz_kd, pz_fv, pz_nu, pz_row_eq]; rfl
    · rw [ht]; simp only [pz_kd, pz_fv, pz_nu, pz_row_eq]; rfl
    · rw [ht]
      simp only [pz_fv, pz_nu, pz_row_eq]
      cases hq : cz_yt ci j <;> rw [hq] at ht <;> first | rfl | (simp [pz_kd] at ht)
  · intro q H1 hP1 hD1 hS1 T hT Y
    have hq := pz_newq C.2.2.2.2.2.2.1 hP1 hD1 hT Y hc
    subst hq
    exact kk H1 locs (cells + 1) (slots + cz_N ci) ls hL (by unfold pz_W; rw [pz_nu_ws]; exact hP1) hS1 (by rw [hlen]; omega) (by rw [hslo]; omega) T hT Y
theorem pz_k_newai (C : pz_Cx p s m args meth c base ex fz dC dI cA X own cc nL ini c0) {n : Int32} (hn : ¬ n < 0) (hN : n.toNatClampNeg ≤ 100000) (hd : decode cc pc = .ok (.newarray .int, 2)) (hRc : (pz_nu M (.inr (0, n.toNatClampNeg))).2.1.length ≤ R.cells + c0) (hRs : pz_slo (pz_nu M (.inr (0, n.toNatClampNeg))).2.1 ≤ R.slots + s0) (kk : pz_At p l e R s m args below meth c Q base ex fz dC dI cA nL c0 s0 (pc + 2) L (.ref M.2.1.length :: st) (pz_nu M (.inr (0, n.toNatClampNeg)))) : pz_At p l e R s m args below meth c Q base ex fz dC dI cA nL c0 s0 pc L (.int n :: st) M := by
  intro H locs cells slots ls hL hW hS hc hs
  have hlen : (pz_nu M (.inr (0, n.toNatClampNeg))).2.1.length = M.2.1.length + 1 := by simp [pz_nu]
  have hslo : pz_slo (pz_nu M (.inr (0, n.toNatClampNeg))).2.1 = pz_slo M.2.1 + n.toNatClampNeg := pz_slo_app _ _
  rw [hlen] at hRc
  rw [hslo] at hRs
  have hby : n.toNatClampNeg * componentBytes .int ≤ 536870912 := by
    have h8 : componentBytes .int ≤ 8 := by decide
    have := Nat.mul_le_mul hN h8
    omega
  refine va_newa (atype := .int) (ty := .int) (a0 := (n.toNatClampNeg, .inl (fun _ => 0))) C.1 C.2.1 (C.2.2.2.2.1 _ (gw_in cz_w7 rfl)) rfl C.2.2.2.2.2.1.1 hW pz_D_ws hS (fun q hq => by have := C.2.2.2.2.2.2.1; show base ≤ q; omega) (fun _ => rfl) hn rfl hby (by omega) (by omega) hd ?_
  intro q cB H1 hK1 hP1 hD1 hS1 T hT Y
  have hq := pz_newq C.2.2.2.2.2.2.1 hP1 hD1 hT Y hc
  subst hq
  have hcA : cB = cA 0 := by
    have e1 : s.vm.findClass ("[" ++ (FieldType.int).toString) = some cB := (hK1.2 5 (cB, .int) rfl).2
    have e2 : s.vm.findClass ("[" ++ (FieldType.int).toString) = some (cA 0) := (C.2.2.2.2.2.1.1.2 0 (cA 0, .int) rfl).2
    rw [e1] at e2
    exact Option.some.inj e2
  subst hcA
  refine kk H1 locs (cells + 1) (slots + n.toNatClampNeg) ls hL ?_ hS1 (by rw [hlen]; omega) (by rw [hslo]; omega) T hT Y
  unfold pz_W
  rw [pz_nu_ws]
  have e3 : pz_ent base ex fz cA (pz_nu M (.inr (0, n.toNatClampNeg))) M.2.1.length (.inr (0, n.toNatClampNeg)) = .inl (cA 0, n.toNatClampNeg, .inl (fun _ => 0)) := by
    simp only [pz_ent, pz_con, pz_nu, pz_row_eq]
  rw [e3]
  exact hP1
theorem pz_k_newal (C : pz_Cx p s m args meth c base ex fz dC dI cA X own cc nL ini c0) {n : Int32} (hn : ¬ n < 0) (hN : n.toNatClampNeg ≤ 100000) (hd : decode cc pc = .ok (.newarray .long, 2)) (hRc : (pz_nu M (.inr (1, n.toNatClampNeg))).2.1.length ≤ R.cells + c0) (hRs : pz_slo (pz_nu M (.inr (1, n.toNatClampNeg))).2.1 ≤ R.slots + s0) (kk : pz_At p l e R s m args below meth c Q base ex fz dC dI cA nL c0 s0 (pc + 2) L (.ref M.2.1.length :: st) (pz_nu M (.inr (1, n.toNatClampNeg)))) : pz_At p l e R s m args below meth c Q base ex fz dC dI cA nL c0 s0 pc L (.int n :: st) M := by
  intro H locs cells slots ls hL hW hS hc hs
  have hlen : (pz_nu M (.inr (1, n.toNatClampNeg))).2.1.length = M.2.1.length + 1 := by simp [pz_nu]
  have hslo : pz_slo (pz_nu M (.inr (1, n.toNatClampNeg))).2.1 = pz_slo M.2.1 + n.toNatClampNeg := pz_slo_app _ _
  rw [hlen] at hRc
  rw [hslo] at hRs
  have hby : n.toNatClampNeg * componentBytes .long ≤ 536870912 := by
    have h8 : componentBytes .long ≤ 8 := by decide
    have := Nat.mul_le_mul hN h8
    omega
  refine va_newa (atype := .long) (ty := .long) (a0 := (n.toNatClampNeg, .inr (.inl (fun _ => 0)))) C.1 C.2.1 (C.2.2.2.2.1 _ (gw_in cz_w8 rfl)) rfl C.2.2.2.2.2.1.1 hW pz_D_ws hS (fun q hq => by have := C.2.2.2.2.2.2.1; show base ≤ q; omega) (fun _ => rfl) hn rfl hby (by omega) (by omega) hd ?_
  intro q cB H1 hK1 hP1 hD1 hS1 T hT Y
  have hq := pz_newq C.2.2.2.2.2.2.1 hP1 hD1 hT Y hc
  subst hq
  have hcA : cB = cA 1 := by
    have e1 : s.vm.findClass ("[" ++ (FieldType.long).toString) = some cB := (hK1.2 5 (cB, .long) rfl).2
    have e2 : s.vm.findClass ("[" ++ (FieldType.long).toString) = some (cA 1) := (C.2.2.2.2.2.1.1.2 1 (cA 1, .long) rfl).2
    rw [e1] at e2
    exact Option.some.inj e2
  subst hcA
  refine kk H1 locs (cells + 1) (slots + n.toNatClampNeg) ls hL ?_ hS1 (by rw [hlen]; omega) (by rw [hslo]; omega) T hT Y
  unfold pz_W
  rw [pz_nu_ws]
  have e3 : pz_ent base ex fz cA (pz_nu M (.inr (1, n.toNatClampNeg))) M.2.1.length (.inr (1, n.toNatClampNeg)) = .inl (cA 1, n.toNatClampNeg, .inr (.inl (fun _ => 0))) := by
    simp only [pz_ent, pz_con, pz_nu, pz_row_eq]
  rw [e3]
  exact hP1
theorem pz_k_newab (C : pz_Cx p s m args meth c base ex fz dC dI cA X own cc nL ini c0) {n : Int32} (hn : ¬ n < 0) (hN : n.toNatClampNeg ≤ 100000) (hd : decode cc pc = .ok (.newarray .byte, 2)) (hRc : (pz_nu M (.inr (2, n.toNatClampNeg))).2.1.length ≤ R.cells + c0) (hRs : pz_slo (pz_nu M (.inr (2, n.toNatClampNeg))).2.1 ≤ R.slots + s0) (kk : pz_At p l e R s m args below meth c Q base ex fz dC dI cA nL c0 s0 (pc + 2) L (.ref M.2.1.length :: st) (pz_nu M (.inr (2, n.toNatClampNeg)))) : pz_At p l e R s m args below meth c Q base ex fz dC dI cA nL c0 s0 pc L (.int n :: st) M := by
  intro H locs cells slots ls hL hW hS hc hs
  have hlen : (pz_nu M (.inr (2, n.toNatClampNeg))).2.1.length = M.2.1.length + 1 := by simp [pz_nu]
  have hslo : pz_slo (pz_nu M (.inr (2, n.toNatClampNeg))).2.1 = pz_slo M.2.1 + n.toNatClampNeg := pz_slo_app _ _
  rw [hlen] at hRc
  rw [hslo] at hRs
  have hby : n.toNatClampNeg * componentBytes .byte ≤ 536870912 := by
    have h8 : componentBytes .byte ≤ 8 := by decide
    have := Nat.mul_le_mul hN h8
    omega
  refine va_newa (atype := .byte) (ty := .byte) (a0 := (n.toNatClampNeg, .inl (fun _ => 0))) C.1 C.2.1 (C.2.2.2.2.1 _ (gw_in cz_w9 rfl)) rfl C.2.2.2.2.2.1.1 hW pz_D_ws hS (fun q hq => by have := C.2.2.2.2.2.2.1; show base ≤ q; omega) (fun _ => rfl) hn rfl hby (by omega) (by omega) hd ?_
  intro q cB H1 hK1 hP1 hD1 hS1 T hT Y
  have hq := pz_newq C.2.2.2.2.2.2.1 hP1 hD1 hT Y hc
  subst hq
  have hcA : cB = cA 2 := by
    have e1 : s.vm.findClass ("[" ++ (FieldType.byte).toString) = some cB := (hK1.2 5 (cB, .byte) rfl).2
    have e2 : s.vm.findClass ("[" ++ (FieldType.byte).toString) = some (cA 2) := (C.2.2.2.2.2.1.1.2 2 (cA 2, .byte) rfl).2
    rw [e1] at e2
    exact Option.some.inj e2
  subst hcA
  refine kk H1 locs (cells + 1) (slots + n.toNatClampNeg) ls hL ?_ hS1 (by rw [hlen]; omega) (by rw [hslo]; omega) T hT Y
  unfold pz_W
  rw [pz_nu_ws]
  have e3 : pz_ent base ex fz cA (pz_nu M (.inr (2, n.toNatClampNeg))) M.2.1.length (.inr (2, n.toNatClampNeg)) = .inl (cA 2, n.toNatClampNeg, .inl (fun _ => 0)) := by
    simp only [pz_ent, pz_con, pz_nu, pz_row_eq]
  rw [e3]
  exact hP1
theorem pz_k_newaz (C : pz_Cx p s m args meth c base ex fz dC dI cA X own cc nL ini c0) {n : Int32} (hn : ¬ n < 0) (hN : n.toNatClampNeg ≤ 100000) (hd : decode cc pc = .ok (.newarray .boolean, 2)) (hRc : (pz_nu M (.inr (3, n.toNatClampNeg))).2.1.length ≤ R.cells + c0) (hRs : pz_slo (pz_nu M (.inr (3, n.toNatClampNeg))).2.1 ≤ R.slots + s0) (kk : pz_At p l e R s m args below meth c Q base ex fz dC dI cA nL c0 s0 (pc + 2) L (.ref M.2.1.length :: st) (pz_nu M (.inr (3, n.toNatClampNeg)))) : pz_At p l e R s m args below meth c Q base ex fz dC dI cA nL c0 s0 pc L (.int n :: st) M := by
  intro H locs cells slots ls hL hW hS hc hs
  have hlen : (pz_nu M (.inr (3, n.toNatClampNeg))).2.1.length = M.2.1.length + 1 := by simp [pz_nu]
  have hslo : pz_slo (pz_nu M (.inr (3, n.toNatClampNeg))).2.1 = pz_slo M.2.1 + n.toNatClampNeg := pz_slo_app _ _
  rw [hlen] at hRc
  rw [hslo] at hRs
  have hby : n.toNatClampNeg * componentBytes .boolean ≤ 536870912 := by
    have h8 : componentBytes .boolean ≤ 8 := by decide
    have := Nat.mul_le_mul hN h8
    omega
  refine va_newa (atype := .boolean) (ty := .boolean) (a0 := (n.toNatClampNeg, .inl (fun _ => 0))) C.1 C.2.1 (C.2.2.2.2.1 _ (gw_in cz_w10 rfl)) rfl C.2.2.2.2.2.1.1 hW pz_D_ws hS (fun q hq => by have := C.2.2.2.2.2.2.1; show base ≤ q; omega) (fun _ => rfl) hn rfl hby (by omega) (by omega) hd ?_
  intro q cB H1 hK1 hP1 hD1 hS1 T hT Y
  have hq := pz_newq C.2.2.2.2.2.2.1 hP1 hD1 hT Y hc
  subst hq
  have hcA : cB = cA 3 := by
    have e1 : s.vm.findClass ("[" ++ (FieldType.boolean).toString) = some cB := (hK1.2 5 (cB, .boolean) rfl).2
    have e2 : s.vm.findClass ("[" ++ (FieldType.boolean).toString) = some (cA 3) := (C.2.2.2.2.2.1.1.2 3 (cA 3, .boolean) rfl).2
    rw [e1] at e2
    exact Option.some.inj e2
  subst hcA
  refine kk H1 locs (cells + 1) (slots + n.toNatClampNeg) ls hL ?_ hS1 (by rw [hlen]; omega) (by rw [hslo]; omega) T hT Y
  unfold pz_W
  rw [pz_nu_ws]
  have e3 : pz_ent base ex fz cA (pz_nu M (.inr (3, n.toNatClampNeg))) M.2.1.length (.inr (3, n.toNatClampNeg)) = .inl (cA 3, n.toNatClampNeg, .inl (fun _ => 0)) := by
    simp only [pz_ent, pz_con, pz_nu, pz_row_eq]
  rw [e3]
  exact hP1
theorem pz_k_anew (C : pz_Cx p s m args meth c base ex fz dC dI cA X own cc nL ini c0) {i : Nat} {n : Int32} (hw : (own, i) ∈ cz_an) (hn : ¬ n < 0) (hN : n.toNatClampNeg ≤ 100000) (hd : decode cc pc = .ok (.anewarray i, 3)) (hRc : (pz_nu M (.inr (4, n.toNatClampNeg))).2.1.length ≤ R.cells + c0) (hRs : pz_slo (pz_nu M (.inr (4, n.toNatClampNeg))).2.1 ≤ R.slots + s0) (kk : pz_At p l e R s m args below meth c Q base ex fz dC dI cA nL c0 s0 (pc + 3) L (.ref M.2.1.length :: st) (pz_nu M (.inr (4, n.toNatClampNeg)))) : pz_At p l e R s m args below meth c Q base ex fz dC dI cA nL c0 s0 pc L (.int n :: st) M := by
  intro H locs cells slots ls hL hW hS hc hs
  have hlen : (pz_nu M (.inr (4, n.toNatClampNeg))).2.1.length = M.2.1.length + 1 := by simp [pz_nu]
  have hslo : pz_slo (pz_nu M (.inr (4, n.toNatClampNeg))).2.1 = pz_slo M.2.1 + n.toNatClampNeg := pz_slo_app _ _
  rw [hlen] at hRc
  rw [hslo] at hRs
  refine va_newq (C := "ByHeart$Mind") C.1 C.2.1 C.2.2.2.1 (C.2.2.2.2.1 _ (gw_in (cz_an_ok _ hw) rfl)) C.2.2.2.2.2.1.2.2.2.2.2.2.2.2.2 C.2.2.2.2.2.1.1 hW pz_D_ws hS (fun q hq => by have := C.2.2.2.2.2.2.1; show base ≤ q; omega) hn rfl (by omega) (by omega) (by omega) hd ?_
  intro q cB H1 hK1 hP1 hD1 hS1 T hT Y
  have hq := pz_newq C.2.2.2.2.2.2.1 hP1 hD1 hT Y hc
  subst hq
  have hcA : cB = cA 4 := by
    obtain ⟨_, _, -, -, -, e1⟩ := (hK1.2 5 (cB, .object "ByHeart$Mind") rfl).2
    obtain ⟨_, _, -, -, -, e2⟩ := (C.2.2.2.2.2.1.1.2 4 (cA 4, .object "ByHeart$Mind") rfl).2
    rw [e1] at e2
    exact Option.some.inj e2
  subst hcA
  refine kk H1 locs (cells + 1) (slots + n.toNatClampNeg) ls hL ?_ hS1 (by rw [hlen]; omega) (by rw [hslo]; omega) T hT Y
  unfold pz_W
  rw [pz_nu_ws]
  have e3 : pz_ent base ex fz cA (pz_nu M (.inr (4, n.toNatClampNeg))) M.2.1.length (.inr (4, n.toNatClampNeg)) = .inl (cA 4, n.toNatClampNeg, .inr (.inr (.inr (.inr (fun _ => none))))) := by
    simp only [pz_ent, pz_con, pz_nu, pz_row_eq]
    rfl
  rw [e3]
  exact hP1
theorem pz_k_oini (C : pz_Cx p s m args meth c base ex fz dC dI cA X own cc nL ini c0) {i k : Nat} (hw : (own, i) ∈ cz_oi) (hd : decode cc pc = .ok (.invokespecial i, 3)) (hr : (st.map fun v => v.category).sum ≤ 8) (hR : 1 ≤ R.frames ∧ 60 ≤ R.locals) (kk : pz_At p l e R s m args below meth c Q base ex fz dC dI cA nL c0 s0 (pc + 3) L st M) : pz_At p l e R s m args below meth c Q base ex fz dC dI cA nL c0 s0 pc L (.ref k :: st) M := pz_go (fun H locs cells slots ls hL hW hS kk => by
  have hcat := pz_rv_cats (base := base) (ex := ex) C.2.2.2.2.2.1.2.1 st
  exact W.objInit C.1 C.2.1 C.2.2.2.1 (C.2.2.2.2.1 _ (gw_in (cz_oi_ok _ hw) rfl)) (C.2.2.2.2.1 _ (gw_in cz_w1 rfl)) (C.2.2.2.2.1 _ (gw_in cz_w2 rfl)) rfl (by show ls.size = _; rw [hL.1, C.2.2.1]) rfl hd hR.1 (by show 2 * 0 + _ + 12 ≤ _; rw [hcat]; omega) kk) kk
theorem pz_k_cpi (C : pz_Cx p s m args meth c base ex fz dC dI cA X own cc nL ini c0) {i kd ks n0 n1 : Nat} {sp dp n : Int32} (hw : (own, i) ∈ cz_ac) (hs0 : M.2.1[ks]? = some (.inr (0, n0))) (hs1 : M.2.1[kd]? = some (.inr (0, n1))) (h : ¬ sp < 0 ∧ ¬ dp < 0 ∧ ¬ n < 0 ∧ sp.toNatClampNeg + n.toNatClampNeg ≤ n0 ∧ dp.toNatClampNeg + n.toNatClampNeg ≤ n1 ∧ (st.map fun v => v.category).sum ≤ 8) (hR : 1 ≤ R.frames ∧ 60 ≤ R.locals) (hd : decode cc pc = .ok (.invokestatic i, 3)) (kk : pz_At p l e R s m args below meth c Q base ex fz dC dI cA nL c0 s0 (pc + 3) L st (pz_wi M kd (va_cpy (M.2.2.1 ks) (M.2.2.1 kd) sp.toNatClampNeg dp.toNatClampNeg n.toNatClampNeg))) : pz_At p l e R s m args below meth c Q base ex fz dC dI cA nL c0 s0 pc L (.int n :: .int dp :: .ref kd :: .int sp :: .ref ks :: st) M := pz_goM (M' := (pz_wi M kd (va_cpy (M.2.2.1 ks) (M.2.2.1 kd) sp.toNatClampNeg dp.toNatClampNeg n.toNatClampNeg))) rfl (fun H locs cells slots ls hL hW hS kk => by
  have hcat := pz_rv_cats (base := base) (ex := ex) C.2.2.2.2.2.1.2.1 st
  have hnat : nativeFrameWords "java/lang/System" "arraycopy" 5 = 7 := by decide +kernel
  obtain ⟨h1, h2, h3, h4, h5, h6⟩ := h
  refine va_copyi C.1 C.2.1 (by rw [hL.1, C.2.2.1]) C.2.2.2.1 (C.2.2.2.2.1 _ (gw_in (cz_ac_ok _ hw) rfl)) (C.2.2.2.2.1 _ (gw_in cz_w3 rfl)) (C.2.2.2.2.1 _ (gw_in cz_w4 rfl)) (C.2.2.2.2.1 _ (gw_in cz_w5 rfl)) C.2.2.2.2.2.1.1 hW pz_D_ws hS ks kd 0 0 (pz_ws_at hs0) (pz_ws_at hs1) (pz_tys_at cA (t := 0) (by decide)) (pz_tys_at cA (t := 0) (by decide)) rfl h1 h2 h3 h4 h5 (fun _ _ => rfl) hR.1 (by rw [hcat, hnat]; omega) hd (fun H1 locs1 hP1 _ hS1 => kk H1 locs1 ?_ hS1)
  rw [pz_ws_set (base := base) (ex := ex) (fz := fz) (cA := cA) (M := M) (M' := (pz_wi M kd (va_cpy (M.2.2.1 ks) (M.2.2.1 kd) sp.toNatClampNeg dp.toNatClampNeg n.toNatClampNeg))) rfl hs1 (fun j hj d => pz_wi_o hj d)]
  have e : pz_ent base ex fz cA (pz_wi M kd (va_cpy (M.2.2.1 ks) (M.2.2.1 kd) sp.toNatClampNeg dp.toNatClampNeg n.toNatClampNeg)) kd (.inr (0, n1)) = .inl (cA 0, n1, (.inl (va_cpy (M.2.2.1 ks) (M.2.2.1 kd) sp.toNatClampNeg dp.toNatClampNeg n.toNatClampNeg))) := by
    simp only [pz_ent, pz_con, pz_wi, pz_row_eq]
  rw [e]
  exact hP1) kk
theorem pz_k_cpl (C : pz_Cx p s m args meth c base ex fz dC dI cA X own cc nL ini c0) {i kd ks n0 n1 : Nat} {sp dp n : Int32} (hw : (own, i) ∈ cz_ac) (hs0 : M.2.1[ks]? = some (.inr (1, n0))) (hs1 : M.2.1[kd]? = some (.inr (1, n1))) (h : ¬ sp < 0 ∧ ¬ dp < 0 ∧ ¬ n < 0 ∧ sp.toNatClampNeg + n.toNatClampNeg ≤ n0 ∧ dp.toNatClampNeg + n.toNatClampNeg ≤ n1 ∧ (st.map fun v => v.category).sum ≤ 8) (hR : 1 ≤ R.frames ∧ 60 ≤ R.locals) (hd : decode cc pc = .ok (.invokestatic i, 3)) (kk : pz_At p l e R s m args below meth c Q base ex fz dC dI cA nL c0 s0 (pc + 3) L st (pz_wl M kd (va_cpy (M.2.2.2.1 ks) (M.2.2.2.1 kd) sp.toNatClampNeg dp.toNatClampNeg n.toNatClampNeg))) : pz_At p l e R s m args below meth c Q base ex fz dC dI cA nL c0 s0 pc L (.int n :: .int dp :: .ref kd :: .int sp :: .ref ks :: st) M := pz_goM (M' := (pz_wl M kd (va_cpy (M.2.2.2.1 ks) (M.2.2.2.1 kd) sp.toNatClampNeg dp.toNatClampNeg n.toNatClampNeg))) rfl (fun H locs cells slots ls hL hW hS kk => by
  have hcat := pz_rv_cats (base := base) (ex := ex) C.2.2.2.2.2.1.2.1 st
  have hnat : nativeFrameWords "java/lang/System" "arraycopy" 5 = 7 := by decide +kernel
  obtain ⟨h1, h2, h3, h4, h5, h6⟩ := h
  refine va_copyl C.1 C.2.1 (by rw [hL.1, C.2.2.1]) C.2.2.2.1 (C.2.2.2.2.1 _ (gw_in (cz_ac_ok _ hw) rfl)) (C.2.2.2.2.1 _ (gw_in cz_w3 rfl)) (C.2.2.2.2.1 _ (gw_in cz_w4 rfl)) (C.2.2.2.2.1 _ (gw_in cz_w5 rfl)) C.2.2.2.2.2.1.1 hW pz_D_ws hS ks kd 1 1 (pz_ws_at hs0) (pz_ws_at hs1) (pz_tys_at cA (t := 1) (by decide)) (pz_tys_at cA (t := 1) (by decide)) rfl h1 h2 h3 h4 h5 (fun _ _ => rfl) hR.1 (by rw [hcat, hnat]; omega) hd (fun H1 locs1 hP1 _ hS1 => kk H1 locs1 ?_ hS1)
  rw [pz_ws_set (base := base) (ex := ex) (fz := fz) (cA := cA) (M := M) (M' := (pz_wl M kd (va_cpy (M.2.2.2.1 ks) (M.2.2.2.1 kd) sp.toNatClampNeg dp.toNatClampNeg n.toNatClampNeg))) rfl hs1 (fun j hj d => pz_wl_o hj d)]
  have e : pz_ent base ex fz cA (pz_wl M kd (va_cpy (M.2.2.2.1 ks) (M.2.2.2.1 kd) sp.toNatClampNeg dp.toNatClampNeg n.toNatClampNeg)) kd (.inr (1, n1)) = .inl (cA 1, n1, .inr (.inl (va_cpy (M.2.2.2.1 ks) (M.2.2.2.1 kd) sp.toNatClampNeg dp.toNatClampNeg n.toNatClampNeg))) := by
    simp only [pz_ent, pz_con, pz_wl, pz_row_eq]
  rw [e]
  exact hP1) kk
theorem pz_k_mmax (C : pz_Cx p s m args meth c base ex fz dC dI cA X own cc nL ini c0) {i : Nat} {x y : Int32} (hw : (own, i, 4) ∈ cz_mm) (hr : (st.map fun v => v.category).sum ≤ 8) (hR : 1 ≤ R.frames ∧ 60 ≤ R.locals) (hRc : M.2.1.length ≤ R.cells + c0) (hRs : pz_slo M.2.1 ≤ R.slots + s0) (hd : decode cc pc = .ok (.invokestatic i, 3)) (kk : pz_At p l e R s m args below meth c Q base ex fz dC dI cA nL c0 s0 (pc + 3) L (.int (if x < y then y else x) :: st) M) : pz_At p l e R s m args below meth c Q base ex fz dC dI cA nL c0 s0 pc L (.int y :: .int x :: st) M := by
  intro H locs cells slots ls hL hW hS hc hs
  have hcat := pz_rv_cats (base := base) (ex := ex) C.2.2.2.2.2.1.2.1 st
  exact va_mmax C.1 C.2.1 (by rw [hL.1, C.2.2.1]) C.2.2.2.1 (C.2.2.2.2.1 _ (gw_in (cz_mm_ok _ hw) rfl)) (C.2.2.2.2.1 _ (gw_in cz_x1 rfl)) (C.2.2.2.2.1 _ (gw_in cz_x4 rfl)) (C.2.2.2.2.1 _ (gw_in cz_x5 rfl)) hR.1 (by rw [hcat]; omega) (by omega) (by omega) hd (kk H locs cells slots ls hL hW hS hc hs)
theorem pz_k_mmin (C : pz_Cx p s m args meth c base ex fz dC dI cA X own cc nL ini c0) {i : Nat} {x y : Int32} (hw : (own, i, 5) ∈ cz_mm) (hr : (st.map fun v => v.category).sum ≤ 8) (hR : 1 ≤ R.frames ∧ 60 ≤ R.locals) (hRc : M.2.1.length ≤ R.cells + c0) (hRs : pz_slo M.2.1 ≤ R.slots + s0) (hd : decode cc pc = .ok (.invokestatic i, 3)) (kk : pz_At p l e R s m args below meth c Q base ex fz dC dI cA nL c0 s0 (pc + 3) L (.int (if y < x then y else x) :: st) M) : pz_At p l e R s m args below meth c Q base ex fz dC dI cA nL c0 s0 pc L (.int y :: .int x :: st) M := by
  intro H locs cells slots ls hL hW hS hc hs
  have hcat := pz_rv_cats (base := base) (ex := ex) C.2.2.2.2.2.1.2.1 st
  exact va_mmin C.1 C.2.1 (by rw [hL.1, C.2.2.1]) C.2.2.2.1 (C.2.2.2.2.1 _ (gw_in (cz_mm_ok _ hw) rfl)) (C.2.2.2.2.1 _ (gw_in cz_x2 rfl)) (C.2.2.2.2.1 _ (gw_in cz_x4 rfl)) (C.2.2.2.2.1 _ (gw_in cz_x6 rfl)) hR.1 (by rw [hcat]; omega) (by omega) (by omega) hd (kk H locs cells slots ls hL hW hS hc hs)
theorem pz_k_mabs (C : pz_Cx p s m args meth c base ex fz dC dI cA X own cc nL ini c0) {i : Nat} {x : Int64} (hw : (own, i, 6) ∈ cz_mm) (hr : (st.map fun v => v.category).sum ≤ 8) (hR : 1 ≤ R.frames ∧ 60 ≤ R.locals) (hRc : M.2.1.length ≤ R.cells + c0) (hRs : pz_slo M.2.1 ≤ R.slots + s0) (hd : decode cc pc = .ok (.invokestatic i, 3)) (kk : pz_At p l e R s m args below meth c Q base ex fz dC dI cA nL c0 s0 (pc + 3) L (.long (if 0 < x then x else -x) :: st) M) : pz_At p l e R s m args below meth c Q base ex fz dC dI cA nL c0 s0 pc L (.long x :: st) M := by
  intro H locs cells slots ls hL hW hS hc hs
  have hcat := pz_rv_cats (base := base) (ex := ex) C.2.2.2.2.2.1.2.1 st
  exact va_mabs_long C.1 C.2.1 (by rw [hL.1, C.2.2.1]) C.2.2.2.1 (C.2.2.2.2.1 _ (gw_in (cz_mm_ok _ hw) rfl)) (C.2.2.2.2.1 _ (gw_in cz_x3 rfl)) (C.2.2.2.2.1 _ (gw_in cz_x4 rfl)) (C.2.2.2.2.1 _ (gw_in cz_x7 rfl)) hR.1 (by rw [hcat]; omega) (by omega) (by omega) hd (kk H locs cells slots ls hL hW hS hc hs)
end PS3
