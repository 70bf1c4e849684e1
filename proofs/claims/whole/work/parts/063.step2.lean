theorem cz_cl_at {ci : Nat} (h : ci < 12) : cz_cl[ci]? = some (cz_own ci, cz_T ci, cz_N ci) := by
  match ci, h with
  | 0, _ => rfl
  | 1, _ => rfl
  | 2, _ => rfl
  | 3, _ => rfl
  | 4, _ => rfl
  | 5, _ => rfl
  | 6, _ => rfl
  | 7, _ => rfl
  | 8, _ => rfl
  | 9, _ => rfl
  | 10, _ => rfl
  | 11, _ => rfl
theorem pz_ndF {F : List (String × String × String × Bool)} (h : (F.map (fun q => q.2.1)).Nodup) {d : String × String × String × Bool} : ∀ a, a < F.length → ∀ b, b < F.length → a ≠ b → (F.getD a d).2.1 ≠ (F.getD b d).2.1 := by
  intro a ha b hb hab he
  have h1 := List.pairwise_iff_getElem.mp h
  rw [List.getD_eq_getElem?_getD, List.getElem?_eq_getElem ha, List.getD_eq_getElem?_getD, List.getElem?_eq_getElem hb] at he
  simp only [Option.getD_some] at he
  rcases Nat.lt_or_gt_of_ne hab with hlt | hlt
  · exact h1 a b (by simpa using ha) (by simpa using hb) hlt (by simpa using he)
  · exact h1 b a (by simpa using hb) (by simpa using ha) hlt (by simpa using he.symm)
theorem cz_nm {ci : Nat} (h : ci < 12) : ∀ a, a < cz_N ci → ∀ b, b < cz_N ci → a ≠ b → (cz_T ci a).2.1 ≠ (cz_T ci b).2.1 := by
  match ci, h with
  | 0, _ => exact pz_ndF cz_nd0
  | 1, _ => exact pz_ndF cz_nd1
  | 2, _ => exact pz_ndF cz_nd2
  | 3, _ => exact pz_ndF cz_nd3
  | 4, _ => exact pz_ndF cz_nd4
  | 5, _ => exact pz_ndF cz_nd5
  | 6, _ => exact pz_ndF cz_nd6
  | 7, _ => exact pz_ndF cz_nd7
  | 8, _ => exact pz_ndF cz_nd8
  | 9, _ => exact pz_ndF cz_nd9
  | 10, _ => exact pz_ndF cz_nd10
  | 11, _ => exact pz_ndF cz_nd11
theorem cz_okT {ci : Nat} (h : ci < 12) : ∀ k, k < cz_N ci → parseFieldDescriptor (cz_T ci k).2.2.1 = some (cz_yt ci k) := by
  match ci, h with
  | 0, _ => exact cz_ok0
  | 1, _ => exact cz_ok1
  | 2, _ => exact cz_ok2
  | 3, _ => exact cz_ok3
  | 4, _ => exact cz_ok4
  | 5, _ => exact cz_ok5
  | 6, _ => exact cz_ok6
  | 7, _ => exact cz_ok7
  | 8, _ => exact cz_ok8
  | 9, _ => exact cz_ok9
  | 10, _ => exact cz_ok10
  | 11, _ => exact cz_ok11
theorem pz_lay_good (C : String) (T : u_T) (k : Nat) : goodWord (u_lay C T k) = true := by
  unfold u_lay
  split <;> rfl
theorem cz_inT {ci : Nat} (h : ci < 12) : ∀ w ∈ u_ws (cz_own ci) (cz_T ci) (cz_N ci), w ∈ gw_tbl := by
  intro w hw
  refine gw_in ?_ (by obtain ⟨k, -, rfl⟩ := List.mem_map.mp hw; exact pz_lay_good _ _ _)
  match ci, h with
  | 0, _ => exact cz_in0 w hw
  | 1, _ => exact cz_in1 w hw
  | 2, _ => exact cz_in2 w hw
  | 3, _ => exact cz_in3 w hw
  | 4, _ => exact cz_in4 w hw
  | 5, _ => exact cz_in5 w hw
  | 6, _ => exact cz_in6 w hw
  | 7, _ => exact cz_in7 w hw
  | 8, _ => exact cz_in8 w hw
  | 9, _ => exact cz_in9 w hw
  | 10, _ => exact cz_in10 w hw
  | 11, _ => exact cz_in11 w hw
section PS2
variable {p : Program} {l : Launch} {e : Env} {R : Room} {s : State} {m : MethodId} {args : Array Value} {below : List Frame} {meth : Method} {c : Code} {Q : State → Prop} {base : Nat} {ex : Nat → Nat} {fz : Value} {dC : Nat → ClassId} {dI : Nat → Nat → Nat} {cA : Nat → ClassId} {X : pz_X} {own : Nat} {cc : ByteArray} {nL : Nat} {ini : Bool} {c0 s0 pc : Nat} {L : pz_L} {st : List Value} {M : pz_M}
theorem pz_k_get (C : pz_Cx p s m args meth c base ex fz dC dI cA X own cc nL ini c0) {i ci j kd k : Nat} (hw : (own, i, ci, j, kd) ∈ cz_fo ∨ (own, i, ci, j, kd) ∈ cz_fln) (hk : M.2.1[k]? = some (.inl ci)) (hd : decode cc pc = .ok (.getfield i, 3)) (kk : pz_At p l e R s m args below meth c Q base ex fz dC dI cA nL c0 s0 (pc + 3) L (pz_fv kd k j M :: st) M) : pz_At p l e R s m args below meth c Q base ex fz dC dI cA nL c0 s0 pc L (.ref k :: st) M := pz_go (fun H locs cells slots ls hL hW hS kk => by
  obtain ⟨h1, h2, h3, -⟩ := cz_fk _ (List.mem_append.mpr hw)
  simp only at h1 h2 h3
  have hv := pz_fs_at (base := base) (ex := ex) (fz := fz) (M := M) (k := k) h2
  rcases hw with hw | hw
  · exact va_get (C := cz_own ci) (T := cz_T ci) (N := cz_N ci) C.1 C.2.1 C.2.2.2.2.1 (cz_inT h1) C.2.2.2.1 C.2.2.2.2.2.1.1 hW _ (pz_ws_at hk) (cz_cl_at h1) j h2 (C.2.2.2.2.1 _ (gw_in (cz_fo_ok _ hw) rfl)) (fun _ h => h) (by rw [hv, h3]; rfl) hd kk
  · exact va_getN (host := "ByHeart") (C := cz_own ci) (T := cz_T ci) (N := cz_N ci) C.1 C.2.1 C.2.2.2.2.1 (cz_inT h1) C.2.2.2.1 C.2.2.2.2.2.1.1 hW _ (pz_ws_at hk) (cz_cl_at h1) j h2 (va_Nw.use rfl (C.2.2.2.2.2.1.2.2.2.2.2.2.1 _ hw)) (fun _ h => h) (by rw [hv, h3]; rfl) hd kk) kk
theorem pz_k_put (C : pz_Cx p s m args meth c base ex fz dC dI cA X own cc nL ini c0) {i ci j kd k : Nat} {v : Value} {M' : pz_M} (hw : ((own, i, ci, j, kd) ∈ cz_fo ∧ ((cz_T ci j).2.2.2 = false ∨ ini = true ∧ own = ci)) ∨ ((own, i, ci, j, kd) ∈ cz_fln ∧ (cz_T ci j).2.2.2 = false)) (hk : M.2.1[k]? = some (.inl ci)) (hm : M'.2.1 = M.2.1) (ho : ∀ q, q ≠ k → ∀ d, pz_ent base ex fz cA M' q d = pz_ent base ex fz cA M q d) (hf : j < cz_N ci → kd = cz_kd ci j → pz_fs base ex fz M' k ci = (pz_fs base ex fz M k ci).set j (pz_rv base ex fz v)) (hn : kd = cz_kd ci j → j < cz_N ci → ci < 12 → narrow (cz_yt ci j) (pz_rv base ex fz v) = pz_rv base ex fz v ∧ fits (cz_yt ci j) (pz_rv base ex fz v) = true)
    (hd : decode cc pc = .ok (.putfield i, 3)) (kk : pz_At p l e R s m args below meth c Q base ex fz dC dI cA nL c0 s0 (pc + 3) L st M') : pz_At p l e R s m args below meth c Q base ex fz dC dI cA nL c0 s0 pc L (v :: .ref k :: st) M := pz_goM hm (fun H locs cells slots ls hL hW hS kk => by
  have hw0 : (own, i, ci, j, kd) ∈ cz_fo ++ cz_fln := List.mem_append.mpr (hw.elim (fun h => Or.inl h.1) (fun h => Or.inr h.1))
  obtain ⟨h1, h2, h3, h4⟩ := cz_fk _ hw0
  simp only at h1 h2 h3 h4
  have hws := pz_ws_set (base := base) (ex := ex) (fz := fz) (cA := cA) hm hk ho
  have hent : pz_ent base ex fz cA M' k (.inl ci) = .inr (ci, (pz_fs base ex fz M k ci).set j (pz_rv base ex fz v)) := by
    simp only [pz_ent]
    rw [hf h2 h3]
  rw [hent] at hws
  obtain ⟨g1, g2⟩ := hn h3 h2 h1
  have gl : j < (pz_fs base ex fz M k ci).length := by rw [pz_fs_len]; exact h2
  rcases hw with ⟨hw, hfin⟩ | ⟨hw, hfin⟩
  · rcases hfin with hfin | ⟨hi, ho2⟩
    · exact va_put (C := cz_own ci) (T := cz_T ci) (N := cz_N ci) C.1 C.2.1 C.2.2.2.2.1 (cz_inT h1) (cz_yt ci) (cz_okT h1) (cz_nm h1) C.2.2.2.1 C.2.2.2.2.2.1.1 hW pz_D_ws hS _ (pz_ws_at hk) (cz_cl_at h1) j h2 (C.2.2.2.2.1 _ (gw_in (cz_fo_ok _ hw) rfl)) (fun _ h => h) hfin (cz_okT h1 j h2) g1 g2 gl hd (fun H1 locs1 hP1 _ hS1 => kk H1 locs1 (by rw [hws]; exact hP1) hS1)
    · cases hq : (cz_T ci j).2.2.2 with
      | false => exact va_put (C := cz_own ci) (T := cz_T ci) (N := cz_N ci) C.1 C.2.1 C.2.2.2.2.1 (cz_inT h1) (cz_yt ci) (cz_okT h1) (cz_nm h1) C.2.2.2.1 C.2.2.2.2.2.1.1 hW pz_D_ws hS _ (pz_ws_at hk) (cz_cl_at h1) j h2 (C.2.2.2.2.1 _ (gw_in (cz_fo_ok _ hw) rfl)) (fun _ h => h) hq (cz_okT h1 j h2) g1 g2 gl hd (fun H1 locs1 hP1 _ hS1 => kk H1 locs1 (by rw [hws]; exact hP1) hS1)
      | true => exact va_putF (C := cz_own ci) (T := cz_T ci) (N := cz_N ci) C.1 C.2.1 C.2.2.2.2.1 (cz_inT h1) (cz_yt ci) (cz_okT h1) (cz_nm h1) C.2.2.2.1 C.2.2.2.2.2.1.1 hW pz_D_ws hS _ (pz_ws_at hk) (cz_cl_at h1) j h2 (C.2.2.2.2.1 _ (gw_in (cz_fo_ok _ hw) rfl)) (fun _ h => h) hq (C.2.2.2.2.2.2.2 hi) (by rw [ho2]; exact h4.symm) (cz_okT h1 j h2) g1 g2 gl hd (fun H1 locs1 hP1 _ hS1 => kk H1 locs1 (by rw [hws]; exact hP1) hS1)
  · exact va_putN (host := "ByHeart") (C := cz_own ci) (T := cz_T ci) (N := cz_N ci) C.1 C.2.1 C.2.2.2.2.1 (cz_inT h1) (cz_yt ci) (cz_okT h1) (cz_nm h1) C.2.2.2.1 C.2.2.2.2.2.1.1 hW pz_D_ws hS _ (pz_ws_at hk) (cz_cl_at h1) j h2 (va_Nw.use rfl (C.2.2.2.2.2.1.2.2.2.2.2.2.1 _ hw)) (fun _ h => h) hfin (cz_okT h1 j h2) g1 g2 gl hd (fun H1 locs1 hP1 _ hS1 => kk H1 locs1 (by rw [hws]; exact hP1) hS1)) kk
theorem pz_in_iff {i : Int32} {n : Nat} (h : pz_in i n = true) : vp_in i n := by
  unfold pz_in at h
  unfold vp_in
  exact of_decide_eq_true h
theorem pz_k_gete (C : pz_Cx p s m args meth c base ex fz dC dI cA X own cc nL ini c0) {i j kd q : Nat} (hw : (own, i, 100, j, kd) ∈ cz_fs) (hq : 4 ≤ q ∧ q < 8) (hd : decode cc pc = .ok (.getfield i, 3)) (kk : pz_At p l e R s m args below meth c Q base ex fz dC dI cA nL c0 s0 (pc + 3) L ((if j = 0 then .retAddr (q + 4) else .int 0) :: st) M) : pz_At p l e R s m args below meth c Q base ex fz dC dI cA nL c0 s0 pc L (.retAddr q :: st) M := pz_go (fun H locs cells slots ls hL hW hS kk => by
  obtain ⟨-, h1, h2⟩ := C.2.2.2.2.2.1.2.2.2.1 q hq.1 hq.2
  have hlk := C.2.2.2.2.1 _ (gw_in (cz_fs_ok _ hw) rfl)
  by_cases hj : j = 0
  · subst hj
    exact vk_getf C.1 C.2.1 h2 hS C.2.2.2.1 hlk (fun _ h => h) hd kk
  · simp only [hj, if_false] at kk
    have e : cz_sf j = ("coder", "B") := by simp [cz_sf, hj]
    simp only [e] at hlk
    exact vk_getf C.1 C.2.1 h1 hS C.2.2.2.1 hlk (fun _ h => h) hd kk) kk
theorem pz_k_iald (C : pz_Cx p s m args meth c base ex fz dC dI cA X own cc nL ini c0) {i : Int32} {k n : Nat} (hk : M.2.1[k]? = some (.inr (0, n))) (hi : pz_in i n = true) (hd : decode cc pc = .ok (.iaload, 1)) (kk : pz_At p l e R s m args below meth c Q base ex fz dC dI cA nL c0 s0 (pc + 1) L (.int (M.2.2.1 k i.toNatClampNeg) :: st) M) : pz_At p l e R s m args below meth c Q base ex fz dC dI cA nL c0 s0 pc L (.int i :: .ref k :: st) M := pz_go (fun H locs cells slots ls hL hW hS kk => va_iald C.1 C.2.1 C.2.2.2.2.2.1.1 hW k 0 (pz_ws_at hk) (pz_tys_at cA (t := 0) (by decide)) (pz_in_iff hi) hd kk) kk
theorem pz_k_bald (C : pz_Cx p s m args meth c base ex fz dC dI cA X own cc nL ini c0) {i : Int32} {k n : Nat} (hk : M.2.1[k]? = some (.inr (2, n))) (hi : pz_in i n = true) (hd : decode cc pc = .ok (.baload, 1)) (kk : pz_At p l e R s m args below meth c Q base ex fz dC dI cA nL c0 s0 (pc + 1) L (.int (M.2.2.1 k i.toNatClampNeg) :: st) M) : pz_At p l e R s m args below meth c Q base ex fz dC dI cA nL c0 s0 pc L (.int i :: .ref k :: st) M := pz_go (fun H locs cells slots ls hL hW hS kk => va_bald C.1 C.2.1 C.2.2.2.2.2.1.1 hW k 2 (pz_ws_at hk) (pz_tys_at cA (t := 2) (by decide)) (pz_in_iff hi) hd kk) kk
theorem pz_k_zald (C : pz_Cx p s m args meth c base ex fz dC dI cA X own cc nL ini c0) {i : Int32} {k n : Nat} (hk : M.2.1[k]? = some (.inr (3, n))) (hi : pz_in i n = true) (hd : decode cc pc = .ok (.baload, 1)) (kk : pz_At p l e R s m args below meth c Q base ex fz dC dI cA nL c0 s0 (pc + 1) L (.int (M.2.2.1 k i.toNatClampNeg) :: st) M) : pz_At p l e R s m args below meth c Q base ex fz dC dI cA nL c0 s0 pc L (.int i :: .ref k :: st) M := pz_go (fun H locs cells slots ls hL hW hS kk => va_zald C.1 C.2.1 C.2.2.2.2.2.1.1 hW k 3 (pz_ws_at hk) (pz_tys_at cA (t := 3) (by decide)) (pz_in_iff hi) hd kk) kk
theorem pz_k_lald (C : pz_Cx p s m args meth c base ex fz dC dI cA X own cc nL ini c0) {i : Int32} {k n : Nat} (hk : M.2.1[k]? = some (.inr (1, n))) (hi : pz_in i n = true) (hd : decode cc pc = .ok (.laload, 1)) (kk : pz_At p l e R s m args below meth c Q base ex fz dC dI cA nL c0 s0 (pc + 1) L (.long (M.2.2.2.1 k i.toNatClampNeg) :: st) M) : pz_At p l e R s m args below meth c Q base ex fz dC dI cA nL c0 s0 pc L (.int i :: .ref k :: st) M := pz_go (fun H locs cells slots ls hL hW hS kk => va_lald C.1 C.2.1 C.2.2.2.2.2.1.1 hW k 1 (pz_ws_at hk) (pz_tys_at cA (t := 1) (by decide)) (pz_in_iff hi) hd kk) kk
theorem pz_k_aald (C : pz_Cx p s m args meth c base ex fz dC dI cA X own cc nL ini c0) {i : Int32} {k n a : Nat} (hk : M.2.1[k]? = some (.inr (4, n))) (hi : pz_in i n = true) (ha : M.2.2.2.2 k i.toNatClampNeg = .ref a) (hd : decode cc pc = .ok (.aaload, 1)) (kk : pz_At p l e R s m args below meth c Q base ex fz dC dI cA nL c0 s0 (pc + 1) L (.ref a :: st) M) : pz_At p l e R s m args below meth c Q base ex fz dC dI cA nL c0 s0 pc L (.int i :: .ref k :: st) M := pz_go (fun H locs cells slots ls hL hW hS kk => va_aldq C.1 C.2.1 C.2.2.2.2.2.1.1 hW k 4 (pz_ws_at hk) (pz_tys_at cA (t := 4) (by decide)) (pz_in_iff hi) hd (by simp only [ha]; exact kk)) kk
theorem pz_k_ialde (C : pz_Cx p s m args meth c base ex fz dC dI cA X own cc nL ini c0) (hX : M.1 = X) {i : Int32} {q n : Nat} {f : Nat → Int32} (hk : pz_ex M.1 q = some (0, n, f)) (hi : pz_in i n = true) (hd : decode cc pc = .ok (.iaload, 1)) (kk : pz_At p l e R s m args below meth c Q base ex fz dC dI cA nL c0 s0 (pc + 1) L (.int (f i.toNatClampNeg) :: st) M) : pz_At p l e R s m args below meth c Q base ex fz dC dI cA nL c0 s0 pc L (.int i :: .retAddr q :: st) M := pz_go (fun H locs cells slots ls hL hW hS kk => va_ti C.1 C.2.1 (C.2.2.2.2.2.1.2.2.1 q (0, n, f) (by rw [← hX]; exact hk)) hS (pz_in_iff hi) rfl hd kk) kk
theorem pz_k_balde (C : pz_Cx p s m args meth c base ex fz dC dI cA X own cc nL ini c0) (hX : M.1 = X) {i : Int32} {q n : Nat} {f : Nat → Int32} (hk : pz_ex M.1 q = some (2, n, f)) (hi : pz_in i n = true) (hd : decode cc pc = .ok (.baload, 1)) (kk : pz_At p l e R s m args below meth c Q base ex fz dC dI cA nL c0 s0 (pc + 1) L (.int (f i.toNatClampNeg) :: st) M) : pz_At p l e R s m args below meth c Q base ex fz dC dI cA nL c0 s0 pc L (.int i :: .retAddr q :: st) M := pz_go (fun H locs cells slots ls hL hW hS kk => va_tb C.1 C.2.1 (C.2.2.2.2.2.1.2.2.1 q (2, n, f) (by rw [← hX]; exact hk)) hS (pz_in_iff hi) rfl hd kk) kk
theorem pz_k_alen (C : pz_Cx p s m args meth c base ex fz dC dI cA X own cc nL ini c0) {k t n : Nat} (hk : M.2.1[k]? = some (.inr (t, n))) (ht : t < 5) (hd : decode cc pc = .ok (.arraylength, 1)) (kk : pz_At p l e R s m args below meth c Q base ex fz dC dI cA nL c0 s0 (pc + 1) L (.int (Int32.ofNat n) :: st) M) : pz_At p l e R s m args below meth c Q base ex fz dC dI cA nL c0 s0 pc L (.ref k :: st) M := pz_go (fun H locs cells slots ls hL hW hS kk => va_alen C.1 C.2.1 C.2.2.2.2.2.1.1 hW k t (pz_ws_at hk) (pz_tys_at cA ht) rfl hd kk) kk
theorem pz_k_alene (C : pz_Cx p s m args meth c base ex fz dC dI cA X own cc nL ini c0) (hX : M.1 = X) {q t n : Nat} {f : Nat → Int32} (hk : pz_ex M.1 q = some (t, n, f)) (hd : decode cc pc = .ok (.arraylength, 1)) (kk : pz_At p l e R s m args below meth c Q base ex fz dC dI cA nL c0 s0 (pc + 1) L (.int (Int32.ofNat n) :: st) M) : pz_At p l e R s m args below meth c Q base ex fz dC dI cA nL c0 s0 pc L (.retAddr q :: st) M := pz_go (fun H locs cells slots ls hL hW hS kk => va_tlen C.1 C.2.1 (C.2.2.2.2.2.1.2.2.1 q (t, n, f) (by rw [← hX]; exact hk)) hS rfl hd kk) kk
theorem pz_k_iast (C : pz_Cx p s m args meth c base ex fz dC dI cA X own cc nL ini c0) {i : Int32} {x : Int32} {k n : Nat} (hk : M.2.1[k]? = some (.inr (0, n))) (hi : pz_in i n = true) (hd : decode cc pc = .ok (.iastore, 1)) (kk : pz_At p l e R s m args below meth c Q base ex fz dC dI cA nL c0 s0 (pc + 1) L st (pz_wi M k (va_up (M.2.2.1 k) i.toNatClampNeg x))) : pz_At p l e R s m args below meth c Q base ex fz dC dI cA nL c0 s0 pc L (.int x :: .int i :: .ref k :: st) M := pz_goM (M' := pz_wi M k (va_up (M.2.2.1 k) i.toNatClampNeg x)) rfl (fun H locs cells slots ls hL hW hS kk => va_iast C.1 C.2.1 C.2.2.2.2.2.1.1 hW pz_D_ws hS k 0 (pz_ws_at hk) (pz_tys_at cA (t := 0) (by decide)) (pz_in_iff hi) hd (fun H1 locs1 hP1 _ hS1 => kk H1 locs1 (by
  rw [pz_ws_set (base := base) (ex := ex) (fz := fz) (cA := cA) (M := M) (M' := pz_wi M k (va_up (M.2.2.1 k) i.toNatClampNeg x)) rfl hk (fun j hj d => pz_wi_o hj d)]
  have e : pz_ent base ex fz cA (pz_wi M k (va_up (M.2.2.1 k) i.toNatClampNeg x)) k (.inr (0, n)) = .inl (cA 0, n, (.inl (va_up (M.2.2.1 k) i.toNatClampNeg x))) := by
    simp only [pz_ent, pz_con, pz_wi, pz_row_eq]
  rw [e]
  exact hP1) hS1)) kk
theorem pz_k_bast (C : pz_Cx p s m args meth c base ex fz dC dI cA X own cc nL ini c0) {i : Int32} {x : Int32} {k n : Nat} (hk : M.2.1[k]? = some (.inr (2, n))) (hi : pz_in i n = true) (hd : decode cc pc = .ok (.bastore, 1)) (kk : pz_At p l e R s m args below meth c Q base ex fz dC dI cA nL c0 s0 (pc + 1) L st (pz_wi M k (va_up (M.2.2.1 k) i.toNatClampNeg x.toInt8.toInt32))) : pz_At p l e R s m args below meth c Q base ex fz dC dI cA nL c0 s0 pc L (.int x :: .int i :: .ref k :: st) M := pz_goM (M' := pz_wi M k (va_up (M.2.2.1 k) i.toNatClampNeg x.toInt8.toInt32)) rfl (fun H locs cells slots ls hL hW hS kk => va_bast C.1 C.2.1 C.2.2.2.2.2.1.1 hW pz_D_ws hS k 2 (pz_ws_at hk) (pz_tys_at cA (t := 2) (by decide)) (pz_in_iff hi) hd (fun H1 locs1 hP1 _ hS1 => kk H1 locs1 (by
  rw [pz_ws_set (base := base) (ex := ex) (fz := fz) (cA := cA) (M := M) (M' := pz_wi M k (va_up (M.2.2.1 k) i.toNatClampNeg x.toInt8.toInt32)) rfl hk (fun j hj d => pz_wi_o hj d)]
  have e : pz_ent base ex fz cA (pz_wi M k (va_up (M.2.2.1 k) i.toNatClampNeg x.toInt8.toInt32)) k (.inr (2, n)) = .inl (cA 2, n, (.inl (va_up (M.2.2.1 k) i.toNatClampNeg x.toInt8.toInt32))) := by
    simp only [pz_ent, pz_con, pz_wi, pz_row_eq]
  rw [e]
  exact hP1) hS1)) kk
theorem pz_k_zast (C : pz_Cx p s m args meth c base ex fz dC dI cA X own cc nL ini c0) {i : Int32} {x : Int32} {k n : Nat} (hk : M.2.1[k]? = some (.inr (3, n))) (hi : pz_in i n = true) (hd : decode cc pc = .ok (.bastore, 1)) (kk : pz_At p l e R s m args below meth c Q base ex fz dC dI cA nL c0 s0 (pc + 1) L st (pz_wi M k (va_up (M.2.2.1 k) i.toNatClampNeg (x &&& 1)))) : pz_At p l e R s m args below meth c Q base ex fz dC dI cA nL c0 s0 pc L (.int x :: .int i :: .ref k :: st) M := pz_goM (M' := pz_wi M k (va_up (M.2.2.1 k) i.toNatClampNeg (x &&& 1))) rfl (fun H locs cells slots ls hL hW hS kk => va_zast C.1 C.2.1 C.2.2.2.2.2.1.1 hW pz_D_ws hS k 3 (pz_ws_at hk) (pz_tys_at cA (t := 3) (by decide)) (pz_in_iff hi) hd (fun H1 locs1 hP1 _ hS1 => kk H1 locs1 (by
  rw [pz_ws_set (base := base) (ex := ex) (fz := fz) (cA := cA) (M := M) (M' := pz_wi M k (va_up (M.2.2.1 k) i.toNatClampNeg (x &&& 1))) rfl hk (fun j hj d => pz_wi_o hj d)]
  have e : pz_ent base ex fz cA (pz_wi M k (va_up (M.2.2.1 k) i.toNatClampNeg (x &&& 1))) k (.inr (3, n)) = .inl (cA 3, n, (.inl (va_up (M.2.2.1 k) i.toNatClampNeg (x &&& 1)))) := by
    simp only [pz_ent, pz_con, pz_wi, pz_row_eq]
  rw [e]
  exact hP1) hS1)) kk
theorem pz_k_last (C : pz_Cx p s m args meth c base ex fz dC dI cA X own cc nL ini c0) {i : Int32} {x : Int64} {k n : Nat} (hk : M.2.1[k]? = some (.inr (1, n))) (hi : pz_in i n = true) (hd : decode cc pc = .ok (.lastore, 1)) (kk : pz_At p l e R s m args below meth c Q base ex fz dC dI cA nL c0 s0 (pc + 1) L st (pz_wl M k (va_up (M.2.2.2.1 k) i.toNatClampNeg x))) : pz_At p l e R s m args below meth c Q base ex fz dC dI cA nL c0 s0 pc L (.long x :: .int i :: .ref k :: st) M := pz_goM (M' := pz_wl M k (va_up (M.2.2.2.1 k) i.toNatClampNeg x)) rfl (fun H locs cells slots ls hL hW hS kk => va_last C.1 C.2.1 C.2.2.2.2.2.1.1 hW pz_D_ws hS k 1 (pz_ws_at hk) (pz_tys_at cA (t := 1) (by decide)) (pz_in_iff hi) hd (fun H1 locs1 hP1 _ hS1 => kk H1 locs1 (by
  rw [pz_ws_set (base := base) (ex := ex) (fz := fz) (cA := cA) (M := M) (M' := pz_wl M k (va_up (M.2.2.2.1 k) i.toNatClampNeg x)) rfl hk (fun j hj d => pz_wl_o hj d)]
  have e : pz_ent base ex fz cA (pz_wl M k (va_up (M.2.2.2.1 k) i.toNatClampNeg x)) k (.inr (1, n)) = .inl (cA 1, n, .inr (.inl (va_up (M.2.2.2.1 k) i.toNatClampNeg x))) := by
    simp only [pz_ent, pz_con, pz_wl, pz_row_eq]
  rw [e]
  exact hP1) hS1)) kk
theorem pz_k_aast (C : pz_Cx p s m args meth c base ex fz dC dI cA X own cc nL ini c0) {i : Int32} {k n v : Nat} (hk : M.2.1[k]? = some (.inr (4, n))) (hi : pz_in i n = true) (hv : M.2.1[v]? = some (.inl 3)) (hd : decode cc pc = .ok (.aastore, 1)) (kk : pz_At p l e R s m args below meth c Q base ex fz dC dI cA nL c0 s0 (pc + 1) L st (pz_wr M k (va_up (M.2.2.2.2 k) i.toNatClampNeg (.ref v)))) : pz_At p l e R s m args below meth c Q base ex fz dC dI cA nL c0 s0 pc L (.ref v :: .int i :: .ref k :: st) M := pz_goM (M' := pz_wr M k (va_up (M.2.2.2.2 k) i.toNatClampNeg (.ref v))) rfl (fun H locs cells slots ls hL hW hS kk => va_astq (r := (cz_own 3, cz_T 3, cz_N 3)) C.1 C.2.1 C.2.2.2.2.2.1.1 hW pz_D_ws hS k 4 v 3 (pz_ws_at hk) (pz_tys_at cA (t := 4) (by decide)) (pz_ws_at hv) (cz_cl_at (by decide)) (pz_in_iff hi) hd (fun H1 locs1 hP1 _ hS1 => kk H1 locs1 (by
  rw [pz_ws_set (base := base) (ex := ex) (fz := fz) (cA := cA) (M := M) (M' := pz_wr M k (va_up (M.2.2.2.2 k) i.toNatClampNeg (.ref v))) rfl hk (fun j hj d => pz_wr_o hj d)]
  have e : pz_ent base ex fz cA (pz_wr M k (va_up (M.2.2.2.2 k) i.toNatClampNeg (.ref v))) k (.inr (4, n)) = .inl (cA 4, n, .inr (.inr (.inr (.inr (va_up (fun j => pz_ad base (M.2.2.2.2 k j)) i.toNatClampNeg (some (base + v))))))) := by
    simp only [pz_ent, pz_con, pz_wr, pz_row_eq]
    congr 7
    funext j
    unfold va_up
    split <;> rfl
  rw [e]
  exact hP1) hS1)) kk
end PS2
