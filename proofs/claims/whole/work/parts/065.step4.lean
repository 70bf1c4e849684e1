section PS4
variable {p : Program} {l : Launch} {e : Env} {R : Room} {s : State} {m : MethodId} {args : Array Value} {below : List Frame} {meth : Method} {c : Code} {Q : State → Prop} {base : Nat} {ex : Nat → Nat} {fz : Value} {dC : Nat → ClassId} {dI : Nat → Nat → Nat} {cA : Nat → ClassId} {X : pz_X} {own : Nat} {cc : ByteArray} {nL : Nat} {ini : Bool} {c0 s0 pc : Nat} {L : pz_L} {st : List Value} {M : pz_M}
theorem pz_nn {z : Int32} (hz : ¬ z < 0) : z.toInt = (z.toNatClampNeg : Int) := by
  have h0 := Int32.le_iff_toInt_le.mp (Int32.not_lt.mp hz)
  have h1 : (0 : Int32).toInt = 0 := rfl
  rw [h1] at h0
  show z.toInt = ((z.toInt.toNat : Nat) : Int)
  omega
/-- a copy out of an int array that was there before -/
theorem pz_k_cpe (C : pz_Cx p s m args meth c base ex fz dC dI cA X own cc nL ini c0) (hX : M.1 = X) {i kd q n0 n1 : Nat} {f : Nat → Int32} {sp dp n : Int32} (hw : (own, i) ∈ cz_ac) (hs0 : pz_ex M.1 q = some (0, n0, f)) (hs1 : M.2.1[kd]? = some (.inr (0, n1))) (h : ¬ sp < 0 ∧ ¬ dp < 0 ∧ ¬ n < 0 ∧ sp.toNatClampNeg + n.toNatClampNeg ≤ n0 ∧ dp.toNatClampNeg + n.toNatClampNeg ≤ n1 ∧ (st.map fun v => v.category).sum ≤ 8) (hR : 1 ≤ R.frames ∧ 60 ≤ R.locals) (hd : decode cc pc = .ok (.invokestatic i, 3)) (kk : pz_At p l e R s m args below meth c Q base ex fz dC dI cA nL c0 s0 (pc + 3) L st (pz_wi M kd (va_cpy f (M.2.2.1 kd) sp.toNatClampNeg dp.toNatClampNeg n.toNatClampNeg))) : pz_At p l e R s m args below meth c Q base ex fz dC dI cA nL c0 s0 pc L (.int n :: .int dp :: .ref kd :: .int sp :: .retAddr q :: st) M := pz_goM (M' := (pz_wi M kd (va_cpy f (M.2.2.1 kd) sp.toNatClampNeg dp.toNatClampNeg n.toNatClampNeg))) rfl (fun H locs cells slots ls hL hW hS kk => by
  have hcat := pz_rv_cats (base := base) (ex := ex) C.2.2.2.2.2.1.2.1 st
  have hnat : nativeFrameWords "java/lang/System" "arraycopy" 5 = 7 := by decide +kernel
  obtain ⟨h1, h2, h3, h4, h5, h6⟩ := h
  intro T hT Y
  obtain ⟨scr, g1, g2, g3, g4, -, g5, g6⟩ := C.2.2.2.2.2.1.2.2.1 q (0, n0, f) (by rw [← hX]; exact hs0)
  have hc0 : H[ex q]? = some scr := by rw [hS.2.1 _ (Array.getElem?_eq_some_iff.mp g1).1 g6]; exact g1
  have hws : (pz_ws base ex fz cA M)[kd]? = some (base + kd, .inl (cA 0, n1, .inl (M.2.2.1 kd))) := pz_ws_at hs1
  have hc1 : H[base + kd]? = some (vp_cell (cA 0) (n1, .inl (M.2.2.1 kd))) := hW kd _ hws
  obtain ⟨g7, k0, hk0, cm0, hkk0⟩ := g2
  obtain ⟨-, k1, hk1, cm1, hkk1⟩ := (C.2.2.2.2.2.1.1.2 0 (cA 0, .int) rfl).1 n1 (fun j => .int (M.2.2.1 kd j))
  obtain ⟨vm', Y', step⟩ := Y.arraycopy C.1 C.2.2.2.1 (C.2.2.2.2.1 _ (gw_in (cz_ac_ok _ hw) rfl)) (C.2.2.2.2.1 _ (gw_in cz_w3 rfl)) (C.2.2.2.2.1 _ (gw_in cz_w4 rfl)) (C.2.2.2.2.1 _ (gw_in cz_w5 rfl)) (src := ex q) (dst := base + kd) (cs := scr) (cd := vp_cell (cA 0) (n1, .inl (M.2.2.1 kd))) (srcPos := sp) (destPos := dp) (n := n) (by rw [hT]; exact hc0) (by rw [hT]; exact hc1)
    g7 (fun _ h => by cases h) g3 (fun h => by cases h) hk0 hk1 hkk0 hkk1 (by simp [refKind, cz_aty]) h1 h2 h3
    (by rw [pz_nn h1, pz_nn h3]; simp only at g4; omega)
    (by rw [pz_nn h2, pz_nn h3]; show ¬ _ > ((arrV (cA 0) n1 (fun j => .int (M.2.2.1 kd j))).slots.size : Int); rw [arrV_size]; omega)
    (fun vm₁ _ j hj => by
      have e : scr.slots.getD (sp.toNatClampNeg + j) .null = .int (f (sp.toNatClampNeg + j)) := by
        rw [Array.getD_eq_getD_getElem?, g5 _ (by simp only; omega)]
        rfl
      refine ⟨?_, ?_⟩
      · rw [e]
        rfl
      · rw [e]
        exact trivial)
    (g := F0 m pc ls (.int n :: .int dp :: .ref (base + kd) :: .int sp :: .ref (ex q) :: st.map (pz_rv base ex fz))) rfl (by show ls.size = _; rw [hL.1, C.2.2.1]) (rest := st.map (pz_rv base ex fz)) rfl (by rw [C.2.1]; exact hd) hR.1 (by show 2 * 0 + _ + _ ≤ _; rw [hcat, hnat]; omega)
  have e1 : copied scr (vp_cell (cA 0) (n1, .inl (M.2.2.1 kd))) sp dp n = vp_cell (cA 0) (n1, .inl (va_cpy f (M.2.2.1 kd) sp.toNatClampNeg dp.toNatClampNeg n.toNatClampNeg)) := va_copiedX (fun z => .int z) scr (cA 0) f (M.2.2.1 kd) g5 h4
  rw [e1] at Y' step
  have hl : base + kd < H.size := (Array.getElem?_eq_some_iff.mp hc1).1
  have hheap : ((T.setVm vm').setCell (base + kd) (vp_cell (cA 0) (n1, .inl (va_cpy f (M.2.2.1 kd) sp.toNatClampNeg dp.toNatClampNeg n.toNatClampNeg)))).heap = H.setIfInBounds (base + kd) (vp_cell (cA 0) (n1, .inl (va_cpy f (M.2.2.1 kd) sp.toNatClampNeg dp.toNatClampNeg n.toNatClampNeg))) := by rw [← hT]; rfl
  have oq : ∀ z : Nat, z ≠ base + kd → (H.setIfInBounds (base + kd) (vp_cell (cA 0) (n1, .inl (va_cpy f (M.2.2.1 kd) sp.toNatClampNeg dp.toNatClampNeg n.toNatClampNeg))))[z]? = H[z]? := fun z hz => by simp [Array.getElem?_setIfInBounds, Ne.symm hz]
  have hA : pz_A base (base + kd) := Nat.le_add_right _ _
  have hP1 := va_P.set hW (pz_D_ws (base := base)) hws (e := .inl (cA 0, n1, .inl (va_cpy f (M.2.2.1 kd) sp.toNatClampNeg dp.toNatClampNeg n.toNatClampNeg))) (show (H.setIfInBounds (base + kd) _)[base + kd]? = some _ by simp [Array.getElem?_setIfInBounds, hl]) oq
  obtain ⟨t, a1, b1⟩ := kk _ _ (by
      rw [pz_ws_set (base := base) (ex := ex) (fz := fz) (cA := cA) (M := M) (M' := (pz_wi M kd (va_cpy f (M.2.2.1 kd) sp.toNatClampNeg dp.toNatClampNeg n.toNatClampNeg))) rfl hs1 (fun j hj d => pz_wi_o hj d)]
      have e : pz_ent base ex fz cA (pz_wi M kd (va_cpy f (M.2.2.1 kd) sp.toNatClampNeg dp.toNatClampNeg n.toNatClampNeg)) kd (.inr (0, n1)) = .inl (cA 0, n1, (.inl (va_cpy f (M.2.2.1 kd) sp.toNatClampNeg dp.toNatClampNeg n.toNatClampNeg))) := by
        simp only [pz_ent, pz_con, pz_wi, pz_row_eq]
      rw [e]
      exact hP1) ⟨by simp; exact hS.1, fun z k1 k2 => by
      rw [oq z (fun e => k2 (by rw [e]; exact hA))]
      exact hS.2.1 z k1 k2, fun z hz => by
      rcases List.mem_append.mp hz with h | h
      · exact hS.2.2 z h
      · obtain ⟨y, -, hy⟩ := List.mem_map.mp h
        rw [← hy]
        exact hA⟩ _ hheap Y'
  exact ⟨t, step t a1, b1⟩) kk
theorem pz_k_goto (C : pz_Cx p s m args meth c base ex fz dC dI cA X own cc nL ini c0) {off : Int} {tgt : Nat} (hd : decode cc pc = .ok (.goto off, 3)) (ht : (pc : Int) + off = (tgt : Int)) (kk : pz_At p l e R s m args below meth c Q base ex fz dC dI cA nL c0 s0 tgt L st M) : pz_At p l e R s m args below meth c Q base ex fz dC dI cA nL c0 s0 pc L st M := pz_go (fun H locs cells slots ls hL hW hS kk => lv_goto C.1 C.2.1 hd ht kk) kk
theorem pz_k_if (C : pz_Cx p s m args meth c base ex fz dC dI cA X own cc nL ini c0) {cd : ClassFile.Cond} {off : Int} {x : Int32} {tgt : Nat} (hd : decode cc pc = .ok (.ifCond cd off, 3)) (ht : (pc : Int) + off = (tgt : Int)) (k1 : pz_cc cd x 0 = true → pz_At p l e R s m args below meth c Q base ex fz dC dI cA nL c0 s0 tgt L st M) (k2 : pz_cc cd x 0 = false → pz_At p l e R s m args below meth c Q base ex fz dC dI cA nL c0 s0 (pc + 3) L st M) : pz_At p l e R s m args below meth c Q base ex fz dC dI cA nL c0 s0 pc L (.int x :: st) M := by
  intro H locs cells slots ls hL hW hS hc hs
  cases cd with
  | eq => exact lv_if_eq C.1 C.2.1 hd ht (fun h => k1 (decide_eq_true h) H locs cells slots ls hL hW hS hc hs) (fun h => k2 (decide_eq_false h) H locs cells slots ls hL hW hS hc hs)
  | ne => exact lv_if_ne C.1 C.2.1 hd ht (fun h => k1 (decide_eq_true h) H locs cells slots ls hL hW hS hc hs) (fun h => k2 (decide_eq_false (fun g => g h)) H locs cells slots ls hL hW hS hc hs)
  | lt => exact lv_if_lt C.1 C.2.1 hd ht (fun h => k1 (decide_eq_true h) H locs cells slots ls hL hW hS hc hs) (fun h => k2 (decide_eq_false h) H locs cells slots ls hL hW hS hc hs)
  | ge => exact lv_if_ge C.1 C.2.1 hd ht (fun h => k1 (decide_eq_true h) H locs cells slots ls hL hW hS hc hs) (fun h => k2 (decide_eq_false h) H locs cells slots ls hL hW hS hc hs)
  | gt => exact lv_if_gt C.1 C.2.1 hd ht (fun h => k1 (decide_eq_true h) H locs cells slots ls hL hW hS hc hs) (fun h => k2 (decide_eq_false h) H locs cells slots ls hL hW hS hc hs)
  | le => exact lv_if_le C.1 C.2.1 hd ht (fun h => k1 (decide_eq_true h) H locs cells slots ls hL hW hS hc hs) (fun h => k2 (decide_eq_false h) H locs cells slots ls hL hW hS hc hs)
theorem pz_k_icmp (C : pz_Cx p s m args meth c base ex fz dC dI cA X own cc nL ini c0) {cd : ClassFile.Cond} {off : Int} {x y : Int32} {tgt : Nat} (hd : decode cc pc = .ok (.if_icmp cd off, 3)) (ht : (pc : Int) + off = (tgt : Int)) (k1 : pz_cc cd x y = true → pz_At p l e R s m args below meth c Q base ex fz dC dI cA nL c0 s0 tgt L st M) (k2 : pz_cc cd x y = false → pz_At p l e R s m args below meth c Q base ex fz dC dI cA nL c0 s0 (pc + 3) L st M) : pz_At p l e R s m args below meth c Q base ex fz dC dI cA nL c0 s0 pc L (.int y :: .int x :: st) M := by
  intro H locs cells slots ls hL hW hS hc hs
  cases cd with
  | eq => exact lv_icmp_eq C.1 C.2.1 hd ht (fun h => k1 (decide_eq_true h) H locs cells slots ls hL hW hS hc hs) (fun h => k2 (decide_eq_false h) H locs cells slots ls hL hW hS hc hs)
  | ne => exact lv_icmp_ne C.1 C.2.1 hd ht (fun h => k1 (decide_eq_true h) H locs cells slots ls hL hW hS hc hs) (fun h => k2 (decide_eq_false (fun g => g h)) H locs cells slots ls hL hW hS hc hs)
  | lt => exact lv_icmp_lt C.1 C.2.1 hd ht (fun h => k1 (decide_eq_true h) H locs cells slots ls hL hW hS hc hs) (fun h => k2 (decide_eq_false h) H locs cells slots ls hL hW hS hc hs)
  | ge => exact lv_icmp_ge C.1 C.2.1 hd ht (fun h => k1 (decide_eq_true h) H locs cells slots ls hL hW hS hc hs) (fun h => k2 (decide_eq_false h) H locs cells slots ls hL hW hS hc hs)
  | gt => exact lv_icmp_gt C.1 C.2.1 hd ht (fun h => k1 (decide_eq_true h) H locs cells slots ls hL hW hS hc hs) (fun h => k2 (decide_eq_false h) H locs cells slots ls hL hW hS hc hs)
  | le => exact lv_icmp_le C.1 C.2.1 hd ht (fun h => k1 (decide_eq_true h) H locs cells slots ls hL hW hS hc hs) (fun h => k2 (decide_eq_false h) H locs cells slots ls hL hW hS hc hs)
theorem pz_k_tsw (C : pz_Cx p s m args meth c base ex fz dC dI cA X own cc nL ini c0) {d lo hi : Int} {offs : Array Int} {len : Nat} {x : Int32} (hd : decode cc pc = .ok (.tableswitch d lo hi offs, len)) (h1 : 0 ≤ (pc : Int) + d) (h2 : offs.toList.all (fun o => decide (0 ≤ (pc : Int) + o)) = true) (h3 : (offs.size : Int) = hi - lo + 1) (kk : pz_At p l e R s m args below meth c Q base ex fz dC dI cA nL c0 s0 (pz_swt pc d lo hi offs x) L st M) : pz_At p l e R s m args below meth c Q base ex fz dC dI cA nL c0 s0 pc L (.int x :: st) M := by
  intro H locs cells slots ls hL hW hS hc hs
  have k := kk H locs cells slots ls hL hW hS hc hs
  unfold pz_swt at k
  by_cases hq : x.toInt < lo ∨ hi < x.toInt
  · rw [if_pos hq] at k
    exact lv_tableOut C.1 C.2.1 hd hq (by omega) k
  · rw [if_neg hq] at k
    have hx : (x.toInt - lo).toNat < offs.size := by omega
    have ho : offs[(x.toInt - lo).toNat]? = some offs[(x.toInt - lo).toNat] := Array.getElem?_eq_getElem hx
    rw [ho] at k
    have hp : 0 ≤ (pc : Int) + offs[(x.toInt - lo).toNat] := of_decide_eq_true (List.all_eq_true.mp h2 _ (by simp))
    simp only [Option.getD_some] at k
    exact lv_tableIn C.1 C.2.1 hd (fun g => hq (Or.inl g)) (fun g => hq (Or.inr g)) ho (by omega) k
/-- the context goes along with warmer tables and a heap in which nothing old has changed -/
theorem pz_C.move {U U' : State} {H H' : Heap} (hW : U.WarmedH U'.vm) (hq : ∀ a : Nat, a < H.size → ¬ pz_A base a → H'[a]? = H[a]?) (h : pz_C base ex fz dC dI cA X U H) : pz_C base ex fz dC dI cA X U' H' := by
  obtain ⟨h1, h2, h3, h4, h5, h6, h7, h8, h9, h10⟩ := h
  refine ⟨va_K.moved hW.alike h1, h2, fun j q hj => ((h3 j q hj).moved hW.alike).kept hq, fun j g1 g2 => ?_, fun r hr => (h5 r hr).warm hW, fun q hq' => ((h6 q hq').moved hW.alike).kept hq, fun q hq' => va_Nw.warmF hW (h7 q hq'), fun q hq' => va_Nw.warmM hW (h8 q hq'), fun q hq' => va_Nw.warmF hW (h9 q hq'), va_AO.moved hW.alike h10⟩
  obtain ⟨k1, k2, k3⟩ := h4 j g1 g2
  exact ⟨(k1.moved hW.alike).kept hq, (k2.moved hW.alike).kept hq, (k3.moved hW.alike).kept hq⟩
end PS4
def pz_Pc (base : Nat) (ex : Nat → Nat) (fz : Value) (dC : Nat → ClassId) (dI : Nat → Nat → Nat) (cA : Nat → ClassId) (vs : List Value) (M : pz_M) : Array Value → State → Prop := fun v U => v = (vs.map (pz_rv base ex fz)).toArray ∧ U.heap.size = base + M.2.1.length ∧ pz_W base ex fz dC dI cA M U.heap ∧ pz_C base ex fz dC dI cA M.1 U U.heap
def pz_Qc (base : Nat) (ex : Nat → Nat) (fz : Value) (dC : Nat → ClassId) (dI : Nat → Nat → Nat) (cA : Nat → ClassId) (r : Option Value × pz_M) : Array Value → State → Outcome → State → Prop := fun _ st oc t => oc = .returned (r.1.map (pz_rv base ex fz)) ∧ pz_W base ex fz dC dI cA r.2 t.heap ∧ va_F (pz_A base) st t
def pz_room (d mc ms : Nat) : Room := { frames := d + 1, cells := mc, slots := ms, locals := 60 * d + 100 }
def pz_wd (mi : pz_I) : Cond := Cond.code mi.2.1 mi.2.2.1 mi.2.2.2.1 mi.2.2.2.2.1
/-- a method's contract: from this memory with these arguments it comes to that answer and memory -/
def pz_Met (l : Launch) (base : Nat) (ex : Nat → Nat) (fz : Value) (dC : Nat → ClassId) (dI : Nat → Nat → Nat) (cA : Nat → ClassId) (mi : pz_I) (d : Nat) (vs : List Value) (M : pz_M) (r : Option Value × pz_M) : Prop := Met l mi.2.1 (pz_wd mi :: gw_tbl) (pz_room d (r.2.2.1.length - M.2.1.length) (pz_slo r.2.2.1 - pz_slo M.2.1)) (pz_Pc base ex fz dC dI cA vs M) (pz_Qc base ex fz dC dI cA r) (r.2.2.1.length - M.2.1.length) (pz_slo r.2.2.1 - pz_slo M.2.1) (pz_A base)
theorem gw_good {mi : pz_I} (h : pz_wd mi ∈ lw_tbl) : GoodIn gw_tbl (pz_wd mi :: gw_tbl) := by
  intro w hw
  have hin : w ∈ gw_tbl := by
    rcases List.mem_cons.mp hw with rfl | hw
    · exact gw_in h rfl
    · exact hw
  exact ⟨hin, good_of_word (List.mem_filter.mp hin).2⟩
section PS5
variable {p : Program} {l : Launch} {e : Env} {R : Room} {s : State} {m : MethodId} {args : Array Value} {below : List Frame} {meth : Method} {c : Code} {Q : State → Prop} {base : Nat} {ex : Nat → Nat} {fz : Value} {dC : Nat → ClassId} {dI : Nat → Nat → Nat} {cA : Nat → ClassId} {X : pz_X} {own : Nat} {cc : ByteArray} {nL : Nat} {ini : Bool} {c0 s0 pc : Nat} {L : pz_L} {st : List Value} {M : pz_M}
theorem pz_Pc.blind {vs : List Value} : FrameBlind (pz_Pc base ex fz dC dI cA vs M) := fun a U g mk h => ⟨h.1, h.2.1, h.2.2.1, pz_C.move (U := U) (U' := U.calling g mk a) (State.WarmedH.refl U) (fun _ _ _ => rfl) h.2.2.2⟩
theorem pz_Pc.pre (C : pz_Cx p s m args meth c base ex fz dC dI cA X own cc nL ini c0) (hX : M.1 = X) {H : Heap} {locs : List Loc} (hz : H.size = base + M.2.1.length) (hW : pz_W base ex fz dC dI cA M H) (hS : va_S (pz_A base) s.heap H locs) (vs : List Value) : ∀ U : State, U.heap = H → s.WarmedH U.vm → pz_Pc base ex fz dC dI cA vs M (vs.map (pz_rv base ex fz)).toArray U := fun U hU hWm => ⟨rfl, by rw [hU]; exact hz, by rw [hU]; exact hW, by rw [hU, hX]; exact pz_C.move hWm hS.2.1 C.2.2.2.2.2.1⟩
theorem pz_run_call {H : Heap} {locs : List Loc} {cells slots mc ms : Nat} {ls : Array Slot} {st0 rest : List Value} {a : Array Value} {r : Option Value × pz_M} (hr : va_Run p l e R s m args below meth c H locs cells slots mc ms (F0 m pc ls st0) rest (pz_Qc base ex fz dC dI cA r a) (pz_A base)) (hS : va_S (pz_A base) s.heap H locs)
    (kk : ∀ (H1 : Heap) (locs1 : List Loc), pz_W base ex fz dC dI cA r.2 H1 → va_S (pz_A base) s.heap H1 locs1 → W p l e R s m args below meth c H1 locs1 (cells + mc) (slots + ms) Q (F0 m (pc + 3) ls ((r.1.map (pz_rv base ex fz)).toList ++ rest))) : W p l e R s m args below meth c H locs cells slots Q (F0 m pc ls st0) := by
  intro T hT Y
  obtain ⟨v, st₀, t, T', L', h0, Y', hL', e1, e2, ⟨hv, hw, hz, hk⟩, st⟩ := hr T hT Y
  cases hv
  rw [h0] at hz hk
  obtain ⟨t2, a1, b1⟩ := kk T'.heap (locs ++ L') (by rw [e1]; exact hw)
    ⟨Nat.le_trans hS.1 (by rw [e1]; exact hz), fun q h1 h2 => by rw [e1, hk q (Nat.lt_of_lt_of_le h1 hS.1) h2]; exact hS.2.1 q h1 h2, fun q hq => by
      rcases List.mem_append.mp hq with h | h
      · exact hS.2.2 q h
      · exact hL' q h⟩ T' rfl Y'
  exact ⟨t2, st t2 a1, b1⟩
end PS5
