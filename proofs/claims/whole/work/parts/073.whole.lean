/-! THE CLAIM OUT OF ONE WALK OF THE LAW'S BODY. Your part is whole_start (and what it stands on); all else here is the same for every law, but numbers. -/
def R_law : String := "ByHeartLaw"
def lw_P (b : Addr) (xs : List Int32) (args : Array Value) (s : State) : Prop := args = #[.ref b] ∧ s.IntsAt b xs ∧ xs.length ≤ 3072 ∧ (Jvm.Cond.and given_1 narrow_1).before args s = true
def lw_Q (_ : Array Value) (s : State) (o : Outcome) (t : State) : Prop := o = .returned (some (.int 1)) ∧ Framed s o t [] 600000 7302250
def lw_Z (below : List Frame) (a : Array Value) (s : State) : State → Prop := fun t => ∃ o, t.status = .running ∧ Ended t below o ∧ lw_Q a s o t
/-- the law's own end, with 1 on the stack, nothing written that was there before, its room as the claim has it -/
theorem lw_ret {p : Program} {l : Launch} {e : Env} {s : State} {m : MethodId} {below : List Frame} {meth : Method} {c : Code} {b : Nat} (hx : p.tables.exec = Jvm.exec) (hb : c.code = code) (hr : meth.sig.returnType = ret) (hlocks : meth.locks = false) {pc : Nat} {H : Heap} {ls : Array Slot} (hdg : decode code pc = .ok (.ireturn, 1)) : W p l e room_1 s m #[Value.ref b] below meth c H [] 600000 7302250 (lw_Z below #[Value.ref b] s) (F0 m pc ls [.int 1]) := by
  intro T hT X
  obtain ⟨fs, hret, hrun, hended, hW, hframe⟩ := X.leave (v := some (.int 1)) (hlocks := hlocks) (fun h => by rw [hr] at h; cases h)
  have hmeth' : T.vm.method? m = some meth := X.method'
  refine ⟨T.setFrames fs, ?_, .returned (some (.int 1)), hrun, hended, rfl, ⟨_, rfl⟩, hW, hframe⟩
  jvm_step X.here [X.here.top, hx, hb, hdg, hmeth', hr, ret, narrow_b1]
  (try refine ⟨rfl, ?_⟩); (try refine ⟨rfl, ?_⟩)
  first | (intro acts; rw [hret _ acts rfl rfl rfl]) | rw [hret _ _ rfl rfl rfl]
  exact Steps.refl _
/-- what holds at the law's entry: the machine, the code, the tables' words (any of lw_tbl by 'hts w (by decide +kernel)'), the script of L ints xs at the cell b, what the Statement gives of the start (any of its parts by flat_of_before) -/
def lw_At (p : Program) (s : State) (m : MethodId) (meth : Method) (c : Code) (b L : Nat) (xs : Nat → Int32) : Prop :=
  p.tables.exec = Jvm.exec ∧ c.code = code ∧ meth.sig.returnType = ret ∧ c.maxLocals = 4 ∧ s.vm.findClass R_law = some m.cls ∧ (∀ w ∈ lw_tbl, w.before #[Value.ref b] s = true) ∧ va_X b L xs s s.heap ∧ b < s.heap.size ∧ meth.locks = false ∧ (Jvm.Cond.and given_1 narrow_1).before #[Value.ref b] s = true
def pz_M0 (X : pz_X) : pz_M := (X, [], fun _ _ => 0, fun _ _ => 0, fun _ _ => .null)
/-- the law over the pure machine: it answers 1, within the room -/
def pz_law : Prop := ∀ X : pz_X, X.1 ≤ 3072 → ∃ (n : Nat) (M : pz_M), pz_rn mz n 1000 0 (0, [some (.retAddr 0), none, none, none], [], pz_M0 X) = some (some (.int 1), M) ∧ M.2.1.length ≤ 600000 ∧ pz_slo M.2.1 ≤ 7302250
theorem whole_of (HL : pz_law) {p : Program} {e : Env} {s : State} {m : MethodId} {below : List Frame} {meth : Method} {c : Code} (l : Launch) {b L : Nat} {xs : Nat → Int32} (hL : L ≤ 3072) (C0 : lw_At p s m meth c b L xs) : W p l e room_1 s m #[Value.ref b] below meth c s.heap [] 0 0 (lw_Z below #[Value.ref b] s) (entryFrame m ([Value.ref b] : List Value).toArray 4) := by
  obtain ⟨hx, hb, hr, hml, hown, hts, hX, hbl, hlocks, hgv⟩ := id C0
  obtain ⟨ex, fz, dC, dI, cA, hex, hC⟩ := pz_start hts hgv hX hbl
  obtain ⟨n, M, hrun, hlen, hslo⟩ := HL (L, xs) hL
  have hz := hC.2.1
  obtain ⟨-, key⟩ := pz_sound mz_ok n 1000 0 _ _ mz_0 hrun rfl ck_0 rfl
  have C : pz_Cx p s m #[Value.ref b] meth c s.heap.size ex fz dC dI cA (L, xs) mz_0.1 mz_0.2.2.1 mz_0.2.2.2.1 (mz_0.2.1.name == "<init>") 0 := ⟨hx, hb, hml, hown, fun w hw => hts w (List.mem_filter.mp hw).1, hC, rfl, fun h => absurd h (by decide +kernel)⟩
  have k2 := key p l e room_1 s m #[Value.ref b] below meth c (lw_Z below #[Value.ref b] s) s.heap.size ex fz dC dI cA 0 0 C ⟨by decide, by decide⟩ hlen hslo ⟨?_, ?_, ?_, ?_⟩
  · have hl := lv_entry ([Value.ref b]) (n := 4) (Nat.le_of_ble_eq_true rfl)
    rw [lg_entry_eq]
    generalize (lg_sl ([Value.ref b]) ++ List.replicate (4 - (lg_sl ([Value.ref b])).length) Slot.unset).toArray = ls at hl ⊢
    refine k2 s.heap [] 0 0 ls ⟨hl.1, hl.2.1, fun i v hi => ?_⟩ (fun k q h => by simp [pz_ws, pz_M0] at h) va_S.rf rfl rfl
    have h0 : i = 0 ∧ v = .retAddr 0 := by
      match i, hi with
      | 0, hi => cases hi; exact ⟨rfl, rfl⟩
      | 1, hi => cases hi
      | 2, hi => cases hi
      | 3, hi => cases hi
    obtain ⟨rfl, rfl⟩ := h0
    have := hl.2.2 (0, .ref b) (by simp [lv_args])
    show ls[0]? = some (.val (.ref (ex 0)))
    rw [hex]
    exact this
  · intro pc Lc x hv hd hty H locs cells slots ls hLr hW hS hc hs
    cases hv
    simp only at hc hs
    have h1 : cells ≤ 600000 := by omega
    have h2 : slots ≤ 7302250 := by omega
    refine W.forget (locs := []) (L := locs) (fun q hq => hS.2.2 q hq) ?_
    exact W.widen h1 h2 (lw_ret hx hb hr hlocks hd)
  · intro pc Lc x hv
    cases hv
  · intro pc Lc x hv
    cases hv
  · intro pc Lc hv
    cases hv
