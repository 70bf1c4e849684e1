/-! ===== the pure memory as a world of cells ===== -/
def pz_rv (base : Nat) (ex : Nat → Nat) (fz : Value) : Value → Value
  | .ref k => .ref (base + k)
  | .retAddr j => .ref (ex j)
  | .float _ => fz
  | v => v
def pz_ad (base : Nat) : Value → Option Nat
  | .ref k => some (base + k)
  | _ => none
def cz_kd (ci j : Nat) : Nat := pz_kd (cz_yt ci j)
def pz_con (base : Nat) (M : pz_M) (k t : Nat) : (Nat → Int32) ⊕ (Nat → Int64) ⊕ (Nat → UInt32) ⊕ (Nat → UInt64) ⊕ (Nat → Option Nat) := match t with
  | 1 => .inr (.inl (M.2.2.2.1 k))
  | 4 => .inr (.inr (.inr (.inr (fun j => pz_ad base (M.2.2.2.2 k j)))))
  | _ => .inl (M.2.2.1 k)
def pz_fs (base : Nat) (ex : Nat → Nat) (fz : Value) (M : pz_M) (k ci : Nat) : List Value := (List.range (cz_N ci)).map (fun j => pz_rv base ex fz (pz_fv (cz_kd ci j) k j M))
def pz_ent (base : Nat) (ex : Nat → Nat) (fz : Value) (cA : Nat → ClassId) (M : pz_M) (k : Nat) : pz_D → va_E
  | .inl ci => .inr (ci, pz_fs base ex fz M k ci)
  | .inr q => .inl (cA q.1, q.2, pz_con base M k q.1)
def pz_ws (base : Nat) (ex : Nat → Nat) (fz : Value) (cA : Nat → ClassId) (M : pz_M) : va_W := M.2.1.mapIdx (fun k d => (base + k, pz_ent base ex fz cA M k d))
def pz_tys (cA : Nat → ClassId) : List (ClassId × FieldType) := [(cA 0, .int), (cA 1, .long), (cA 2, .byte), (cA 3, .boolean), (cA 4, .object "ByHeart$Mind")]
def cz_aty (t : Nat) : FieldType := match t with
  | 0 => .int
  | 1 => .long
  | 2 => .byte
  | 3 => .boolean
  | _ => .object "ByHeart$Mind"
theorem pz_tys_at (cA : Nat → ClassId) {t : Nat} (h : t < 5) : (pz_tys cA)[t]? = some (cA t, cz_aty t) := by
  match t, h with
  | 0, _ => rfl
  | 1, _ => rfl
  | 2, _ => rfl
  | 3, _ => rfl
  | 4, _ => rfl
def pz_A (base : Nat) : Nat → Prop := fun q => base ≤ q
def pz_W (base : Nat) (ex : Nat → Nat) (fz : Value) (dC : Nat → ClassId) (dI : Nat → Nat → Nat) (cA : Nat → ClassId) (M : pz_M) (H : Heap) : Prop := va_P (dC, dI) cz_cl (pz_ws base ex fz cA M) H
section PW
variable {base : Nat} {ex : Nat → Nat} {fz : Value} {dC : Nat → ClassId} {dI : Nat → Nat → Nat} {cA : Nat → ClassId} {M : pz_M} {H : Heap}
theorem pz_ws_at {k : Nat} {d : pz_D} (h : M.2.1[k]? = some d) : (pz_ws base ex fz cA M)[k]? = some (base + k, pz_ent base ex fz cA M k d) := by
  unfold pz_ws
  rw [List.getElem?_mapIdx, h]
  rfl
theorem pz_ws_inv {k : Nat} {q : Nat × va_E} (h : (pz_ws base ex fz cA M)[k]? = some q) : ∃ d, M.2.1[k]? = some d ∧ q = (base + k, pz_ent base ex fz cA M k d) := by
  unfold pz_ws at h
  rw [List.getElem?_mapIdx] at h
  cases hd : M.2.1[k]? with
  | none => rw [hd] at h; cases h
  | some d => rw [hd] at h; cases h; exact ⟨d, rfl, rfl⟩
theorem pz_D_ws : va_D (pz_A base) (pz_ws base ex fz cA M) := by
  refine ⟨fun i j p q hi hj hpq => ?_, fun k q hk => ?_⟩
  · obtain ⟨_, -, rfl⟩ := pz_ws_inv hi
    obtain ⟨_, -, rfl⟩ := pz_ws_inv hj
    exact Nat.add_left_cancel hpq
  · obtain ⟨_, -, rfl⟩ := pz_ws_inv hk
    exact Nat.le_add_right _ _
/-- one cell of the memory is another: the world likewise -/
theorem pz_ws_set {M' : pz_M} {k : Nat} {d : pz_D} (hl : M'.2.1 = M.2.1) (hk : M.2.1[k]? = some d) (ho : ∀ j, j ≠ k → ∀ d', pz_ent base ex fz cA M' j d' = pz_ent base ex fz cA M j d') : pz_ws base ex fz cA M' = (pz_ws base ex fz cA M).set k (base + k, pz_ent base ex fz cA M' k d) := by
  have hlt : k < (pz_ws base ex fz cA M).length := (List.getElem?_eq_some_iff.mp (pz_ws_at (base := base) (ex := ex) (fz := fz) (cA := cA) hk)).1
  refine List.ext_getElem? (fun j => ?_)
  by_cases hj : j = k
  · subst hj
    rw [List.getElem?_set_self hlt]
    exact pz_ws_at (by rw [hl]; exact hk)
  · rw [List.getElem?_set_ne (Ne.symm hj)]
    unfold pz_ws
    rw [List.getElem?_mapIdx, List.getElem?_mapIdx, hl]
    cases hd : M.2.1[j]? with
    | none => rfl
    | some d' => simp only [Option.map_some]; rw [ho j hj]
theorem pz_row_ne {α : Type} {f : Nat → Nat → α} {k j : Nat} {r : Nat → α} (h : j ≠ k) : pz_row f k r j = f j := by
  unfold pz_row
  rw [if_neg h]
theorem pz_row_eq {α : Type} {f : Nat → Nat → α} {k : Nat} {r : Nat → α} : pz_row f k r k = r := by
  unfold pz_row
  rw [if_pos rfl]
theorem pz_ent_cong {M' : pz_M} {j : Nat} (h1 : M'.2.2.1 j = M.2.2.1 j) (h2 : M'.2.2.2.1 j = M.2.2.2.1 j) (h3 : M'.2.2.2.2 j = M.2.2.2.2 j) (d : pz_D) : pz_ent base ex fz cA M' j d = pz_ent base ex fz cA M j d := by
  have hf : ∀ kd i, pz_fv kd j i M' = pz_fv kd j i M := fun kd i => by
    unfold pz_fv
    rw [h1, h2, h3]
  cases d with
  | inl ci =>
    simp only [pz_ent, pz_fs, hf]
  | inr q =>
    simp only [pz_ent, pz_con, h1, h2, h3]
theorem pz_wi_o {k : Nat} {r : Nat → Int32} {j : Nat} (hj : j ≠ k) (d : pz_D) : pz_ent base ex fz cA (pz_wi M k r) j d = pz_ent base ex fz cA M j d := pz_ent_cong (M := M) (M' := pz_wi M k r) (pz_row_ne hj) rfl rfl d
theorem pz_wl_o {k : Nat} {r : Nat → Int64} {j : Nat} (hj : j ≠ k) (d : pz_D) : pz_ent base ex fz cA (pz_wl M k r) j d = pz_ent base ex fz cA M j d := pz_ent_cong (M := M) (M' := pz_wl M k r) rfl (pz_row_ne hj) rfl d
theorem pz_wr_o {k : Nat} {r : Nat → Value} {j : Nat} (hj : j ≠ k) (d : pz_D) : pz_ent base ex fz cA (pz_wr M k r) j d = pz_ent base ex fz cA M j d := pz_ent_cong (M := M) (M' := pz_wr M k r) rfl rfl (pz_row_ne hj) d
theorem pz_fs_len {k ci : Nat} : (pz_fs base ex fz M k ci).length = cz_N ci := by simp [pz_fs]
theorem pz_fs_at {k ci j : Nat} (h : j < cz_N ci) : (pz_fs base ex fz M k ci)[j]? = some (pz_rv base ex fz (pz_fv (cz_kd ci j) k j M)) := by
  unfold pz_fs
  rw [List.getElem?_map, List.getElem?_range h]
  rfl
/-- a field is another: the list of the fields likewise -/
theorem pz_fs_set {M' : pz_M} {k ci j : Nat} {v : Value} (h : j < cz_N ci) (hv : pz_rv base ex fz (pz_fv (cz_kd ci j) k j M') = v) (ho : ∀ i, i ≠ j → pz_fv (cz_kd ci i) k i M' = pz_fv (cz_kd ci i) k i M) : pz_fs base ex fz M' k ci = (pz_fs base ex fz M k ci).set j v := by
  refine List.ext_getElem? (fun i => ?_)
  by_cases hi : i = j
  · subst hi
    rw [List.getElem?_set_self (by rw [pz_fs_len]; exact h), pz_fs_at h, hv]
  · rw [List.getElem?_set_ne (Ne.symm hi)]
    unfold pz_fs
    rw [List.getElem?_map, List.getElem?_map]
    by_cases hl : i < cz_N ci
    · rw [List.getElem?_range hl]
      simp only [Option.map_some]
      rw [ho i hi]
    · rw [List.getElem?_eq_none (by simpa using hl)]
      rfl
theorem pz_up_eq {α : Type} {f : Nat → α} {k : Nat} {v : α} : va_up f k v k = v := by
  unfold va_up
  rw [if_pos rfl]
theorem pz_up_ne {α : Type} {f : Nat → α} {k j : Nat} {v : α} (h : j ≠ k) : va_up f k v j = f j := by
  unfold va_up
  rw [if_neg h]
theorem pz_fs_wi {k ci j : Nat} {x : Int32} (h : j < cz_N ci) (hk : cz_kd ci j = 0 ∨ cz_kd ci j = 3) : pz_fs base ex fz (pz_wi M k (va_up (M.2.2.1 k) j x)) k ci = (pz_fs base ex fz M k ci).set j (.int x) := by
  refine pz_fs_set h ?_ (fun i hi => ?_)
  · have : pz_fv (cz_kd ci j) k j (pz_wi M k (va_up (M.2.2.1 k) j x)) = .int x := by
      rcases hk with hk | hk <;> rw [hk] <;> simp only [pz_fv, pz_wi, pz_row_eq, pz_up_eq]
    rw [this]; rfl
  · unfold pz_fv pz_wi
    simp only [pz_row_eq, pz_up_ne hi]
theorem pz_fs_wl {k ci j : Nat} {x : Int64} (h : j < cz_N ci) (hk : cz_kd ci j = 1) : pz_fs base ex fz (pz_wl M k (va_up (M.2.2.2.1 k) j x)) k ci = (pz_fs base ex fz M k ci).set j (.long x) := by
  refine pz_fs_set h ?_ (fun i hi => ?_)
  · rw [hk]; simp only [pz_fv, pz_wl, pz_row_eq, pz_up_eq]; rfl
  · unfold pz_fv pz_wl
    simp only [pz_row_eq, pz_up_ne hi]
theorem pz_fs_wr {k ci j : Nat} {x : Value} (h : j < cz_N ci) (hk : cz_kd ci j = 2) : pz_fs base ex fz (pz_wr M k (va_up (M.2.2.2.2 k) j x)) k ci = (pz_fs base ex fz M k ci).set j (pz_rv base ex fz x) := by
  refine pz_fs_set h ?_ (fun i hi => ?_)
  · rw [hk]; simp only [pz_fv, pz_wr, pz_row_eq, pz_up_eq]
  · unfold pz_fv pz_wr
    simp only [pz_row_eq, pz_up_ne hi]
end PW
