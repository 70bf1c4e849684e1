section PS7
variable {p : Program} {l : Launch} {e : Env} {R : Room} {s : State} {m : MethodId} {args : Array Value} {below : List Frame} {meth : Method} {c : Code} {Q : State → Prop} {base : Nat} {ex : Nat → Nat} {fz : Value} {dC : Nat → ClassId} {dI : Nat → Nat → Nat} {cA : Nat → ClassId} {X : pz_X} {own : Nat} {cc : ByteArray} {nL : Nat} {ini : Bool} {c0 s0 pc : Nat} {L : pz_L} {st : List Value} {M : pz_M}
theorem pz_nar_i {a b z : Nat} {x : Int32} {base : Nat} {ex : Nat → Nat} {fz : Value} (g1 : z = cz_kd a b) (g2 : b < cz_N a) (g3 : a < 12) (hk : z = 0 ∨ z = 3 ∧ (x = 0 ∨ x = 1)) : narrow (cz_yt a b) (pz_rv base ex fz (.int x)) = pz_rv base ex fz (.int x) ∧ fits (cz_yt a b) (pz_rv base ex fz (.int x)) = true := by
  unfold cz_kd at g1
  rcases cz_nk a g3 b g2 with ht | ht | ht | ht
  · rw [ht]; exact ⟨rfl, rfl⟩
  · rw [ht] at g1; simp [pz_kd] at g1; omega
  · rw [ht] at g1 ⊢
    simp only [pz_kd] at g1
    rcases hk with hk | ⟨-, rfl | rfl⟩
    · omega
    · exact ⟨rfl, rfl⟩
    · exact ⟨rfl, rfl⟩
  · rw [ht] at g1; omega
theorem pz_nar_l {a b z : Nat} {x : Int64} {base : Nat} {ex : Nat → Nat} {fz : Value} (g1 : z = cz_kd a b) (g2 : b < cz_N a) (g3 : a < 12) (hk : z = 1) : narrow (cz_yt a b) (pz_rv base ex fz (.long x)) = pz_rv base ex fz (.long x) ∧ fits (cz_yt a b) (pz_rv base ex fz (.long x)) = true := by
  unfold cz_kd at g1
  rcases cz_nk a g3 b g2 with ht | ht | ht | ht
  · rw [ht] at g1; simp [pz_kd] at g1; omega
  · rw [ht]; exact ⟨rfl, rfl⟩
  · rw [ht] at g1; simp [pz_kd] at g1; omega
  · rw [ht] at g1; omega
theorem pz_nar_r {a b z y : Nat} (g1 : z = cz_kd a b) (hk : z = 2) : narrow (cz_yt a b) (.ref y) = .ref y ∧ fits (cz_yt a b) (.ref y) = true := by
  unfold cz_kd at g1
  cases ht : cz_yt a b <;> rw [ht] at g1 <;> first | exact ⟨rfl, rfl⟩ | (simp [pz_kd] at g1; omega)
theorem pz_t_iadd (C : pz_Cx p s m args meth c base ex fz dC dI cA X own cc nL ini c0) (hX : M.1 = X) {a b z : Nat} {ret : Option FieldType} (hd : decode cc pc = .ok ((.iadd), pz_len (pc, (.iadd), a, b, z))) (hlk : pz_lk own ret ini (pc, (.iadd), a, b, z) = true) {q : pz_L × List Value × pz_M} (h : pz_stp (pc, (.iadd), a, b, z) L st M = some q) (hlen : L.length = nL) (hR : 1 ≤ R.frames ∧ 60 ≤ R.locals) : (q.1.length = nL ∧ q.2.2.1 = X ∧ M.2.1.length ≤ q.2.2.2.1.length ∧ pz_slo M.2.1 ≤ pz_slo q.2.2.2.1) ∧ (q.2.2.2.1.length ≤ R.cells + c0 → pz_slo q.2.2.2.1 ≤ R.slots + s0 → pz_At p l e R s m args below meth c Q base ex fz dC dI cA nL c0 s0 (pc + pz_len (pc, (.iadd), a, b, z)) q.1 q.2.1 q.2.2 → pz_At p l e R s m args below meth c Q base ex fz dC dI cA nL c0 s0 pc L st M) := by
  simp only [pz_stp, pz_ii] at h
  (repeat' split at h) <;> first | (cases h; done) | (cases h; exact ⟨⟨hlen, hX, Nat.le_refl _, Nat.le_refl _⟩, fun _ _ k => pz_k_iadd C hd k⟩)
theorem pz_t_isub (C : pz_Cx p s m args meth c base ex fz dC dI cA X own cc nL ini c0) (hX : M.1 = X) {a b z : Nat} {ret : Option FieldType} (hd : decode cc pc = .ok ((.isub), pz_len (pc, (.isub), a, b, z))) (hlk : pz_lk own ret ini (pc, (.isub), a, b, z) = true) {q : pz_L × List Value × pz_M} (h : pz_stp (pc, (.isub), a, b, z) L st M = some q) (hlen : L.length = nL) (hR : 1 ≤ R.frames ∧ 60 ≤ R.locals) : (q.1.length = nL ∧ q.2.2.1 = X ∧ M.2.1.length ≤ q.2.2.2.1.length ∧ pz_slo M.2.1 ≤ pz_slo q.2.2.2.1) ∧ (q.2.2.2.1.length ≤ R.cells + c0 → pz_slo q.2.2.2.1 ≤ R.slots + s0 → pz_At p l e R s m args below meth c Q base ex fz dC dI cA nL c0 s0 (pc + pz_len (pc, (.isub), a, b, z)) q.1 q.2.1 q.2.2 → pz_At p l e R s m args below meth c Q base ex fz dC dI cA nL c0 s0 pc L st M) := by
  simp only [pz_stp, pz_ii] at h
  (repeat' split at h) <;> first | (cases h; done) | (cases h; exact ⟨⟨hlen, hX, Nat.le_refl _, Nat.le_refl _⟩, fun _ _ k => pz_k_isub C hd k⟩)
theorem pz_t_imul (C : pz_Cx p s m args meth c base ex fz dC dI cA X own cc nL ini c0) (hX : M.1 = X) {a b z : Nat} {ret : Option FieldType} (hd : decode cc pc = .ok ((.imul), pz_len (pc, (.imul), a, b, z))) (hlk : pz_lk own ret ini (pc, (.imul), a, b, z) = true) {q : pz_L × List Value × pz_M} (h : pz_stp (pc, (.imul), a, b, z) L st M = some q) (hlen : L.length = nL) (hR : 1 ≤ R.frames ∧ 60 ≤ R.locals) : (q.1.length = nL ∧ q.2.2.1 = X ∧ M.2.1.length ≤ q.2.2.2.1.length ∧ pz_slo M.2.1 ≤ pz_slo q.2.2.2.1) ∧ (q.2.2.2.1.length ≤ R.cells + c0 → pz_slo q.2.2.2.1 ≤ R.slots + s0 → pz_At p l e R s m args below meth c Q base ex fz dC dI cA nL c0 s0 (pc + pz_len (pc, (.imul), a, b, z)) q.1 q.2.1 q.2.2 → pz_At p l e R s m args below meth c Q base ex fz dC dI cA nL c0 s0 pc L st M) := by
  simp only [pz_stp, pz_ii] at h
  (repeat' split at h) <;> first | (cases h; done) | (cases h; exact ⟨⟨hlen, hX, Nat.le_refl _, Nat.le_refl _⟩, fun _ _ k => pz_k_imul C hd k⟩)
theorem pz_t_iand (C : pz_Cx p s m args meth c base ex fz dC dI cA X own cc nL ini c0) (hX : M.1 = X) {a b z : Nat} {ret : Option FieldType} (hd : decode cc pc = .ok ((.iand), pz_len (pc, (.iand), a, b, z))) (hlk : pz_lk own ret ini (pc, (.iand), a, b, z) = true) {q : pz_L × List Value × pz_M} (h : pz_stp (pc, (.iand), a, b, z) L st M = some q) (hlen : L.length = nL) (hR : 1 ≤ R.frames ∧ 60 ≤ R.locals) : (q.1.length = nL ∧ q.2.2.1 = X ∧ M.2.1.length ≤ q.2.2.2.1.length ∧ pz_slo M.2.1 ≤ pz_slo q.2.2.2.1) ∧ (q.2.2.2.1.length ≤ R.cells + c0 → pz_slo q.2.2.2.1 ≤ R.slots + s0 → pz_At p l e R s m args below meth c Q base ex fz dC dI cA nL c0 s0 (pc + pz_len (pc, (.iand), a, b, z)) q.1 q.2.1 q.2.2 → pz_At p l e R s m args below meth c Q base ex fz dC dI cA nL c0 s0 pc L st M) := by
  simp only [pz_stp, pz_ii] at h
  (repeat' split at h) <;> first | (cases h; done) | (cases h; exact ⟨⟨hlen, hX, Nat.le_refl _, Nat.le_refl _⟩, fun _ _ k => pz_k_iand C hd k⟩)
theorem pz_t_ior (C : pz_Cx p s m args meth c base ex fz dC dI cA X own cc nL ini c0) (hX : M.1 = X) {a b z : Nat} {ret : Option FieldType} (hd : decode cc pc = .ok ((.ior), pz_len (pc, (.ior), a, b, z))) (hlk : pz_lk own ret ini (pc, (.ior), a, b, z) = true) {q : pz_L × List Value × pz_M} (h : pz_stp (pc, (.ior), a, b, z) L st M = some q) (hlen : L.length = nL) (hR : 1 ≤ R.frames ∧ 60 ≤ R.locals) : (q.1.length = nL ∧ q.2.2.1 = X ∧ M.2.1.length ≤ q.2.2.2.1.length ∧ pz_slo M.2.1 ≤ pz_slo q.2.2.2.1) ∧ (q.2.2.2.1.length ≤ R.cells + c0 → pz_slo q.2.2.2.1 ≤ R.slots + s0 → pz_At p l e R s m args below meth c Q base ex fz dC dI cA nL c0 s0 (pc + pz_len (pc, (.ior), a, b, z)) q.1 q.2.1 q.2.2 → pz_At p l e R s m args below meth c Q base ex fz dC dI cA nL c0 s0 pc L st M) := by
  simp only [pz_stp, pz_ii] at h
  (repeat' split at h) <;> first | (cases h; done) | (cases h; exact ⟨⟨hlen, hX, Nat.le_refl _, Nat.le_refl _⟩, fun _ _ k => pz_k_ior C hd k⟩)
theorem pz_t_ixor (C : pz_Cx p s m args meth c base ex fz dC dI cA X own cc nL ini c0) (hX : M.1 = X) {a b z : Nat} {ret : Option FieldType} (hd : decode cc pc = .ok ((.ixor), pz_len (pc, (.ixor), a, b, z))) (hlk : pz_lk own ret ini (pc, (.ixor), a, b, z) = true) {q : pz_L × List Value × pz_M} (h : pz_stp (pc, (.ixor), a, b, z) L st M = some q) (hlen : L.length = nL) (hR : 1 ≤ R.frames ∧ 60 ≤ R.locals) : (q.1.length = nL ∧ q.2.2.1 = X ∧ M.2.1.length ≤ q.2.2.2.1.length ∧ pz_slo M.2.1 ≤ pz_slo q.2.2.2.1) ∧ (q.2.2.2.1.length ≤ R.cells + c0 → pz_slo q.2.2.2.1 ≤ R.slots + s0 → pz_At p l e R s m args below meth c Q base ex fz dC dI cA nL c0 s0 (pc + pz_len (pc, (.ixor), a, b, z)) q.1 q.2.1 q.2.2 → pz_At p l e R s m args below meth c Q base ex fz dC dI cA nL c0 s0 pc L st M) := by
  simp only [pz_stp, pz_ii] at h
  (repeat' split at h) <;> first | (cases h; done) | (cases h; exact ⟨⟨hlen, hX, Nat.le_refl _, Nat.le_refl _⟩, fun _ _ k => pz_k_ixor C hd k⟩)
theorem pz_t_ishl (C : pz_Cx p s m args meth c base ex fz dC dI cA X own cc nL ini c0) (hX : M.1 = X) {a b z : Nat} {ret : Option FieldType} (hd : decode cc pc = .ok ((.ishl), pz_len (pc, (.ishl), a, b, z))) (hlk : pz_lk own ret ini (pc, (.ishl), a, b, z) = true) {q : pz_L × List Value × pz_M} (h : pz_stp (pc, (.ishl), a, b, z) L st M = some q) (hlen : L.length = nL) (hR : 1 ≤ R.frames ∧ 60 ≤ R.locals) : (q.1.length = nL ∧ q.2.2.1 = X ∧ M.2.1.length ≤ q.2.2.2.1.length ∧ pz_slo M.2.1 ≤ pz_slo q.2.2.2.1) ∧ (q.2.2.2.1.length ≤ R.cells + c0 → pz_slo q.2.2.2.1 ≤ R.slots + s0 → pz_At p l e R s m args below meth c Q base ex fz dC dI cA nL c0 s0 (pc + pz_len (pc, (.ishl), a, b, z)) q.1 q.2.1 q.2.2 → pz_At p l e R s m args below meth c Q base ex fz dC dI cA nL c0 s0 pc L st M) := by
  simp only [pz_stp, pz_ii] at h
  (repeat' split at h) <;> first | (cases h; done) | (cases h; exact ⟨⟨hlen, hX, Nat.le_refl _, Nat.le_refl _⟩, fun _ _ k => pz_k_ishl C hd k⟩)
theorem pz_t_ishr (C : pz_Cx p s m args meth c base ex fz dC dI cA X own cc nL ini c0) (hX : M.1 = X) {a b z : Nat} {ret : Option FieldType} (hd : decode cc pc = .ok ((.ishr), pz_len (pc, (.ishr), a, b, z))) (hlk : pz_lk own ret ini (pc, (.ishr), a, b, z) = true) {q : pz_L × List Value × pz_M} (h : pz_stp (pc, (.ishr), a, b, z) L st M = some q) (hlen : L.length = nL) (hR : 1 ≤ R.frames ∧ 60 ≤ R.locals) : (q.1.length = nL ∧ q.2.2.1 = X ∧ M.2.1.length ≤ q.2.2.2.1.length ∧ pz_slo M.2.1 ≤ pz_slo q.2.2.2.1) ∧ (q.2.2.2.1.length ≤ R.cells + c0 → pz_slo q.2.2.2.1 ≤ R.slots + s0 → pz_At p l e R s m args below meth c Q base ex fz dC dI cA nL c0 s0 (pc + pz_len (pc, (.ishr), a, b, z)) q.1 q.2.1 q.2.2 → pz_At p l e R s m args below meth c Q base ex fz dC dI cA nL c0 s0 pc L st M) := by
  simp only [pz_stp, pz_ii] at h
  (repeat' split at h) <;> first | (cases h; done) | (cases h; exact ⟨⟨hlen, hX, Nat.le_refl _, Nat.le_refl _⟩, fun _ _ k => pz_k_ishr C hd k⟩)
theorem pz_t_iushr (C : pz_Cx p s m args meth c base ex fz dC dI cA X own cc nL ini c0) (hX : M.1 = X) {a b z : Nat} {ret : Option FieldType} (hd : decode cc pc = .ok ((.iushr), pz_len (pc, (.iushr), a, b, z))) (hlk : pz_lk own ret ini (pc, (.iushr), a, b, z) = true) {q : pz_L × List Value × pz_M} (h : pz_stp (pc, (.iushr), a, b, z) L st M = some q) (hlen : L.length = nL) (hR : 1 ≤ R.frames ∧ 60 ≤ R.locals) : (q.1.length = nL ∧ q.2.2.1 = X ∧ M.2.1.length ≤ q.2.2.2.1.length ∧ pz_slo M.2.1 ≤ pz_slo q.2.2.2.1) ∧ (q.2.2.2.1.length ≤ R.cells + c0 → pz_slo q.2.2.2.1 ≤ R.slots + s0 → pz_At p l e R s m args below meth c Q base ex fz dC dI cA nL c0 s0 (pc + pz_len (pc, (.iushr), a, b, z)) q.1 q.2.1 q.2.2 → pz_At p l e R s m args below meth c Q base ex fz dC dI cA nL c0 s0 pc L st M) := by
  simp only [pz_stp, pz_ii] at h
  (repeat' split at h) <;> first | (cases h; done) | (cases h; exact ⟨⟨hlen, hX, Nat.le_refl _, Nat.le_refl _⟩, fun _ _ k => pz_k_iushr C hd k⟩)
theorem pz_t_ladd (C : pz_Cx p s m args meth c base ex fz dC dI cA X own cc nL ini c0) (hX : M.1 = X) {a b z : Nat} {ret : Option FieldType} (hd : decode cc pc = .ok ((.ladd), pz_len (pc, (.ladd), a, b, z))) (hlk : pz_lk own ret ini (pc, (.ladd), a, b, z) = true) {q : pz_L × List Value × pz_M} (h : pz_stp (pc, (.ladd), a, b, z) L st M = some q) (hlen : L.length = nL) (hR : 1 ≤ R.frames ∧ 60 ≤ R.locals) : (q.1.length = nL ∧ q.2.2.1 = X ∧ M.2.1.length ≤ q.2.2.2.1.length ∧ pz_slo M.2.1 ≤ pz_slo q.2.2.2.1) ∧ (q.2.2.2.1.length ≤ R.cells + c0 → pz_slo q.2.2.2.1 ≤ R.slots + s0 → pz_At p l e R s m args below meth c Q base ex fz dC dI cA nL c0 s0 (pc + pz_len (pc, (.ladd), a, b, z)) q.1 q.2.1 q.2.2 → pz_At p l e R s m args below meth c Q base ex fz dC dI cA nL c0 s0 pc L st M) := by
  simp only [pz_stp, pz_jj] at h
  (repeat' split at h) <;> first | (cases h; done) | (cases h; exact ⟨⟨hlen, hX, Nat.le_refl _, Nat.le_refl _⟩, fun _ _ k => pz_k_ladd C hd k⟩)
theorem pz_t_lsub (C : pz_Cx p s m args meth c base ex fz dC dI cA X own cc nL ini c0) (hX : M.1 = X) {a b z : Nat} {ret : Option FieldType} (hd : decode cc pc = .ok ((.lsub), pz_len (pc, (.lsub), a, b, z))) (hlk : pz_lk own ret ini (pc, (.lsub), a, b, z) = true) {q : pz_L × List Value × pz_M} (h : pz_stp (pc, (.lsub), a, b, z) L st M = some q) (hlen : L.length = nL) (hR : 1 ≤ R.frames ∧ 60 ≤ R.locals) : (q.1.length = nL ∧ q.2.2.1 = X ∧ M.2.1.length ≤ q.2.2.2.1.length ∧ pz_slo M.2.1 ≤ pz_slo q.2.2.2.1) ∧ (q.2.2.2.1.length ≤ R.cells + c0 → pz_slo q.2.2.2.1 ≤ R.slots + s0 → pz_At p l e R s m args below meth c Q base ex fz dC dI cA nL c0 s0 (pc + pz_len (pc, (.lsub), a, b, z)) q.1 q.2.1 q.2.2 → pz_At p l e R s m args below meth c Q base ex fz dC dI cA nL c0 s0 pc L st M) := by
  simp only [pz_stp, pz_jj] at h
  (repeat' split at h) <;> first | (cases h; done) | (cases h; exact ⟨⟨hlen, hX, Nat.le_refl _, Nat.le_refl _⟩, fun _ _ k => pz_k_lsub C hd k⟩)
theorem pz_t_lmul (C : pz_Cx p s m args meth c base ex fz dC dI cA X own cc nL ini c0) (hX : M.1 = X) {a b z : Nat} {ret : Option FieldType} (hd : decode cc pc = .ok ((.lmul), pz_len (pc, (.lmul), a, b, z))) (hlk : pz_lk own ret ini (pc, (.lmul), a, b, z) = true) {q : pz_L × List Value × pz_M} (h : pz_stp (pc, (.lmul), a, b, z) L st M = some q) (hlen : L.length = nL) (hR : 1 ≤ R.frames ∧ 60 ≤ R.locals) : (q.1.length = nL ∧ q.2.2.1 = X ∧ M.2.1.length ≤ q.2.2.2.1.length ∧ pz_slo M.2.1 ≤ pz_slo q.2.2.2.1) ∧ (q.2.2.2.1.length ≤ R.cells + c0 → pz_slo q.2.2.2.1 ≤ R.slots + s0 → pz_At p l e R s m args below meth c Q base ex fz dC dI cA nL c0 s0 (pc + pz_len (pc, (.lmul), a, b, z)) q.1 q.2.1 q.2.2 → pz_At p l e R s m args below meth c Q base ex fz dC dI cA nL c0 s0 pc L st M) := by
  simp only [pz_stp, pz_jj] at h
  (repeat' split at h) <;> first | (cases h; done) | (cases h; exact ⟨⟨hlen, hX, Nat.le_refl _, Nat.le_refl _⟩, fun _ _ k => pz_k_lmul C hd k⟩)
theorem pz_t_lor (C : pz_Cx p s m args meth c base ex fz dC dI cA X own cc nL ini c0) (hX : M.1 = X) {a b z : Nat} {ret : Option FieldType} (hd : decode cc pc = .ok ((.lor), pz_len (pc, (.lor), a, b, z))) (hlk : pz_lk own ret ini (pc, (.lor), a, b, z) = true) {q : pz_L × List Value × pz_M} (h : pz_stp (pc, (.lor), a, b, z) L st M = some q) (hlen : L.length = nL) (hR : 1 ≤ R.frames ∧ 60 ≤ R.locals) : (q.1.length = nL ∧ q.2.2.1 = X ∧ M.2.1.length ≤ q.2.2.2.1.length ∧ pz_slo M.2.1 ≤ pz_slo q.2.2.2.1) ∧ (q.2.2.2.1.length ≤ R.cells + c0 → pz_slo q.2.2.2.1 ≤ R.slots + s0 → pz_At p l e R s m args below meth c Q base ex fz dC dI cA nL c0 s0 (pc + pz_len (pc, (.lor), a, b, z)) q.1 q.2.1 q.2.2 → pz_At p l e R s m args below meth c Q base ex fz dC dI cA nL c0 s0 pc L st M) := by
  simp only [pz_stp, pz_jj] at h
  (repeat' split at h) <;> first | (cases h; done) | (cases h; exact ⟨⟨hlen, hX, Nat.le_refl _, Nat.le_refl _⟩, fun _ _ k => pz_k_lor C hd k⟩)
theorem pz_t_lneg (C : pz_Cx p s m args meth c base ex fz dC dI cA X own cc nL ini c0) (hX : M.1 = X) {a b z : Nat} {ret : Option FieldType} (hd : decode cc pc = .ok ((.lneg), pz_len (pc, (.lneg), a, b, z))) (hlk : pz_lk own ret ini (pc, (.lneg), a, b, z) = true) {q : pz_L × List Value × pz_M} (h : pz_stp (pc, (.lneg), a, b, z) L st M = some q) (hlen : L.length = nL) (hR : 1 ≤ R.frames ∧ 60 ≤ R.locals) : (q.1.length = nL ∧ q.2.2.1 = X ∧ M.2.1.length ≤ q.2.2.2.1.length ∧ pz_slo M.2.1 ≤ pz_slo q.2.2.2.1) ∧ (q.2.2.2.1.length ≤ R.cells + c0 → pz_slo q.2.2.2.1 ≤ R.slots + s0 → pz_At p l e R s m args below meth c Q base ex fz dC dI cA nL c0 s0 (pc + pz_len (pc, (.lneg), a, b, z)) q.1 q.2.1 q.2.2 → pz_At p l e R s m args below meth c Q base ex fz dC dI cA nL c0 s0 pc L st M) := by
  simp only [pz_stp] at h
  (repeat' split at h) <;> first | (cases h; done) | (cases h; exact ⟨⟨hlen, hX, Nat.le_refl _, Nat.le_refl _⟩, fun _ _ k => pz_k_lneg C hd k⟩)
theorem pz_t_lshl (C : pz_Cx p s m args meth c base ex fz dC dI cA X own cc nL ini c0) (hX : M.1 = X) {a b z : Nat} {ret : Option FieldType} (hd : decode cc pc = .ok ((.lshl), pz_len (pc, (.lshl), a, b, z))) (hlk : pz_lk own ret ini (pc, (.lshl), a, b, z) = true) {q : pz_L × List Value × pz_M} (h : pz_stp (pc, (.lshl), a, b, z) L st M = some q) (hlen : L.length = nL) (hR : 1 ≤ R.frames ∧ 60 ≤ R.locals) : (q.1.length = nL ∧ q.2.2.1 = X ∧ M.2.1.length ≤ q.2.2.2.1.length ∧ pz_slo M.2.1 ≤ pz_slo q.2.2.2.1) ∧ (q.2.2.2.1.length ≤ R.cells + c0 → pz_slo q.2.2.2.1 ≤ R.slots + s0 → pz_At p l e R s m args below meth c Q base ex fz dC dI cA nL c0 s0 (pc + pz_len (pc, (.lshl), a, b, z)) q.1 q.2.1 q.2.2 → pz_At p l e R s m args below meth c Q base ex fz dC dI cA nL c0 s0 pc L st M) := by
  simp only [pz_stp] at h
  (repeat' split at h) <;> first | (cases h; done) | (cases h; exact ⟨⟨hlen, hX, Nat.le_refl _, Nat.le_refl _⟩, fun _ _ k => pz_k_lshl C hd k⟩)
theorem pz_t_lcmp (C : pz_Cx p s m args meth c base ex fz dC dI cA X own cc nL ini c0) (hX : M.1 = X) {a b z : Nat} {ret : Option FieldType} (hd : decode cc pc = .ok ((.lcmp), pz_len (pc, (.lcmp), a, b, z))) (hlk : pz_lk own ret ini (pc, (.lcmp), a, b, z) = true) {q : pz_L × List Value × pz_M} (h : pz_stp (pc, (.lcmp), a, b, z) L st M = some q) (hlen : L.length = nL) (hR : 1 ≤ R.frames ∧ 60 ≤ R.locals) : (q.1.length = nL ∧ q.2.2.1 = X ∧ M.2.1.length ≤ q.2.2.2.1.length ∧ pz_slo M.2.1 ≤ pz_slo q.2.2.2.1) ∧ (q.2.2.2.1.length ≤ R.cells + c0 → pz_slo q.2.2.2.1 ≤ R.slots + s0 → pz_At p l e R s m args below meth c Q base ex fz dC dI cA nL c0 s0 (pc + pz_len (pc, (.lcmp), a, b, z)) q.1 q.2.1 q.2.2 → pz_At p l e R s m args below meth c Q base ex fz dC dI cA nL c0 s0 pc L st M) := by
  simp only [pz_stp] at h
  (repeat' split at h) <;> first | (cases h; done) | (cases h; exact ⟨⟨hlen, hX, Nat.le_refl _, Nat.le_refl _⟩, fun _ _ k => pz_k_lcmp C hd k⟩)
theorem pz_t_i2l (C : pz_Cx p s m args meth c base ex fz dC dI cA X own cc nL ini c0) (hX : M.1 = X) {a b z : Nat} {ret : Option FieldType} (hd : decode cc pc = .ok ((.i2l), pz_len (pc, (.i2l), a, b, z))) (hlk : pz_lk own ret ini (pc, (.i2l), a, b, z) = true) {q : pz_L × List Value × pz_M} (h : pz_stp (pc, (.i2l), a, b, z) L st M = some q) (hlen : L.length = nL) (hR : 1 ≤ R.frames ∧ 60 ≤ R.locals) : (q.1.length = nL ∧ q.2.2.1 = X ∧ M.2.1.length ≤ q.2.2.2.1.length ∧ pz_slo M.2.1 ≤ pz_slo q.2.2.2.1) ∧ (q.2.2.2.1.length ≤ R.cells + c0 → pz_slo q.2.2.2.1 ≤ R.slots + s0 → pz_At p l e R s m args below meth c Q base ex fz dC dI cA nL c0 s0 (pc + pz_len (pc, (.i2l), a, b, z)) q.1 q.2.1 q.2.2 → pz_At p l e R s m args below meth c Q base ex fz dC dI cA nL c0 s0 pc L st M) := by
  simp only [pz_stp] at h
  (repeat' split at h) <;> first | (cases h; done) | (cases h; exact ⟨⟨hlen, hX, Nat.le_refl _, Nat.le_refl _⟩, fun _ _ k => pz_k_i2l C hd k⟩)
theorem pz_t_l2i (C : pz_Cx p s m args meth c base ex fz dC dI cA X own cc nL ini c0) (hX : M.1 = X) {a b z : Nat} {ret : Option FieldType} (hd : decode cc pc = .ok ((.l2i), pz_len (pc, (.l2i), a, b, z))) (hlk : pz_lk own ret ini (pc, (.l2i), a, b, z) = true) {q : pz_L × List Value × pz_M} (h : pz_stp (pc, (.l2i), a, b, z) L st M = some q) (hlen : L.length = nL) (hR : 1 ≤ R.frames ∧ 60 ≤ R.locals) : (q.1.length = nL ∧ q.2.2.1 = X ∧ M.2.1.length ≤ q.2.2.2.1.length ∧ pz_slo M.2.1 ≤ pz_slo q.2.2.2.1) ∧ (q.2.2.2.1.length ≤ R.cells + c0 → pz_slo q.2.2.2.1 ≤ R.slots + s0 → pz_At p l e R s m args below meth c Q base ex fz dC dI cA nL c0 s0 (pc + pz_len (pc, (.l2i), a, b, z)) q.1 q.2.1 q.2.2 → pz_At p l e R s m args below meth c Q base ex fz dC dI cA nL c0 s0 pc L st M) := by
  simp only [pz_stp] at h
  (repeat' split at h) <;> first | (cases h; done) | (cases h; exact ⟨⟨hlen, hX, Nat.le_refl _, Nat.le_refl _⟩, fun _ _ k => pz_k_l2i C hd k⟩)
theorem pz_t_i2b (C : pz_Cx p s m args meth c base ex fz dC dI cA X own cc nL ini c0) (hX : M.1 = X) {a b z : Nat} {ret : Option FieldType} (hd : decode cc pc = .ok ((.i2b), pz_len (pc, (.i2b), a, b, z))) (hlk : pz_lk own ret ini (pc, (.i2b), a, b, z) = true) {q : pz_L × List Value × pz_M} (h : pz_stp (pc, (.i2b), a, b, z) L st M = some q) (hlen : L.length = nL) (hR : 1 ≤ R.frames ∧ 60 ≤ R.locals) : (q.1.length = nL ∧ q.2.2.1 = X ∧ M.2.1.length ≤ q.2.2.2.1.length ∧ pz_slo M.2.1 ≤ pz_slo q.2.2.2.1) ∧ (q.2.2.2.1.length ≤ R.cells + c0 → pz_slo q.2.2.2.1 ≤ R.slots + s0 → pz_At p l e R s m args below meth c Q base ex fz dC dI cA nL c0 s0 (pc + pz_len (pc, (.i2b), a, b, z)) q.1 q.2.1 q.2.2 → pz_At p l e R s m args below meth c Q base ex fz dC dI cA nL c0 s0 pc L st M) := by
  simp only [pz_stp] at h
  (repeat' split at h) <;> first | (cases h; done) | (cases h; exact ⟨⟨hlen, hX, Nat.le_refl _, Nat.le_refl _⟩, fun _ _ k => pz_k_i2b C hd k⟩)
theorem pz_t_i2c (C : pz_Cx p s m args meth c base ex fz dC dI cA X own cc nL ini c0) (hX : M.1 = X) {a b z : Nat} {ret : Option FieldType} (hd : decode cc pc = .ok ((.i2c), pz_len (pc, (.i2c), a, b, z))) (hlk : pz_lk own ret ini (pc, (.i2c), a, b, z) = true) {q : pz_L × List Value × pz_M} (h : pz_stp (pc, (.i2c), a, b, z) L st M = some q) (hlen : L.length = nL) (hR : 1 ≤ R.frames ∧ 60 ≤ R.locals) : (q.1.length = nL ∧ q.2.2.1 = X ∧ M.2.1.length ≤ q.2.2.2.1.length ∧ pz_slo M.2.1 ≤ pz_slo q.2.2.2.1) ∧ (q.2.2.2.1.length ≤ R.cells + c0 → pz_slo q.2.2.2.1 ≤ R.slots + s0 → pz_At p l e R s m args below meth c Q base ex fz dC dI cA nL c0 s0 (pc + pz_len (pc, (.i2c), a, b, z)) q.1 q.2.1 q.2.2 → pz_At p l e R s m args below meth c Q base ex fz dC dI cA nL c0 s0 pc L st M) := by
  simp only [pz_stp] at h
  (repeat' split at h) <;> first | (cases h; done) | (cases h; exact ⟨⟨hlen, hX, Nat.le_refl _, Nat.le_refl _⟩, fun _ _ k => pz_k_i2c C hd k⟩)
theorem pz_t_idiv (C : pz_Cx p s m args meth c base ex fz dC dI cA X own cc nL ini c0) (hX : M.1 = X) {a b z : Nat} {ret : Option FieldType} (hd : decode cc pc = .ok ((.idiv), pz_len (pc, (.idiv), a, b, z))) (hlk : pz_lk own ret ini (pc, (.idiv), a, b, z) = true) {q : pz_L × List Value × pz_M} (h : pz_stp (pc, (.idiv), a, b, z) L st M = some q) (hlen : L.length = nL) (hR : 1 ≤ R.frames ∧ 60 ≤ R.locals) : (q.1.length = nL ∧ q.2.2.1 = X ∧ M.2.1.length ≤ q.2.2.2.1.length ∧ pz_slo M.2.1 ≤ pz_slo q.2.2.2.1) ∧ (q.2.2.2.1.length ≤ R.cells + c0 → pz_slo q.2.2.2.1 ≤ R.slots + s0 → pz_At p l e R s m args below meth c Q base ex fz dC dI cA nL c0 s0 (pc + pz_len (pc, (.idiv), a, b, z)) q.1 q.2.1 q.2.2 → pz_At p l e R s m args below meth c Q base ex fz dC dI cA nL c0 s0 pc L st M) := by
  simp only [pz_stp] at h
  (repeat' split at h) <;> first | (cases h; done) | (cases h; exact ⟨⟨hlen, hX, Nat.le_refl _, Nat.le_refl _⟩, fun _ _ k => pz_k_idiv C (by assumption) hd k⟩)
theorem pz_t_irem (C : pz_Cx p s m args meth c base ex fz dC dI cA X own cc nL ini c0) (hX : M.1 = X) {a b z : Nat} {ret : Option FieldType} (hd : decode cc pc = .ok ((.irem), pz_len (pc, (.irem), a, b, z))) (hlk : pz_lk own ret ini (pc, (.irem), a, b, z) = true) {q : pz_L × List Value × pz_M} (h : pz_stp (pc, (.irem), a, b, z) L st M = some q) (hlen : L.length = nL) (hR : 1 ≤ R.frames ∧ 60 ≤ R.locals) : (q.1.length = nL ∧ q.2.2.1 = X ∧ M.2.1.length ≤ q.2.2.2.1.length ∧ pz_slo M.2.1 ≤ pz_slo q.2.2.2.1) ∧ (q.2.2.2.1.length ≤ R.cells + c0 → pz_slo q.2.2.2.1 ≤ R.slots + s0 → pz_At p l e R s m args below meth c Q base ex fz dC dI cA nL c0 s0 (pc + pz_len (pc, (.irem), a, b, z)) q.1 q.2.1 q.2.2 → pz_At p l e R s m args below meth c Q base ex fz dC dI cA nL c0 s0 pc L st M) := by
  simp only [pz_stp] at h
  (repeat' split at h) <;> first | (cases h; done) | (cases h; exact ⟨⟨hlen, hX, Nat.le_refl _, Nat.le_refl _⟩, fun _ _ k => pz_k_irem C (by assumption) hd k⟩)
theorem pz_t_ldiv (C : pz_Cx p s m args meth c base ex fz dC dI cA X own cc nL ini c0) (hX : M.1 = X) {a b z : Nat} {ret : Option FieldType} (hd : decode cc pc = .ok ((.ldiv), pz_len (pc, (.ldiv), a, b, z))) (hlk : pz_lk own ret ini (pc, (.ldiv), a, b, z) = true) {q : pz_L × List Value × pz_M} (h : pz_stp (pc, (.ldiv), a, b, z) L st M = some q) (hlen : L.length = nL) (hR : 1 ≤ R.frames ∧ 60 ≤ R.locals) : (q.1.length = nL ∧ q.2.2.1 = X ∧ M.2.1.length ≤ q.2.2.2.1.length ∧ pz_slo M.2.1 ≤ pz_slo q.2.2.2.1) ∧ (q.2.2.2.1.length ≤ R.cells + c0 → pz_slo q.2.2.2.1 ≤ R.slots + s0 → pz_At p l e R s m args below meth c Q base ex fz dC dI cA nL c0 s0 (pc + pz_len (pc, (.ldiv), a, b, z)) q.1 q.2.1 q.2.2 → pz_At p l e R s m args below meth c Q base ex fz dC dI cA nL c0 s0 pc L st M) := by
  simp only [pz_stp] at h
  (repeat' split at h) <;> first | (cases h; done) | (cases h; exact ⟨⟨hlen, hX, Nat.le_refl _, Nat.le_refl _⟩, fun _ _ k => pz_k_ldiv C (by assumption) hd k⟩)
theorem pz_t_lrem (C : pz_Cx p s m args meth c base ex fz dC dI cA X own cc nL ini c0) (hX : M.1 = X) {a b z : Nat} {ret : Option FieldType} (hd : decode cc pc = .ok ((.lrem), pz_len (pc, (.lrem), a, b, z))) (hlk : pz_lk own ret ini (pc, (.lrem), a, b, z) = true) {q : pz_L × List Value × pz_M} (h : pz_stp (pc, (.lrem), a, b, z) L st M = some q) (hlen : L.length = nL) (hR : 1 ≤ R.frames ∧ 60 ≤ R.locals) : (q.1.length = nL ∧ q.2.2.1 = X ∧ M.2.1.length ≤ q.2.2.2.1.length ∧ pz_slo M.2.1 ≤ pz_slo q.2.2.2.1) ∧ (q.2.2.2.1.length ≤ R.cells + c0 → pz_slo q.2.2.2.1 ≤ R.slots + s0 → pz_At p l e R s m args below meth c Q base ex fz dC dI cA nL c0 s0 (pc + pz_len (pc, (.lrem), a, b, z)) q.1 q.2.1 q.2.2 → pz_At p l e R s m args below meth c Q base ex fz dC dI cA nL c0 s0 pc L st M) := by
  simp only [pz_stp] at h
  (repeat' split at h) <;> first | (cases h; done) | (cases h; exact ⟨⟨hlen, hX, Nat.le_refl _, Nat.le_refl _⟩, fun _ _ k => pz_k_lrem C (by assumption) hd k⟩)
theorem pz_t_dup (C : pz_Cx p s m args meth c base ex fz dC dI cA X own cc nL ini c0) (hX : M.1 = X) {a b z : Nat} {ret : Option FieldType} (hd : decode cc pc = .ok ((.dup), pz_len (pc, (.dup), a, b, z))) (hlk : pz_lk own ret ini (pc, (.dup), a, b, z) = true) {q : pz_L × List Value × pz_M} (h : pz_stp (pc, (.dup), a, b, z) L st M = some q) (hlen : L.length = nL) (hR : 1 ≤ R.frames ∧ 60 ≤ R.locals) : (q.1.length = nL ∧ q.2.2.1 = X ∧ M.2.1.length ≤ q.2.2.2.1.length ∧ pz_slo M.2.1 ≤ pz_slo q.2.2.2.1) ∧ (q.2.2.2.1.length ≤ R.cells + c0 → pz_slo q.2.2.2.1 ≤ R.slots + s0 → pz_At p l e R s m args below meth c Q base ex fz dC dI cA nL c0 s0 (pc + pz_len (pc, (.dup), a, b, z)) q.1 q.2.1 q.2.2 → pz_At p l e R s m args below meth c Q base ex fz dC dI cA nL c0 s0 pc L st M) := by
  simp only [pz_stp] at h
  (repeat' split at h) <;> first | (cases h; done) | (cases h; exact ⟨⟨hlen, hX, Nat.le_refl _, Nat.le_refl _⟩, fun _ _ k => pz_k_dup C (by assumption) hd k⟩)
theorem pz_t_pop (C : pz_Cx p s m args meth c base ex fz dC dI cA X own cc nL ini c0) (hX : M.1 = X) {a b z : Nat} {ret : Option FieldType} (hd : decode cc pc = .ok ((.pop), pz_len (pc, (.pop), a, b, z))) (hlk : pz_lk own ret ini (pc, (.pop), a, b, z) = true) {q : pz_L × List Value × pz_M} (h : pz_stp (pc, (.pop), a, b, z) L st M = some q) (hlen : L.length = nL) (hR : 1 ≤ R.frames ∧ 60 ≤ R.locals) : (q.1.length = nL ∧ q.2.2.1 = X ∧ M.2.1.length ≤ q.2.2.2.1.length ∧ pz_slo M.2.1 ≤ pz_slo q.2.2.2.1) ∧ (q.2.2.2.1.length ≤ R.cells + c0 → pz_slo q.2.2.2.1 ≤ R.slots + s0 → pz_At p l e R s m args below meth c Q base ex fz dC dI cA nL c0 s0 (pc + pz_len (pc, (.pop), a, b, z)) q.1 q.2.1 q.2.2 → pz_At p l e R s m args below meth c Q base ex fz dC dI cA nL c0 s0 pc L st M) := by
  simp only [pz_stp] at h
  (repeat' split at h) <;> first | (cases h; done) | (cases h; exact ⟨⟨hlen, hX, Nat.le_refl _, Nat.le_refl _⟩, fun _ _ k => pz_k_pop C (by assumption) hd k⟩)
theorem pz_t_dup2 (C : pz_Cx p s m args meth c base ex fz dC dI cA X own cc nL ini c0) (hX : M.1 = X) {a b z : Nat} {ret : Option FieldType} (hd : decode cc pc = .ok ((.dup2), pz_len (pc, (.dup2), a, b, z))) (hlk : pz_lk own ret ini (pc, (.dup2), a, b, z) = true) {q : pz_L × List Value × pz_M} (h : pz_stp (pc, (.dup2), a, b, z) L st M = some q) (hlen : L.length = nL) (hR : 1 ≤ R.frames ∧ 60 ≤ R.locals) : (q.1.length = nL ∧ q.2.2.1 = X ∧ M.2.1.length ≤ q.2.2.2.1.length ∧ pz_slo M.2.1 ≤ pz_slo q.2.2.2.1) ∧ (q.2.2.2.1.length ≤ R.cells + c0 → pz_slo q.2.2.2.1 ≤ R.slots + s0 → pz_At p l e R s m args below meth c Q base ex fz dC dI cA nL c0 s0 (pc + pz_len (pc, (.dup2), a, b, z)) q.1 q.2.1 q.2.2 → pz_At p l e R s m args below meth c Q base ex fz dC dI cA nL c0 s0 pc L st M) := by
  simp only [pz_stp] at h
  (repeat' split at h) <;> first | (cases h; done) | (cases h; exact ⟨⟨hlen, hX, Nat.le_refl _, Nat.le_refl _⟩, fun _ _ k => pz_k_dup2 C (by assumption) hd k⟩)
theorem pz_t_iload (C : pz_Cx p s m args meth c base ex fz dC dI cA X own cc nL ini c0) (hX : M.1 = X) {i : Nat} {a b z : Nat} {ret : Option FieldType} (hd : decode cc pc = .ok ((.iload i), pz_len (pc, (.iload i), a, b, z))) (hlk : pz_lk own ret ini (pc, (.iload i), a, b, z) = true) {q : pz_L × List Value × pz_M} (h : pz_stp (pc, (.iload i), a, b, z) L st M = some q) (hlen : L.length = nL) (hR : 1 ≤ R.frames ∧ 60 ≤ R.locals) : (q.1.length = nL ∧ q.2.2.1 = X ∧ M.2.1.length ≤ q.2.2.2.1.length ∧ pz_slo M.2.1 ≤ pz_slo q.2.2.2.1) ∧ (q.2.2.2.1.length ≤ R.cells + c0 → pz_slo q.2.2.2.1 ≤ R.slots + s0 → pz_At p l e R s m args below meth c Q base ex fz dC dI cA nL c0 s0 (pc + pz_len (pc, (.iload i), a, b, z)) q.1 q.2.1 q.2.2 → pz_At p l e R s m args below meth c Q base ex fz dC dI cA nL c0 s0 pc L st M) := by
  simp only [pz_stp, pz_li] at h
  (repeat' split at h) <;> first | (cases h; done) | (cases h; exact ⟨⟨hlen, hX, Nat.le_refl _, Nat.le_refl _⟩, fun _ _ k => pz_k_iload C (by assumption) hd k⟩)
theorem pz_t_iload_n (C : pz_Cx p s m args meth c base ex fz dC dI cA X own cc nL ini c0) (hX : M.1 = X) {i : Fin 4} {a b z : Nat} {ret : Option FieldType} (hd : decode cc pc = .ok ((.iload_n i), pz_len (pc, (.iload_n i), a, b, z))) (hlk : pz_lk own ret ini (pc, (.iload_n i), a, b, z) = true) {q : pz_L × List Value × pz_M} (h : pz_stp (pc, (.iload_n i), a, b, z) L st M = some q) (hlen : L.length = nL) (hR : 1 ≤ R.frames ∧ 60 ≤ R.locals) : (q.1.length = nL ∧ q.2.2.1 = X ∧ M.2.1.length ≤ q.2.2.2.1.length ∧ pz_slo M.2.1 ≤ pz_slo q.2.2.2.1) ∧ (q.2.2.2.1.length ≤ R.cells + c0 → pz_slo q.2.2.2.1 ≤ R.slots + s0 → pz_At p l e R s m args below meth c Q base ex fz dC dI cA nL c0 s0 (pc + pz_len (pc, (.iload_n i), a, b, z)) q.1 q.2.1 q.2.2 → pz_At p l e R s m args below meth c Q base ex fz dC dI cA nL c0 s0 pc L st M) := by
  simp only [pz_stp, pz_li] at h
  (repeat' split at h) <;> first | (cases h; done) | (cases h; exact ⟨⟨hlen, hX, Nat.le_refl _, Nat.le_refl _⟩, fun _ _ k => pz_k_iload_n C (by assumption) hd k⟩)
theorem pz_t_lload (C : pz_Cx p s m args meth c base ex fz dC dI cA X own cc nL ini c0) (hX : M.1 = X) {i : Nat} {a b z : Nat} {ret : Option FieldType} (hd : decode cc pc = .ok ((.lload i), pz_len (pc, (.lload i), a, b, z))) (hlk : pz_lk own ret ini (pc, (.lload i), a, b, z) = true) {q : pz_L × List Value × pz_M} (h : pz_stp (pc, (.lload i), a, b, z) L st M = some q) (hlen : L.length = nL) (hR : 1 ≤ R.frames ∧ 60 ≤ R.locals) : (q.1.length = nL ∧ q.2.2.1 = X ∧ M.2.1.length ≤ q.2.2.2.1.length ∧ pz_slo M.2.1 ≤ pz_slo q.2.2.2.1) ∧ (q.2.2.2.1.length ≤ R.cells + c0 → pz_slo q.2.2.2.1 ≤ R.slots + s0 → pz_At p l e R s m args below meth c Q base ex fz dC dI cA nL c0 s0 (pc + pz_len (pc, (.lload i), a, b, z)) q.1 q.2.1 q.2.2 → pz_At p l e R s m args below meth c Q base ex fz dC dI cA nL c0 s0 pc L st M) := by
  simp only [pz_stp, pz_ll] at h
  (repeat' split at h) <;> first | (cases h; done) | (cases h; exact ⟨⟨hlen, hX, Nat.le_refl _, Nat.le_refl _⟩, fun _ _ k => pz_k_lload C (by assumption) hd k⟩)
theorem pz_t_lload_n (C : pz_Cx p s m args meth c base ex fz dC dI cA X own cc nL ini c0) (hX : M.1 = X) {i : Fin 4} {a b z : Nat} {ret : Option FieldType} (hd : decode cc pc = .ok ((.lload_n i), pz_len (pc, (.lload_n i), a, b, z))) (hlk : pz_lk own ret ini (pc, (.lload_n i), a, b, z) = true) {q : pz_L × List Value × pz_M} (h : pz_stp (pc, (.lload_n i), a, b, z) L st M = some q) (hlen : L.length = nL) (hR : 1 ≤ R.frames ∧ 60 ≤ R.locals) : (q.1.length = nL ∧ q.2.2.1 = X ∧ M.2.1.length ≤ q.2.2.2.1.length ∧ pz_slo M.2.1 ≤ pz_slo q.2.2.2.1) ∧ (q.2.2.2.1.length ≤ R.cells + c0 → pz_slo q.2.2.2.1 ≤ R.slots + s0 → pz_At p l e R s m args below meth c Q base ex fz dC dI cA nL c0 s0 (pc + pz_len (pc, (.lload_n i), a, b, z)) q.1 q.2.1 q.2.2 → pz_At p l e R s m args below meth c Q base ex fz dC dI cA nL c0 s0 pc L st M) := by
  simp only [pz_stp, pz_ll] at h
  (repeat' split at h) <;> first | (cases h; done) | (cases h; exact ⟨⟨hlen, hX, Nat.le_refl _, Nat.le_refl _⟩, fun _ _ k => pz_k_lload_n C (by assumption) hd k⟩)
theorem pz_t_aload (C : pz_Cx p s m args meth c base ex fz dC dI cA X own cc nL ini c0) (hX : M.1 = X) {i : Nat} {a b z : Nat} {ret : Option FieldType} (hd : decode cc pc = .ok ((.aload i), pz_len (pc, (.aload i), a, b, z))) (hlk : pz_lk own ret ini (pc, (.aload i), a, b, z) = true) {q : pz_L × List Value × pz_M} (h : pz_stp (pc, (.aload i), a, b, z) L st M = some q) (hlen : L.length = nL) (hR : 1 ≤ R.frames ∧ 60 ≤ R.locals) : (q.1.length = nL ∧ q.2.2.1 = X ∧ M.2.1.length ≤ q.2.2.2.1.length ∧ pz_slo M.2.1 ≤ pz_slo q.2.2.2.1) ∧ (q.2.2.2.1.length ≤ R.cells + c0 → pz_slo q.2.2.2.1 ≤ R.slots + s0 → pz_At p l e R s m args below meth c Q base ex fz dC dI cA nL c0 s0 (pc + pz_len (pc, (.aload i), a, b, z)) q.1 q.2.1 q.2.2 → pz_At p l e R s m args below meth c Q base ex fz dC dI cA nL c0 s0 pc L st M) := by
  simp only [pz_stp, pz_la] at h
  (repeat' split at h) <;> first | (cases h; done) | (cases h; exact ⟨⟨hlen, hX, Nat.le_refl _, Nat.le_refl _⟩, fun _ _ k => pz_k_aloadr C (by assumption) hd k⟩) | (cases h; exact ⟨⟨hlen, hX, Nat.le_refl _, Nat.le_refl _⟩, fun _ _ k => pz_k_aloade C (by assumption) hd k⟩)
theorem pz_t_aload_n (C : pz_Cx p s m args meth c base ex fz dC dI cA X own cc nL ini c0) (hX : M.1 = X) {i : Fin 4} {a b z : Nat} {ret : Option FieldType} (hd : decode cc pc = .ok ((.aload_n i), pz_len (pc, (.aload_n i), a, b, z))) (hlk : pz_lk own ret ini (pc, (.aload_n i), a, b, z) = true) {q : pz_L × List Value × pz_M} (h : pz_stp (pc, (.aload_n i), a, b, z) L st M = some q) (hlen : L.length = nL) (hR : 1 ≤ R.frames ∧ 60 ≤ R.locals) : (q.1.length = nL ∧ q.2.2.1 = X ∧ M.2.1.length ≤ q.2.2.2.1.length ∧ pz_slo M.2.1 ≤ pz_slo q.2.2.2.1) ∧ (q.2.2.2.1.length ≤ R.cells + c0 → pz_slo q.2.2.2.1 ≤ R.slots + s0 → pz_At p l e R s m args below meth c Q base ex fz dC dI cA nL c0 s0 (pc + pz_len (pc, (.aload_n i), a, b, z)) q.1 q.2.1 q.2.2 → pz_At p l e R s m args below meth c Q base ex fz dC dI cA nL c0 s0 pc L st M) := by
  simp only [pz_stp, pz_la] at h
  (repeat' split at h) <;> first | (cases h; done) | (cases h; exact ⟨⟨hlen, hX, Nat.le_refl _, Nat.le_refl _⟩, fun _ _ k => pz_k_aload_nr C (by assumption) hd k⟩) | (cases h; exact ⟨⟨hlen, hX, Nat.le_refl _, Nat.le_refl _⟩, fun _ _ k => pz_k_aload_ne C (by assumption) hd k⟩)
theorem pz_t_istore (C : pz_Cx p s m args meth c base ex fz dC dI cA X own cc nL ini c0) (hX : M.1 = X) {i : Nat} {a b z : Nat} {ret : Option FieldType} (hd : decode cc pc = .ok ((.istore i), pz_len (pc, (.istore i), a, b, z))) (hlk : pz_lk own ret ini (pc, (.istore i), a, b, z) = true) {q : pz_L × List Value × pz_M} (h : pz_stp (pc, (.istore i), a, b, z) L st M = some q) (hlen : L.length = nL) (hR : 1 ≤ R.frames ∧ 60 ≤ R.locals) : (q.1.length = nL ∧ q.2.2.1 = X ∧ M.2.1.length ≤ q.2.2.2.1.length ∧ pz_slo M.2.1 ≤ pz_slo q.2.2.2.1) ∧ (q.2.2.2.1.length ≤ R.cells + c0 → pz_slo q.2.2.2.1 ≤ R.slots + s0 → pz_At p l e R s m args below meth c Q base ex fz dC dI cA nL c0 s0 (pc + pz_len (pc, (.istore i), a, b, z)) q.1 q.2.1 q.2.2 → pz_At p l e R s m args below meth c Q base ex fz dC dI cA nL c0 s0 pc L st M) := by
  simp only [pz_stp, pz_si] at h
  (repeat' split at h) <;> first | (cases h; done) | (cases h; exact ⟨⟨by rw [pz_s1_len]; exact hlen, hX, Nat.le_refl _, Nat.le_refl _⟩, fun _ _ k => pz_k_istore C (by omega) hd k⟩)
theorem pz_t_istore_n (C : pz_Cx p s m args meth c base ex fz dC dI cA X own cc nL ini c0) (hX : M.1 = X) {i : Fin 4} {a b z : Nat} {ret : Option FieldType} (hd : decode cc pc = .ok ((.istore_n i), pz_len (pc, (.istore_n i), a, b, z))) (hlk : pz_lk own ret ini (pc, (.istore_n i), a, b, z) = true) {q : pz_L × List Value × pz_M} (h : pz_stp (pc, (.istore_n i), a, b, z) L st M = some q) (hlen : L.length = nL) (hR : 1 ≤ R.frames ∧ 60 ≤ R.locals) : (q.1.length = nL ∧ q.2.2.1 = X ∧ M.2.1.length ≤ q.2.2.2.1.length ∧ pz_slo M.2.1 ≤ pz_slo q.2.2.2.1) ∧ (q.2.2.2.1.length ≤ R.cells + c0 → pz_slo q.2.2.2.1 ≤ R.slots + s0 → pz_At p l e R s m args below meth c Q base ex fz dC dI cA nL c0 s0 (pc + pz_len (pc, (.istore_n i), a, b, z)) q.1 q.2.1 q.2.2 → pz_At p l e R s m args below meth c Q base ex fz dC dI cA nL c0 s0 pc L st M) := by
  simp only [pz_stp, pz_si] at h
  (repeat' split at h) <;> first | (cases h; done) | (cases h; exact ⟨⟨by rw [pz_s1_len]; exact hlen, hX, Nat.le_refl _, Nat.le_refl _⟩, fun _ _ k => pz_k_istore_n C (by omega) hd k⟩)
theorem pz_t_lstore (C : pz_Cx p s m args meth c base ex fz dC dI cA X own cc nL ini c0) (hX : M.1 = X) {i : Nat} {a b z : Nat} {ret : Option FieldType} (hd : decode cc pc = .ok ((.lstore i), pz_len (pc, (.lstore i), a, b, z))) (hlk : pz_lk own ret ini (pc, (.lstore i), a, b, z) = true) {q : pz_L × List Value × pz_M} (h : pz_stp (pc, (.lstore i), a, b, z) L st M = some q) (hlen : L.length = nL) (hR : 1 ≤ R.frames ∧ 60 ≤ R.locals) : (q.1.length = nL ∧ q.2.2.1 = X ∧ M.2.1.length ≤ q.2.2.2.1.length ∧ pz_slo M.2.1 ≤ pz_slo q.2.2.2.1) ∧ (q.2.2.2.1.length ≤ R.cells + c0 → pz_slo q.2.2.2.1 ≤ R.slots + s0 → pz_At p l e R s m args below meth c Q base ex fz dC dI cA nL c0 s0 (pc + pz_len (pc, (.lstore i), a, b, z)) q.1 q.2.1 q.2.2 → pz_At p l e R s m args below meth c Q base ex fz dC dI cA nL c0 s0 pc L st M) := by
  simp only [pz_stp, pz_sl] at h
  (repeat' split at h) <;> first | (cases h; done) | (cases h; exact ⟨⟨by rw [pz_s2_len]; exact hlen, hX, Nat.le_refl _, Nat.le_refl _⟩, fun _ _ k => pz_k_lstore C (by omega) hd k⟩)
theorem pz_t_lstore_n (C : pz_Cx p s m args meth c base ex fz dC dI cA X own cc nL ini c0) (hX : M.1 = X) {i : Fin 4} {a b z : Nat} {ret : Option FieldType} (hd : decode cc pc = .ok ((.lstore_n i), pz_len (pc, (.lstore_n i), a, b, z))) (hlk : pz_lk own ret ini (pc, (.lstore_n i), a, b, z) = true) {q : pz_L × List Value × pz_M} (h : pz_stp (pc, (.lstore_n i), a, b, z) L st M = some q) (hlen : L.length = nL) (hR : 1 ≤ R.frames ∧ 60 ≤ R.locals) : (q.1.length = nL ∧ q.2.2.1 = X ∧ M.2.1.length ≤ q.2.2.2.1.length ∧ pz_slo M.2.1 ≤ pz_slo q.2.2.2.1) ∧ (q.2.2.2.1.length ≤ R.cells + c0 → pz_slo q.2.2.2.1 ≤ R.slots + s0 → pz_At p l e R s m args below meth c Q base ex fz dC dI cA nL c0 s0 (pc + pz_len (pc, (.lstore_n i), a, b, z)) q.1 q.2.1 q.2.2 → pz_At p l e R s m args below meth c Q base ex fz dC dI cA nL c0 s0 pc L st M) := by
  simp only [pz_stp, pz_sl] at h
  (repeat' split at h) <;> first | (cases h; done) | (cases h; exact ⟨⟨by rw [pz_s2_len]; exact hlen, hX, Nat.le_refl _, Nat.le_refl _⟩, fun _ _ k => pz_k_lstore_n C (by omega) hd k⟩)
theorem pz_t_astore (C : pz_Cx p s m args meth c base ex fz dC dI cA X own cc nL ini c0) (hX : M.1 = X) {i : Nat} {a b z : Nat} {ret : Option FieldType} (hd : decode cc pc = .ok ((.astore i), pz_len (pc, (.astore i), a, b, z))) (hlk : pz_lk own ret ini (pc, (.astore i), a, b, z) = true) {q : pz_L × List Value × pz_M} (h : pz_stp (pc, (.astore i), a, b, z) L st M = some q) (hlen : L.length = nL) (hR : 1 ≤ R.frames ∧ 60 ≤ R.locals) : (q.1.length = nL ∧ q.2.2.1 = X ∧ M.2.1.length ≤ q.2.2.2.1.length ∧ pz_slo M.2.1 ≤ pz_slo q.2.2.2.1) ∧ (q.2.2.2.1.length ≤ R.cells + c0 → pz_slo q.2.2.2.1 ≤ R.slots + s0 → pz_At p l e R s m args below meth c Q base ex fz dC dI cA nL c0 s0 (pc + pz_len (pc, (.astore i), a, b, z)) q.1 q.2.1 q.2.2 → pz_At p l e R s m args below meth c Q base ex fz dC dI cA nL c0 s0 pc L st M) := by
  simp only [pz_stp, pz_sa] at h
  (repeat' split at h) <;> first | (cases h; done) | (cases h; exact ⟨⟨by rw [pz_s1_len]; exact hlen, hX, Nat.le_refl _, Nat.le_refl _⟩, fun _ _ k => pz_k_astorer C (by omega) hd k⟩) | (cases h; exact ⟨⟨by rw [pz_s1_len]; exact hlen, hX, Nat.le_refl _, Nat.le_refl _⟩, fun _ _ k => pz_k_astoree C (by omega) hd k⟩)
theorem pz_t_astore_n (C : pz_Cx p s m args meth c base ex fz dC dI cA X own cc nL ini c0) (hX : M.1 = X) {i : Fin 4} {a b z : Nat} {ret : Option FieldType} (hd : decode cc pc = .ok ((.astore_n i), pz_len (pc, (.astore_n i), a, b, z))) (hlk : pz_lk own ret ini (pc, (.astore_n i), a, b, z) = true) {q : pz_L × List Value × pz_M} (h : pz_stp (pc, (.astore_n i), a, b, z) L st M = some q) (hlen : L.length = nL) (hR : 1 ≤ R.frames ∧ 60 ≤ R.locals) : (q.1.length = nL ∧ q.2.2.1 = X ∧ M.2.1.length ≤ q.2.2.2.1.length ∧ pz_slo M.2.1 ≤ pz_slo q.2.2.2.1) ∧ (q.2.2.2.1.length ≤ R.cells + c0 → pz_slo q.2.2.2.1 ≤ R.slots + s0 → pz_At p l e R s m args below meth c Q base ex fz dC dI cA nL c0 s0 (pc + pz_len (pc, (.astore_n i), a, b, z)) q.1 q.2.1 q.2.2 → pz_At p l e R s m args below meth c Q base ex fz dC dI cA nL c0 s0 pc L st M) := by
  simp only [pz_stp, pz_sa] at h
  (repeat' split at h) <;> first | (cases h; done) | (cases h; exact ⟨⟨by rw [pz_s1_len]; exact hlen, hX, Nat.le_refl _, Nat.le_refl _⟩, fun _ _ k => pz_k_astorer_n C (by omega) hd k⟩) | (cases h; exact ⟨⟨by rw [pz_s1_len]; exact hlen, hX, Nat.le_refl _, Nat.le_refl _⟩, fun _ _ k => pz_k_astoree_n C (by omega) hd k⟩)
theorem pz_t_iinc (C : pz_Cx p s m args meth c base ex fz dC dI cA X own cc nL ini c0) (hX : M.1 = X) {i : Nat} {n : Int} {a b z : Nat} {ret : Option FieldType} (hd : decode cc pc = .ok ((.iinc i n), pz_len (pc, (.iinc i n), a, b, z))) (hlk : pz_lk own ret ini (pc, (.iinc i n), a, b, z) = true) {q : pz_L × List Value × pz_M} (h : pz_stp (pc, (.iinc i n), a, b, z) L st M = some q) (hlen : L.length = nL) (hR : 1 ≤ R.frames ∧ 60 ≤ R.locals) : (q.1.length = nL ∧ q.2.2.1 = X ∧ M.2.1.length ≤ q.2.2.2.1.length ∧ pz_slo M.2.1 ≤ pz_slo q.2.2.2.1) ∧ (q.2.2.2.1.length ≤ R.cells + c0 → pz_slo q.2.2.2.1 ≤ R.slots + s0 → pz_At p l e R s m args below meth c Q base ex fz dC dI cA nL c0 s0 (pc + pz_len (pc, (.iinc i n), a, b, z)) q.1 q.2.1 q.2.2 → pz_At p l e R s m args below meth c Q base ex fz dC dI cA nL c0 s0 pc L st M) := by
  simp only [pz_stp] at h
  (repeat' split at h) <;> first | (cases h; done) | (cases h; exact ⟨⟨by rw [pz_s1_len]; exact hlen, hX, Nat.le_refl _, Nat.le_refl _⟩, fun _ _ k => pz_k_iinc C (by assumption) (by have := (List.getElem?_eq_some_iff.mp (pz_ld_at (by assumption))).1; omega) hd k⟩)
theorem pz_t_iconst (C : pz_Cx p s m args meth c base ex fz dC dI cA X own cc nL ini c0) (hX : M.1 = X) {n : Int} {a b z : Nat} {ret : Option FieldType} (hd : decode cc pc = .ok ((.iconst n), pz_len (pc, (.iconst n), a, b, z))) (hlk : pz_lk own ret ini (pc, (.iconst n), a, b, z) = true) {q : pz_L × List Value × pz_M} (h : pz_stp (pc, (.iconst n), a, b, z) L st M = some q) (hlen : L.length = nL) (hR : 1 ≤ R.frames ∧ 60 ≤ R.locals) : (q.1.length = nL ∧ q.2.2.1 = X ∧ M.2.1.length ≤ q.2.2.2.1.length ∧ pz_slo M.2.1 ≤ pz_slo q.2.2.2.1) ∧ (q.2.2.2.1.length ≤ R.cells + c0 → pz_slo q.2.2.2.1 ≤ R.slots + s0 → pz_At p l e R s m args below meth c Q base ex fz dC dI cA nL c0 s0 (pc + pz_len (pc, (.iconst n), a, b, z)) q.1 q.2.1 q.2.2 → pz_At p l e R s m args below meth c Q base ex fz dC dI cA nL c0 s0 pc L st M) := by
  simp only [pz_stp] at h
  cases h
  exact ⟨⟨hlen, hX, Nat.le_refl _, Nat.le_refl _⟩, fun _ _ k => pz_k_iconst C hd k⟩
theorem pz_t_bipush (C : pz_Cx p s m args meth c base ex fz dC dI cA X own cc nL ini c0) (hX : M.1 = X) {n : Int} {a b z : Nat} {ret : Option FieldType} (hd : decode cc pc = .ok ((.bipush n), pz_len (pc, (.bipush n), a, b, z))) (hlk : pz_lk own ret ini (pc, (.bipush n), a, b, z) = true) {q : pz_L × List Value × pz_M} (h : pz_stp (pc, (.bipush n), a, b, z) L st M = some q) (hlen : L.length = nL) (hR : 1 ≤ R.frames ∧ 60 ≤ R.locals) : (q.1.length = nL ∧ q.2.2.1 = X ∧ M.2.1.length ≤ q.2.2.2.1.length ∧ pz_slo M.2.1 ≤ pz_slo q.2.2.2.1) ∧ (q.2.2.2.1.length ≤ R.cells + c0 → pz_slo q.2.2.2.1 ≤ R.slots + s0 → pz_At p l e R s m args below meth c Q base ex fz dC dI cA nL c0 s0 (pc + pz_len (pc, (.bipush n), a, b, z)) q.1 q.2.1 q.2.2 → pz_At p l e R s m args below meth c Q base ex fz dC dI cA nL c0 s0 pc L st M) := by
  simp only [pz_stp] at h
  cases h
  exact ⟨⟨hlen, hX, Nat.le_refl _, Nat.le_refl _⟩, fun _ _ k => pz_k_bipush C hd k⟩
theorem pz_t_sipush (C : pz_Cx p s m args meth c base ex fz dC dI cA X own cc nL ini c0) (hX : M.1 = X) {n : Int} {a b z : Nat} {ret : Option FieldType} (hd : decode cc pc = .ok ((.sipush n), pz_len (pc, (.sipush n), a, b, z))) (hlk : pz_lk own ret ini (pc, (.sipush n), a, b, z) = true) {q : pz_L × List Value × pz_M} (h : pz_stp (pc, (.sipush n), a, b, z) L st M = some q) (hlen : L.length = nL) (hR : 1 ≤ R.frames ∧ 60 ≤ R.locals) : (q.1.length = nL ∧ q.2.2.1 = X ∧ M.2.1.length ≤ q.2.2.2.1.length ∧ pz_slo M.2.1 ≤ pz_slo q.2.2.2.1) ∧ (q.2.2.2.1.length ≤ R.cells + c0 → pz_slo q.2.2.2.1 ≤ R.slots + s0 → pz_At p l e R s m args below meth c Q base ex fz dC dI cA nL c0 s0 (pc + pz_len (pc, (.sipush n), a, b, z)) q.1 q.2.1 q.2.2 → pz_At p l e R s m args below meth c Q base ex fz dC dI cA nL c0 s0 pc L st M) := by
  simp only [pz_stp] at h
  cases h
  exact ⟨⟨hlen, hX, Nat.le_refl _, Nat.le_refl _⟩, fun _ _ k => pz_k_sipush C hd k⟩
theorem pz_t_lconst (C : pz_Cx p s m args meth c base ex fz dC dI cA X own cc nL ini c0) (hX : M.1 = X) {n : Fin 2} {a b z : Nat} {ret : Option FieldType} (hd : decode cc pc = .ok ((.lconst n), pz_len (pc, (.lconst n), a, b, z))) (hlk : pz_lk own ret ini (pc, (.lconst n), a, b, z) = true) {q : pz_L × List Value × pz_M} (h : pz_stp (pc, (.lconst n), a, b, z) L st M = some q) (hlen : L.length = nL) (hR : 1 ≤ R.frames ∧ 60 ≤ R.locals) : (q.1.length = nL ∧ q.2.2.1 = X ∧ M.2.1.length ≤ q.2.2.2.1.length ∧ pz_slo M.2.1 ≤ pz_slo q.2.2.2.1) ∧ (q.2.2.2.1.length ≤ R.cells + c0 → pz_slo q.2.2.2.1 ≤ R.slots + s0 → pz_At p l e R s m args below meth c Q base ex fz dC dI cA nL c0 s0 (pc + pz_len (pc, (.lconst n), a, b, z)) q.1 q.2.1 q.2.2 → pz_At p l e R s m args below meth c Q base ex fz dC dI cA nL c0 s0 pc L st M) := by
  simp only [pz_stp] at h
  cases h
  exact ⟨⟨hlen, hX, Nat.le_refl _, Nat.le_refl _⟩, fun _ _ k => pz_k_lconst C hd k⟩
theorem pz_t_ldc (C : pz_Cx p s m args meth c base ex fz dC dI cA X own cc nL ini c0) (hX : M.1 = X) {i : Nat} {a b z : Nat} {ret : Option FieldType} (hd : decode cc pc = .ok ((.ldc i), pz_len (pc, (.ldc i), a, b, z))) (hlk : pz_lk own ret ini (pc, (.ldc i), a, b, z) = true) {q : pz_L × List Value × pz_M} (h : pz_stp (pc, (.ldc i), a, b, z) L st M = some q) (hlen : L.length = nL) (hR : 1 ≤ R.frames ∧ 60 ≤ R.locals) : (q.1.length = nL ∧ q.2.2.1 = X ∧ M.2.1.length ≤ q.2.2.2.1.length ∧ pz_slo M.2.1 ≤ pz_slo q.2.2.2.1) ∧ (q.2.2.2.1.length ≤ R.cells + c0 → pz_slo q.2.2.2.1 ≤ R.slots + s0 → pz_At p l e R s m args below meth c Q base ex fz dC dI cA nL c0 s0 (pc + pz_len (pc, (.ldc i), a, b, z)) q.1 q.2.1 q.2.2 → pz_At p l e R s m args below meth c Q base ex fz dC dI cA nL c0 s0 pc L st M) := by
  simp only [pz_stp] at h
  simp only [pz_lk] at hlk
  by_cases hz : z = 0
  · rw [if_pos hz] at h hlk
    cases h
    exact ⟨⟨hlen, hX, Nat.le_refl _, Nat.le_refl _⟩, fun _ _ k => pz_k_ldc C (of_decide_eq_true hlk) hd k⟩
  · rw [if_neg hz] at h hlk
    cases h
    exact ⟨⟨hlen, hX, Nat.le_refl _, Nat.le_refl _⟩, fun _ _ k => pz_k_ldcs C (of_decide_eq_true hlk) hd k⟩
theorem pz_t_ldc_w (C : pz_Cx p s m args meth c base ex fz dC dI cA X own cc nL ini c0) (hX : M.1 = X) {i : Nat} {a b z : Nat} {ret : Option FieldType} (hd : decode cc pc = .ok ((.ldc_w i), pz_len (pc, (.ldc_w i), a, b, z))) (hlk : pz_lk own ret ini (pc, (.ldc_w i), a, b, z) = true) {q : pz_L × List Value × pz_M} (h : pz_stp (pc, (.ldc_w i), a, b, z) L st M = some q) (hlen : L.length = nL) (hR : 1 ≤ R.frames ∧ 60 ≤ R.locals) : (q.1.length = nL ∧ q.2.2.1 = X ∧ M.2.1.length ≤ q.2.2.2.1.length ∧ pz_slo M.2.1 ≤ pz_slo q.2.2.2.1) ∧ (q.2.2.2.1.length ≤ R.cells + c0 → pz_slo q.2.2.2.1 ≤ R.slots + s0 → pz_At p l e R s m args below meth c Q base ex fz dC dI cA nL c0 s0 (pc + pz_len (pc, (.ldc_w i), a, b, z)) q.1 q.2.1 q.2.2 → pz_At p l e R s m args below meth c Q base ex fz dC dI cA nL c0 s0 pc L st M) := by
  cases h
  exact ⟨⟨hlen, hX, Nat.le_refl _, Nat.le_refl _⟩, fun _ _ k => pz_k_ldcw C (of_decide_eq_true hlk) hd k⟩
theorem pz_t_ldc2_w (C : pz_Cx p s m args meth c base ex fz dC dI cA X own cc nL ini c0) (hX : M.1 = X) {i : Nat} {a b z : Nat} {ret : Option FieldType} (hd : decode cc pc = .ok ((.ldc2_w i), pz_len (pc, (.ldc2_w i), a, b, z))) (hlk : pz_lk own ret ini (pc, (.ldc2_w i), a, b, z) = true) {q : pz_L × List Value × pz_M} (h : pz_stp (pc, (.ldc2_w i), a, b, z) L st M = some q) (hlen : L.length = nL) (hR : 1 ≤ R.frames ∧ 60 ≤ R.locals) : (q.1.length = nL ∧ q.2.2.1 = X ∧ M.2.1.length ≤ q.2.2.2.1.length ∧ pz_slo M.2.1 ≤ pz_slo q.2.2.2.1) ∧ (q.2.2.2.1.length ≤ R.cells + c0 → pz_slo q.2.2.2.1 ≤ R.slots + s0 → pz_At p l e R s m args below meth c Q base ex fz dC dI cA nL c0 s0 (pc + pz_len (pc, (.ldc2_w i), a, b, z)) q.1 q.2.1 q.2.2 → pz_At p l e R s m args below meth c Q base ex fz dC dI cA nL c0 s0 pc L st M) := by
  cases h
  exact ⟨⟨hlen, hX, Nat.le_refl _, Nat.le_refl _⟩, fun _ _ k => pz_k_ldc2 C (of_decide_eq_true hlk) hd k⟩
theorem pz_t_getstatic (C : pz_Cx p s m args meth c base ex fz dC dI cA X own cc nL ini c0) (hX : M.1 = X) {i : Nat} {a b z : Nat} {ret : Option FieldType} (hd : decode cc pc = .ok ((.getstatic i), pz_len (pc, (.getstatic i), a, b, z))) (hlk : pz_lk own ret ini (pc, (.getstatic i), a, b, z) = true) {q : pz_L × List Value × pz_M} (h : pz_stp (pc, (.getstatic i), a, b, z) L st M = some q) (hlen : L.length = nL) (hR : 1 ≤ R.frames ∧ 60 ≤ R.locals) : (q.1.length = nL ∧ q.2.2.1 = X ∧ M.2.1.length ≤ q.2.2.2.1.length ∧ pz_slo M.2.1 ≤ pz_slo q.2.2.2.1) ∧ (q.2.2.2.1.length ≤ R.cells + c0 → pz_slo q.2.2.2.1 ≤ R.slots + s0 → pz_At p l e R s m args below meth c Q base ex fz dC dI cA nL c0 s0 (pc + pz_len (pc, (.getstatic i), a, b, z)) q.1 q.2.1 q.2.2 → pz_At p l e R s m args below meth c Q base ex fz dC dI cA nL c0 s0 pc L st M) := by
  cases h
  exact ⟨⟨hlen, hX, Nat.le_refl _, Nat.le_refl _⟩, fun _ _ k => pz_k_gets C (of_decide_eq_true hlk) hd k⟩
theorem pz_t_getfield (C : pz_Cx p s m args meth c base ex fz dC dI cA X own cc nL ini c0) (hX : M.1 = X) {i : Nat} {a b z : Nat} {ret : Option FieldType} (hd : decode cc pc = .ok ((.getfield i), pz_len (pc, (.getfield i), a, b, z))) (hlk : pz_lk own ret ini (pc, (.getfield i), a, b, z) = true) {q : pz_L × List Value × pz_M} (h : pz_stp (pc, (.getfield i), a, b, z) L st M = some q) (hlen : L.length = nL) (hR : 1 ≤ R.frames ∧ 60 ≤ R.locals) : (q.1.length = nL ∧ q.2.2.1 = X ∧ M.2.1.length ≤ q.2.2.2.1.length ∧ pz_slo M.2.1 ≤ pz_slo q.2.2.2.1) ∧ (q.2.2.2.1.length ≤ R.cells + c0 → pz_slo q.2.2.2.1 ≤ R.slots + s0 → pz_At p l e R s m args below meth c Q base ex fz dC dI cA nL c0 s0 (pc + pz_len (pc, (.getfield i), a, b, z)) q.1 q.2.1 q.2.2 → pz_At p l e R s m args below meth c Q base ex fz dC dI cA nL c0 s0 pc L st M) := by
  simp only [pz_lk, Bool.or_eq_true, decide_eq_true_eq] at hlk
  simp only [pz_stp, pz_gf] at h
  split at h
  · split at h
    · cases h
      rename_i hk
      have hw : (own, i, a, b, z) ∈ cz_fo ∨ (own, i, a, b, z) ∈ cz_fln := by
        rcases hlk with hlk | hlk
        · by_cases ha : a = 100
          · exact absurd hk.2 (by omega)
          · exact Or.inl (List.mem_filter.mpr ⟨hlk, by simpa using ha⟩)
        · exact Or.inr hlk
      exact ⟨⟨hlen, hX, Nat.le_refl _, Nat.le_refl _⟩, fun _ _ k => pz_k_get C hw hk.1 hd k⟩
    · cases h
  · split at h
    · rename_i hq
      obtain ⟨rfl, hq⟩ := hq
      have hw : (own, i, 100, b, z) ∈ cz_fs := by
        rcases hlk with hlk | hlk
        · exact List.mem_filter.mpr ⟨hlk, rfl⟩
        · have := (cz_fk _ (List.mem_append.mpr (Or.inr hlk))).1
          simp at this
      split at h
      · cases h
        exact ⟨⟨hlen, hX, Nat.le_refl _, Nat.le_refl _⟩, fun _ _ k => pz_k_gete C hw hq hd (by rw [if_pos (by assumption)]; exact k)⟩
      · cases h
        exact ⟨⟨hlen, hX, Nat.le_refl _, Nat.le_refl _⟩, fun _ _ k => pz_k_gete C hw hq hd (by rw [if_neg (by assumption)]; exact k)⟩
    · cases h
  · cases h
theorem pz_t_putfield (C : pz_Cx p s m args meth c base ex fz dC dI cA X own cc nL ini c0) (hX : M.1 = X) {i : Nat} {a b z : Nat} {ret : Option FieldType} (hd : decode cc pc = .ok ((.putfield i), pz_len (pc, (.putfield i), a, b, z))) (hlk : pz_lk own ret ini (pc, (.putfield i), a, b, z) = true) {q : pz_L × List Value × pz_M} (h : pz_stp (pc, (.putfield i), a, b, z) L st M = some q) (hlen : L.length = nL) (hR : 1 ≤ R.frames ∧ 60 ≤ R.locals) : (q.1.length = nL ∧ q.2.2.1 = X ∧ M.2.1.length ≤ q.2.2.2.1.length ∧ pz_slo M.2.1 ≤ pz_slo q.2.2.2.1) ∧ (q.2.2.2.1.length ≤ R.cells + c0 → pz_slo q.2.2.2.1 ≤ R.slots + s0 → pz_At p l e R s m args below meth c Q base ex fz dC dI cA nL c0 s0 (pc + pz_len (pc, (.putfield i), a, b, z)) q.1 q.2.1 q.2.2 → pz_At p l e R s m args below meth c Q base ex fz dC dI cA nL c0 s0 pc L st M) := by
  simp only [pz_lk, Bool.or_eq_true, Bool.and_eq_true, decide_eq_true_eq, Bool.not_eq_true'] at hlk
  have hw : ((own, i, a, b, z) ∈ cz_fo ∧ ((cz_T a b).2.2.2 = false ∨ ini = true ∧ own = a)) ∨ ((own, i, a, b, z) ∈ cz_fln ∧ (cz_T a b).2.2.2 = false) := by
    rcases hlk with ⟨g1, g2⟩ | ⟨g1, g2⟩
    · refine Or.inl ⟨g1, ?_⟩
      rcases g2 with g2 | ⟨g2, g3⟩
      · exact Or.inl g2
      · exact Or.inr ⟨g2, by simpa using g3⟩
    · exact Or.inr ⟨g1, g2⟩
  simp only [pz_stp, pz_pf] at h
  split at h
  · split at h
    · rename_i x k r hk
      cases h
      refine ⟨⟨hlen, hX, Nat.le_refl _, Nat.le_refl _⟩, fun _ _ kk => pz_k_put (M' := pz_wi M k (va_up (M.2.2.1 k) b x)) C hw hk.1 rfl (fun y hy d => pz_wi_o hy d) (fun g1 g2 => pz_fs_wi g1 (by rw [← g2]; exact hk.2.elim Or.inl (fun t => Or.inr t.1))) (fun g1 g2 g3 => pz_nar_i g1 g2 g3 hk.2) hd kk⟩
    · cases h
  · split at h
    · rename_i x k r hk
      cases h
      refine ⟨⟨hlen, hX, Nat.le_refl _, Nat.le_refl _⟩, fun _ _ kk => pz_k_put (M' := pz_wl M k (va_up (M.2.2.2.1 k) b x)) C hw hk.1 rfl (fun y hy d => pz_wl_o hy d) (fun g1 g2 => pz_fs_wl g1 (by rw [← g2]; exact hk.2)) (fun g1 g2 g3 => pz_nar_l g1 g2 g3 hk.2) hd kk⟩
    · cases h
  · split at h
    · rename_i x k r hk
      cases h
      refine ⟨⟨hlen, hX, Nat.le_refl _, Nat.le_refl _⟩, fun _ _ kk => pz_k_put (M' := pz_wr M k (va_up (M.2.2.2.2 k) b (.ref x))) C hw hk.1 rfl (fun y hy d => pz_wr_o hy d) (fun g1 g2 => pz_fs_wr g1 (by rw [← g2]; exact hk.2)) (fun g1 g2 g3 => pz_nar_r g1 hk.2) hd kk⟩
    · cases h
  · split at h
    · rename_i x k r hk
      cases h
      refine ⟨⟨hlen, hX, Nat.le_refl _, Nat.le_refl _⟩, fun _ _ kk => pz_k_put (M' := pz_wr M k (va_up (M.2.2.2.2 k) b (.retAddr x))) C hw hk.1 rfl (fun y hy d => pz_wr_o hy d) (fun g1 g2 => pz_fs_wr g1 (by rw [← g2]; exact hk.2)) (fun g1 g2 g3 => pz_nar_r g1 hk.2) hd kk⟩
    · cases h
  · cases h
theorem pz_t_iaload (C : pz_Cx p s m args meth c base ex fz dC dI cA X own cc nL ini c0) (hX : M.1 = X) {a b z : Nat} {ret : Option FieldType} (hd : decode cc pc = .ok ((.iaload), pz_len (pc, (.iaload), a, b, z))) (hlk : pz_lk own ret ini (pc, (.iaload), a, b, z) = true) {q : pz_L × List Value × pz_M} (h : pz_stp (pc, (.iaload), a, b, z) L st M = some q) (hlen : L.length = nL) (hR : 1 ≤ R.frames ∧ 60 ≤ R.locals) : (q.1.length = nL ∧ q.2.2.1 = X ∧ M.2.1.length ≤ q.2.2.2.1.length ∧ pz_slo M.2.1 ≤ pz_slo q.2.2.2.1) ∧ (q.2.2.2.1.length ≤ R.cells + c0 → pz_slo q.2.2.2.1 ≤ R.slots + s0 → pz_At p l e R s m args below meth c Q base ex fz dC dI cA nL c0 s0 (pc + pz_len (pc, (.iaload), a, b, z)) q.1 q.2.1 q.2.2 → pz_At p l e R s m args below meth c Q base ex fz dC dI cA nL c0 s0 pc L st M) := by
  simp only [pz_stp, pz_iald] at h
  (repeat' split at h) <;> first | (cases h; done) | (cases h; exact ⟨⟨hlen, hX, Nat.le_refl _, Nat.le_refl _⟩, fun _ _ k => pz_k_iald C (by assumption) (by assumption) hd k⟩) | (cases h; exact ⟨⟨hlen, hX, Nat.le_refl _, Nat.le_refl _⟩, fun _ _ k => pz_k_ialde C hX (by assumption) (by assumption) hd k⟩)
theorem pz_t_baload (C : pz_Cx p s m args meth c base ex fz dC dI cA X own cc nL ini c0) (hX : M.1 = X) {a b z : Nat} {ret : Option FieldType} (hd : decode cc pc = .ok ((.baload), pz_len (pc, (.baload), a, b, z))) (hlk : pz_lk own ret ini (pc, (.baload), a, b, z) = true) {q : pz_L × List Value × pz_M} (h : pz_stp (pc, (.baload), a, b, z) L st M = some q) (hlen : L.length = nL) (hR : 1 ≤ R.frames ∧ 60 ≤ R.locals) : (q.1.length = nL ∧ q.2.2.1 = X ∧ M.2.1.length ≤ q.2.2.2.1.length ∧ pz_slo M.2.1 ≤ pz_slo q.2.2.2.1) ∧ (q.2.2.2.1.length ≤ R.cells + c0 → pz_slo q.2.2.2.1 ≤ R.slots + s0 → pz_At p l e R s m args below meth c Q base ex fz dC dI cA nL c0 s0 (pc + pz_len (pc, (.baload), a, b, z)) q.1 q.2.1 q.2.2 → pz_At p l e R s m args below meth c Q base ex fz dC dI cA nL c0 s0 pc L st M) := by
  simp only [pz_stp, pz_bald] at h
  (repeat' split at h) <;> first | (cases h; done) | (cases h; exact ⟨⟨hlen, hX, Nat.le_refl _, Nat.le_refl _⟩, fun _ _ k => pz_k_bald C (by assumption) (by assumption) hd k⟩) | (cases h; exact ⟨⟨hlen, hX, Nat.le_refl _, Nat.le_refl _⟩, fun _ _ k => pz_k_zald C (by assumption) (by assumption) hd k⟩) | (cases h; exact ⟨⟨hlen, hX, Nat.le_refl _, Nat.le_refl _⟩, fun _ _ k => pz_k_balde C hX (by assumption) (by assumption) hd k⟩)
theorem pz_t_laload (C : pz_Cx p s m args meth c base ex fz dC dI cA X own cc nL ini c0) (hX : M.1 = X) {a b z : Nat} {ret : Option FieldType} (hd : decode cc pc = .ok ((.laload), pz_len (pc, (.laload), a, b, z))) (hlk : pz_lk own ret ini (pc, (.laload), a, b, z) = true) {q : pz_L × List Value × pz_M} (h : pz_stp (pc, (.laload), a, b, z) L st M = some q) (hlen : L.length = nL) (hR : 1 ≤ R.frames ∧ 60 ≤ R.locals) : (q.1.length = nL ∧ q.2.2.1 = X ∧ M.2.1.length ≤ q.2.2.2.1.length ∧ pz_slo M.2.1 ≤ pz_slo q.2.2.2.1) ∧ (q.2.2.2.1.length ≤ R.cells + c0 → pz_slo q.2.2.2.1 ≤ R.slots + s0 → pz_At p l e R s m args below meth c Q base ex fz dC dI cA nL c0 s0 (pc + pz_len (pc, (.laload), a, b, z)) q.1 q.2.1 q.2.2 → pz_At p l e R s m args below meth c Q base ex fz dC dI cA nL c0 s0 pc L st M) := by
  simp only [pz_stp, pz_lald] at h
  (repeat' split at h) <;> first | (cases h; done) | (cases h; exact ⟨⟨hlen, hX, Nat.le_refl _, Nat.le_refl _⟩, fun _ _ k => pz_k_lald C (by assumption) (by assumption) hd k⟩)
theorem pz_t_aaload (C : pz_Cx p s m args meth c base ex fz dC dI cA X own cc nL ini c0) (hX : M.1 = X) {a b z : Nat} {ret : Option FieldType} (hd : decode cc pc = .ok ((.aaload), pz_len (pc, (.aaload), a, b, z))) (hlk : pz_lk own ret ini (pc, (.aaload), a, b, z) = true) {q : pz_L × List Value × pz_M} (h : pz_stp (pc, (.aaload), a, b, z) L st M = some q) (hlen : L.length = nL) (hR : 1 ≤ R.frames ∧ 60 ≤ R.locals) : (q.1.length = nL ∧ q.2.2.1 = X ∧ M.2.1.length ≤ q.2.2.2.1.length ∧ pz_slo M.2.1 ≤ pz_slo q.2.2.2.1) ∧ (q.2.2.2.1.length ≤ R.cells + c0 → pz_slo q.2.2.2.1 ≤ R.slots + s0 → pz_At p l e R s m args below meth c Q base ex fz dC dI cA nL c0 s0 (pc + pz_len (pc, (.aaload), a, b, z)) q.1 q.2.1 q.2.2 → pz_At p l e R s m args below meth c Q base ex fz dC dI cA nL c0 s0 pc L st M) := by
  simp only [pz_stp, pz_aald] at h
  (repeat' split at h) <;> first | (cases h; done) | (cases h; exact ⟨⟨hlen, hX, Nat.le_refl _, Nat.le_refl _⟩, fun _ _ k => pz_k_aald C (by assumption) (by assumption) (by assumption) hd k⟩)
theorem pz_t_iastore (C : pz_Cx p s m args meth c base ex fz dC dI cA X own cc nL ini c0) (hX : M.1 = X) {a b z : Nat} {ret : Option FieldType} (hd : decode cc pc = .ok ((.iastore), pz_len (pc, (.iastore), a, b, z))) (hlk : pz_lk own ret ini (pc, (.iastore), a, b, z) = true) {q : pz_L × List Value × pz_M} (h : pz_stp (pc, (.iastore), a, b, z) L st M = some q) (hlen : L.length = nL) (hR : 1 ≤ R.frames ∧ 60 ≤ R.locals) : (q.1.length = nL ∧ q.2.2.1 = X ∧ M.2.1.length ≤ q.2.2.2.1.length ∧ pz_slo M.2.1 ≤ pz_slo q.2.2.2.1) ∧ (q.2.2.2.1.length ≤ R.cells + c0 → pz_slo q.2.2.2.1 ≤ R.slots + s0 → pz_At p l e R s m args below meth c Q base ex fz dC dI cA nL c0 s0 (pc + pz_len (pc, (.iastore), a, b, z)) q.1 q.2.1 q.2.2 → pz_At p l e R s m args below meth c Q base ex fz dC dI cA nL c0 s0 pc L st M) := by
  simp only [pz_stp, pz_iast] at h
  (repeat' split at h) <;> first | (cases h; done) | (cases h; exact ⟨⟨hlen, hX, Nat.le_refl _, Nat.le_refl _⟩, fun _ _ k => pz_k_iast C (by assumption) (by assumption) hd k⟩)
theorem pz_t_bastore (C : pz_Cx p s m args meth c base ex fz dC dI cA X own cc nL ini c0) (hX : M.1 = X) {a b z : Nat} {ret : Option FieldType} (hd : decode cc pc = .ok ((.bastore), pz_len (pc, (.bastore), a, b, z))) (hlk : pz_lk own ret ini (pc, (.bastore), a, b, z) = true) {q : pz_L × List Value × pz_M} (h : pz_stp (pc, (.bastore), a, b, z) L st M = some q) (hlen : L.length = nL) (hR : 1 ≤ R.frames ∧ 60 ≤ R.locals) : (q.1.length = nL ∧ q.2.2.1 = X ∧ M.2.1.length ≤ q.2.2.2.1.length ∧ pz_slo M.2.1 ≤ pz_slo q.2.2.2.1) ∧ (q.2.2.2.1.length ≤ R.cells + c0 → pz_slo q.2.2.2.1 ≤ R.slots + s0 → pz_At p l e R s m args below meth c Q base ex fz dC dI cA nL c0 s0 (pc + pz_len (pc, (.bastore), a, b, z)) q.1 q.2.1 q.2.2 → pz_At p l e R s m args below meth c Q base ex fz dC dI cA nL c0 s0 pc L st M) := by
  simp only [pz_stp, pz_bast] at h
  (repeat' split at h) <;> first | (cases h; done) | (cases h; exact ⟨⟨hlen, hX, Nat.le_refl _, Nat.le_refl _⟩, fun _ _ k => pz_k_bast C (by assumption) (by assumption) hd k⟩) | (cases h; exact ⟨⟨hlen, hX, Nat.le_refl _, Nat.le_refl _⟩, fun _ _ k => pz_k_zast C (by assumption) (by assumption) hd k⟩)
theorem pz_t_lastore (C : pz_Cx p s m args meth c base ex fz dC dI cA X own cc nL ini c0) (hX : M.1 = X) {a b z : Nat} {ret : Option FieldType} (hd : decode cc pc = .ok ((.lastore), pz_len (pc, (.lastore), a, b, z))) (hlk : pz_lk own ret ini (pc, (.lastore), a, b, z) = true) {q : pz_L × List Value × pz_M} (h : pz_stp (pc, (.lastore), a, b, z) L st M = some q) (hlen : L.length = nL) (hR : 1 ≤ R.frames ∧ 60 ≤ R.locals) : (q.1.length = nL ∧ q.2.2.1 = X ∧ M.2.1.length ≤ q.2.2.2.1.length ∧ pz_slo M.2.1 ≤ pz_slo q.2.2.2.1) ∧ (q.2.2.2.1.length ≤ R.cells + c0 → pz_slo q.2.2.2.1 ≤ R.slots + s0 → pz_At p l e R s m args below meth c Q base ex fz dC dI cA nL c0 s0 (pc + pz_len (pc, (.lastore), a, b, z)) q.1 q.2.1 q.2.2 → pz_At p l e R s m args below meth c Q base ex fz dC dI cA nL c0 s0 pc L st M) := by
  simp only [pz_stp, pz_last] at h
  (repeat' split at h) <;> first | (cases h; done) | (cases h; exact ⟨⟨hlen, hX, Nat.le_refl _, Nat.le_refl _⟩, fun _ _ k => pz_k_last C (by assumption) (by assumption) hd k⟩)
theorem pz_t_arraylength (C : pz_Cx p s m args meth c base ex fz dC dI cA X own cc nL ini c0) (hX : M.1 = X) {a b z : Nat} {ret : Option FieldType} (hd : decode cc pc = .ok ((.arraylength), pz_len (pc, (.arraylength), a, b, z))) (hlk : pz_lk own ret ini (pc, (.arraylength), a, b, z) = true) {q : pz_L × List Value × pz_M} (h : pz_stp (pc, (.arraylength), a, b, z) L st M = some q) (hlen : L.length = nL) (hR : 1 ≤ R.frames ∧ 60 ≤ R.locals) : (q.1.length = nL ∧ q.2.2.1 = X ∧ M.2.1.length ≤ q.2.2.2.1.length ∧ pz_slo M.2.1 ≤ pz_slo q.2.2.2.1) ∧ (q.2.2.2.1.length ≤ R.cells + c0 → pz_slo q.2.2.2.1 ≤ R.slots + s0 → pz_At p l e R s m args below meth c Q base ex fz dC dI cA nL c0 s0 (pc + pz_len (pc, (.arraylength), a, b, z)) q.1 q.2.1 q.2.2 → pz_At p l e R s m args below meth c Q base ex fz dC dI cA nL c0 s0 pc L st M) := by
  simp only [pz_stp, pz_alen] at h
  (repeat' split at h) <;> first | (cases h; done) | (cases h; exact ⟨⟨hlen, hX, Nat.le_refl _, Nat.le_refl _⟩, fun _ _ k => pz_k_alen C (by assumption) (by assumption) hd k⟩) | (cases h; exact ⟨⟨hlen, hX, Nat.le_refl _, Nat.le_refl _⟩, fun _ _ k => pz_k_alene C hX (by assumption) hd k⟩)
theorem pz_t_aastore (C : pz_Cx p s m args meth c base ex fz dC dI cA X own cc nL ini c0) (hX : M.1 = X) {a b z : Nat} {ret : Option FieldType} (hd : decode cc pc = .ok ((.aastore), pz_len (pc, (.aastore), a, b, z))) (hlk : pz_lk own ret ini (pc, (.aastore), a, b, z) = true) {q : pz_L × List Value × pz_M} (h : pz_stp (pc, (.aastore), a, b, z) L st M = some q) (hlen : L.length = nL) (hR : 1 ≤ R.frames ∧ 60 ≤ R.locals) : (q.1.length = nL ∧ q.2.2.1 = X ∧ M.2.1.length ≤ q.2.2.2.1.length ∧ pz_slo M.2.1 ≤ pz_slo q.2.2.2.1) ∧ (q.2.2.2.1.length ≤ R.cells + c0 → pz_slo q.2.2.2.1 ≤ R.slots + s0 → pz_At p l e R s m args below meth c Q base ex fz dC dI cA nL c0 s0 (pc + pz_len (pc, (.aastore), a, b, z)) q.1 q.2.1 q.2.2 → pz_At p l e R s m args below meth c Q base ex fz dC dI cA nL c0 s0 pc L st M) := by
  simp only [pz_stp, pz_aast] at h
  split at h
  · split at h
    · split at h
      · rename_i hk hq
        cases h
        exact ⟨⟨hlen, hX, Nat.le_refl _, Nat.le_refl _⟩, fun _ _ k => pz_k_aast C hk hq.1 hq.2 hd k⟩
      · cases h
    · cases h
  · cases h
theorem pz_t_new (C : pz_Cx p s m args meth c base ex fz dC dI cA X own cc nL ini c0) (hX : M.1 = X) {i : Nat} {a b z : Nat} {ret : Option FieldType} (hd : decode cc pc = .ok ((.new i), pz_len (pc, (.new i), a, b, z))) (hlk : pz_lk own ret ini (pc, (.new i), a, b, z) = true) {q : pz_L × List Value × pz_M} (h : pz_stp (pc, (.new i), a, b, z) L st M = some q) (hlen : L.length = nL) (hR : 1 ≤ R.frames ∧ 60 ≤ R.locals) : (q.1.length = nL ∧ q.2.2.1 = X ∧ M.2.1.length ≤ q.2.2.2.1.length ∧ pz_slo M.2.1 ≤ pz_slo q.2.2.2.1) ∧ (q.2.2.2.1.length ≤ R.cells + c0 → pz_slo q.2.2.2.1 ≤ R.slots + s0 → pz_At p l e R s m args below meth c Q base ex fz dC dI cA nL c0 s0 (pc + pz_len (pc, (.new i), a, b, z)) q.1 q.2.1 q.2.2 → pz_At p l e R s m args below meth c Q base ex fz dC dI cA nL c0 s0 pc L st M) := by
  cases h
  exact ⟨⟨hlen, hX, by simp [pz_nu], by rw [show (pz_nu M (.inl a)).2.1 = M.2.1 ++ [(.inl a)] from rfl, pz_slo_app]; omega⟩, fun g1 g2 k => pz_k_new C (of_decide_eq_true hlk) hd g1 g2 k⟩
theorem pz_t_newarray (C : pz_Cx p s m args meth c base ex fz dC dI cA X own cc nL ini c0) (hX : M.1 = X) {t : ArrayType} {a b z : Nat} {ret : Option FieldType} (hd : decode cc pc = .ok ((.newarray t), pz_len (pc, (.newarray t), a, b, z))) (hlk : pz_lk own ret ini (pc, (.newarray t), a, b, z) = true) {q : pz_L × List Value × pz_M} (h : pz_stp (pc, (.newarray t), a, b, z) L st M = some q) (hlen : L.length = nL) (hR : 1 ≤ R.frames ∧ 60 ≤ R.locals) : (q.1.length = nL ∧ q.2.2.1 = X ∧ M.2.1.length ≤ q.2.2.2.1.length ∧ pz_slo M.2.1 ≤ pz_slo q.2.2.2.1) ∧ (q.2.2.2.1.length ≤ R.cells + c0 → pz_slo q.2.2.2.1 ≤ R.slots + s0 → pz_At p l e R s m args below meth c Q base ex fz dC dI cA nL c0 s0 (pc + pz_len (pc, (.newarray t), a, b, z)) q.1 q.2.1 q.2.2 → pz_At p l e R s m args below meth c Q base ex fz dC dI cA nL c0 s0 pc L st M) := by
  simp only [pz_stp] at h
  split at h
  · split at h
    · rename_i n r hn
      cases h
      have hmn : M.2.1.length ≤ (pz_nu M (.inr (pz_t t, n.toNatClampNeg))).2.1.length := by simp [pz_nu]
      have hms : pz_slo M.2.1 ≤ pz_slo (pz_nu M (.inr (pz_t t, n.toNatClampNeg))).2.1 := by
        rw [show (pz_nu M (.inr (pz_t t, n.toNatClampNeg))).2.1 = M.2.1 ++ [.inr (pz_t t, n.toNatClampNeg)] from rfl, pz_slo_app]
        omega
      refine ⟨⟨hlen, hX, hmn, hms⟩, fun g1 g2 k => ?_⟩
      cases t with
      | int => exact pz_k_newai C hn.1 hn.2.1 hd g1 g2 k
      | long => exact pz_k_newal C hn.1 hn.2.1 hd g1 g2 k
      | byte => exact pz_k_newab C hn.1 hn.2.1 hd g1 g2 k
      | boolean => exact pz_k_newaz C hn.1 hn.2.1 hd g1 g2 k
      | char => exact absurd hn.2.2 (by decide)
      | float => exact absurd hn.2.2 (by decide)
      | double => exact absurd hn.2.2 (by decide)
      | short => exact absurd hn.2.2 (by decide)
    · cases h
  · cases h
theorem pz_t_anewarray (C : pz_Cx p s m args meth c base ex fz dC dI cA X own cc nL ini c0) (hX : M.1 = X) {i : Nat} {a b z : Nat} {ret : Option FieldType} (hd : decode cc pc = .ok ((.anewarray i), pz_len (pc, (.anewarray i), a, b, z))) (hlk : pz_lk own ret ini (pc, (.anewarray i), a, b, z) = true) {q : pz_L × List Value × pz_M} (h : pz_stp (pc, (.anewarray i), a, b, z) L st M = some q) (hlen : L.length = nL) (hR : 1 ≤ R.frames ∧ 60 ≤ R.locals) : (q.1.length = nL ∧ q.2.2.1 = X ∧ M.2.1.length ≤ q.2.2.2.1.length ∧ pz_slo M.2.1 ≤ pz_slo q.2.2.2.1) ∧ (q.2.2.2.1.length ≤ R.cells + c0 → pz_slo q.2.2.2.1 ≤ R.slots + s0 → pz_At p l e R s m args below meth c Q base ex fz dC dI cA nL c0 s0 (pc + pz_len (pc, (.anewarray i), a, b, z)) q.1 q.2.1 q.2.2 → pz_At p l e R s m args below meth c Q base ex fz dC dI cA nL c0 s0 pc L st M) := by
  simp only [pz_stp] at h
  split at h
  · split at h
    · rename_i n r hn
      cases h
      have hmn : M.2.1.length ≤ (pz_nu M (.inr (4, n.toNatClampNeg))).2.1.length := by simp [pz_nu]
      have hms : pz_slo M.2.1 ≤ pz_slo (pz_nu M (.inr (4, n.toNatClampNeg))).2.1 := by
        rw [show (pz_nu M (.inr (4, n.toNatClampNeg))).2.1 = M.2.1 ++ [.inr (4, n.toNatClampNeg)] from rfl, pz_slo_app]
        omega
      exact ⟨⟨hlen, hX, hmn, hms⟩, fun g1 g2 k => pz_k_anew C (of_decide_eq_true hlk) hn.1 hn.2 hd g1 g2 k⟩
    · cases h
  · cases h
theorem pz_t_invokespecial (C : pz_Cx p s m args meth c base ex fz dC dI cA X own cc nL ini c0) (hX : M.1 = X) {i : Nat} {a b z : Nat} {ret : Option FieldType} (hd : decode cc pc = .ok ((.invokespecial i), pz_len (pc, (.invokespecial i), a, b, z))) (hlk : pz_lk own ret ini (pc, (.invokespecial i), a, b, z) = true) {q : pz_L × List Value × pz_M} (h : pz_stp (pc, (.invokespecial i), a, b, z) L st M = some q) (hz : z = 7) (hlen : L.length = nL) (hR : 1 ≤ R.frames ∧ 60 ≤ R.locals) : (q.1.length = nL ∧ q.2.2.1 = X ∧ M.2.1.length ≤ q.2.2.2.1.length ∧ pz_slo M.2.1 ≤ pz_slo q.2.2.2.1) ∧ (q.2.2.2.1.length ≤ R.cells + c0 → pz_slo q.2.2.2.1 ≤ R.slots + s0 → pz_At p l e R s m args below meth c Q base ex fz dC dI cA nL c0 s0 (pc + pz_len (pc, (.invokespecial i), a, b, z)) q.1 q.2.1 q.2.2 → pz_At p l e R s m args below meth c Q base ex fz dC dI cA nL c0 s0 pc L st M) := by
  simp only [pz_lk, hz, if_true] at hlk
  simp only [pz_stp] at h
  split at h
  · split at h
    · cases h
      exact ⟨⟨hlen, hX, Nat.le_refl _, Nat.le_refl _⟩, fun _ _ k => pz_k_oini C (of_decide_eq_true hlk) hd (by assumption) hR k⟩
    · cases h
  · cases h
theorem pz_t_invokestatic (C : pz_Cx p s m args meth c base ex fz dC dI cA X own cc nL ini c0) (hX : M.1 = X) {i : Nat} {a b z : Nat} {ret : Option FieldType} (hd : decode cc pc = .ok ((.invokestatic i), pz_len (pc, (.invokestatic i), a, b, z))) (hlk : pz_lk own ret ini (pc, (.invokestatic i), a, b, z) = true) {q : pz_L × List Value × pz_M} (h : pz_stp (pc, (.invokestatic i), a, b, z) L st M = some q) (hz : ¬ z = 0) (hlen : L.length = nL) (hR : 1 ≤ R.frames ∧ 60 ≤ R.locals) : (q.1.length = nL ∧ q.2.2.1 = X ∧ M.2.1.length ≤ q.2.2.2.1.length ∧ pz_slo M.2.1 ≤ pz_slo q.2.2.2.1) ∧ (q.2.2.2.1.length ≤ R.cells + c0 → pz_slo q.2.2.2.1 ≤ R.slots + s0 → pz_At p l e R s m args below meth c Q base ex fz dC dI cA nL c0 s0 (pc + pz_len (pc, (.invokestatic i), a, b, z)) q.1 q.2.1 q.2.2 → pz_At p l e R s m args below meth c Q base ex fz dC dI cA nL c0 s0 pc L st M) := by
  simp only [pz_lk, if_neg hz] at hlk
  simp only [pz_stp] at h
  by_cases h7 : z = 7
  · rw [if_pos h7] at h hlk
    simp only [pz_cp] at h
    split at h
    · split at h
      · split at h
        · cases h
          exact ⟨⟨hlen, hX, Nat.le_refl _, Nat.le_refl _⟩, fun _ _ k => pz_k_cpi C (of_decide_eq_true hlk) (by assumption) (by assumption) (by assumption) hR hd k⟩
        · cases h
      · split at h
        · cases h
          exact ⟨⟨hlen, hX, Nat.le_refl _, Nat.le_refl _⟩, fun _ _ k => pz_k_cpl C (of_decide_eq_true hlk) (by assumption) (by assumption) (by assumption) hR hd k⟩
        · cases h
      · cases h
    · split at h
      · split at h
        · rename_i hh
          cases h
          exact ⟨⟨hlen, hX, Nat.le_refl _, Nat.le_refl _⟩, fun _ _ k => pz_k_cpe C hX (of_decide_eq_true hlk) (by assumption) (by assumption) hh.2 hR hd k⟩
        · cases h
      · cases h
    · cases h
  · rw [if_neg h7] at h hlk
    have hlk := of_decide_eq_true hlk
    simp only [pz_ma] at h
    split at h
    · split at h
      · rename_i hq
        cases h
        obtain ⟨rfl, hq⟩ := hq
        exact ⟨⟨hlen, hX, Nat.le_refl _, Nat.le_refl _⟩, fun g1 g2 k => pz_k_mmin C hlk hq hR g1 g2 hd k⟩
      · split at h
        · rename_i hq
          cases h
          obtain ⟨rfl, hq⟩ := hq
          exact ⟨⟨hlen, hX, Nat.le_refl _, Nat.le_refl _⟩, fun g1 g2 k => pz_k_mmax C hlk hq hR g1 g2 hd k⟩
        · cases h
    · split at h
      · rename_i hq
        cases h
        obtain ⟨rfl, hq⟩ := hq
        exact ⟨⟨hlen, hX, Nat.le_refl _, Nat.le_refl _⟩, fun g1 g2 k => pz_k_mabs C hlk hq hR g1 g2 hd k⟩
      · cases h
    · cases h
end PS7
