/-! ===== the relation between class and reference ===== -/
/-- M' is M but for numbers in the cells K (references of Flow and Tape aside) -/
def sg (K : List Nat) (M M' : pz_M) : Prop := M'.1 = M.1 ∧ M'.2.1 = M.2.1 ∧ SH M' ∧ ∀ k, k ∉ K → gi M' k = gi M k ∧ gl M' k = gl M k
theorem sm.sg {K : List Nat} {M M' : pz_M} (h : sm K M M') (hS : SH M) : sg K M M' := ⟨h.1, h.2.1, hS.sm h, h.2.2.2⟩
theorem sg.rf {K : List Nat} {M : pz_M} (hS : SH M) : sg K M M := ⟨rfl, rfl, hS, fun _ _ => ⟨rfl, rfl⟩⟩
theorem sg.i {K : List Nat} {M M' : pz_M} (h : sg K M M') {k : Nat} (hk : k ∉ K) : gi M' k = gi M k := (h.2.2.2 k hk).1
theorem sg.l {K : List Nat} {M M' : pz_M} (h : sg K M M') {k : Nat} (hk : k ∉ K) : gl M' k = gl M k := (h.2.2.2 k hk).2
theorem sg.S {K : List Nat} {M M' : pz_M} (h : sg K M M') : SH M' := h.2.2.1
theorem sg.tr {K K' : List Nat} {M M' M'' : pz_M} (h : sg K M M') (h' : sg K' M' M'') (hs : ∀ k, k ∈ K' → k ∈ K) : sg K M M'' := ⟨h'.1.trans h.1, h'.2.1.trans h.2.1, h'.2.2.1, fun k hk => ⟨((h'.2.2.2 k (fun q => hk (hs k q))).1).trans (h.2.2.2 k hk).1, ((h'.2.2.2 k (fun q => hk (hs k q))).2).trans (h.2.2.2 k hk).2⟩⟩
theorem sg.mono {K K' : List Nat} {M M' : pz_M} (h : sg K M M') (hs : ∀ k, k ∈ K → k ∈ K') : sg K' M M' := ⟨h.1, h.2.1, h.2.2.1, fun k hk => h.2.2.2 k (fun q => hk (hs k q))⟩
/-- the cells L are as they were -/
def ag (L : List Nat) (M M' : pz_M) : Prop := ∀ k, k ∈ L → gi M' k = gi M k ∧ gl M' k = gl M k
theorem sg.ag {K L : List Nat} {M M' : pz_M} (h : sg K M M') (hd : ∀ k, k ∈ L → k ∉ K) : ag L M M' := fun k hk => h.2.2.2 k (hd k hk)
theorem ag.sub {L L' : List Nat} {M M' : pz_M} (h : ag L M M') (hd : ∀ k, k ∈ L' → k ∈ L) : ag L' M M' := fun k hk => h k (hd k hk)
def bI (b : Bool) : Int32 := if b = true then 1 else 0
theorem bI_01 (b : Bool) : bI b = 0 ∨ bI b = 1 := by cases b <;> decide
def rng (f : Nat → Int32) : Prop := ∀ i, ∃ a, a ≤ 1000 ∧ f i = nI a
theorem rng.up {f : Nat → Int32} (h : rng f) {k : Nat} {x : Int32} (hx : ∃ a, a ≤ 1000 ∧ x = nI a) : rng (va_up f k x) := fun i => by
  unfold va_up
  split
  · exact hx
  · exact h i
/-- the numbers of a law -/
def RLw (f : Nat → Int32) : Prop := ∃ g fd c w s e, 1 ≤ g ∧ g ≤ 500 ∧ fd ≤ 200 ∧ c ≤ 100 ∧ w ≤ 1000 ∧ s ≤ 24 ∧ e ≤ 24 ∧ f 0 = nI g ∧ f 1 = nI fd ∧ f 2 = nI c ∧ f 3 = nI w ∧ f 4 = nI s ∧ f 5 = nI e
/-- a word's number, five bits a letter; eight bits a letter -/
def p5 (w : List Nat) : Int64 := Int64.ofNat (w.foldl (fun a c => 32 * a + (c - 96)) 0)
def p8 (w : List Nat) : Int64 := Int64.ofNat (w.foldl (fun a c => 256 * a + c) 0)
def isWd (w : List Nat) : Prop := w.length ≤ 8 ∧ ∀ c, c ∈ w → 97 ≤ c ∧ c ≤ 122
def nmR (x y : Int64) : Prop := ∃ w, isWd w ∧ x = p5 w ∧ y = p8 w
/-- the bars alike with i, by number -/
def lks (lk : Nat → Int64) (B i : Nat) : List Nat := (List.range B).filter (fun j => decide (j ≠ i) && decide (0 < alk lk i j 9 0))
def wds : List (List Nat) := [[104,101,97,112],[112,97,114,116],[102,114,111,109],[116,111],[100,111,111,114],[109,97,114,107],[108,97,119],[103,97,105,110],[102,97,100,101],[99,114,111,115,115],[119,101,97,107],[115,97,118,101],[101,97,114],[112,108,97,110],[116,105,109,101,115],[115,108,111,119],[119,104,101,110],[100,111],[100,97,121],[104,111,108,100],[104,101,97,100],[99,117,116,115],[108,101,97,115,116],[97,110,100],[111,114],[110,111,116]]
def wdL (i : Nat) : Int64 := p5 (wds.getD i [])
/-- what a box keeps, on both sides: the class's Mind (object, rows), the reference's rows -/
def RBk (o h e u l bh be bu bl by_ bw bd bm : Nat → Int32) (b B : Nat) : Prop :=
  (∀ i, i < 24 → h i = bh (24 * b + i) ∧ e i = be (24 * b + i) ∧ u i = bu (24 * b + i) ∧ (∃ a, a ≤ 1000 ∧ h i = nI a) ∧ (∃ a, a ≤ 1000 ∧ e i = nI a) ∧ (∃ a, a ≤ 1000 ∧ u i = nI a)) ∧ ((0 < B → ∀ i, i < 24 → l i = bl (24 * b + i)) ∧ ∀ i, i < 24 → isUn (l i)) ∧ (∃ D E y, D < 2 ^ B ∧ E < 2 ^ B ∧ y ≤ 100000 ∧ o 4 = nI D ∧ o 5 = nI E ∧ o 6 = nI y ∧ by_ b = nI y ∧ o 7 = bw b ∧ (∀ i, i < 24 → bd (24 * b + i) = bI (D.testBit i)) ∧ (∀ i, i < 24 → bm (24 * b + i) = bI (E.testBit i)))
def cdK : Nat → Nat
  | 0 => 110
  | 1 => 100
  | 2 => 108
  | 3 => 104
  | 4 => 107
  | 5 => 99
  | 6 => 126
  | 7 => 42
  | 8 => 43
  | 9 => 45
  | 10 => 60
  | 11 => 62
  | 12 => 61
  | 13 => 38
  | _ => 124
def cdR (s c n : Int32) (B : Nat) : Prop := ∃ k v, k < 15 ∧ v < 10000 ∧ s = nI (65536 * k + v) ∧ c = nI (cdK k) ∧ (k < 6 → n = nI v) ∧ (3 ≤ k → k < 6 → v < B)
/-- how high the pile is behind the codes from f on (c of them), if it was m -/
def pil (st : Nat → Int32) : Nat → Nat → Nat → Option Nat
  | 0, _, m => some m
  | c + 1, f, m => if st f < nI 393216 then (if m < 40 then pil st c (f + 1) (m + 1) else none) else if st f < nI 458752 then (if m = 0 then none else pil st c (f + 1) m) else if m ≤ 1 then none else pil st c (f + 1) (m - 1)
/-- the rules, on both sides -/
def RRk (pl en st co cn rf rt rp : Nat → Int32) (nr B N : Nat) : Prop := ∃ ed : Nat → Nat, ed 0 = 0 ∧ (∀ i, i < nr → ed i ≤ ed (i + 1) ∧ ed (i + 1) ≤ 400 ∧ en i = nI (ed (i + 1)) ∧ rt i = nI (ed (i + 1)) ∧ rf i = nI (ed i) ∧ pl i = rp i ∧ (∃ p, p < N ∧ pl i = nI p) ∧ pil st (ed (i + 1) - ed i) (ed i) 0 = some 1 ∧ ∀ k, ed i ≤ k → k < ed (i + 1) → cdR (st k) (co k) (cn k) B)
def RSc (M : pz_M) (o r B H P N : Nat) : Prop := (r ≤ 1 ∧ B ≤ 24 ∧ H ≤ 8 ∧ P ≤ 4 ∧ N ≤ 6 ∧ H ≤ B) ∧ (gi M o 0 = nI B ∧ gi M 123 r = nI B ∧ gi M o 3 = nI H ∧ gi M 124 r = nI H ∧ gi M o 6 = nI P ∧ gi M 125 r = nI P ∧ gi M o 10 = nI N ∧ gi M 126 r = nI N)
  ∧ (RLw (gi M (o + 13)) ∧ gi M (o + 13) 0 = gi M 127 r ∧ gi M (o + 13) 1 = gi M 128 r ∧ gi M (o + 13) 2 = gi M 129 r ∧ gi M (o + 13) 3 = gi M 130 r ∧ gi M (o + 13) 4 = gi M 131 r ∧ gi M (o + 13) 5 = gi M 132 r)
  ∧ (∀ i, i < B → nmR (gl M (o + 1) i) (gl M 136 (24 * r + i)) ∧ gi M (o + 2) i = gi M 140 (24 * r + i))
  ∧ (∀ i, i < H → nmR (gl M (o + 3) i) (gl M 137 (8 * r + i)) ∧ gi M (o + 4) i = gi M 141 (8 * r + i) ∧ (∃ a, a < B ∧ gi M (o + 4) i = nI a) ∧ gi M 142 (8 * r + i) = (if i + 1 < H then gi M (o + 4) (i + 1) else nI B) - 1)
  ∧ (∀ i, i < P → nmR (gl M (o + 5) i) (gl M 138 (4 * r + i)) ∧ ∃ f t, f < H ∧ t < H ∧ gi M 143 (4 * r + i) = nI f ∧ gi M 144 (4 * r + i) = nI t ∧ gi M (o + 6) i = gi M 141 (8 * r + f) ∧ gi M (o + 7) i = gi M 142 (8 * r + t))
  ∧ (∀ i, i < N → nmR (gl M (o + 8) i) (gl M 139 (6 * r + i)) ∧ gi M (o + 9) i = gi M 145 (6 * r + i) ∧ gi M (o + 10) i = gi M 146 (6 * r + i) ∧ gi M (o + 11) i = gi M 147 (6 * r + i) ∧ gi M (o + 12) i = gi M 148 (6 * r + i) ∧ ∃ a b t s, a ≤ b ∧ b < B ∧ t ≤ 20 ∧ s ≤ 20 ∧ gi M (o + 9) i = nI a ∧ gi M (o + 10) i = nI b ∧ gi M (o + 11) i = nI t ∧ gi M (o + 12) i = nI s)
def RScC (o : Nat) : List Nat := [o, o + 1, o + 2, o + 3, o + 4, o + 5, o + 6, o + 7, o + 8, o + 9, o + 10, o + 11, o + 12, o + 13, 123, 124, 125, 126, 127, 128, 129, 130, 131, 132, 136, 137, 138, 139, 140, 141, 142, 143, 144, 145, 146, 147, 148]
theorem RSc.fr {M M' : pz_M} {o r B H P N : Nat} (h : RSc M o r B H P N) (e : ag (RScC o) M M') : RSc M' o r B H P N := by
  unfold RSc at h ⊢
  simp only [(e 123 (by simp [RScC])).1, (e 124 (by simp [RScC])).1, (e 125 (by simp [RScC])).1, (e 126 (by simp [RScC])).1, (e 127 (by simp [RScC])).1, (e 128 (by simp [RScC])).1, (e 129 (by simp [RScC])).1, (e 130 (by simp [RScC])).1, (e 131 (by simp [RScC])).1, (e 132 (by simp [RScC])).1, (e 136 (by simp [RScC])).1, (e 137 (by simp [RScC])).1, (e 138 (by simp [RScC])).1, (e 139 (by simp [RScC])).1, (e 140 (by simp [RScC])).1, (e 141 (by simp [RScC])).1, (e 142 (by simp [RScC])).1, (e 143 (by simp [RScC])).1, (e 144 (by simp [RScC])).1, (e 145 (by simp [RScC])).1, (e 146 (by simp [RScC])).1, (e 147 (by simp [RScC])).1, (e 148 (by simp [RScC])).1, (e (o + 1) (by simp [RScC])).1, (e (o + 2) (by simp [RScC])).1, (e (o + 3) (by simp [RScC])).1, (e (o + 4) (by simp [RScC])).1, (e (o + 5) (by simp [RScC])).1, (e (o + 6) (by simp [RScC])).1, (e (o + 7) (by simp [RScC])).1, (e (o + 8) (by simp [RScC])).1, (e (o + 9) (by simp [RScC])).1, (e (o + 10) (by simp [RScC])).1, (e (o + 11) (by simp [RScC])).1, (e (o + 12) (by simp [RScC])).1, (e (o + 13) (by simp [RScC])).1, (e o (by simp [RScC])).1, (e 136 (by simp [RScC])).2, (e 137 (by simp [RScC])).2, (e 138 (by simp [RScC])).2, (e 139 (by simp [RScC])).2, (e (o + 1) (by simp [RScC])).2, (e (o + 3) (by simp [RScC])).2, (e (o + 5) (by simp [RScC])).2, (e (o + 8) (by simp [RScC])).2]
  exact h
def RMr (M : pz_M) (B D E : Nat) : Prop := (gi M 34 = gi M 149 ∧ gi M 35 = gi M 150 ∧ gi M 36 = gi M 151) ∧ ((0 < B → gi M 37 = gi M 152) ∧ ∀ i, isUn (gi M 37 i)) ∧ (rng (gi M 34) ∧ rng (gi M 35) ∧ rng (gi M 36)) ∧ (D < 2 ^ B ∧ E < 2 ^ B) ∧ (∀ i, i < 24 → gi M 153 i = bI (D.testBit i)) ∧ (∀ i, i < 24 → gi M 154 i = bI (E.testBit i))
theorem RMr.fr {M M' : pz_M} {B D E : Nat} (h : RMr M B D E) (e : ag [34, 35, 36, 37, 149, 150, 151, 152, 153, 154] M M') : RMr M' B D E := by
  unfold RMr at h ⊢
  simp only [(e 34 (by decide)).1, (e 35 (by decide)).1, (e 36 (by decide)).1, (e 37 (by decide)).1, (e 149 (by decide)).1, (e 150 (by decide)).1, (e 151 (by decide)).1, (e 152 (by decide)).1, (e 153 (by decide)).1, (e 154 (by decide)).1]
  exact h
def RZ (M : pz_M) : Prop := ∀ i, 24 ≤ i → gi M 34 i = 0 ∧ gi M 35 i = 0 ∧ gi M 36 i = 0 ∧ gi M 57 i = 0 ∧ gi M 58 i = 0 ∧ gi M 59 i = 0 ∧ gi M 62 i = 0 ∧ gi M 63 i = 0 ∧ gi M 64 i = 0 ∧ gi M 67 i = 0 ∧ gi M 68 i = 0 ∧ gi M 69 i = 0 ∧ gi M 72 i = 0 ∧ gi M 73 i = 0 ∧ gi M 74 i = 0 ∧ gi M 77 i = 0 ∧ gi M 78 i = 0 ∧ gi M 79 i = 0
theorem RZ.fr {M M' : pz_M} (h : RZ M) (e : ag [34, 35, 36, 57, 58, 59, 62, 63, 64, 67, 68, 69, 72, 73, 74, 77, 78, 79] M M') : RZ M' := by
  unfold RZ at h ⊢
  simp only [(e 34 (by decide)).1, (e 35 (by decide)).1, (e 36 (by decide)).1, (e 57 (by decide)).1, (e 58 (by decide)).1, (e 59 (by decide)).1, (e 62 (by decide)).1, (e 63 (by decide)).1, (e 64 (by decide)).1, (e 67 (by decide)).1, (e 68 (by decide)).1, (e 69 (by decide)).1, (e 72 (by decide)).1, (e 73 (by decide)).1, (e 74 (by decide)).1, (e 77 (by decide)).1, (e 78 (by decide)).1, (e 79 (by decide)).1]
  exact h
def RDi (M : pz_M) (nd B : Nat) : Prop := gi M 82 = gi M 168 ∧ gi M 83 = gi M 167 ∧ gi M 85 = gi M 169 ∧ gi M 86 = gi M 170 ∧ ∀ i, i < nd → isUn (gi M 86 i) ∧ ∃ b, b < B ∧ gi M 82 i = nI b
theorem RDi.fr {M M' : pz_M} {nd B : Nat} (h : RDi M nd B) (e : ag [82, 83, 85, 86, 167, 168, 169, 170] M M') : RDi M' nd B := by
  unfold RDi at h ⊢
  simp only [(e 82 (by decide)).1, (e 83 (by decide)).1, (e 85 (by decide)).1, (e 86 (by decide)).1, (e 167 (by decide)).1, (e 168 (by decide)).1, (e 169 (by decide)).1, (e 170 (by decide)).1]
  exact h
def RPa (M : pz_M) (np B : Nat) : Prop := gi M 88 = gi M 172 ∧ gi M 89 = gi M 171 ∧ gi M 90 = gi M 175 ∧ gi M 91 = gi M 173 ∧ gi M 92 = gi M 174 ∧ ∀ i, i < np → isUn (gi M 92 i) ∧ (∃ b, b < B ∧ gi M 88 i = nI b) ∧ (∃ y, y ≤ 999 ∧ gi M 89 i = nI y) ∧ (gi M 90 i = 0 ∨ gi M 90 i = 1)
theorem RPa.fr {M M' : pz_M} {np B : Nat} (h : RPa M np B) (e : ag [88, 89, 90, 91, 92, 171, 172, 173, 174, 175] M M') : RPa M' np B := by
  unfold RPa at h ⊢
  simp only [(e 88 (by decide)).1, (e 89 (by decide)).1, (e 90 (by decide)).1, (e 91 (by decide)).1, (e 92 (by decide)).1, (e 171 (by decide)).1, (e 172 (by decide)).1, (e 173 (by decide)).1, (e 174 (by decide)).1, (e 175 (by decide)).1]
  exact h
def RTb (M : pz_M) : Prop := gi M 2 = gi M 121 ∧ ∀ i, ∃ c, c < 256 ∧ gi M 2 i = sb_b c
theorem RTb.fr {M M' : pz_M} (h : RTb M) (e : ag [2, 121] M M') : RTb M' := by
  unfold RTb at h ⊢
  simp only [(e 2 (by decide)).1, (e 121 (by decide)).1]
  exact h
def RFl (M : pz_M) (B : Nat) : Prop := ∀ i, i < B → gi M 40 i = nI (lks (gl M 5) B i).length ∧ ∀ k, k < (lks (gl M 5) B i).length → gi M 41 (24 * i + k) = nI ((lks (gl M 5) B i).getD k 0) ∧ gi M 42 (24 * i + k) = nI (alk (gl M 5) i ((lks (gl M 5) B i).getD k 0) 9 0)
theorem RFl.fr {M M' : pz_M} {B : Nat} (h : RFl M B) (e : ag [5, 40, 41, 42] M M') : RFl M' B := by
  unfold RFl at h ⊢
  simp only [(e 40 (by decide)).1, (e 41 (by decide)).1, (e 42 (by decide)).1, (e 5 (by decide)).2]
  exact h
def RBx0 (M : pz_M) (B : Nat) : Prop := (gi M 105 8 = 0 ∧ gi M 180 0 = -1) ∨ (gi M 105 8 = 1 ∧ RBk (gi M 105) (gi M 106) (gi M 107) (gi M 108) (gi M 109) (gi M 176) (gi M 177) (gi M 178) (gi M 179) (gi M 180) (gi M 181) (gi M 182) (gi M 183) 0 B)
theorem RBx0.fr {M M' : pz_M} {B : Nat} (h : RBx0 M B) (e : ag [105, 106, 107, 108, 109, 176, 177, 178, 179, 180, 181, 182, 183] M M') : RBx0 M' B := by
  unfold RBx0 at h ⊢
  simp only [(e 105 (by decide)).1, (e 106 (by decide)).1, (e 107 (by decide)).1, (e 108 (by decide)).1, (e 109 (by decide)).1, (e 176 (by decide)).1, (e 177 (by decide)).1, (e 178 (by decide)).1, (e 179 (by decide)).1, (e 180 (by decide)).1, (e 181 (by decide)).1, (e 182 (by decide)).1, (e 183 (by decide)).1]
  exact h
def RBx1 (M : pz_M) (B : Nat) : Prop := (gi M 110 8 = 0 ∧ gi M 180 1 = -1) ∨ (gi M 110 8 = 1 ∧ RBk (gi M 110) (gi M 111) (gi M 112) (gi M 113) (gi M 114) (gi M 176) (gi M 177) (gi M 178) (gi M 179) (gi M 180) (gi M 181) (gi M 182) (gi M 183) 1 B)
theorem RBx1.fr {M M' : pz_M} {B : Nat} (h : RBx1 M B) (e : ag [110, 111, 112, 113, 114, 176, 177, 178, 179, 180, 181, 182, 183] M M') : RBx1 M' B := by
  unfold RBx1 at h ⊢
  simp only [(e 110 (by decide)).1, (e 111 (by decide)).1, (e 112 (by decide)).1, (e 113 (by decide)).1, (e 114 (by decide)).1, (e 176 (by decide)).1, (e 177 (by decide)).1, (e 178 (by decide)).1, (e 179 (by decide)).1, (e 180 (by decide)).1, (e 181 (by decide)).1, (e 182 (by decide)).1, (e 183 (by decide)).1]
  exact h
def RBx2 (M : pz_M) (B : Nat) : Prop := (gi M 115 8 = 0 ∧ gi M 180 2 = -1) ∨ (gi M 115 8 = 1 ∧ RBk (gi M 115) (gi M 116) (gi M 117) (gi M 118) (gi M 119) (gi M 176) (gi M 177) (gi M 178) (gi M 179) (gi M 180) (gi M 181) (gi M 182) (gi M 183) 2 B)
theorem RBx2.fr {M M' : pz_M} {B : Nat} (h : RBx2 M B) (e : ag [115, 116, 117, 118, 119, 176, 177, 178, 179, 180, 181, 182, 183] M M') : RBx2 M' B := by
  unfold RBx2 at h ⊢
  simp only [(e 115 (by decide)).1, (e 116 (by decide)).1, (e 117 (by decide)).1, (e 118 (by decide)).1, (e 119 (by decide)).1, (e 176 (by decide)).1, (e 177 (by decide)).1, (e 178 (by decide)).1, (e 179 (by decide)).1, (e 180 (by decide)).1, (e 181 (by decide)).1, (e 182 (by decide)).1, (e 183 (by decide)).1]
  exact h
def RRu (M : pz_M) (nr B N : Nat) : Prop := RRk (gi M 94) (gi M 95) (gi M 96) (gi M 159) (gi M 160) (gi M 164) (gi M 165) (gi M 166) nr B N
theorem RRu.fr {M M' : pz_M} {nr B N : Nat} (h : RRu M nr B N) (e : ag [94, 95, 96, 159, 160, 164, 165, 166] M M') : RRu M' nr B N := by
  unfold RRu at h ⊢
  simp only [(e 94 (by decide)).1, (e 95 (by decide)).1, (e 96 (by decide)).1, (e 159 (by decide)).1, (e 160 (by decide)).1, (e 164 (by decide)).1, (e 165 (by decide)).1, (e 166 (by decide)).1]
  exact h
def RWd (M : pz_M) : Prop := ∀ i, i < 26 → gl M 3 i = wdL i
theorem RWd.fr {M M' : pz_M} (h : RWd M) (e : ag [3] M M') : RWd M' := by
  unfold RWd at h ⊢
  simp only [(e 3 (by decide)).2]
  exact h
/-- the numbers in objects; r bank, D doors, E marks, y day, t time, L bytes, nd diaries, np papers, nr rules -/
def RX (M : pz_M) (r D E y t L nd np nr : Nat) : Prop := gi M 120 38 = nI r ∧ (gi M 33 4 = nI D ∧ gi M 33 5 = nI E) ∧ (gi M 33 6 = nI y ∧ gi M 120 46 = nI y ∧ y ≤ 100000) ∧ gi M 33 7 = gi M 120 47 ∧ (gi M 0 13 = nI t ∧ gi M 120 91 = nI t ∧ t ≤ 100000) ∧ (gi M 1 2 = nI L ∧ gi M 120 2 = nI L ∧ L ≤ 1500) ∧ (gi M 1 11 = gi M 120 4 ∧ gi M 1 12 = gi M 120 5) ∧ (gi M 81 5 = nI nd ∧ gi M 120 89 = nI nd ∧ nd ≤ 40) ∧ (gi M 87 5 = nI np ∧ gi M 120 90 = nI np ∧ np ≤ 40) ∧ (gi M 93 0 = nI nr ∧ gi M 120 77 = nI nr ∧ nr ≤ 6 ∧ gi M 93 1 = gi M 120 78) ∧ ((gi M 50 4 = 0 ∧ gi M 120 51 = -1) ∨ (gi M 50 4 = 1 ∧ 0 ≤ gi M 120 51 ∧ ∀ i, i < 6 → gi M 51 i = gi M 120 (51 + i)))
theorem RX.fr {M M' : pz_M} {r D E y t L nd np nr : Nat} (h : RX M r D E y t L nd np nr) (e : ag [0, 1, 33, 50, 51, 81, 87, 93, 120] M M') : RX M' r D E y t L nd np nr := by
  unfold RX at h ⊢
  simp only [(e 0 (by decide)).1, (e 1 (by decide)).1, (e 33 (by decide)).1, (e 50 (by decide)).1, (e 51 (by decide)).1, (e 81 (by decide)).1, (e 87 (by decide)).1, (e 93 (by decide)).1, (e 120 (by decide)).1]
  exact h
/-- all of it -/
def RA (M : pz_M) (r B H P N D E y t L nd np nr : Nat) : Prop := SH M ∧ RX M r D E y t L nd np nr ∧ RSc M 4 r B H P N ∧ RMr M B D E ∧ RZ M ∧ RDi M nd B ∧ RPa M np B ∧ RTb M ∧ RFl M B ∧ (RBx0 M B ∧ RBx1 M B ∧ RBx2 M B) ∧ RRu M nr B N ∧ RWd M
def RL (M : pz_M) : Prop := ∃ r B H P N D E y t L nd np nr, RA M r B H P N D E y t L nd np nr
theorem RA.L {M : pz_M} {r B H P N D E y t L nd np nr : Nat} (h : RA M r B H P N D E y t L nd np nr) : RL M := ⟨r, B, H, P, N, D, E, y, t, L, nd, np, nr, h⟩
/-- the cells that the relation speaks of -/
def RLC : List Nat := [0, 1, 2, 3, 4, 5, 6, 7, 8, 9, 10, 11, 12, 13, 14, 15, 16, 17, 33, 34, 35, 36, 37, 40, 41, 42, 50, 51, 57, 58, 59, 62, 63, 64, 67, 68, 69, 72, 73, 74, 77, 78, 79, 81, 82, 83, 85, 86, 87, 88, 89, 90, 91, 92, 93, 94, 95, 96, 105, 106, 107, 108, 109, 110, 111, 112, 113, 114, 115, 116, 117, 118, 119, 120, 121, 123, 124, 125, 126, 127, 128, 129, 130, 131, 132, 136, 137, 138, 139, 140, 141, 142, 143, 144, 145, 146, 147, 148, 149, 150, 151, 152, 153, 154, 159, 160, 164, 165, 166, 167, 168, 169, 170, 171, 172, 173, 174, 175, 176, 177, 178, 179, 180, 181, 182, 183]
/-- the relation holds on, if numbers changed in other cells alone -/
theorem RA.fr {M M' : pz_M} {r B H P N D E y t L nd np nr : Nat} (h : RA M r B H P N D E y t L nd np nr) (hS : SH M') (e : ag RLC M M') : RA M' r B H P N D E y t L nd np nr := by
  obtain ⟨-, a1, a2, a3, a4, a5, a6, a7, a8, ⟨b0, b1, b2⟩, a9, a10⟩ := h
  exact ⟨hS, a1.fr (e.sub (by decide +kernel)), a2.fr (e.sub (by decide +kernel)), a3.fr (e.sub (by decide +kernel)), a4.fr (e.sub (by decide +kernel)), a5.fr (e.sub (by decide +kernel)), a6.fr (e.sub (by decide +kernel)), a7.fr (e.sub (by decide +kernel)), a8.fr (e.sub (by decide +kernel)), ⟨b0.fr (e.sub (by decide +kernel)), b1.fr (e.sub (by decide +kernel)), b2.fr (e.sub (by decide +kernel))⟩, a9.fr (e.sub (by decide +kernel)), a10.fr (e.sub (by decide +kernel))⟩
theorem RX.isok {M : pz_M} {r D E y t L nd np nr : Nat} (h : RX M r D E y t L nd np nr) (hr : r ≤ 1) : okB M ∧ bk M = r := by
  unfold okB bk bank
  rw [h.1]
  have h2 : r = 0 ∨ r = 1 := by omega
  rcases h2 with q | q
  · subst q
    exact ⟨Or.inl rfl, rfl⟩
  · subst q
    exact ⟨Or.inr rfl, rfl⟩
