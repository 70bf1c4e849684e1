def cz_words : List Int32 := [104, 101, 97, 112, 32, 112, 97, 114, 116, 32, 102, 114, 111, 109, 32, 116, 111, 32, 32, 32, 100, 111, 111, 114, 32, 109, 97, 114, 107, 32, 108, 97, 119, 32, 32, 103, 97, 105, 110, 32, 102, 97, 100, 101, 32, 99, 114, 111, 115, 115, 119, 101, 97, 107, 32, 115, 97, 118, 101, 32, 101, 97, 114, 32, 32, 112, 108, 97, 110, 32, 116, 105, 109, 101, 115, 115, 108, 111, 119, 32, 119, 104, 101, 110, 32, 100, 111, 32, 32, 32, 100, 97, 121, 32, 32, 104, 111, 108, 100, 32, 104, 101, 97, 100, 32, 99, 117, 116, 115, 32, 108, 101, 97, 115, 116, 97, 110, 100, 32, 32, 111, 114, 32, 32, 32, 110, 111, 116, 32, 32]
/-! ===== A pure machine: memory by cells, blocks of instructions, calls by number ===== -/
/-- a cell: an object of class ci, or an array (kind of its elements, length) -/
abbrev pz_D : Type := Nat ⊕ (Nat × Nat)
/-- the script: its length, its ints -/
abbrev pz_X : Type := Nat × (Nat → Int32)
/-- script, cells, ints by cell and place, longs, references (of a cell: .ref k; of what was there before: .retAddr j) -/
abbrev pz_M : Type := pz_X × List pz_D × (Nat → Nat → Int32) × (Nat → Nat → Int64) × (Nat → Nat → Value)
/-- place, instruction, what it is linked to -/
abbrev pz_E : Type := Nat × Instr × Nat × Nat × Nat
abbrev pz_L : Type := List (Option Value)
/-- place and state to go on from | what is returned | a call: method, arguments, place behind it, locals, stack, memory -/
abbrev pz_O : Type := (Nat × pz_L × List Value × pz_M) ⊕ ((Option Value × pz_M) ⊕ (Nat × List Value × Nat × pz_L × List Value × pz_M))
/-- a block: place, which locals live, instructions, the place behind it -/
abbrev pz_B : Type := Nat × List Bool × List pz_E × Nat
/-- a method: its class, name, code, locals, type, blocks -/
abbrev pz_I : Type := Nat × MethodName × ByteArray × Nat × Option FieldType × List pz_B
def pz_row {α : Type} (f : Nat → Nat → α) (k : Nat) (r : Nat → α) : Nat → Nat → α := fun a => if a = k then r else f a
def pz_in (i : Int32) (n : Nat) : Bool := decide (¬ (i < 0 ∨ n ≤ i.toNatClampNeg))
def pz_wi (M : pz_M) (k : Nat) (r : Nat → Int32) : pz_M := (M.1, M.2.1, pz_row M.2.2.1 k r, M.2.2.2.1, M.2.2.2.2)
def pz_wl (M : pz_M) (k : Nat) (r : Nat → Int64) : pz_M := (M.1, M.2.1, M.2.2.1, pz_row M.2.2.2.1 k r, M.2.2.2.2)
def pz_wr (M : pz_M) (k : Nat) (r : Nat → Value) : pz_M := (M.1, M.2.1, M.2.2.1, M.2.2.2.1, pz_row M.2.2.2.2 k r)
def pz_nu (M : pz_M) (d : pz_D) : pz_M := (M.1, M.2.1 ++ [d], pz_row M.2.2.1 M.2.1.length (fun _ => 0), pz_row M.2.2.2.1 M.2.1.length (fun _ => 0), pz_row M.2.2.2.2 M.2.1.length (fun _ => .null))
def pz_ld (L : pz_L) (i : Nat) : Option Value := match L[i]? with
  | some (some v) => some v
  | _ => none
def pz_s1 (L : pz_L) (i : Nat) (v : Value) : pz_L := match i with
  | 0 => L.set 0 (some v)
  | j + 1 => (match L[j]? with
    | some (some w) => if w.category = 2 then L.set j none else L
    | _ => L).set (j + 1) (some v)
def pz_s2 (L : pz_L) (i : Nat) (v : Value) : pz_L := (pz_s1 L i v).set (i + 1) none
/-- arrays that were there before: kind, length, elements; 0 is the script -/
def pz_ex (X : pz_X) (j : Nat) : Option (Nat × Nat × (Nat → Int32)) := match j with
  | 0 => some (0, X.1, X.2)
  | 1 => some (0, 6, fun k => ([100, 10, 20, 500, 4, 2] : List Int32).getD k 0)
  | 2 => some (0, 6, fun k => ([1, 0, 0, 0, 0, 0] : List Int32).getD k 0)
  | 3 => some (0, 6, fun k => ([500, 200, 100, 1000, 24, 24] : List Int32).getD k 0)
  | 8 => some (2, 0, fun _ => 0)
  | 9 => some (2, cz_words.length, fun k => cz_words.getD k 0)
  | 10 => some (2, 1, fun _ => 59)
  | 11 => some (2, 9, fun k => ([59, 40, 41, 60, 62, 61, 43, 45, 42] : List Int32).getD k 0)
  | _ => none
def pz_li (L : pz_L) (st : List Value) (M : pz_M) (i : Nat) : Option (pz_L × List Value × pz_M) := match pz_ld L i with
  | some (.int x) => some (L, .int x :: st, M)
  | _ => none
def pz_ll (L : pz_L) (st : List Value) (M : pz_M) (i : Nat) : Option (pz_L × List Value × pz_M) := match pz_ld L i with
  | some (.long x) => some (L, .long x :: st, M)
  | _ => none
def pz_la (L : pz_L) (st : List Value) (M : pz_M) (i : Nat) : Option (pz_L × List Value × pz_M) := match pz_ld L i with
  | some (.ref x) => some (L, .ref x :: st, M)
  | some (.retAddr x) => some (L, .retAddr x :: st, M)
  | _ => none
def pz_si (L : pz_L) (st : List Value) (M : pz_M) (i : Nat) : Option (pz_L × List Value × pz_M) := match st with
  | .int x :: r => if i < L.length then some (pz_s1 L i (.int x), r, M) else none
  | _ => none
def pz_sl (L : pz_L) (st : List Value) (M : pz_M) (i : Nat) : Option (pz_L × List Value × pz_M) := match st with
  | .long x :: r => if i + 1 < L.length then some (pz_s2 L i (.long x), r, M) else none
  | _ => none
def pz_sa (L : pz_L) (st : List Value) (M : pz_M) (i : Nat) : Option (pz_L × List Value × pz_M) := match st with
  | .ref x :: r => if i < L.length then some (pz_s1 L i (.ref x), r, M) else none
  | .retAddr x :: r => if i < L.length then some (pz_s1 L i (.retAddr x), r, M) else none
  | _ => none
def pz_ii (L : pz_L) (st : List Value) (M : pz_M) (f : Int32 → Int32 → Int32) : Option (pz_L × List Value × pz_M) := match st with
  | .int y :: .int x :: r => some (L, .int (f x y) :: r, M)
  | _ => none
def pz_jj (L : pz_L) (st : List Value) (M : pz_M) (f : Int64 → Int64 → Int64) : Option (pz_L × List Value × pz_M) := match st with
  | .long y :: .long x :: r => some (L, .long (f x y) :: r, M)
  | _ => none
/-- a field's value by its kind: 0 int, 1 long, 2 reference, 3 boolean -/
def pz_fv (kd k j : Nat) (M : pz_M) : Value := match kd with
  | 1 => .long (M.2.2.2.1 k j)
  | 2 => M.2.2.2.2 k j
  | _ => .int (M.2.2.1 k j)
def pz_gf (ci j kd : Nat) (L : pz_L) (st : List Value) (M : pz_M) : Option (pz_L × List Value × pz_M) := match st with
  | .ref k :: r => if M.2.1[k]? = some (.inl ci) ∧ ci < 12 then some (L, pz_fv kd k j M :: r, M) else none
  | .retAddr q :: r => if ci = 100 ∧ 4 ≤ q ∧ q < 8 then (if j = 0 then some (L, .retAddr (q + 4) :: r, M) else some (L, .int 0 :: r, M)) else none
  | _ => none
def pz_pf (ci j kd : Nat) (L : pz_L) (st : List Value) (M : pz_M) : Option (pz_L × List Value × pz_M) := match st with
  | .int x :: .ref k :: r => if M.2.1[k]? = some (.inl ci) ∧ (kd = 0 ∨ kd = 3 ∧ (x = 0 ∨ x = 1)) then some (L, r, pz_wi M k (va_up (M.2.2.1 k) j x)) else none
  | .long x :: .ref k :: r => if M.2.1[k]? = some (.inl ci) ∧ kd = 1 then some (L, r, pz_wl M k (va_up (M.2.2.2.1 k) j x)) else none
  | .ref x :: .ref k :: r => if M.2.1[k]? = some (.inl ci) ∧ kd = 2 then some (L, r, pz_wr M k (va_up (M.2.2.2.2 k) j (.ref x))) else none
  | .retAddr x :: .ref k :: r => if M.2.1[k]? = some (.inl ci) ∧ kd = 2 then some (L, r, pz_wr M k (va_up (M.2.2.2.2 k) j (.retAddr x))) else none
  | _ => none
def pz_iald (L : pz_L) (st : List Value) (M : pz_M) : Option (pz_L × List Value × pz_M) := match st with
  | .int i :: .ref k :: r => (match M.2.1[k]? with
    | some (.inr (0, n)) => if pz_in i n = true then some (L, .int (M.2.2.1 k i.toNatClampNeg) :: r, M) else none
    | _ => none)
  | .int i :: .retAddr j :: r => (match pz_ex M.1 j with
    | some (0, n, f) => if pz_in i n = true then some (L, .int (f i.toNatClampNeg) :: r, M) else none
    | _ => none)
  | _ => none
def pz_bald (L : pz_L) (st : List Value) (M : pz_M) : Option (pz_L × List Value × pz_M) := match st with
  | .int i :: .ref k :: r => (match M.2.1[k]? with
    | some (.inr (2, n)) => if pz_in i n = true then some (L, .int (M.2.2.1 k i.toNatClampNeg) :: r, M) else none
    | some (.inr (3, n)) => if pz_in i n = true then some (L, .int (M.2.2.1 k i.toNatClampNeg) :: r, M) else none
    | _ => none)
  | .int i :: .retAddr j :: r => (match pz_ex M.1 j with
    | some (2, n, f) => if pz_in i n = true then some (L, .int (f i.toNatClampNeg) :: r, M) else none
    | _ => none)
  | _ => none
def pz_lald (L : pz_L) (st : List Value) (M : pz_M) : Option (pz_L × List Value × pz_M) := match st with
  | .int i :: .ref k :: r => (match M.2.1[k]? with
    | some (.inr (1, n)) => if pz_in i n = true then some (L, .long (M.2.2.2.1 k i.toNatClampNeg) :: r, M) else none
    | _ => none)
  | _ => none
def pz_aald (L : pz_L) (st : List Value) (M : pz_M) : Option (pz_L × List Value × pz_M) := match st with
  | .int i :: .ref k :: r => (match M.2.1[k]? with
    | some (.inr (4, n)) => if pz_in i n = true then (match M.2.2.2.2 k i.toNatClampNeg with
      | .ref a => some (L, .ref a :: r, M)
      | _ => none) else none
    | _ => none)
  | _ => none
def pz_iast (L : pz_L) (st : List Value) (M : pz_M) : Option (pz_L × List Value × pz_M) := match st with
  | .int x :: .int i :: .ref k :: r => (match M.2.1[k]? with
    | some (.inr (0, n)) => if pz_in i n = true then some (L, r, pz_wi M k (va_up (M.2.2.1 k) i.toNatClampNeg x)) else none
    | _ => none)
  | _ => none
def pz_bast (L : pz_L) (st : List Value) (M : pz_M) : Option (pz_L × List Value × pz_M) := match st with
  | .int x :: .int i :: .ref k :: r => (match M.2.1[k]? with
    | some (.inr (2, n)) => if pz_in i n = true then some (L, r, pz_wi M k (va_up (M.2.2.1 k) i.toNatClampNeg x.toInt8.toInt32)) else none
    | some (.inr (3, n)) => if pz_in i n = true then some (L, r, pz_wi M k (va_up (M.2.2.1 k) i.toNatClampNeg (x &&& 1))) else none
    | _ => none)
  | _ => none
def pz_last (L : pz_L) (st : List Value) (M : pz_M) : Option (pz_L × List Value × pz_M) := match st with
  | .long x :: .int i :: .ref k :: r => (match M.2.1[k]? with
    | some (.inr (1, n)) => if pz_in i n = true then some (L, r, pz_wl M k (va_up (M.2.2.2.1 k) i.toNatClampNeg x)) else none
    | _ => none)
  | _ => none
def pz_aast (L : pz_L) (st : List Value) (M : pz_M) : Option (pz_L × List Value × pz_M) := match st with
  | .ref v :: .int i :: .ref k :: r => (match M.2.1[k]? with
    | some (.inr (4, n)) => if pz_in i n = true ∧ M.2.1[v]? = some (.inl 3) then some (L, r, pz_wr M k (va_up (M.2.2.2.2 k) i.toNatClampNeg (.ref v))) else none
    | _ => none)
  | _ => none
def pz_alen (L : pz_L) (st : List Value) (M : pz_M) : Option (pz_L × List Value × pz_M) := match st with
  | .ref k :: r => (match M.2.1[k]? with
    | some (.inr (t, n)) => if t < 5 then some (L, .int (Int32.ofNat n) :: r, M) else none
    | _ => none)
  | .retAddr j :: r => (match pz_ex M.1 j with
    | some (_, n, _) => some (L, .int (Int32.ofNat n) :: r, M)
    | _ => none)
  | _ => none
/-- System.arraycopy -/
def pz_cp (L : pz_L) (st : List Value) (M : pz_M) : Option (pz_L × List Value × pz_M) := match st with
  | .int n :: .int dp :: .ref kd :: .int sp :: .ref ks :: r => (match M.2.1[ks]?, M.2.1[kd]? with
    | some (.inr (0, n0)), some (.inr (0, n1)) => if ¬ sp < 0 ∧ ¬ dp < 0 ∧ ¬ n < 0 ∧ sp.toNatClampNeg + n.toNatClampNeg ≤ n0 ∧ dp.toNatClampNeg + n.toNatClampNeg ≤ n1 ∧ (r.map fun v => v.category).sum ≤ 8 then some (L, r, pz_wi M kd (va_cpy (M.2.2.1 ks) (M.2.2.1 kd) sp.toNatClampNeg dp.toNatClampNeg n.toNatClampNeg)) else none
    | some (.inr (1, n0)), some (.inr (1, n1)) => if ¬ sp < 0 ∧ ¬ dp < 0 ∧ ¬ n < 0 ∧ sp.toNatClampNeg + n.toNatClampNeg ≤ n0 ∧ dp.toNatClampNeg + n.toNatClampNeg ≤ n1 ∧ (r.map fun v => v.category).sum ≤ 8 then some (L, r, pz_wl M kd (va_cpy (M.2.2.2.1 ks) (M.2.2.2.1 kd) sp.toNatClampNeg dp.toNatClampNeg n.toNatClampNeg)) else none
    | _, _ => none)
  | .int n :: .int dp :: .ref kd :: .int sp :: .retAddr j :: r => (match pz_ex M.1 j, M.2.1[kd]? with
    | some (0, n0, f), some (.inr (0, n1)) => if j = 1 ∧ ¬ sp < 0 ∧ ¬ dp < 0 ∧ ¬ n < 0 ∧ sp.toNatClampNeg + n.toNatClampNeg ≤ n0 ∧ dp.toNatClampNeg + n.toNatClampNeg ≤ n1 ∧ (r.map fun v => v.category).sum ≤ 8 then some (L, r, pz_wi M kd (va_cpy f (M.2.2.1 kd) sp.toNatClampNeg dp.toNatClampNeg n.toNatClampNeg)) else none
    | _, _ => none)
  | _ => none
/-- Math.max, Math.min, Math.abs -/
def pz_ma (z : Nat) (L : pz_L) (st : List Value) (M : pz_M) : Option (pz_L × List Value × pz_M) := match st with
  | .int y :: .int x :: r => if z = 5 ∧ (r.map fun v => v.category).sum ≤ 8 then some (L, .int (if y < x then y else x) :: r, M) else if z = 4 ∧ (r.map fun v => v.category).sum ≤ 8 then some (L, .int (if x < y then y else x) :: r, M) else none
  | .long x :: r => if z = 6 ∧ (r.map fun v => v.category).sum ≤ 8 then some (L, .long (if 0 < x then x else -x) :: r, M) else none
  | _ => none
def pz_t (a : ArrayType) : Nat := match a with
  | .int => 0
  | .long => 1
  | .byte => 2
  | .boolean => 3
  | _ => 9
/-- what a static holds -/
def pz_sv (a c : Nat) : Value := if c = 0 then .int (Int32.ofNat a) else if c = 1 then .retAddr a else .float 0
/-- an instruction that goes on to the next one -/
def pz_stp (e : pz_E) (L : pz_L) (st : List Value) (M : pz_M) : Option (pz_L × List Value × pz_M) := match e.2.1 with
  | .iconst n => some (L, .int (Int32.ofInt n) :: st, M)
  | .bipush n => some (L, .int (Int8.ofInt n).toInt32 :: st, M)
  | .sipush n => some (L, .int (Int16.ofInt n).toInt32 :: st, M)
  | .lconst n => some (L, .long (Int64.ofNat n) :: st, M)
  | .ldc _ => if e.2.2.2.2 = 0 then some (L, .int (Int32.ofNat e.2.2.1) :: st, M) else some (L, .retAddr e.2.2.1 :: st, M)
  | .ldc_w _ => some (L, .int (Int32.ofNat e.2.2.1) :: st, M)
  | .ldc2_w _ => some (L, .long (Int64.ofNat e.2.2.1) :: st, M)
  | .getstatic _ => some (L, pz_sv e.2.2.1 e.2.2.2.2 :: st, M)
  | .iload i => pz_li L st M i
  | .iload_n i => pz_li L st M i
  | .lload i => pz_ll L st M i
  | .lload_n i => pz_ll L st M i
  | .aload i => pz_la L st M i
  | .aload_n i => pz_la L st M i
  | .istore i => pz_si L st M i
  | .istore_n i => pz_si L st M i
  | .lstore i => pz_sl L st M i
  | .lstore_n i => pz_sl L st M i
  | .astore i => pz_sa L st M i
  | .astore_n i => pz_sa L st M i
  | .iinc i n => (match pz_ld L i with
    | some (.int x) => some (pz_s1 L i (.int (x + Int32.ofInt n)), st, M)
    | _ => none)
  | .iadd => pz_ii L st M (fun x y => x + y)
  | .isub => pz_ii L st M (fun x y => x - y)
  | .imul => pz_ii L st M (fun x y => x * y)
  | .iand => pz_ii L st M (fun x y => x &&& y)
  | .ior => pz_ii L st M (fun x y => x ||| y)
  | .ixor => pz_ii L st M (fun x y => x ^^^ y)
  | .ishl => pz_ii L st M (fun x y => x <<< (y &&& 31))
  | .ishr => pz_ii L st M (fun x y => x >>> (y &&& 31))
  | .iushr => pz_ii L st M (fun x y => (x.toUInt32 >>> (y.toUInt32 &&& Int32.toUInt32 31)).toInt32)
  | .idiv => (match st with
    | .int y :: .int x :: r => if y = 0 then none else some (L, .int (x / y) :: r, M)
    | _ => none)
  | .irem => (match st with
    | .int y :: .int x :: r => if y = 0 then none else some (L, .int (x - x / y * y) :: r, M)
    | _ => none)
  | .ladd => pz_jj L st M (fun x y => x + y)
  | .lsub => pz_jj L st M (fun x y => x - y)
  | .lmul => pz_jj L st M (fun x y => x * y)
  | .lor => pz_jj L st M (fun x y => x ||| y)
  | .ldiv => (match st with
    | .long y :: .long x :: r => if y = 0 then none else some (L, .long (x / y) :: r, M)
    | _ => none)
  | .lrem => (match st with
    | .long y :: .long x :: r => if y = 0 then none else some (L, .long (x - x / y * y) :: r, M)
    | _ => none)
  | .lneg => (match st with
    | .long x :: r => some (L, .long (-x) :: r, M)
    | _ => none)
  | .lshl => (match st with
    | .int y :: .long x :: r => some (L, .long (x <<< (y.toInt64 &&& 63)) :: r, M)
    | _ => none)
  | .lcmp => (match st with
    | .long y :: .long x :: r => some (L, .int (lg_cmp x y) :: r, M)
    | _ => none)
  | .i2l => (match st with
    | .int x :: r => some (L, .long x.toInt64 :: r, M)
    | _ => none)
  | .l2i => (match st with
    | .long x :: r => some (L, .int x.toInt32 :: r, M)
    | _ => none)
  | .i2b => (match st with
    | .int x :: r => some (L, .int x.toInt8.toInt32 :: r, M)
    | _ => none)
  | .i2c => (match st with
    | .int x :: r => some (L, .int (x.toUInt32 % 65536).toInt32 :: r, M)
    | _ => none)
  | .dup => (match st with
    | v :: r => if v.category = 1 then some (L, v :: v :: r, M) else none
    | _ => none)
  | .dup2 => (match st with
    | v :: w :: r => if v.category = 1 ∧ w.category = 1 then some (L, v :: w :: v :: w :: r, M) else none
    | _ => none)
  | .pop => (match st with
    | v :: r => if v.category = 1 then some (L, r, M) else none
    | _ => none)
  | .getfield _ => pz_gf e.2.2.1 e.2.2.2.1 e.2.2.2.2 L st M
  | .putfield _ => pz_pf e.2.2.1 e.2.2.2.1 e.2.2.2.2 L st M
  | .iaload => pz_iald L st M
  | .baload => pz_bald L st M
  | .laload => pz_lald L st M
  | .aaload => pz_aald L st M
  | .iastore => pz_iast L st M
  | .bastore => pz_bast L st M
  | .lastore => pz_last L st M
  | .aastore => pz_aast L st M
  | .arraylength => pz_alen L st M
  | .new _ => some (L, .ref M.2.1.length :: st, pz_nu M (.inl e.2.2.1))
  | .newarray a => (match st with
    | .int n :: r => if ¬ n < 0 ∧ n.toNatClampNeg ≤ 100000 ∧ pz_t a < 4 then some (L, .ref M.2.1.length :: r, pz_nu M (.inr (pz_t a, n.toNatClampNeg))) else none
    | _ => none)
  | .anewarray _ => (match st with
    | .int n :: r => if ¬ n < 0 ∧ n.toNatClampNeg ≤ 100000 then some (L, .ref M.2.1.length :: r, pz_nu M (.inr (4, n.toNatClampNeg))) else none
    | _ => none)
  | .invokespecial _ => (match st with
    | .ref _ :: r => if (r.map fun v => v.category).sum ≤ 8 then some (L, r, M) else none
    | _ => none)
  | .invokestatic _ => if e.2.2.2.2 = 7 then pz_cp L st M else pz_ma e.2.2.2.2 L st M
  | _ => none
def pz_cc (c : ClassFile.Cond) (x y : Int32) : Bool := match c with
  | .eq => decide (x = y)
  | .ne => decide (¬ x = y)
  | .lt => decide (x < y)
  | .ge => decide (y ≤ x)
  | .gt => decide (y < x)
  | .le => decide (x ≤ y)
def pz_br (b : Bool) (t f : Nat) (L : pz_L) (st : List Value) (M : pz_M) : Option pz_O := if b = true then some (.inl (t, L, st, M)) else some (.inl (f, L, st, M))
def pz_rc (ci : Nat) (M : pz_M) (v : Value) : Bool := match v with
  | .ref k => decide (M.2.1[k]? = some (.inl ci) ∧ ci < 12)
  | .retAddr q => decide (ci = 100 ∧ 4 ≤ q ∧ q < 8)
  | _ => false
/-- a call: e's numbers are the method, how many parameters, 0 (static) or 10 and the receiver's class -/
def pz_inv (e : pz_E) (L : pz_L) (st : List Value) (M : pz_M) : Option pz_O :=
  if e.2.2.2.2 = 0 then
    (if e.2.2.2.1 ≤ st.length ∧ ((st.drop e.2.2.2.1).map fun v => v.category).sum ≤ 8 then some (.inr (.inr (e.2.2.1, (st.take e.2.2.2.1).reverse, e.1 + 3, L, st.drop e.2.2.2.1, M))) else none)
  else match st.drop e.2.2.2.1 with
    | v :: r => if pz_rc (e.2.2.2.2 - 10) M v = true ∧ (r.map fun v => v.category).sum ≤ 8 then some (.inr (.inr (e.2.2.1, v :: (st.take e.2.2.2.1).reverse, e.1 + 3, L, r, M))) else none
    | [] => none
def pz_swt (pc : Nat) (d lo hi : Int) (offs : Array Int) (x : Int32) : Nat := if x.toInt < lo ∨ hi < x.toInt then ((pc : Int) + d).toNat else ((pc : Int) + offs[(x.toInt - lo).toNat]?.getD 0).toNat
def pz_ctl (e : pz_E) (L : pz_L) (st : List Value) (M : pz_M) : Option (Option pz_O) := match e.2.1 with
  | .goto _ => some (some (.inl (e.2.2.1, L, st, M)))
  | .ifCond c _ => some (match st with
    | .int x :: r => pz_br (pz_cc c x 0) e.2.2.1 (e.1 + 3) L r M
    | _ => none)
  | .if_icmp c _ => some (match st with
    | .int y :: .int x :: r => pz_br (pz_cc c x y) e.2.2.1 (e.1 + 3) L r M
    | _ => none)
  | .tableswitch d lo hi offs => some (match st with
    | .int x :: r => some (.inl (pz_swt e.1 d lo hi offs x, L, r, M))
    | _ => none)
  | .ireturn => some (match st with
    | [.int x] => if e.2.2.1 = 0 ∨ e.2.2.1 = 1 ∧ (x = 0 ∨ x = 1) ∨ e.2.2.1 = 2 ∧ (0 ≤ x ∧ x ≤ 65535) ∨ e.2.2.1 = 3 ∧ (-128 ≤ x ∧ x ≤ 127) then some (.inr (.inl (some (.int x), M))) else none
    | _ => none)
  | .lreturn => some (match st with
    | [.long x] => some (.inr (.inl (some (.long x), M)))
    | _ => none)
  | .areturn => some (match st with
    | [.ref x] => some (.inr (.inl (some (.ref x), M)))
    | _ => none)
  | .return_ => some (match st with
    | [] => some (.inr (.inl (none, M)))
    | _ => none)
  | .invokevirtual _ => some (pz_inv e L st M)
  | .invokestatic _ => if e.2.2.2.2 = 0 then some (pz_inv e L st M) else none
  | .invokespecial _ => if e.2.2.2.2 = 7 then none else some (pz_inv e L st M)
  | _ => none
def pz_evB (fall : Nat) : List pz_E → pz_L → List Value → pz_M → Option pz_O
  | [], L, st, M => some (.inl (fall, L, st, M))
  | e :: es, L, st, M => match pz_ctl e L st M with
    | some o => o
    | none => match pz_stp e L st M with
      | none => none
      | some q => pz_evB fall es q.1 q.2.1 q.2.2
def pz_cut : List Bool → pz_L → pz_L
  | b :: bs, x :: xs => (if b = true then x else none) :: pz_cut bs xs
  | _, _ => []
def pz_sp : Nat → List Value → pz_L
  | 0, _ => []
  | n + 1, [] => none :: pz_sp n []
  | n + 1, v :: vs => if v.category = 2 then (match n with
    | 0 => [some v]
    | k + 1 => some v :: none :: pz_sp k vs) else some v :: pz_sp n vs
