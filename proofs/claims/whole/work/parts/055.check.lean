/-! ===== what is checked of a method's blocks, by program ===== -/
def pz_len (e : pz_E) : Nat := match e.2.1 with
  | .bipush _ => 2
  | .ldc _ => 2
  | .iload _ => 2
  | .lload _ => 2
  | .aload _ => 2
  | .istore _ => 2
  | .lstore _ => 2
  | .astore _ => 2
  | .newarray _ => 2
  | .sipush _ => 3
  | .ldc_w _ => 3
  | .ldc2_w _ => 3
  | .iinc _ _ => 3
  | .getstatic _ => 3
  | .getfield _ => 3
  | .putfield _ => 3
  | .invokevirtual _ => 3
  | .invokestatic _ => 3
  | .invokespecial _ => 3
  | .new _ => 3
  | .anewarray _ => 3
  | .goto _ => 3
  | .ifCond _ _ => 3
  | .if_icmp _ _ => 3
  | .tableswitch _ _ _ _ => e.2.2.1
  | _ => 1
def pz_lk (own : Nat) (ret : Option FieldType) (ini : Bool) (e : pz_E) : Bool := match e.2.1 with
  | .ldc i => if e.2.2.2.2 = 0 then decide ((own, i, e.2.2.1) ∈ cz_ci) else decide ((own, i, e.2.2.1) ∈ cz_cs)
  | .ldc_w i => decide ((own, i, e.2.2.1) ∈ cz_ci)
  | .ldc2_w i => decide ((own, i, e.2.2.1) ∈ cz_cj)
  | .getstatic i => decide ((own, i, e.2.2.1, e.2.2.2.2) ∈ cz_sg)
  | .getfield i => decide ((own, i, e.2.2.1, e.2.2.2.1, e.2.2.2.2) ∈ cz_fl) || decide ((own, i, e.2.2.1, e.2.2.2.1, e.2.2.2.2) ∈ cz_fln)
  | .putfield i => (decide ((own, i, e.2.2.1, e.2.2.2.1, e.2.2.2.2) ∈ cz_fo) && (!(cz_T e.2.2.1 e.2.2.2.1).2.2.2 || (ini && own == e.2.2.1))) || (decide ((own, i, e.2.2.1, e.2.2.2.1, e.2.2.2.2) ∈ cz_fln) && !(cz_T e.2.2.1 e.2.2.2.1).2.2.2)
  | .new i => decide ((own, i, e.2.2.1) ∈ cz_nw)
  | .anewarray i => decide ((own, i) ∈ cz_an)
  | .invokevirtual i => decide ((own, i, e.2.2.1, e.2.2.2.1, e.2.2.2.2) ∈ cz_mv)
  | .invokespecial i => if e.2.2.2.2 = 7 then decide ((own, i) ∈ cz_oi) else decide ((own, i, e.2.2.1, e.2.2.2.1, e.2.2.2.2) ∈ cz_ms) || decide ((own, i, e.2.2.1, e.2.2.2.1, e.2.2.2.2) ∈ cz_msn)
  | .invokestatic i => if e.2.2.2.2 = 0 then decide ((own, i, e.2.2.1, e.2.2.2.1, e.2.2.2.2) ∈ cz_mt) else if e.2.2.2.2 = 7 then decide ((own, i) ∈ cz_ac) else decide ((own, i, e.2.2.2.2) ∈ cz_mm)
  | .goto off => decide ((e.1 : Int) + off = (e.2.2.1 : Int))
  | .ifCond _ off => decide ((e.1 : Int) + off = (e.2.2.1 : Int))
  | .if_icmp _ off => decide ((e.1 : Int) + off = (e.2.2.1 : Int))
  | .tableswitch d lo hi offs => decide (0 ≤ (e.1 : Int) + d) && offs.toList.all (fun o => decide (0 ≤ (e.1 : Int) + o)) && decide ((offs.size : Int) = hi - lo + 1)
  | .ireturn => decide (e.2.2.1 = 0 ∧ ret = some .int ∨ e.2.2.1 = 1 ∧ ret = some .boolean ∨ e.2.2.1 = 2 ∧ ret = some .char ∨ e.2.2.1 = 3 ∧ ret = some .byte)
  | .lreturn => decide (ret = some .long)
  | .areturn => decide (ret = some (.object "ByHeart$Mind"))
  | .return_ => decide (ret = none)
  | _ => true
def pz_chk (own : Nat) (cc : ByteArray) (ret : Option FieldType) (ini : Bool) (e : pz_E) : Bool := decide (decode cc e.1 = .ok (e.2.1, pz_len e)) && pz_lk own ret ini e
def pz_chn (own : Nat) (cc : ByteArray) (ret : Option FieldType) (ini : Bool) : List pz_E → Nat → Nat → Bool
  | [], pc, fall => pc == fall
  | e :: es, pc, fall => e.1 == pc && (pz_chk own cc ret ini e && pz_chn own cc ret ini es (pc + pz_len e) fall)
def pz_chm (mi : pz_I) : Bool := mi.2.2.2.2.2.all (fun b => b.2.1.length == mi.2.2.2.1 && pz_chn mi.1 mi.2.2.1 mi.2.2.2.2.1 (mi.2.1.name == "<init>") b.2.2.1 b.1 b.2.2.2)
