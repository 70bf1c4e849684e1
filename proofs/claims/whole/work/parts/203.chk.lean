/-! ===== the memory behind the constructors, checked ===== -/
section CHK
def X00 : pz_X := (0, fun _ => 0)
def ini1 : Option pz_M := match pz_rn0 mz 3000 100 1 (0, pz_sp (pn 1) [.ref 0], [], pz_nu (pz_M0 X00) (.inl 0)) with
  | some (none, M) => if M.2.1 = LAY.take 120 then some M else none
  | _ => none
def ini2 : Option pz_M := match ini1 with
  | none => none
  | some M => match pz_rn0 mz 3000 100 2 (0, pz_sp (pn 2) [.ref 120], [], pz_nu M (.inl 11)) with
    | some (none, M') => some M'
    | _ => none
def rfB (M : pz_M) (a b c : Nat) : Bool := match gr M a b with
  | .ref x => decide (x = c)
  | _ => false
def rtB (M : pz_M) (a b c : Nat) : Bool := match gr M a b with
  | .retAddr x => decide (x = c)
  | _ => false
def ckI : List (Nat × Nat × Int32) := [(120, 38, 0), (33, 4, 0), (33, 5, 0), (33, 6, 0), (120, 46, 0), (33, 7, 1), (120, 47, 1), (0, 13, 0), (120, 91, 0), (1, 2, 0), (120, 2, 0), (1, 11, 0), (120, 4, 0), (1, 12, -1), (120, 5, -1), (81, 5, 0), (120, 89, 0), (87, 5, 0), (120, 90, 0), (93, 0, 0), (120, 77, 0), (93, 1, 0), (120, 78, 0), (50, 4, 0), (120, 51, -1), (4, 0, 0), (123, 0, 0), (4, 3, 0), (124, 0, 0), (4, 6, 0), (125, 0, 0), (4, 10, 0), (126, 0, 0), (17, 0, 100), (17, 1, 10), (17, 2, 20), (17, 3, 500), (17, 4, 4), (17, 5, 2), (127, 0, 100), (128, 0, 10), (129, 0, 20), (130, 0, 500), (131, 0, 4), (132, 0, 2), (105, 8, 0), (110, 8, 0), (115, 8, 0), (180, 0, -1), (180, 1, -1), (180, 2, -1)]
def ckZ : List (Nat × Nat) := [(34, 24), (35, 24), (36, 24), (37, 24), (149, 24), (150, 24), (151, 24), (153, 24), (154, 24), (82, 40), (83, 40), (85, 40), (86, 40), (167, 40), (168, 40), (169, 40), (170, 40), (88, 40), (89, 40), (90, 40), (91, 40), (92, 40), (171, 40), (172, 40), (173, 40), (174, 40), (175, 40), (2, 1500), (121, 1520)]
def chk (M : pz_M) : Bool := (decide (M.2.1 = LAY) && (RFL.all (fun q => rfB M q.1 q.2.1 q.2.2) && (rfB M 39 9 48 && (rfB M 39 10 49 && rtB M 1 3 4)))) && (ckI.all (fun q => decide (gi M q.1 q.2.1 = q.2.2)) && (ckZ.all (fun q => (List.range q.2).all (fun j => decide (gi M q.1 j = 0))) && (List.range 26).all (fun i => decide (gl M 3 i = wdL i))))
def iniB : Bool := match ini2 with
  | some M => chk M
  | none => false
theorem ini_ok : iniB = true := by decide +kernel
end CHK
