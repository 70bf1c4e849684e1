/-! ===== the memory behind the constructors: cells and references ===== -/
def LAY : List pz_D := [.inl 0, .inl 10, .inr (2, 1500), .inr (1, 26), .inl 8, .inr (1, 24), .inr (0, 24), .inr (1, 8), .inr (0, 8), .inr (1, 4), .inr (0, 4), .inr (0, 4), .inr (1, 6), .inr (0, 6), .inr (0, 6), .inr (0, 6), .inr (0, 6), .inr (0, 6), .inl 4, .inl 8, .inr (1, 24), .inr (0, 24), .inr (1, 8), .inr (0, 8), .inr (1, 4), .inr (0, 4), .inr (0, 4), .inr (1, 6), .inr (0, 6), .inr (0, 6), .inr (0, 6), .inr (0, 6), .inr (0, 6), .inl 3, .inr (0, 24), .inr (0, 24), .inr (0, 24), .inr (0, 24), .inr (4, 3), .inl 1, .inr (0, 24), .inr (0, 576), .inr (0, 576), .inr (0, 576), .inr (0, 24), .inr (0, 24), .inr (0, 24), .inr (1, 5), .inr (1, 24), .inr (1, 24), .inl 5, .inr (0, 6), .inl 9, .inr (4, 5), .inr (0, 4), .inr (0, 4), .inl 3, .inr (0, 24), .inr (0, 24), .inr (0, 24), .inr (0, 24), .inl 3, .inr (0, 24), .inr (0, 24), .inr (0, 24), .inr (0, 24), .inl 3, .inr (0, 24), .inr (0, 24), .inr (0, 24), .inr (0, 24), .inl 3, .inr (0, 24), .inr (0, 24), .inr (0, 24), .inr (0, 24), .inl 3, .inr (0, 24), .inr (0, 24), .inr (0, 24), .inr (0, 24), .inl 2, .inr (0, 40), .inr (0, 40), .inr (3, 40), .inr (0, 40), .inr (0, 40), .inl 2, .inr (0, 40), .inr (0, 40), .inr (3, 40), .inr (0, 40), .inr (0, 40), .inl 6, .inr (0, 6), .inr (0, 6), .inr (0, 600), .inr (0, 40), .inl 7, .inl 6, .inr (0, 6), .inr (0, 6), .inr (0, 600), .inr (0, 40), .inr (0, 24), .inl 3, .inr (0, 24), .inr (0, 24), .inr (0, 24), .inr (0, 24), .inl 3, .inr (0, 24), .inr (0, 24), .inr (0, 24), .inr (0, 24), .inl 3, .inr (0, 24), .inr (0, 24), .inr (0, 24), .inr (0, 24), .inl 11, .inr (2, 1520), .inr (2, 1500), .inr (0, 2), .inr (0, 2), .inr (0, 2), .inr (0, 2), .inr (0, 2), .inr (0, 2), .inr (0, 2), .inr (0, 2), .inr (0, 2), .inr (0, 2), .inr (3, 2), .inr (3, 48), .inr (3, 48), .inr (1, 48), .inr (1, 16), .inr (1, 8), .inr (1, 12), .inr (0, 48), .inr (0, 16), .inr (0, 16), .inr (0, 8), .inr (0, 8), .inr (0, 12), .inr (0, 12), .inr (0, 12), .inr (0, 12), .inr (0, 24), .inr (0, 24), .inr (0, 24), .inr (0, 24), .inr (3, 24), .inr (3, 24), .inr (0, 24), .inr (1, 25), .inr (1, 25), .inr (1, 5), .inr (0, 800), .inr (0, 800), .inr (0, 90), .inr (0, 90), .inr (0, 70), .inr (0, 12), .inr (0, 12), .inr (0, 12), .inr (0, 40), .inr (0, 40), .inr (0, 40), .inr (0, 40), .inr (0, 40), .inr (0, 40), .inr (0, 40), .inr (0, 40), .inr (3, 40), .inr (0, 96), .inr (0, 96), .inr (0, 96), .inr (0, 96), .inr (0, 5), .inr (0, 5), .inr (3, 96), .inr (3, 96)]
def RFL : List (Nat × Nat × Nat) := [(0, 0, 1), (0, 1, 4), (0, 2, 18), (0, 3, 33), (0, 4, 38), (0, 5, 39), (0, 6, 50), (0, 7, 52), (0, 8, 81), (0, 9, 87), (0, 10, 93), (0, 11, 98), (0, 12, 104), (1, 0, 2), (1, 1, 3), (4, 1, 5), (4, 2, 6), (4, 4, 7), (4, 5, 8), (4, 7, 9), (4, 8, 10), (4, 9, 11), (4, 11, 12), (4, 12, 13), (4, 13, 14), (4, 14, 15), (4, 15, 16), (4, 19, 17), (18, 0, 1), (18, 1, 19), (19, 1, 20), (19, 2, 21), (19, 4, 22), (19, 5, 23), (19, 7, 24), (19, 8, 25), (19, 9, 26), (19, 11, 27), (19, 12, 28), (19, 13, 29), (19, 14, 30), (19, 15, 31), (19, 19, 32), (33, 0, 34), (33, 1, 35), (33, 2, 36), (33, 3, 37), (38, 0, 105), (38, 1, 110), (38, 2, 115), (39, 0, 4), (39, 1, 40), (39, 2, 41), (39, 3, 42), (39, 4, 43), (39, 5, 44), (39, 6, 45), (39, 7, 46), (39, 8, 47), (50, 0, 4), (50, 1, 33), (50, 2, 39), (50, 3, 51), (52, 0, 4), (52, 1, 39), (52, 2, 53), (52, 3, 54), (52, 4, 55), (53, 0, 56), (53, 1, 61), (53, 2, 66), (53, 3, 71), (53, 4, 76), (56, 0, 57), (56, 1, 58), (56, 2, 59), (56, 3, 60), (61, 0, 62), (61, 1, 63), (61, 2, 64), (61, 3, 65), (66, 0, 67), (66, 1, 68), (66, 2, 69), (66, 3, 70), (71, 0, 72), (71, 1, 73), (71, 2, 74), (71, 3, 75), (76, 0, 77), (76, 1, 78), (76, 2, 79), (76, 3, 80), (81, 0, 82), (81, 1, 83), (81, 2, 84), (81, 3, 85), (81, 4, 86), (87, 0, 88), (87, 1, 89), (87, 2, 90), (87, 3, 91), (87, 4, 92), (93, 3, 94), (93, 4, 95), (93, 5, 96), (93, 6, 97), (98, 0, 1), (98, 1, 4), (98, 2, 99), (99, 3, 100), (99, 4, 101), (99, 5, 102), (99, 6, 103), (105, 0, 106), (105, 1, 107), (105, 2, 108), (105, 3, 109), (110, 0, 111), (110, 1, 112), (110, 2, 113), (110, 3, 114), (115, 0, 116), (115, 1, 117), (115, 2, 118), (115, 3, 119), (120, 0, 121), (120, 1, 122), (120, 12, 123), (120, 13, 124), (120, 14, 125), (120, 15, 126), (120, 16, 127), (120, 17, 128), (120, 18, 129), (120, 19, 130), (120, 20, 131), (120, 21, 132), (120, 22, 133), (120, 23, 134), (120, 24, 135), (120, 25, 136), (120, 26, 137), (120, 27, 138), (120, 28, 139), (120, 29, 140), (120, 30, 141), (120, 31, 142), (120, 32, 143), (120, 33, 144), (120, 34, 145), (120, 35, 146), (120, 36, 147), (120, 37, 148), (120, 40, 149), (120, 41, 150), (120, 42, 151), (120, 43, 152), (120, 44, 153), (120, 45, 154), (120, 48, 155), (120, 57, 156), (120, 58, 157), (120, 59, 158), (120, 65, 159), (120, 66, 160), (120, 67, 161), (120, 68, 162), (120, 69, 163), (120, 70, 164), (120, 71, 165), (120, 72, 166), (120, 80, 167), (120, 81, 168), (120, 82, 169), (120, 83, 170), (120, 84, 171), (120, 85, 172), (120, 86, 173), (120, 87, 174), (120, 88, 175), (120, 92, 176), (120, 93, 177), (120, 94, 178), (120, 95, 179), (120, 96, 180), (120, 97, 181), (120, 98, 182), (120, 99, 183)]
def SH (M : pz_M) : Prop := M.2.1 = LAY ∧ (∀ q ∈ RFL, gr M q.1 q.2.1 = .ref q.2.2) ∧ ((gr M 39 9 = .ref 48 ∧ gr M 39 10 = .ref 49) ∨ (gr M 39 9 = .ref 49 ∧ gr M 39 10 = .ref 48)) ∧ (gr M 1 3 = .retAddr 4 ∨ gr M 1 3 = .retAddr 6 ∨ gr M 1 3 = .retAddr 7)
section SHP
variable {M M' : pz_M}
theorem SH.sm {K : List Nat} (h : SH M) (s : sm K M M') : SH M' := by
  unfold SH
  simp only [s.r]
  rw [s.2.1]
  exact h
theorem so_0 (h : SH M) : gc M 0 = some 0 := by unfold gc; rw [h.1]; rfl
theorem so_1 (h : SH M) : gc M 1 = some 10 := by unfold gc; rw [h.1]; rfl
theorem sa_2 (h : SH M) : ga M 2 = some 2 := by unfold ga; rw [h.1]; rfl
theorem sn_2 (h : SH M) : gn M 2 = 1500 := by unfold gn; rw [h.1]; rfl
theorem sa_3 (h : SH M) : ga M 3 = some 1 := by unfold ga; rw [h.1]; rfl
theorem sn_3 (h : SH M) : gn M 3 = 26 := by unfold gn; rw [h.1]; rfl
theorem so_4 (h : SH M) : gc M 4 = some 8 := by unfold gc; rw [h.1]; rfl
theorem sa_5 (h : SH M) : ga M 5 = some 1 := by unfold ga; rw [h.1]; rfl
theorem sn_5 (h : SH M) : gn M 5 = 24 := by unfold gn; rw [h.1]; rfl
theorem sa_6 (h : SH M) : ga M 6 = some 0 := by unfold ga; rw [h.1]; rfl
theorem sn_6 (h : SH M) : gn M 6 = 24 := by unfold gn; rw [h.1]; rfl
theorem sa_7 (h : SH M) : ga M 7 = some 1 := by unfold ga; rw [h.1]; rfl
theorem sn_7 (h : SH M) : gn M 7 = 8 := by unfold gn; rw [h.1]; rfl
theorem sa_8 (h : SH M) : ga M 8 = some 0 := by unfold ga; rw [h.1]; rfl
theorem sn_8 (h : SH M) : gn M 8 = 8 := by unfold gn; rw [h.1]; rfl
theorem sa_9 (h : SH M) : ga M 9 = some 1 := by unfold ga; rw [h.1]; rfl
theorem sn_9 (h : SH M) : gn M 9 = 4 := by unfold gn; rw [h.1]; rfl
theorem sa_10 (h : SH M) : ga M 10 = some 0 := by unfold ga; rw [h.1]; rfl
theorem sn_10 (h : SH M) : gn M 10 = 4 := by unfold gn; rw [h.1]; rfl
theorem sa_11 (h : SH M) : ga M 11 = some 0 := by unfold ga; rw [h.1]; rfl
theorem sn_11 (h : SH M) : gn M 11 = 4 := by unfold gn; rw [h.1]; rfl
theorem sa_12 (h : SH M) : ga M 12 = some 1 := by unfold ga; rw [h.1]; rfl
theorem sn_12 (h : SH M) : gn M 12 = 6 := by unfold gn; rw [h.1]; rfl
theorem sa_13 (h : SH M) : ga M 13 = some 0 := by unfold ga; rw [h.1]; rfl
theorem sn_13 (h : SH M) : gn M 13 = 6 := by unfold gn; rw [h.1]; rfl
theorem sa_14 (h : SH M) : ga M 14 = some 0 := by unfold ga; rw [h.1]; rfl
theorem sn_14 (h : SH M) : gn M 14 = 6 := by unfold gn; rw [h.1]; rfl
theorem sa_15 (h : SH M) : ga M 15 = some 0 := by unfold ga; rw [h.1]; rfl
theorem sn_15 (h : SH M) : gn M 15 = 6 := by unfold gn; rw [h.1]; rfl
theorem sa_16 (h : SH M) : ga M 16 = some 0 := by unfold ga; rw [h.1]; rfl
theorem sn_16 (h : SH M) : gn M 16 = 6 := by unfold gn; rw [h.1]; rfl
theorem sa_17 (h : SH M) : ga M 17 = some 0 := by unfold ga; rw [h.1]; rfl
theorem sn_17 (h : SH M) : gn M 17 = 6 := by unfold gn; rw [h.1]; rfl
theorem so_18 (h : SH M) : gc M 18 = some 4 := by unfold gc; rw [h.1]; rfl
theorem so_19 (h : SH M) : gc M 19 = some 8 := by unfold gc; rw [h.1]; rfl
theorem sa_20 (h : SH M) : ga M 20 = some 1 := by unfold ga; rw [h.1]; rfl
theorem sn_20 (h : SH M) : gn M 20 = 24 := by unfold gn; rw [h.1]; rfl
theorem sa_21 (h : SH M) : ga M 21 = some 0 := by unfold ga; rw [h.1]; rfl
theorem sn_21 (h : SH M) : gn M 21 = 24 := by unfold gn; rw [h.1]; rfl
theorem sa_22 (h : SH M) : ga M 22 = some 1 := by unfold ga; rw [h.1]; rfl
theorem sn_22 (h : SH M) : gn M 22 = 8 := by unfold gn; rw [h.1]; rfl
theorem sa_23 (h : SH M) : ga M 23 = some 0 := by unfold ga; rw [h.1]; rfl
theorem sn_23 (h : SH M) : gn M 23 = 8 := by unfold gn; rw [h.1]; rfl
theorem sa_24 (h : SH M) : ga M 24 = some 1 := by unfold ga; rw [h.1]; rfl
theorem sn_24 (h : SH M) : gn M 24 = 4 := by unfold gn; rw [h.1]; rfl
theorem sa_25 (h : SH M) : ga M 25 = some 0 := by unfold ga; rw [h.1]; rfl
theorem sn_25 (h : SH M) : gn M 25 = 4 := by unfold gn; rw [h.1]; rfl
theorem sa_26 (h : SH M) : ga M 26 = some 0 := by unfold ga; rw [h.1]; rfl
theorem sn_26 (h : SH M) : gn M 26 = 4 := by unfold gn; rw [h.1]; rfl
theorem sa_27 (h : SH M) : ga M 27 = some 1 := by unfold ga; rw [h.1]; rfl
theorem sn_27 (h : SH M) : gn M 27 = 6 := by unfold gn; rw [h.1]; rfl
theorem sa_28 (h : SH M) : ga M 28 = some 0 := by unfold ga; rw [h.1]; rfl
theorem sn_28 (h : SH M) : gn M 28 = 6 := by unfold gn; rw [h.1]; rfl
theorem sa_29 (h : SH M) : ga M 29 = some 0 := by unfold ga; rw [h.1]; rfl
theorem sn_29 (h : SH M) : gn M 29 = 6 := by unfold gn; rw [h.1]; rfl
theorem sa_30 (h : SH M) : ga M 30 = some 0 := by unfold ga; rw [h.1]; rfl
theorem sn_30 (h : SH M) : gn M 30 = 6 := by unfold gn; rw [h.1]; rfl
theorem sa_31 (h : SH M) : ga M 31 = some 0 := by unfold ga; rw [h.1]; rfl
theorem sn_31 (h : SH M) : gn M 31 = 6 := by unfold gn; rw [h.1]; rfl
theorem sa_32 (h : SH M) : ga M 32 = some 0 := by unfold ga; rw [h.1]; rfl
theorem sn_32 (h : SH M) : gn M 32 = 6 := by unfold gn; rw [h.1]; rfl
theorem so_33 (h : SH M) : gc M 33 = some 3 := by unfold gc; rw [h.1]; rfl
theorem sa_34 (h : SH M) : ga M 34 = some 0 := by unfold ga; rw [h.1]; rfl
theorem sn_34 (h : SH M) : gn M 34 = 24 := by unfold gn; rw [h.1]; rfl
theorem sa_35 (h : SH M) : ga M 35 = some 0 := by unfold ga; rw [h.1]; rfl
theorem sn_35 (h : SH M) : gn M 35 = 24 := by unfold gn; rw [h.1]; rfl
theorem sa_36 (h : SH M) : ga M 36 = some 0 := by unfold ga; rw [h.1]; rfl
theorem sn_36 (h : SH M) : gn M 36 = 24 := by unfold gn; rw [h.1]; rfl
theorem sa_37 (h : SH M) : ga M 37 = some 0 := by unfold ga; rw [h.1]; rfl
theorem sn_37 (h : SH M) : gn M 37 = 24 := by unfold gn; rw [h.1]; rfl
theorem sa_38 (h : SH M) : ga M 38 = some 4 := by unfold ga; rw [h.1]; rfl
theorem sn_38 (h : SH M) : gn M 38 = 3 := by unfold gn; rw [h.1]; rfl
theorem so_39 (h : SH M) : gc M 39 = some 1 := by unfold gc; rw [h.1]; rfl
theorem sa_40 (h : SH M) : ga M 40 = some 0 := by unfold ga; rw [h.1]; rfl
theorem sn_40 (h : SH M) : gn M 40 = 24 := by unfold gn; rw [h.1]; rfl
theorem sa_41 (h : SH M) : ga M 41 = some 0 := by unfold ga; rw [h.1]; rfl
theorem sn_41 (h : SH M) : gn M 41 = 576 := by unfold gn; rw [h.1]; rfl
theorem sa_42 (h : SH M) : ga M 42 = some 0 := by unfold ga; rw [h.1]; rfl
theorem sn_42 (h : SH M) : gn M 42 = 576 := by unfold gn; rw [h.1]; rfl
theorem sa_43 (h : SH M) : ga M 43 = some 0 := by unfold ga; rw [h.1]; rfl
theorem sn_43 (h : SH M) : gn M 43 = 576 := by unfold gn; rw [h.1]; rfl
theorem sa_44 (h : SH M) : ga M 44 = some 0 := by unfold ga; rw [h.1]; rfl
theorem sn_44 (h : SH M) : gn M 44 = 24 := by unfold gn; rw [h.1]; rfl
theorem sa_45 (h : SH M) : ga M 45 = some 0 := by unfold ga; rw [h.1]; rfl
theorem sn_45 (h : SH M) : gn M 45 = 24 := by unfold gn; rw [h.1]; rfl
theorem sa_46 (h : SH M) : ga M 46 = some 0 := by unfold ga; rw [h.1]; rfl
theorem sn_46 (h : SH M) : gn M 46 = 24 := by unfold gn; rw [h.1]; rfl
theorem sa_47 (h : SH M) : ga M 47 = some 1 := by unfold ga; rw [h.1]; rfl
theorem sn_47 (h : SH M) : gn M 47 = 5 := by unfold gn; rw [h.1]; rfl
theorem sa_48 (h : SH M) : ga M 48 = some 1 := by unfold ga; rw [h.1]; rfl
theorem sn_48 (h : SH M) : gn M 48 = 24 := by unfold gn; rw [h.1]; rfl
theorem sa_49 (h : SH M) : ga M 49 = some 1 := by unfold ga; rw [h.1]; rfl
theorem sn_49 (h : SH M) : gn M 49 = 24 := by unfold gn; rw [h.1]; rfl
theorem so_50 (h : SH M) : gc M 50 = some 5 := by unfold gc; rw [h.1]; rfl
theorem sa_51 (h : SH M) : ga M 51 = some 0 := by unfold ga; rw [h.1]; rfl
theorem sn_51 (h : SH M) : gn M 51 = 6 := by unfold gn; rw [h.1]; rfl
theorem so_52 (h : SH M) : gc M 52 = some 9 := by unfold gc; rw [h.1]; rfl
theorem sa_53 (h : SH M) : ga M 53 = some 4 := by unfold ga; rw [h.1]; rfl
theorem sn_53 (h : SH M) : gn M 53 = 5 := by unfold gn; rw [h.1]; rfl
theorem sa_54 (h : SH M) : ga M 54 = some 0 := by unfold ga; rw [h.1]; rfl
theorem sn_54 (h : SH M) : gn M 54 = 4 := by unfold gn; rw [h.1]; rfl
theorem sa_55 (h : SH M) : ga M 55 = some 0 := by unfold ga; rw [h.1]; rfl
theorem sn_55 (h : SH M) : gn M 55 = 4 := by unfold gn; rw [h.1]; rfl
theorem so_56 (h : SH M) : gc M 56 = some 3 := by unfold gc; rw [h.1]; rfl
theorem sa_57 (h : SH M) : ga M 57 = some 0 := by unfold ga; rw [h.1]; rfl
theorem sn_57 (h : SH M) : gn M 57 = 24 := by unfold gn; rw [h.1]; rfl
theorem sa_58 (h : SH M) : ga M 58 = some 0 := by unfold ga; rw [h.1]; rfl
theorem sn_58 (h : SH M) : gn M 58 = 24 := by unfold gn; rw [h.1]; rfl
theorem sa_59 (h : SH M) : ga M 59 = some 0 := by unfold ga; rw [h.1]; rfl
theorem sn_59 (h : SH M) : gn M 59 = 24 := by unfold gn; rw [h.1]; rfl
theorem sa_60 (h : SH M) : ga M 60 = some 0 := by unfold ga; rw [h.1]; rfl
theorem sn_60 (h : SH M) : gn M 60 = 24 := by unfold gn; rw [h.1]; rfl
theorem so_61 (h : SH M) : gc M 61 = some 3 := by unfold gc; rw [h.1]; rfl
theorem sa_62 (h : SH M) : ga M 62 = some 0 := by unfold ga; rw [h.1]; rfl
theorem sn_62 (h : SH M) : gn M 62 = 24 := by unfold gn; rw [h.1]; rfl
theorem sa_63 (h : SH M) : ga M 63 = some 0 := by unfold ga; rw [h.1]; rfl
theorem sn_63 (h : SH M) : gn M 63 = 24 := by unfold gn; rw [h.1]; rfl
theorem sa_64 (h : SH M) : ga M 64 = some 0 := by unfold ga; rw [h.1]; rfl
theorem sn_64 (h : SH M) : gn M 64 = 24 := by unfold gn; rw [h.1]; rfl
theorem sa_65 (h : SH M) : ga M 65 = some 0 := by unfold ga; rw [h.1]; rfl
theorem sn_65 (h : SH M) : gn M 65 = 24 := by unfold gn; rw [h.1]; rfl
theorem so_66 (h : SH M) : gc M 66 = some 3 := by unfold gc; rw [h.1]; rfl
theorem sa_67 (h : SH M) : ga M 67 = some 0 := by unfold ga; rw [h.1]; rfl
theorem sn_67 (h : SH M) : gn M 67 = 24 := by unfold gn; rw [h.1]; rfl
theorem sa_68 (h : SH M) : ga M 68 = some 0 := by unfold ga; rw [h.1]; rfl
theorem sn_68 (h : SH M) : gn M 68 = 24 := by unfold gn; rw [h.1]; rfl
theorem sa_69 (h : SH M) : ga M 69 = some 0 := by unfold ga; rw [h.1]; rfl
theorem sn_69 (h : SH M) : gn M 69 = 24 := by unfold gn; rw [h.1]; rfl
theorem sa_70 (h : SH M) : ga M 70 = some 0 := by unfold ga; rw [h.1]; rfl
theorem sn_70 (h : SH M) : gn M 70 = 24 := by unfold gn; rw [h.1]; rfl
theorem so_71 (h : SH M) : gc M 71 = some 3 := by unfold gc; rw [h.1]; rfl
theorem sa_72 (h : SH M) : ga M 72 = some 0 := by unfold ga; rw [h.1]; rfl
theorem sn_72 (h : SH M) : gn M 72 = 24 := by unfold gn; rw [h.1]; rfl
theorem sa_73 (h : SH M) : ga M 73 = some 0 := by unfold ga; rw [h.1]; rfl
theorem sn_73 (h : SH M) : gn M 73 = 24 := by unfold gn; rw [h.1]; rfl
theorem sa_74 (h : SH M) : ga M 74 = some 0 := by unfold ga; rw [h.1]; rfl
theorem sn_74 (h : SH M) : gn M 74 = 24 := by unfold gn; rw [h.1]; rfl
theorem sa_75 (h : SH M) : ga M 75 = some 0 := by unfold ga; rw [h.1]; rfl
theorem sn_75 (h : SH M) : gn M 75 = 24 := by unfold gn; rw [h.1]; rfl
theorem so_76 (h : SH M) : gc M 76 = some 3 := by unfold gc; rw [h.1]; rfl
theorem sa_77 (h : SH M) : ga M 77 = some 0 := by unfold ga; rw [h.1]; rfl
theorem sn_77 (h : SH M) : gn M 77 = 24 := by unfold gn; rw [h.1]; rfl
theorem sa_78 (h : SH M) : ga M 78 = some 0 := by unfold ga; rw [h.1]; rfl
theorem sn_78 (h : SH M) : gn M 78 = 24 := by unfold gn; rw [h.1]; rfl
theorem sa_79 (h : SH M) : ga M 79 = some 0 := by unfold ga; rw [h.1]; rfl
theorem sn_79 (h : SH M) : gn M 79 = 24 := by unfold gn; rw [h.1]; rfl
theorem sa_80 (h : SH M) : ga M 80 = some 0 := by unfold ga; rw [h.1]; rfl
theorem sn_80 (h : SH M) : gn M 80 = 24 := by unfold gn; rw [h.1]; rfl
theorem so_81 (h : SH M) : gc M 81 = some 2 := by unfold gc; rw [h.1]; rfl
theorem sa_82 (h : SH M) : ga M 82 = some 0 := by unfold ga; rw [h.1]; rfl
theorem sn_82 (h : SH M) : gn M 82 = 40 := by unfold gn; rw [h.1]; rfl
theorem sa_83 (h : SH M) : ga M 83 = some 0 := by unfold ga; rw [h.1]; rfl
theorem sn_83 (h : SH M) : gn M 83 = 40 := by unfold gn; rw [h.1]; rfl
theorem sa_84 (h : SH M) : ga M 84 = some 3 := by unfold ga; rw [h.1]; rfl
theorem sn_84 (h : SH M) : gn M 84 = 40 := by unfold gn; rw [h.1]; rfl
theorem sa_85 (h : SH M) : ga M 85 = some 0 := by unfold ga; rw [h.1]; rfl
theorem sn_85 (h : SH M) : gn M 85 = 40 := by unfold gn; rw [h.1]; rfl
theorem sa_86 (h : SH M) : ga M 86 = some 0 := by unfold ga; rw [h.1]; rfl
theorem sn_86 (h : SH M) : gn M 86 = 40 := by unfold gn; rw [h.1]; rfl
theorem so_87 (h : SH M) : gc M 87 = some 2 := by unfold gc; rw [h.1]; rfl
theorem sa_88 (h : SH M) : ga M 88 = some 0 := by unfold ga; rw [h.1]; rfl
theorem sn_88 (h : SH M) : gn M 88 = 40 := by unfold gn; rw [h.1]; rfl
theorem sa_89 (h : SH M) : ga M 89 = some 0 := by unfold ga; rw [h.1]; rfl
theorem sn_89 (h : SH M) : gn M 89 = 40 := by unfold gn; rw [h.1]; rfl
theorem sa_90 (h : SH M) : ga M 90 = some 3 := by unfold ga; rw [h.1]; rfl
theorem sn_90 (h : SH M) : gn M 90 = 40 := by unfold gn; rw [h.1]; rfl
theorem sa_91 (h : SH M) : ga M 91 = some 0 := by unfold ga; rw [h.1]; rfl
theorem sn_91 (h : SH M) : gn M 91 = 40 := by unfold gn; rw [h.1]; rfl
theorem sa_92 (h : SH M) : ga M 92 = some 0 := by unfold ga; rw [h.1]; rfl
theorem sn_92 (h : SH M) : gn M 92 = 40 := by unfold gn; rw [h.1]; rfl
theorem so_93 (h : SH M) : gc M 93 = some 6 := by unfold gc; rw [h.1]; rfl
theorem sa_94 (h : SH M) : ga M 94 = some 0 := by unfold ga; rw [h.1]; rfl
theorem sn_94 (h : SH M) : gn M 94 = 6 := by unfold gn; rw [h.1]; rfl
theorem sa_95 (h : SH M) : ga M 95 = some 0 := by unfold ga; rw [h.1]; rfl
theorem sn_95 (h : SH M) : gn M 95 = 6 := by unfold gn; rw [h.1]; rfl
theorem sa_96 (h : SH M) : ga M 96 = some 0 := by unfold ga; rw [h.1]; rfl
theorem sn_96 (h : SH M) : gn M 96 = 600 := by unfold gn; rw [h.1]; rfl
theorem sa_97 (h : SH M) : ga M 97 = some 0 := by unfold ga; rw [h.1]; rfl
theorem sn_97 (h : SH M) : gn M 97 = 40 := by unfold gn; rw [h.1]; rfl
theorem so_98 (h : SH M) : gc M 98 = some 7 := by unfold gc; rw [h.1]; rfl
theorem so_99 (h : SH M) : gc M 99 = some 6 := by unfold gc; rw [h.1]; rfl
theorem sa_100 (h : SH M) : ga M 100 = some 0 := by unfold ga; rw [h.1]; rfl
theorem sn_100 (h : SH M) : gn M 100 = 6 := by unfold gn; rw [h.1]; rfl
theorem sa_101 (h : SH M) : ga M 101 = some 0 := by unfold ga; rw [h.1]; rfl
theorem sn_101 (h : SH M) : gn M 101 = 6 := by unfold gn; rw [h.1]; rfl
theorem sa_102 (h : SH M) : ga M 102 = some 0 := by unfold ga; rw [h.1]; rfl
theorem sn_102 (h : SH M) : gn M 102 = 600 := by unfold gn; rw [h.1]; rfl
theorem sa_103 (h : SH M) : ga M 103 = some 0 := by unfold ga; rw [h.1]; rfl
theorem sn_103 (h : SH M) : gn M 103 = 40 := by unfold gn; rw [h.1]; rfl
theorem sa_104 (h : SH M) : ga M 104 = some 0 := by unfold ga; rw [h.1]; rfl
theorem sn_104 (h : SH M) : gn M 104 = 24 := by unfold gn; rw [h.1]; rfl
theorem so_105 (h : SH M) : gc M 105 = some 3 := by unfold gc; rw [h.1]; rfl
theorem sa_106 (h : SH M) : ga M 106 = some 0 := by unfold ga; rw [h.1]; rfl
theorem sn_106 (h : SH M) : gn M 106 = 24 := by unfold gn; rw [h.1]; rfl
theorem sa_107 (h : SH M) : ga M 107 = some 0 := by unfold ga; rw [h.1]; rfl
theorem sn_107 (h : SH M) : gn M 107 = 24 := by unfold gn; rw [h.1]; rfl
theorem sa_108 (h : SH M) : ga M 108 = some 0 := by unfold ga; rw [h.1]; rfl
theorem sn_108 (h : SH M) : gn M 108 = 24 := by unfold gn; rw [h.1]; rfl
theorem sa_109 (h : SH M) : ga M 109 = some 0 := by unfold ga; rw [h.1]; rfl
theorem sn_109 (h : SH M) : gn M 109 = 24 := by unfold gn; rw [h.1]; rfl
theorem so_110 (h : SH M) : gc M 110 = some 3 := by unfold gc; rw [h.1]; rfl
theorem sa_111 (h : SH M) : ga M 111 = some 0 := by unfold ga; rw [h.1]; rfl
theorem sn_111 (h : SH M) : gn M 111 = 24 := by unfold gn; rw [h.1]; rfl
theorem sa_112 (h : SH M) : ga M 112 = some 0 := by unfold ga; rw [h.1]; rfl
theorem sn_112 (h : SH M) : gn M 112 = 24 := by unfold gn; rw [h.1]; rfl
theorem sa_113 (h : SH M) : ga M 113 = some 0 := by unfold ga; rw [h.1]; rfl
theorem sn_113 (h : SH M) : gn M 113 = 24 := by unfold gn; rw [h.1]; rfl
theorem sa_114 (h : SH M) : ga M 114 = some 0 := by unfold ga; rw [h.1]; rfl
theorem sn_114 (h : SH M) : gn M 114 = 24 := by unfold gn; rw [h.1]; rfl
theorem so_115 (h : SH M) : gc M 115 = some 3 := by unfold gc; rw [h.1]; rfl
theorem sa_116 (h : SH M) : ga M 116 = some 0 := by unfold ga; rw [h.1]; rfl
theorem sn_116 (h : SH M) : gn M 116 = 24 := by unfold gn; rw [h.1]; rfl
theorem sa_117 (h : SH M) : ga M 117 = some 0 := by unfold ga; rw [h.1]; rfl
theorem sn_117 (h : SH M) : gn M 117 = 24 := by unfold gn; rw [h.1]; rfl
theorem sa_118 (h : SH M) : ga M 118 = some 0 := by unfold ga; rw [h.1]; rfl
theorem sn_118 (h : SH M) : gn M 118 = 24 := by unfold gn; rw [h.1]; rfl
theorem sa_119 (h : SH M) : ga M 119 = some 0 := by unfold ga; rw [h.1]; rfl
theorem sn_119 (h : SH M) : gn M 119 = 24 := by unfold gn; rw [h.1]; rfl
theorem so_120 (h : SH M) : gc M 120 = some 11 := by unfold gc; rw [h.1]; rfl
theorem sa_121 (h : SH M) : ga M 121 = some 2 := by unfold ga; rw [h.1]; rfl
theorem sn_121 (h : SH M) : gn M 121 = 1520 := by unfold gn; rw [h.1]; rfl
theorem sa_122 (h : SH M) : ga M 122 = some 2 := by unfold ga; rw [h.1]; rfl
theorem sn_122 (h : SH M) : gn M 122 = 1500 := by unfold gn; rw [h.1]; rfl
theorem sa_123 (h : SH M) : ga M 123 = some 0 := by unfold ga; rw [h.1]; rfl
theorem sn_123 (h : SH M) : gn M 123 = 2 := by unfold gn; rw [h.1]; rfl
theorem sa_124 (h : SH M) : ga M 124 = some 0 := by unfold ga; rw [h.1]; rfl
theorem sn_124 (h : SH M) : gn M 124 = 2 := by unfold gn; rw [h.1]; rfl
theorem sa_125 (h : SH M) : ga M 125 = some 0 := by unfold ga; rw [h.1]; rfl
theorem sn_125 (h : SH M) : gn M 125 = 2 := by unfold gn; rw [h.1]; rfl
theorem sa_126 (h : SH M) : ga M 126 = some 0 := by unfold ga; rw [h.1]; rfl
theorem sn_126 (h : SH M) : gn M 126 = 2 := by unfold gn; rw [h.1]; rfl
theorem sa_127 (h : SH M) : ga M 127 = some 0 := by unfold ga; rw [h.1]; rfl
theorem sn_127 (h : SH M) : gn M 127 = 2 := by unfold gn; rw [h.1]; rfl
theorem sa_128 (h : SH M) : ga M 128 = some 0 := by unfold ga; rw [h.1]; rfl
theorem sn_128 (h : SH M) : gn M 128 = 2 := by unfold gn; rw [h.1]; rfl
theorem sa_129 (h : SH M) : ga M 129 = some 0 := by unfold ga; rw [h.1]; rfl
theorem sn_129 (h : SH M) : gn M 129 = 2 := by unfold gn; rw [h.1]; rfl
theorem sa_130 (h : SH M) : ga M 130 = some 0 := by unfold ga; rw [h.1]; rfl
theorem sn_130 (h : SH M) : gn M 130 = 2 := by unfold gn; rw [h.1]; rfl
theorem sa_131 (h : SH M) : ga M 131 = some 0 := by unfold ga; rw [h.1]; rfl
theorem sn_131 (h : SH M) : gn M 131 = 2 := by unfold gn; rw [h.1]; rfl
theorem sa_132 (h : SH M) : ga M 132 = some 0 := by unfold ga; rw [h.1]; rfl
theorem sn_132 (h : SH M) : gn M 132 = 2 := by unfold gn; rw [h.1]; rfl
theorem sa_133 (h : SH M) : ga M 133 = some 3 := by unfold ga; rw [h.1]; rfl
theorem sn_133 (h : SH M) : gn M 133 = 2 := by unfold gn; rw [h.1]; rfl
theorem sa_134 (h : SH M) : ga M 134 = some 3 := by unfold ga; rw [h.1]; rfl
theorem sn_134 (h : SH M) : gn M 134 = 48 := by unfold gn; rw [h.1]; rfl
theorem sa_135 (h : SH M) : ga M 135 = some 3 := by unfold ga; rw [h.1]; rfl
theorem sn_135 (h : SH M) : gn M 135 = 48 := by unfold gn; rw [h.1]; rfl
theorem sa_136 (h : SH M) : ga M 136 = some 1 := by unfold ga; rw [h.1]; rfl
theorem sn_136 (h : SH M) : gn M 136 = 48 := by unfold gn; rw [h.1]; rfl
theorem sa_137 (h : SH M) : ga M 137 = some 1 := by unfold ga; rw [h.1]; rfl
theorem sn_137 (h : SH M) : gn M 137 = 16 := by unfold gn; rw [h.1]; rfl
theorem sa_138 (h : SH M) : ga M 138 = some 1 := by unfold ga; rw [h.1]; rfl
theorem sn_138 (h : SH M) : gn M 138 = 8 := by unfold gn; rw [h.1]; rfl
theorem sa_139 (h : SH M) : ga M 139 = some 1 := by unfold ga; rw [h.1]; rfl
theorem sn_139 (h : SH M) : gn M 139 = 12 := by unfold gn; rw [h.1]; rfl
theorem sa_140 (h : SH M) : ga M 140 = some 0 := by unfold ga; rw [h.1]; rfl
theorem sn_140 (h : SH M) : gn M 140 = 48 := by unfold gn; rw [h.1]; rfl
theorem sa_141 (h : SH M) : ga M 141 = some 0 := by unfold ga; rw [h.1]; rfl
theorem sn_141 (h : SH M) : gn M 141 = 16 := by unfold gn; rw [h.1]; rfl
theorem sa_142 (h : SH M) : ga M 142 = some 0 := by unfold ga; rw [h.1]; rfl
theorem sn_142 (h : SH M) : gn M 142 = 16 := by unfold gn; rw [h.1]; rfl
theorem sa_143 (h : SH M) : ga M 143 = some 0 := by unfold ga; rw [h.1]; rfl
theorem sn_143 (h : SH M) : gn M 143 = 8 := by unfold gn; rw [h.1]; rfl
theorem sa_144 (h : SH M) : ga M 144 = some 0 := by unfold ga; rw [h.1]; rfl
theorem sn_144 (h : SH M) : gn M 144 = 8 := by unfold gn; rw [h.1]; rfl
theorem sa_145 (h : SH M) : ga M 145 = some 0 := by unfold ga; rw [h.1]; rfl
theorem sn_145 (h : SH M) : gn M 145 = 12 := by unfold gn; rw [h.1]; rfl
theorem sa_146 (h : SH M) : ga M 146 = some 0 := by unfold ga; rw [h.1]; rfl
theorem sn_146 (h : SH M) : gn M 146 = 12 := by unfold gn; rw [h.1]; rfl
theorem sa_147 (h : SH M) : ga M 147 = some 0 := by unfold ga; rw [h.1]; rfl
theorem sn_147 (h : SH M) : gn M 147 = 12 := by unfold gn; rw [h.1]; rfl
theorem sa_148 (h : SH M) : ga M 148 = some 0 := by unfold ga; rw [h.1]; rfl
theorem sn_148 (h : SH M) : gn M 148 = 12 := by unfold gn; rw [h.1]; rfl
theorem sa_149 (h : SH M) : ga M 149 = some 0 := by unfold ga; rw [h.1]; rfl
theorem sn_149 (h : SH M) : gn M 149 = 24 := by unfold gn; rw [h.1]; rfl
theorem sa_150 (h : SH M) : ga M 150 = some 0 := by unfold ga; rw [h.1]; rfl
theorem sn_150 (h : SH M) : gn M 150 = 24 := by unfold gn; rw [h.1]; rfl
theorem sa_151 (h : SH M) : ga M 151 = some 0 := by unfold ga; rw [h.1]; rfl
theorem sn_151 (h : SH M) : gn M 151 = 24 := by unfold gn; rw [h.1]; rfl
theorem sa_152 (h : SH M) : ga M 152 = some 0 := by unfold ga; rw [h.1]; rfl
theorem sn_152 (h : SH M) : gn M 152 = 24 := by unfold gn; rw [h.1]; rfl
theorem sa_153 (h : SH M) : ga M 153 = some 3 := by unfold ga; rw [h.1]; rfl
theorem sn_153 (h : SH M) : gn M 153 = 24 := by unfold gn; rw [h.1]; rfl
theorem sa_154 (h : SH M) : ga M 154 = some 3 := by unfold ga; rw [h.1]; rfl
theorem sn_154 (h : SH M) : gn M 154 = 24 := by unfold gn; rw [h.1]; rfl
theorem sa_155 (h : SH M) : ga M 155 = some 0 := by unfold ga; rw [h.1]; rfl
theorem sn_155 (h : SH M) : gn M 155 = 24 := by unfold gn; rw [h.1]; rfl
theorem sa_156 (h : SH M) : ga M 156 = some 1 := by unfold ga; rw [h.1]; rfl
theorem sn_156 (h : SH M) : gn M 156 = 25 := by unfold gn; rw [h.1]; rfl
theorem sa_157 (h : SH M) : ga M 157 = some 1 := by unfold ga; rw [h.1]; rfl
theorem sn_157 (h : SH M) : gn M 157 = 25 := by unfold gn; rw [h.1]; rfl
theorem sa_158 (h : SH M) : ga M 158 = some 1 := by unfold ga; rw [h.1]; rfl
theorem sn_158 (h : SH M) : gn M 158 = 5 := by unfold gn; rw [h.1]; rfl
theorem sa_159 (h : SH M) : ga M 159 = some 0 := by unfold ga; rw [h.1]; rfl
theorem sn_159 (h : SH M) : gn M 159 = 800 := by unfold gn; rw [h.1]; rfl
theorem sa_160 (h : SH M) : ga M 160 = some 0 := by unfold ga; rw [h.1]; rfl
theorem sn_160 (h : SH M) : gn M 160 = 800 := by unfold gn; rw [h.1]; rfl
theorem sa_161 (h : SH M) : ga M 161 = some 0 := by unfold ga; rw [h.1]; rfl
theorem sn_161 (h : SH M) : gn M 161 = 90 := by unfold gn; rw [h.1]; rfl
theorem sa_162 (h : SH M) : ga M 162 = some 0 := by unfold ga; rw [h.1]; rfl
theorem sn_162 (h : SH M) : gn M 162 = 90 := by unfold gn; rw [h.1]; rfl
theorem sa_163 (h : SH M) : ga M 163 = some 0 := by unfold ga; rw [h.1]; rfl
theorem sn_163 (h : SH M) : gn M 163 = 70 := by unfold gn; rw [h.1]; rfl
theorem sa_164 (h : SH M) : ga M 164 = some 0 := by unfold ga; rw [h.1]; rfl
theorem sn_164 (h : SH M) : gn M 164 = 12 := by unfold gn; rw [h.1]; rfl
theorem sa_165 (h : SH M) : ga M 165 = some 0 := by unfold ga; rw [h.1]; rfl
theorem sn_165 (h : SH M) : gn M 165 = 12 := by unfold gn; rw [h.1]; rfl
theorem sa_166 (h : SH M) : ga M 166 = some 0 := by unfold ga; rw [h.1]; rfl
theorem sn_166 (h : SH M) : gn M 166 = 12 := by unfold gn; rw [h.1]; rfl
theorem sa_167 (h : SH M) : ga M 167 = some 0 := by unfold ga; rw [h.1]; rfl
theorem sn_167 (h : SH M) : gn M 167 = 40 := by unfold gn; rw [h.1]; rfl
theorem sa_168 (h : SH M) : ga M 168 = some 0 := by unfold ga; rw [h.1]; rfl
theorem sn_168 (h : SH M) : gn M 168 = 40 := by unfold gn; rw [h.1]; rfl
theorem sa_169 (h : SH M) : ga M 169 = some 0 := by unfold ga; rw [h.1]; rfl
theorem sn_169 (h : SH M) : gn M 169 = 40 := by unfold gn; rw [h.1]; rfl
theorem sa_170 (h : SH M) : ga M 170 = some 0 := by unfold ga; rw [h.1]; rfl
theorem sn_170 (h : SH M) : gn M 170 = 40 := by unfold gn; rw [h.1]; rfl
theorem sa_171 (h : SH M) : ga M 171 = some 0 := by unfold ga; rw [h.1]; rfl
theorem sn_171 (h : SH M) : gn M 171 = 40 := by unfold gn; rw [h.1]; rfl
theorem sa_172 (h : SH M) : ga M 172 = some 0 := by unfold ga; rw [h.1]; rfl
theorem sn_172 (h : SH M) : gn M 172 = 40 := by unfold gn; rw [h.1]; rfl
theorem sa_173 (h : SH M) : ga M 173 = some 0 := by unfold ga; rw [h.1]; rfl
theorem sn_173 (h : SH M) : gn M 173 = 40 := by unfold gn; rw [h.1]; rfl
theorem sa_174 (h : SH M) : ga M 174 = some 0 := by unfold ga; rw [h.1]; rfl
theorem sn_174 (h : SH M) : gn M 174 = 40 := by unfold gn; rw [h.1]; rfl
theorem sa_175 (h : SH M) : ga M 175 = some 3 := by unfold ga; rw [h.1]; rfl
theorem sn_175 (h : SH M) : gn M 175 = 40 := by unfold gn; rw [h.1]; rfl
theorem sa_176 (h : SH M) : ga M 176 = some 0 := by unfold ga; rw [h.1]; rfl
theorem sn_176 (h : SH M) : gn M 176 = 96 := by unfold gn; rw [h.1]; rfl
theorem sa_177 (h : SH M) : ga M 177 = some 0 := by unfold ga; rw [h.1]; rfl
theorem sn_177 (h : SH M) : gn M 177 = 96 := by unfold gn; rw [h.1]; rfl
theorem sa_178 (h : SH M) : ga M 178 = some 0 := by unfold ga; rw [h.1]; rfl
theorem sn_178 (h : SH M) : gn M 178 = 96 := by unfold gn; rw [h.1]; rfl
theorem sa_179 (h : SH M) : ga M 179 = some 0 := by unfold ga; rw [h.1]; rfl
theorem sn_179 (h : SH M) : gn M 179 = 96 := by unfold gn; rw [h.1]; rfl
theorem sa_180 (h : SH M) : ga M 180 = some 0 := by unfold ga; rw [h.1]; rfl
theorem sn_180 (h : SH M) : gn M 180 = 5 := by unfold gn; rw [h.1]; rfl
theorem sa_181 (h : SH M) : ga M 181 = some 0 := by unfold ga; rw [h.1]; rfl
theorem sn_181 (h : SH M) : gn M 181 = 5 := by unfold gn; rw [h.1]; rfl
theorem sa_182 (h : SH M) : ga M 182 = some 3 := by unfold ga; rw [h.1]; rfl
theorem sn_182 (h : SH M) : gn M 182 = 96 := by unfold gn; rw [h.1]; rfl
theorem sa_183 (h : SH M) : ga M 183 = some 3 := by unfold ga; rw [h.1]; rfl
theorem sn_183 (h : SH M) : gn M 183 = 96 := by unfold gn; rw [h.1]; rfl
theorem sr_0_0 (h : SH M) : gr M 0 0 = .ref 1 := h.2.1 (0, 0, 1) (by decide +kernel)
theorem sr_0_1 (h : SH M) : gr M 0 1 = .ref 4 := h.2.1 (0, 1, 4) (by decide +kernel)
theorem sr_0_2 (h : SH M) : gr M 0 2 = .ref 18 := h.2.1 (0, 2, 18) (by decide +kernel)
theorem sr_0_3 (h : SH M) : gr M 0 3 = .ref 33 := h.2.1 (0, 3, 33) (by decide +kernel)
theorem sr_0_4 (h : SH M) : gr M 0 4 = .ref 38 := h.2.1 (0, 4, 38) (by decide +kernel)
theorem sr_0_5 (h : SH M) : gr M 0 5 = .ref 39 := h.2.1 (0, 5, 39) (by decide +kernel)
theorem sr_0_6 (h : SH M) : gr M 0 6 = .ref 50 := h.2.1 (0, 6, 50) (by decide +kernel)
theorem sr_0_7 (h : SH M) : gr M 0 7 = .ref 52 := h.2.1 (0, 7, 52) (by decide +kernel)
theorem sr_0_8 (h : SH M) : gr M 0 8 = .ref 81 := h.2.1 (0, 8, 81) (by decide +kernel)
theorem sr_0_9 (h : SH M) : gr M 0 9 = .ref 87 := h.2.1 (0, 9, 87) (by decide +kernel)
theorem sr_0_10 (h : SH M) : gr M 0 10 = .ref 93 := h.2.1 (0, 10, 93) (by decide +kernel)
theorem sr_0_11 (h : SH M) : gr M 0 11 = .ref 98 := h.2.1 (0, 11, 98) (by decide +kernel)
theorem sr_0_12 (h : SH M) : gr M 0 12 = .ref 104 := h.2.1 (0, 12, 104) (by decide +kernel)
theorem sr_1_0 (h : SH M) : gr M 1 0 = .ref 2 := h.2.1 (1, 0, 2) (by decide +kernel)
theorem sr_1_1 (h : SH M) : gr M 1 1 = .ref 3 := h.2.1 (1, 1, 3) (by decide +kernel)
theorem sr_4_1 (h : SH M) : gr M 4 1 = .ref 5 := h.2.1 (4, 1, 5) (by decide +kernel)
theorem sr_4_2 (h : SH M) : gr M 4 2 = .ref 6 := h.2.1 (4, 2, 6) (by decide +kernel)
theorem sr_4_4 (h : SH M) : gr M 4 4 = .ref 7 := h.2.1 (4, 4, 7) (by decide +kernel)
theorem sr_4_5 (h : SH M) : gr M 4 5 = .ref 8 := h.2.1 (4, 5, 8) (by decide +kernel)
theorem sr_4_7 (h : SH M) : gr M 4 7 = .ref 9 := h.2.1 (4, 7, 9) (by decide +kernel)
theorem sr_4_8 (h : SH M) : gr M 4 8 = .ref 10 := h.2.1 (4, 8, 10) (by decide +kernel)
theorem sr_4_9 (h : SH M) : gr M 4 9 = .ref 11 := h.2.1 (4, 9, 11) (by decide +kernel)
theorem sr_4_11 (h : SH M) : gr M 4 11 = .ref 12 := h.2.1 (4, 11, 12) (by decide +kernel)
theorem sr_4_12 (h : SH M) : gr M 4 12 = .ref 13 := h.2.1 (4, 12, 13) (by decide +kernel)
theorem sr_4_13 (h : SH M) : gr M 4 13 = .ref 14 := h.2.1 (4, 13, 14) (by decide +kernel)
theorem sr_4_14 (h : SH M) : gr M 4 14 = .ref 15 := h.2.1 (4, 14, 15) (by decide +kernel)
theorem sr_4_15 (h : SH M) : gr M 4 15 = .ref 16 := h.2.1 (4, 15, 16) (by decide +kernel)
theorem sr_4_19 (h : SH M) : gr M 4 19 = .ref 17 := h.2.1 (4, 19, 17) (by decide +kernel)
theorem sr_18_0 (h : SH M) : gr M 18 0 = .ref 1 := h.2.1 (18, 0, 1) (by decide +kernel)
theorem sr_18_1 (h : SH M) : gr M 18 1 = .ref 19 := h.2.1 (18, 1, 19) (by decide +kernel)
theorem sr_19_1 (h : SH M) : gr M 19 1 = .ref 20 := h.2.1 (19, 1, 20) (by decide +kernel)
theorem sr_19_2 (h : SH M) : gr M 19 2 = .ref 21 := h.2.1 (19, 2, 21) (by decide +kernel)
theorem sr_19_4 (h : SH M) : gr M 19 4 = .ref 22 := h.2.1 (19, 4, 22) (by decide +kernel)
theorem sr_19_5 (h : SH M) : gr M 19 5 = .ref 23 := h.2.1 (19, 5, 23) (by decide +kernel)
theorem sr_19_7 (h : SH M) : gr M 19 7 = .ref 24 := h.2.1 (19, 7, 24) (by decide +kernel)
theorem sr_19_8 (h : SH M) : gr M 19 8 = .ref 25 := h.2.1 (19, 8, 25) (by decide +kernel)
theorem sr_19_9 (h : SH M) : gr M 19 9 = .ref 26 := h.2.1 (19, 9, 26) (by decide +kernel)
theorem sr_19_11 (h : SH M) : gr M 19 11 = .ref 27 := h.2.1 (19, 11, 27) (by decide +kernel)
theorem sr_19_12 (h : SH M) : gr M 19 12 = .ref 28 := h.2.1 (19, 12, 28) (by decide +kernel)
theorem sr_19_13 (h : SH M) : gr M 19 13 = .ref 29 := h.2.1 (19, 13, 29) (by decide +kernel)
theorem sr_19_14 (h : SH M) : gr M 19 14 = .ref 30 := h.2.1 (19, 14, 30) (by decide +kernel)
theorem sr_19_15 (h : SH M) : gr M 19 15 = .ref 31 := h.2.1 (19, 15, 31) (by decide +kernel)
theorem sr_19_19 (h : SH M) : gr M 19 19 = .ref 32 := h.2.1 (19, 19, 32) (by decide +kernel)
theorem sr_33_0 (h : SH M) : gr M 33 0 = .ref 34 := h.2.1 (33, 0, 34) (by decide +kernel)
theorem sr_33_1 (h : SH M) : gr M 33 1 = .ref 35 := h.2.1 (33, 1, 35) (by decide +kernel)
theorem sr_33_2 (h : SH M) : gr M 33 2 = .ref 36 := h.2.1 (33, 2, 36) (by decide +kernel)
theorem sr_33_3 (h : SH M) : gr M 33 3 = .ref 37 := h.2.1 (33, 3, 37) (by decide +kernel)
theorem sr_38_0 (h : SH M) : gr M 38 0 = .ref 105 := h.2.1 (38, 0, 105) (by decide +kernel)
theorem sr_38_1 (h : SH M) : gr M 38 1 = .ref 110 := h.2.1 (38, 1, 110) (by decide +kernel)
theorem sr_38_2 (h : SH M) : gr M 38 2 = .ref 115 := h.2.1 (38, 2, 115) (by decide +kernel)
theorem sr_39_0 (h : SH M) : gr M 39 0 = .ref 4 := h.2.1 (39, 0, 4) (by decide +kernel)
theorem sr_39_1 (h : SH M) : gr M 39 1 = .ref 40 := h.2.1 (39, 1, 40) (by decide +kernel)
theorem sr_39_2 (h : SH M) : gr M 39 2 = .ref 41 := h.2.1 (39, 2, 41) (by decide +kernel)
theorem sr_39_3 (h : SH M) : gr M 39 3 = .ref 42 := h.2.1 (39, 3, 42) (by decide +kernel)
theorem sr_39_4 (h : SH M) : gr M 39 4 = .ref 43 := h.2.1 (39, 4, 43) (by decide +kernel)
theorem sr_39_5 (h : SH M) : gr M 39 5 = .ref 44 := h.2.1 (39, 5, 44) (by decide +kernel)
theorem sr_39_6 (h : SH M) : gr M 39 6 = .ref 45 := h.2.1 (39, 6, 45) (by decide +kernel)
theorem sr_39_7 (h : SH M) : gr M 39 7 = .ref 46 := h.2.1 (39, 7, 46) (by decide +kernel)
theorem sr_39_8 (h : SH M) : gr M 39 8 = .ref 47 := h.2.1 (39, 8, 47) (by decide +kernel)
theorem sr_50_0 (h : SH M) : gr M 50 0 = .ref 4 := h.2.1 (50, 0, 4) (by decide +kernel)
theorem sr_50_1 (h : SH M) : gr M 50 1 = .ref 33 := h.2.1 (50, 1, 33) (by decide +kernel)
theorem sr_50_2 (h : SH M) : gr M 50 2 = .ref 39 := h.2.1 (50, 2, 39) (by decide +kernel)
theorem sr_50_3 (h : SH M) : gr M 50 3 = .ref 51 := h.2.1 (50, 3, 51) (by decide +kernel)
theorem sr_52_0 (h : SH M) : gr M 52 0 = .ref 4 := h.2.1 (52, 0, 4) (by decide +kernel)
theorem sr_52_1 (h : SH M) : gr M 52 1 = .ref 39 := h.2.1 (52, 1, 39) (by decide +kernel)
theorem sr_52_2 (h : SH M) : gr M 52 2 = .ref 53 := h.2.1 (52, 2, 53) (by decide +kernel)
theorem sr_52_3 (h : SH M) : gr M 52 3 = .ref 54 := h.2.1 (52, 3, 54) (by decide +kernel)
theorem sr_52_4 (h : SH M) : gr M 52 4 = .ref 55 := h.2.1 (52, 4, 55) (by decide +kernel)
theorem sr_53_0 (h : SH M) : gr M 53 0 = .ref 56 := h.2.1 (53, 0, 56) (by decide +kernel)
theorem sr_53_1 (h : SH M) : gr M 53 1 = .ref 61 := h.2.1 (53, 1, 61) (by decide +kernel)
theorem sr_53_2 (h : SH M) : gr M 53 2 = .ref 66 := h.2.1 (53, 2, 66) (by decide +kernel)
theorem sr_53_3 (h : SH M) : gr M 53 3 = .ref 71 := h.2.1 (53, 3, 71) (by decide +kernel)
theorem sr_53_4 (h : SH M) : gr M 53 4 = .ref 76 := h.2.1 (53, 4, 76) (by decide +kernel)
theorem sr_56_0 (h : SH M) : gr M 56 0 = .ref 57 := h.2.1 (56, 0, 57) (by decide +kernel)
theorem sr_56_1 (h : SH M) : gr M 56 1 = .ref 58 := h.2.1 (56, 1, 58) (by decide +kernel)
theorem sr_56_2 (h : SH M) : gr M 56 2 = .ref 59 := h.2.1 (56, 2, 59) (by decide +kernel)
theorem sr_56_3 (h : SH M) : gr M 56 3 = .ref 60 := h.2.1 (56, 3, 60) (by decide +kernel)
theorem sr_61_0 (h : SH M) : gr M 61 0 = .ref 62 := h.2.1 (61, 0, 62) (by decide +kernel)
theorem sr_61_1 (h : SH M) : gr M 61 1 = .ref 63 := h.2.1 (61, 1, 63) (by decide +kernel)
theorem sr_61_2 (h : SH M) : gr M 61 2 = .ref 64 := h.2.1 (61, 2, 64) (by decide +kernel)
theorem sr_61_3 (h : SH M) : gr M 61 3 = .ref 65 := h.2.1 (61, 3, 65) (by decide +kernel)
theorem sr_66_0 (h : SH M) : gr M 66 0 = .ref 67 := h.2.1 (66, 0, 67) (by decide +kernel)
theorem sr_66_1 (h : SH M) : gr M 66 1 = .ref 68 := h.2.1 (66, 1, 68) (by decide +kernel)
theorem sr_66_2 (h : SH M) : gr M 66 2 = .ref 69 := h.2.1 (66, 2, 69) (by decide +kernel)
theorem sr_66_3 (h : SH M) : gr M 66 3 = .ref 70 := h.2.1 (66, 3, 70) (by decide +kernel)
theorem sr_71_0 (h : SH M) : gr M 71 0 = .ref 72 := h.2.1 (71, 0, 72) (by decide +kernel)
theorem sr_71_1 (h : SH M) : gr M 71 1 = .ref 73 := h.2.1 (71, 1, 73) (by decide +kernel)
theorem sr_71_2 (h : SH M) : gr M 71 2 = .ref 74 := h.2.1 (71, 2, 74) (by decide +kernel)
theorem sr_71_3 (h : SH M) : gr M 71 3 = .ref 75 := h.2.1 (71, 3, 75) (by decide +kernel)
theorem sr_76_0 (h : SH M) : gr M 76 0 = .ref 77 := h.2.1 (76, 0, 77) (by decide +kernel)
theorem sr_76_1 (h : SH M) : gr M 76 1 = .ref 78 := h.2.1 (76, 1, 78) (by decide +kernel)
theorem sr_76_2 (h : SH M) : gr M 76 2 = .ref 79 := h.2.1 (76, 2, 79) (by decide +kernel)
theorem sr_76_3 (h : SH M) : gr M 76 3 = .ref 80 := h.2.1 (76, 3, 80) (by decide +kernel)
theorem sr_81_0 (h : SH M) : gr M 81 0 = .ref 82 := h.2.1 (81, 0, 82) (by decide +kernel)
theorem sr_81_1 (h : SH M) : gr M 81 1 = .ref 83 := h.2.1 (81, 1, 83) (by decide +kernel)
theorem sr_81_2 (h : SH M) : gr M 81 2 = .ref 84 := h.2.1 (81, 2, 84) (by decide +kernel)
theorem sr_81_3 (h : SH M) : gr M 81 3 = .ref 85 := h.2.1 (81, 3, 85) (by decide +kernel)
theorem sr_81_4 (h : SH M) : gr M 81 4 = .ref 86 := h.2.1 (81, 4, 86) (by decide +kernel)
theorem sr_87_0 (h : SH M) : gr M 87 0 = .ref 88 := h.2.1 (87, 0, 88) (by decide +kernel)
theorem sr_87_1 (h : SH M) : gr M 87 1 = .ref 89 := h.2.1 (87, 1, 89) (by decide +kernel)
theorem sr_87_2 (h : SH M) : gr M 87 2 = .ref 90 := h.2.1 (87, 2, 90) (by decide +kernel)
theorem sr_87_3 (h : SH M) : gr M 87 3 = .ref 91 := h.2.1 (87, 3, 91) (by decide +kernel)
theorem sr_87_4 (h : SH M) : gr M 87 4 = .ref 92 := h.2.1 (87, 4, 92) (by decide +kernel)
theorem sr_93_3 (h : SH M) : gr M 93 3 = .ref 94 := h.2.1 (93, 3, 94) (by decide +kernel)
theorem sr_93_4 (h : SH M) : gr M 93 4 = .ref 95 := h.2.1 (93, 4, 95) (by decide +kernel)
theorem sr_93_5 (h : SH M) : gr M 93 5 = .ref 96 := h.2.1 (93, 5, 96) (by decide +kernel)
theorem sr_93_6 (h : SH M) : gr M 93 6 = .ref 97 := h.2.1 (93, 6, 97) (by decide +kernel)
theorem sr_98_0 (h : SH M) : gr M 98 0 = .ref 1 := h.2.1 (98, 0, 1) (by decide +kernel)
theorem sr_98_1 (h : SH M) : gr M 98 1 = .ref 4 := h.2.1 (98, 1, 4) (by decide +kernel)
theorem sr_98_2 (h : SH M) : gr M 98 2 = .ref 99 := h.2.1 (98, 2, 99) (by decide +kernel)
theorem sr_99_3 (h : SH M) : gr M 99 3 = .ref 100 := h.2.1 (99, 3, 100) (by decide +kernel)
theorem sr_99_4 (h : SH M) : gr M 99 4 = .ref 101 := h.2.1 (99, 4, 101) (by decide +kernel)
theorem sr_99_5 (h : SH M) : gr M 99 5 = .ref 102 := h.2.1 (99, 5, 102) (by decide +kernel)
theorem sr_99_6 (h : SH M) : gr M 99 6 = .ref 103 := h.2.1 (99, 6, 103) (by decide +kernel)
theorem sr_105_0 (h : SH M) : gr M 105 0 = .ref 106 := h.2.1 (105, 0, 106) (by decide +kernel)
theorem sr_105_1 (h : SH M) : gr M 105 1 = .ref 107 := h.2.1 (105, 1, 107) (by decide +kernel)
theorem sr_105_2 (h : SH M) : gr M 105 2 = .ref 108 := h.2.1 (105, 2, 108) (by decide +kernel)
theorem sr_105_3 (h : SH M) : gr M 105 3 = .ref 109 := h.2.1 (105, 3, 109) (by decide +kernel)
theorem sr_110_0 (h : SH M) : gr M 110 0 = .ref 111 := h.2.1 (110, 0, 111) (by decide +kernel)
theorem sr_110_1 (h : SH M) : gr M 110 1 = .ref 112 := h.2.1 (110, 1, 112) (by decide +kernel)
theorem sr_110_2 (h : SH M) : gr M 110 2 = .ref 113 := h.2.1 (110, 2, 113) (by decide +kernel)
theorem sr_110_3 (h : SH M) : gr M 110 3 = .ref 114 := h.2.1 (110, 3, 114) (by decide +kernel)
theorem sr_115_0 (h : SH M) : gr M 115 0 = .ref 116 := h.2.1 (115, 0, 116) (by decide +kernel)
theorem sr_115_1 (h : SH M) : gr M 115 1 = .ref 117 := h.2.1 (115, 1, 117) (by decide +kernel)
theorem sr_115_2 (h : SH M) : gr M 115 2 = .ref 118 := h.2.1 (115, 2, 118) (by decide +kernel)
theorem sr_115_3 (h : SH M) : gr M 115 3 = .ref 119 := h.2.1 (115, 3, 119) (by decide +kernel)
theorem sr_120_0 (h : SH M) : gr M 120 0 = .ref 121 := h.2.1 (120, 0, 121) (by decide +kernel)
theorem sr_120_1 (h : SH M) : gr M 120 1 = .ref 122 := h.2.1 (120, 1, 122) (by decide +kernel)
theorem sr_120_12 (h : SH M) : gr M 120 12 = .ref 123 := h.2.1 (120, 12, 123) (by decide +kernel)
theorem sr_120_13 (h : SH M) : gr M 120 13 = .ref 124 := h.2.1 (120, 13, 124) (by decide +kernel)
theorem sr_120_14 (h : SH M) : gr M 120 14 = .ref 125 := h.2.1 (120, 14, 125) (by decide +kernel)
theorem sr_120_15 (h : SH M) : gr M 120 15 = .ref 126 := h.2.1 (120, 15, 126) (by decide +kernel)
theorem sr_120_16 (h : SH M) : gr M 120 16 = .ref 127 := h.2.1 (120, 16, 127) (by decide +kernel)
theorem sr_120_17 (h : SH M) : gr M 120 17 = .ref 128 := h.2.1 (120, 17, 128) (by decide +kernel)
theorem sr_120_18 (h : SH M) : gr M 120 18 = .ref 129 := h.2.1 (120, 18, 129) (by decide +kernel)
theorem sr_120_19 (h : SH M) : gr M 120 19 = .ref 130 := h.2.1 (120, 19, 130) (by decide +kernel)
theorem sr_120_20 (h : SH M) : gr M 120 20 = .ref 131 := h.2.1 (120, 20, 131) (by decide +kernel)
theorem sr_120_21 (h : SH M) : gr M 120 21 = .ref 132 := h.2.1 (120, 21, 132) (by decide +kernel)
theorem sr_120_22 (h : SH M) : gr M 120 22 = .ref 133 := h.2.1 (120, 22, 133) (by decide +kernel)
theorem sr_120_23 (h : SH M) : gr M 120 23 = .ref 134 := h.2.1 (120, 23, 134) (by decide +kernel)
theorem sr_120_24 (h : SH M) : gr M 120 24 = .ref 135 := h.2.1 (120, 24, 135) (by decide +kernel)
theorem sr_120_25 (h : SH M) : gr M 120 25 = .ref 136 := h.2.1 (120, 25, 136) (by decide +kernel)
theorem sr_120_26 (h : SH M) : gr M 120 26 = .ref 137 := h.2.1 (120, 26, 137) (by decide +kernel)
theorem sr_120_27 (h : SH M) : gr M 120 27 = .ref 138 := h.2.1 (120, 27, 138) (by decide +kernel)
theorem sr_120_28 (h : SH M) : gr M 120 28 = .ref 139 := h.2.1 (120, 28, 139) (by decide +kernel)
theorem sr_120_29 (h : SH M) : gr M 120 29 = .ref 140 := h.2.1 (120, 29, 140) (by decide +kernel)
theorem sr_120_30 (h : SH M) : gr M 120 30 = .ref 141 := h.2.1 (120, 30, 141) (by decide +kernel)
theorem sr_120_31 (h : SH M) : gr M 120 31 = .ref 142 := h.2.1 (120, 31, 142) (by decide +kernel)
theorem sr_120_32 (h : SH M) : gr M 120 32 = .ref 143 := h.2.1 (120, 32, 143) (by decide +kernel)
theorem sr_120_33 (h : SH M) : gr M 120 33 = .ref 144 := h.2.1 (120, 33, 144) (by decide +kernel)
theorem sr_120_34 (h : SH M) : gr M 120 34 = .ref 145 := h.2.1 (120, 34, 145) (by decide +kernel)
theorem sr_120_35 (h : SH M) : gr M 120 35 = .ref 146 := h.2.1 (120, 35, 146) (by decide +kernel)
theorem sr_120_36 (h : SH M) : gr M 120 36 = .ref 147 := h.2.1 (120, 36, 147) (by decide +kernel)
theorem sr_120_37 (h : SH M) : gr M 120 37 = .ref 148 := h.2.1 (120, 37, 148) (by decide +kernel)
theorem sr_120_40 (h : SH M) : gr M 120 40 = .ref 149 := h.2.1 (120, 40, 149) (by decide +kernel)
theorem sr_120_41 (h : SH M) : gr M 120 41 = .ref 150 := h.2.1 (120, 41, 150) (by decide +kernel)
theorem sr_120_42 (h : SH M) : gr M 120 42 = .ref 151 := h.2.1 (120, 42, 151) (by decide +kernel)
theorem sr_120_43 (h : SH M) : gr M 120 43 = .ref 152 := h.2.1 (120, 43, 152) (by decide +kernel)
theorem sr_120_44 (h : SH M) : gr M 120 44 = .ref 153 := h.2.1 (120, 44, 153) (by decide +kernel)
theorem sr_120_45 (h : SH M) : gr M 120 45 = .ref 154 := h.2.1 (120, 45, 154) (by decide +kernel)
theorem sr_120_48 (h : SH M) : gr M 120 48 = .ref 155 := h.2.1 (120, 48, 155) (by decide +kernel)
theorem sr_120_57 (h : SH M) : gr M 120 57 = .ref 156 := h.2.1 (120, 57, 156) (by decide +kernel)
theorem sr_120_58 (h : SH M) : gr M 120 58 = .ref 157 := h.2.1 (120, 58, 157) (by decide +kernel)
theorem sr_120_59 (h : SH M) : gr M 120 59 = .ref 158 := h.2.1 (120, 59, 158) (by decide +kernel)
theorem sr_120_65 (h : SH M) : gr M 120 65 = .ref 159 := h.2.1 (120, 65, 159) (by decide +kernel)
theorem sr_120_66 (h : SH M) : gr M 120 66 = .ref 160 := h.2.1 (120, 66, 160) (by decide +kernel)
theorem sr_120_67 (h : SH M) : gr M 120 67 = .ref 161 := h.2.1 (120, 67, 161) (by decide +kernel)
theorem sr_120_68 (h : SH M) : gr M 120 68 = .ref 162 := h.2.1 (120, 68, 162) (by decide +kernel)
theorem sr_120_69 (h : SH M) : gr M 120 69 = .ref 163 := h.2.1 (120, 69, 163) (by decide +kernel)
theorem sr_120_70 (h : SH M) : gr M 120 70 = .ref 164 := h.2.1 (120, 70, 164) (by decide +kernel)
theorem sr_120_71 (h : SH M) : gr M 120 71 = .ref 165 := h.2.1 (120, 71, 165) (by decide +kernel)
theorem sr_120_72 (h : SH M) : gr M 120 72 = .ref 166 := h.2.1 (120, 72, 166) (by decide +kernel)
theorem sr_120_80 (h : SH M) : gr M 120 80 = .ref 167 := h.2.1 (120, 80, 167) (by decide +kernel)
theorem sr_120_81 (h : SH M) : gr M 120 81 = .ref 168 := h.2.1 (120, 81, 168) (by decide +kernel)
theorem sr_120_82 (h : SH M) : gr M 120 82 = .ref 169 := h.2.1 (120, 82, 169) (by decide +kernel)
theorem sr_120_83 (h : SH M) : gr M 120 83 = .ref 170 := h.2.1 (120, 83, 170) (by decide +kernel)
theorem sr_120_84 (h : SH M) : gr M 120 84 = .ref 171 := h.2.1 (120, 84, 171) (by decide +kernel)
theorem sr_120_85 (h : SH M) : gr M 120 85 = .ref 172 := h.2.1 (120, 85, 172) (by decide +kernel)
theorem sr_120_86 (h : SH M) : gr M 120 86 = .ref 173 := h.2.1 (120, 86, 173) (by decide +kernel)
theorem sr_120_87 (h : SH M) : gr M 120 87 = .ref 174 := h.2.1 (120, 87, 174) (by decide +kernel)
theorem sr_120_88 (h : SH M) : gr M 120 88 = .ref 175 := h.2.1 (120, 88, 175) (by decide +kernel)
theorem sr_120_92 (h : SH M) : gr M 120 92 = .ref 176 := h.2.1 (120, 92, 176) (by decide +kernel)
theorem sr_120_93 (h : SH M) : gr M 120 93 = .ref 177 := h.2.1 (120, 93, 177) (by decide +kernel)
theorem sr_120_94 (h : SH M) : gr M 120 94 = .ref 178 := h.2.1 (120, 94, 178) (by decide +kernel)
theorem sr_120_95 (h : SH M) : gr M 120 95 = .ref 179 := h.2.1 (120, 95, 179) (by decide +kernel)
theorem sr_120_96 (h : SH M) : gr M 120 96 = .ref 180 := h.2.1 (120, 96, 180) (by decide +kernel)
theorem sr_120_97 (h : SH M) : gr M 120 97 = .ref 181 := h.2.1 (120, 97, 181) (by decide +kernel)
theorem sr_120_98 (h : SH M) : gr M 120 98 = .ref 182 := h.2.1 (120, 98, 182) (by decide +kernel)
theorem sr_120_99 (h : SH M) : gr M 120 99 = .ref 183 := h.2.1 (120, 99, 183) (by decide +kernel)
end SHP
