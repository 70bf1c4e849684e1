theorem tb_in1 : ∀ w ∈ tables_1_1, w ∈ lw_tbl := fun w h => List.mem_append_right _ (show w ∈ tables_1 from List.mem_append_left _ h)
theorem tb_in2 : ∀ w ∈ tables_1_2, w ∈ lw_tbl := fun w h => List.mem_append_right _ (show w ∈ tables_1 from List.mem_append_right _ (List.mem_append_left _ h))
theorem tb_in3 : ∀ w ∈ tables_1_3, w ∈ lw_tbl := fun w h => List.mem_append_right _ (show w ∈ tables_1 from List.mem_append_right _ (List.mem_append_right _ (List.mem_append_left _ h)))
theorem tb_in4 : ∀ w ∈ tables_1_4, w ∈ lw_tbl := fun w h => List.mem_append_right _ (show w ∈ tables_1 from List.mem_append_right _ (List.mem_append_right _ (List.mem_append_right _ (List.mem_append_left _ h))))
theorem tb_in5 : ∀ w ∈ tables_1_5, w ∈ lw_tbl := fun w h => List.mem_append_right _ (show w ∈ tables_1 from List.mem_append_right _ (List.mem_append_right _ (List.mem_append_right _ (List.mem_append_right _ (List.mem_append_left _ h)))))
theorem tb_in6 : ∀ w ∈ tables_1_6, w ∈ lw_tbl := fun w h => List.mem_append_right _ (show w ∈ tables_1 from List.mem_append_right _ (List.mem_append_right _ (List.mem_append_right _ (List.mem_append_right _ (List.mem_append_right _ (List.mem_append_left _ h))))))
theorem tb_in7 : ∀ w ∈ tables_1_7, w ∈ lw_tbl := fun w h => List.mem_append_right _ (show w ∈ tables_1 from List.mem_append_right _ (List.mem_append_right _ (List.mem_append_right _ (List.mem_append_right _ (List.mem_append_right _ (List.mem_append_right _ (List.mem_append_left _ h)))))))
theorem tb_in8 : ∀ w ∈ tables_1_8, w ∈ lw_tbl := fun w h => List.mem_append_right _ (show w ∈ tables_1 from List.mem_append_right _ (List.mem_append_right _ (List.mem_append_right _ (List.mem_append_right _ (List.mem_append_right _ (List.mem_append_right _ (List.mem_append_right _ (List.mem_append_left _ h))))))))
theorem tb_in9 : ∀ w ∈ tables_1_9, w ∈ lw_tbl := fun w h => List.mem_append_right _ (show w ∈ tables_1 from List.mem_append_right _ (List.mem_append_right _ (List.mem_append_right _ (List.mem_append_right _ (List.mem_append_right _ (List.mem_append_right _ (List.mem_append_right _ (List.mem_append_right _ (h)))))))))
set_option maxRecDepth 20000 in
theorem mw_1 : pz_wd mz_1 ∈ lw_tbl := tb_in1 _ (List.mem_of_getElem? (i := 26) rfl)
set_option maxRecDepth 20000 in
theorem mw_2 : pz_wd mz_2 ∈ lw_tbl := tb_in6 _ (List.mem_of_getElem? (i := 63) rfl)
set_option maxRecDepth 20000 in
theorem mw_3 : pz_wd mz_3 ∈ lw_tbl := tb_in3 _ (List.mem_of_getElem? (i := 67) rfl)
set_option maxRecDepth 20000 in
theorem mw_4 : pz_wd mz_4 ∈ lw_tbl := tb_in9 _ (List.mem_of_getElem? (i := 137) rfl)
set_option maxRecDepth 20000 in
theorem mw_5 : pz_wd mz_5 ∈ lw_tbl := tb_in3 _ (List.mem_of_getElem? (i := 75) rfl)
set_option maxRecDepth 20000 in
theorem mw_6 : pz_wd mz_6 ∈ lw_tbl := tb_in9 _ (List.mem_of_getElem? (i := 141) rfl)
set_option maxRecDepth 20000 in
theorem mw_7 : pz_wd mz_7 ∈ lw_tbl := tb_in3 _ (List.mem_of_getElem? (i := 79) rfl)
set_option maxRecDepth 20000 in
theorem mw_8 : pz_wd mz_8 ∈ lw_tbl := tb_in7 _ (List.mem_of_getElem? (i := 137) rfl)
set_option maxRecDepth 20000 in
theorem mw_9 : pz_wd mz_9 ∈ lw_tbl := tb_in4 _ (List.mem_of_getElem? (i := 56) rfl)
set_option maxRecDepth 20000 in
theorem mw_10 : pz_wd mz_10 ∈ lw_tbl := tb_in8 _ (List.mem_of_getElem? (i := 24) rfl)
set_option maxRecDepth 20000 in
theorem mw_11 : pz_wd mz_11 ∈ lw_tbl := tb_in4 _ (List.mem_of_getElem? (i := 60) rfl)
set_option maxRecDepth 20000 in
theorem mw_12 : pz_wd mz_12 ∈ lw_tbl := tb_in8 _ (List.mem_of_getElem? (i := 28) rfl)
set_option maxRecDepth 20000 in
theorem mw_13 : pz_wd mz_13 ∈ lw_tbl := tb_in4 _ (List.mem_of_getElem? (i := 68) rfl)
set_option maxRecDepth 20000 in
theorem mw_14 : pz_wd mz_14 ∈ lw_tbl := tb_in8 _ (List.mem_of_getElem? (i := 43) rfl)
set_option maxRecDepth 20000 in
theorem mw_15 : pz_wd mz_15 ∈ lw_tbl := tb_in4 _ (List.mem_of_getElem? (i := 72) rfl)
set_option maxRecDepth 20000 in
theorem mw_16 : pz_wd mz_16 ∈ lw_tbl := tb_in8 _ (List.mem_of_getElem? (i := 47) rfl)
set_option maxRecDepth 20000 in
theorem mw_17 : pz_wd mz_17 ∈ lw_tbl := tb_in4 _ (List.mem_of_getElem? (i := 76) rfl)
set_option maxRecDepth 20000 in
theorem mw_18 : pz_wd mz_18 ∈ lw_tbl := tb_in8 _ (List.mem_of_getElem? (i := 51) rfl)
set_option maxRecDepth 20000 in
theorem mw_19 : pz_wd mz_19 ∈ lw_tbl := tb_in4 _ (List.mem_of_getElem? (i := 81) rfl)
set_option maxRecDepth 20000 in
theorem mw_20 : pz_wd mz_20 ∈ lw_tbl := tb_in8 _ (List.mem_of_getElem? (i := 71) rfl)
set_option maxRecDepth 20000 in
theorem mw_21 : pz_wd mz_21 ∈ lw_tbl := tb_in4 _ (List.mem_of_getElem? (i := 89) rfl)
set_option maxRecDepth 20000 in
theorem mw_22 : pz_wd mz_22 ∈ lw_tbl := tb_in8 _ (List.mem_of_getElem? (i := 63) rfl)
set_option maxRecDepth 20000 in
theorem mw_23 : pz_wd mz_23 ∈ lw_tbl := tb_in4 _ (List.mem_of_getElem? (i := 93) rfl)
set_option maxRecDepth 20000 in
theorem mw_24 : pz_wd mz_24 ∈ lw_tbl := tb_in8 _ (List.mem_of_getElem? (i := 75) rfl)
set_option maxRecDepth 20000 in
theorem mw_25 : pz_wd mz_25 ∈ lw_tbl := tb_in4 _ (List.mem_of_getElem? (i := 110) rfl)
set_option maxRecDepth 20000 in
theorem mw_26 : pz_wd mz_26 ∈ lw_tbl := tb_in8 _ (List.mem_of_getElem? (i := 83) rfl)
set_option maxRecDepth 20000 in
theorem mw_27 : pz_wd mz_27 ∈ lw_tbl := tb_in4 _ (List.mem_of_getElem? (i := 118) rfl)
set_option maxRecDepth 20000 in
theorem mw_28 : pz_wd mz_28 ∈ lw_tbl := tb_in8 _ (List.mem_of_getElem? (i := 91) rfl)
set_option maxRecDepth 20000 in
theorem mw_29 : pz_wd mz_29 ∈ lw_tbl := tb_in4 _ (List.mem_of_getElem? (i := 161) rfl)
set_option maxRecDepth 20000 in
theorem mw_30 : pz_wd mz_30 ∈ lw_tbl := tb_in8 _ (List.mem_of_getElem? (i := 115) rfl)
set_option maxRecDepth 20000 in
theorem mw_31 : pz_wd mz_31 ∈ lw_tbl := tb_in4 _ (List.mem_of_getElem? (i := 170) rfl)
set_option maxRecDepth 20000 in
theorem mw_32 : pz_wd mz_32 ∈ lw_tbl := tb_in8 _ (List.mem_of_getElem? (i := 123) rfl)
set_option maxRecDepth 20000 in
theorem mw_33 : pz_wd mz_33 ∈ lw_tbl := tb_in4 _ (List.mem_of_getElem? (i := 174) rfl)
set_option maxRecDepth 20000 in
theorem mw_34 : pz_wd mz_34 ∈ lw_tbl := tb_in8 _ (List.mem_of_getElem? (i := 127) rfl)
set_option maxRecDepth 20000 in
theorem mw_35 : pz_wd mz_35 ∈ lw_tbl := tb_in4 _ (List.mem_of_getElem? (i := 186) rfl)
set_option maxRecDepth 20000 in
theorem mw_36 : pz_wd mz_36 ∈ lw_tbl := tb_in8 _ (List.mem_of_getElem? (i := 136) rfl)
set_option maxRecDepth 20000 in
theorem mw_37 : pz_wd mz_37 ∈ lw_tbl := tb_in4 _ (List.mem_of_getElem? (i := 227) rfl)
set_option maxRecDepth 20000 in
theorem mw_38 : pz_wd mz_38 ∈ lw_tbl := tb_in8 _ (List.mem_of_getElem? (i := 154) rfl)
set_option maxRecDepth 20000 in
theorem mw_39 : pz_wd mz_39 ∈ lw_tbl := tb_in5 _ (List.mem_of_getElem? (i := 24) rfl)
set_option maxRecDepth 20000 in
theorem mw_40 : pz_wd mz_40 ∈ lw_tbl := tb_in8 _ (List.mem_of_getElem? (i := 190) rfl)
set_option maxRecDepth 20000 in
theorem mw_41 : pz_wd mz_41 ∈ lw_tbl := tb_in5 _ (List.mem_of_getElem? (i := 54) rfl)
set_option maxRecDepth 20000 in
theorem mw_42 : pz_wd mz_42 ∈ lw_tbl := tb_in8 _ (List.mem_of_getElem? (i := 178) rfl)
set_option maxRecDepth 20000 in
theorem mw_43 : pz_wd mz_43 ∈ lw_tbl := tb_in5 _ (List.mem_of_getElem? (i := 59) rfl)
set_option maxRecDepth 20000 in
theorem mw_44 : pz_wd mz_44 ∈ lw_tbl := tb_in8 _ (List.mem_of_getElem? (i := 205) rfl)
set_option maxRecDepth 20000 in
theorem mw_45 : pz_wd mz_45 ∈ lw_tbl := tb_in5 _ (List.mem_of_getElem? (i := 139) rfl)
set_option maxRecDepth 20000 in
theorem mw_46 : pz_wd mz_46 ∈ lw_tbl := tb_in9 _ (List.mem_of_getElem? (i := 31) rfl)
set_option maxRecDepth 20000 in
theorem mw_47 : pz_wd mz_47 ∈ lw_tbl := tb_in5 _ (List.mem_of_getElem? (i := 178) rfl)
set_option maxRecDepth 20000 in
theorem mw_48 : pz_wd mz_48 ∈ lw_tbl := tb_in9 _ (List.mem_of_getElem? (i := 40) rfl)
set_option maxRecDepth 20000 in
theorem mw_49 : pz_wd mz_49 ∈ lw_tbl := tb_in5 _ (List.mem_of_getElem? (i := 188) rfl)
set_option maxRecDepth 20000 in
theorem mw_50 : pz_wd mz_50 ∈ lw_tbl := tb_in9 _ (List.mem_of_getElem? (i := 5) rfl)
set_option maxRecDepth 20000 in
theorem mw_51 : pz_wd mz_51 ∈ lw_tbl := tb_in5 _ (List.mem_of_getElem? (i := 192) rfl)
set_option maxRecDepth 20000 in
theorem mw_52 : pz_wd mz_52 ∈ lw_tbl := tb_in9 _ (List.mem_of_getElem? (i := 45) rfl)
set_option maxRecDepth 20000 in
theorem mw_53 : pz_wd mz_53 ∈ lw_tbl := tb_in5 _ (List.mem_of_getElem? (i := 196) rfl)
set_option maxRecDepth 20000 in
theorem mw_54 : pz_wd mz_54 ∈ lw_tbl := tb_in9 _ (List.mem_of_getElem? (i := 49) rfl)
set_option maxRecDepth 20000 in
theorem mw_55 : pz_wd mz_55 ∈ lw_tbl := tb_in5 _ (List.mem_of_getElem? (i := 204) rfl)
set_option maxRecDepth 20000 in
theorem mw_56 : pz_wd mz_56 ∈ lw_tbl := tb_in9 _ (List.mem_of_getElem? (i := 53) rfl)
set_option maxRecDepth 20000 in
theorem mw_57 : pz_wd mz_57 ∈ lw_tbl := tb_in5 _ (List.mem_of_getElem? (i := 208) rfl)
set_option maxRecDepth 20000 in
theorem mw_58 : pz_wd mz_58 ∈ lw_tbl := tb_in9 _ (List.mem_of_getElem? (i := 57) rfl)
set_option maxRecDepth 20000 in
theorem mw_59 : pz_wd mz_59 ∈ lw_tbl := tb_in5 _ (List.mem_of_getElem? (i := 216) rfl)
set_option maxRecDepth 20000 in
theorem mw_60 : pz_wd mz_60 ∈ lw_tbl := tb_in9 _ (List.mem_of_getElem? (i := 61) rfl)
set_option maxRecDepth 20000 in
theorem mw_61 : pz_wd mz_61 ∈ lw_tbl := tb_in5 _ (List.mem_of_getElem? (i := 220) rfl)
set_option maxRecDepth 20000 in
theorem mw_62 : pz_wd mz_62 ∈ lw_tbl := tb_in9 _ (List.mem_of_getElem? (i := 65) rfl)
set_option maxRecDepth 20000 in
theorem mw_63 : pz_wd mz_63 ∈ lw_tbl := tb_in5 _ (List.mem_of_getElem? (i := 224) rfl)
set_option maxRecDepth 20000 in
theorem mw_64 : pz_wd mz_64 ∈ lw_tbl := tb_in9 _ (List.mem_of_getElem? (i := 69) rfl)
set_option maxRecDepth 20000 in
theorem mw_65 : pz_wd mz_65 ∈ lw_tbl := tb_in5 _ (List.mem_of_getElem? (i := 236) rfl)
set_option maxRecDepth 20000 in
theorem mw_66 : pz_wd mz_66 ∈ lw_tbl := tb_in9 _ (List.mem_of_getElem? (i := 81) rfl)
set_option maxRecDepth 20000 in
theorem mw_67 : pz_wd mz_67 ∈ lw_tbl := tb_in6 _ (List.mem_of_getElem? (i := 18) rfl)
set_option maxRecDepth 20000 in
theorem mw_68 : pz_wd mz_68 ∈ lw_tbl := tb_in9 _ (List.mem_of_getElem? (i := 96) rfl)
set_option maxRecDepth 20000 in
theorem mw_69 : pz_wd mz_69 ∈ lw_tbl := tb_in6 _ (List.mem_of_getElem? (i := 23) rfl)
set_option maxRecDepth 20000 in
theorem mw_70 : pz_wd mz_70 ∈ lw_tbl := tb_in9 _ (List.mem_of_getElem? (i := 101) rfl)
set_option maxRecDepth 20000 in
theorem mw_71 : pz_wd mz_71 ∈ lw_tbl := tb_in6 _ (List.mem_of_getElem? (i := 33) rfl)
set_option maxRecDepth 20000 in
theorem mw_72 : pz_wd mz_72 ∈ lw_tbl := tb_in9 _ (List.mem_of_getElem? (i := 109) rfl)
set_option maxRecDepth 20000 in
theorem mw_73 : pz_wd mz_73 ∈ lw_tbl := tb_in6 _ (List.mem_of_getElem? (i := 37) rfl)
set_option maxRecDepth 20000 in
theorem mw_74 : pz_wd mz_74 ∈ lw_tbl := tb_in9 _ (List.mem_of_getElem? (i := 113) rfl)
set_option maxRecDepth 20000 in
theorem mw_75 : pz_wd mz_75 ∈ lw_tbl := tb_in6 _ (List.mem_of_getElem? (i := 41) rfl)
set_option maxRecDepth 20000 in
theorem mw_76 : pz_wd mz_76 ∈ lw_tbl := tb_in9 _ (List.mem_of_getElem? (i := 117) rfl)
set_option maxRecDepth 20000 in
theorem mw_77 : pz_wd mz_77 ∈ lw_tbl := tb_in6 _ (List.mem_of_getElem? (i := 45) rfl)
set_option maxRecDepth 20000 in
theorem mw_78 : pz_wd mz_78 ∈ lw_tbl := tb_in9 _ (List.mem_of_getElem? (i := 121) rfl)
set_option maxRecDepth 20000 in
theorem mw_79 : pz_wd mz_79 ∈ lw_tbl := tb_in6 _ (List.mem_of_getElem? (i := 49) rfl)
set_option maxRecDepth 20000 in
theorem mw_80 : pz_wd mz_80 ∈ lw_tbl := tb_in9 _ (List.mem_of_getElem? (i := 125) rfl)
set_option maxRecDepth 20000 in
theorem mw_81 : pz_wd mz_81 ∈ lw_tbl := tb_in6 _ (List.mem_of_getElem? (i := 54) rfl)
set_option maxRecDepth 20000 in
theorem mw_82 : pz_wd mz_82 ∈ lw_tbl := tb_in9 _ (List.mem_of_getElem? (i := 129) rfl)
set_option maxRecDepth 20000 in
theorem mw_83 : pz_wd mz_83 ∈ lw_tbl := tb_in6 _ (List.mem_of_getElem? (i := 58) rfl)
set_option maxRecDepth 20000 in
theorem mw_84 : pz_wd mz_84 ∈ lw_tbl := tb_in9 _ (List.mem_of_getElem? (i := 133) rfl)
set_option maxRecDepth 20000 in
theorem mw_85 : pz_wd mz_85 ∈ lw_tbl := tb_in1 _ (List.mem_of_getElem? (i := 34) rfl)
set_option maxRecDepth 20000 in
theorem mw_86 : pz_wd mz_86 ∈ lw_tbl := tb_in1 _ (List.mem_of_getElem? (i := 136) rfl)
set_option maxRecDepth 20000 in
theorem mw_87 : pz_wd mz_87 ∈ lw_tbl := tb_in2 _ (List.mem_of_getElem? (i := 13) rfl)
set_option maxRecDepth 20000 in
theorem mw_88 : pz_wd mz_88 ∈ lw_tbl := tb_in2 _ (List.mem_of_getElem? (i := 29) rfl)
set_option maxRecDepth 20000 in
theorem mw_89 : pz_wd mz_89 ∈ lw_tbl := tb_in2 _ (List.mem_of_getElem? (i := 85) rfl)
set_option maxRecDepth 20000 in
theorem mw_90 : pz_wd mz_90 ∈ lw_tbl := tb_in2 _ (List.mem_of_getElem? (i := 127) rfl)
set_option maxRecDepth 20000 in
theorem mw_91 : pz_wd mz_91 ∈ lw_tbl := tb_in2 _ (List.mem_of_getElem? (i := 151) rfl)
set_option maxRecDepth 20000 in
theorem mw_92 : pz_wd mz_92 ∈ lw_tbl := tb_in2 _ (List.mem_of_getElem? (i := 184) rfl)
set_option maxRecDepth 20000 in
theorem mw_93 : pz_wd mz_93 ∈ lw_tbl := tb_in2 _ (List.mem_of_getElem? (i := 214) rfl)
set_option maxRecDepth 20000 in
theorem mw_94 : pz_wd mz_94 ∈ lw_tbl := tb_in3 _ (List.mem_of_getElem? (i := 6) rfl)
set_option maxRecDepth 20000 in
theorem mw_95 : pz_wd mz_95 ∈ lw_tbl := tb_in6 _ (List.mem_of_getElem? (i := 68) rfl)
set_option maxRecDepth 20000 in
theorem mw_96 : pz_wd mz_96 ∈ lw_tbl := tb_in6 _ (List.mem_of_getElem? (i := 72) rfl)
set_option maxRecDepth 20000 in
theorem mw_97 : pz_wd mz_97 ∈ lw_tbl := tb_in3 _ (List.mem_of_getElem? (i := 71) rfl)
set_option maxRecDepth 20000 in
theorem mw_98 : pz_wd mz_98 ∈ lw_tbl := tb_in3 _ (List.mem_of_getElem? (i := 83) rfl)
set_option maxRecDepth 20000 in
theorem mw_99 : pz_wd mz_99 ∈ lw_tbl := tb_in4 _ (List.mem_of_getElem? (i := 33) rfl)
set_option maxRecDepth 20000 in
theorem mw_100 : pz_wd mz_100 ∈ lw_tbl := tb_in4 _ (List.mem_of_getElem? (i := 37) rfl)
set_option maxRecDepth 20000 in
theorem mw_101 : pz_wd mz_101 ∈ lw_tbl := tb_in4 _ (List.mem_of_getElem? (i := 44) rfl)
set_option maxRecDepth 20000 in
theorem mw_102 : pz_wd mz_102 ∈ lw_tbl := tb_in4 _ (List.mem_of_getElem? (i := 52) rfl)
set_option maxRecDepth 20000 in
theorem mw_103 : pz_wd mz_103 ∈ lw_tbl := tb_in7 _ (List.mem_of_getElem? (i := 141) rfl)
set_option maxRecDepth 20000 in
theorem mw_104 : pz_wd mz_104 ∈ lw_tbl := tb_in7 _ (List.mem_of_getElem? (i := 145) rfl)
set_option maxRecDepth 20000 in
theorem mw_105 : pz_wd mz_105 ∈ lw_tbl := tb_in7 _ (List.mem_of_getElem? (i := 192) rfl)
set_option maxRecDepth 20000 in
theorem mw_106 : pz_wd mz_106 ∈ lw_tbl := tb_in7 _ (List.mem_of_getElem? (i := 196) rfl)
set_option maxRecDepth 20000 in
theorem mw_107 : pz_wd mz_107 ∈ lw_tbl := tb_in4 _ (List.mem_of_getElem? (i := 64) rfl)
set_option maxRecDepth 20000 in
theorem mw_108 : pz_wd mz_108 ∈ lw_tbl := tb_in8 _ (List.mem_of_getElem? (i := 32) rfl)
set_option maxRecDepth 20000 in
theorem mw_109 : pz_wd mz_109 ∈ lw_tbl := tb_in8 _ (List.mem_of_getElem? (i := 39) rfl)
set_option maxRecDepth 20000 in
theorem mw_110 : pz_wd mz_110 ∈ lw_tbl := tb_in4 _ (List.mem_of_getElem? (i := 48) rfl)
set_option maxRecDepth 20000 in
theorem mw_111 : pz_wd mz_111 ∈ lw_tbl := tb_in8 _ (List.mem_of_getElem? (i := 55) rfl)
set_option maxRecDepth 20000 in
theorem mw_112 : pz_wd mz_112 ∈ lw_tbl := tb_in4 _ (List.mem_of_getElem? (i := 85) rfl)
set_option maxRecDepth 20000 in
theorem mw_113 : pz_wd mz_113 ∈ lw_tbl := tb_in8 _ (List.mem_of_getElem? (i := 36) rfl)
set_option maxRecDepth 20000 in
theorem mw_114 : pz_wd mz_114 ∈ lw_tbl := tb_in8 _ (List.mem_of_getElem? (i := 67) rfl)
set_option maxRecDepth 20000 in
theorem mw_115 : pz_wd mz_115 ∈ lw_tbl := tb_in4 _ (List.mem_of_getElem? (i := 97) rfl)
set_option maxRecDepth 20000 in
theorem mw_116 : pz_wd mz_116 ∈ lw_tbl := tb_in4 _ (List.mem_of_getElem? (i := 102) rfl)
set_option maxRecDepth 20000 in
theorem mw_117 : pz_wd mz_117 ∈ lw_tbl := tb_in4 _ (List.mem_of_getElem? (i := 106) rfl)
set_option maxRecDepth 20000 in
theorem mw_118 : pz_wd mz_118 ∈ lw_tbl := tb_in8 _ (List.mem_of_getElem? (i := 79) rfl)
set_option maxRecDepth 20000 in
theorem mw_119 : pz_wd mz_119 ∈ lw_tbl := tb_in4 _ (List.mem_of_getElem? (i := 114) rfl)
set_option maxRecDepth 20000 in
theorem mw_120 : pz_wd mz_120 ∈ lw_tbl := tb_in8 _ (List.mem_of_getElem? (i := 87) rfl)
set_option maxRecDepth 20000 in
theorem mw_121 : pz_wd mz_121 ∈ lw_tbl := tb_in4 _ (List.mem_of_getElem? (i := 122) rfl)
set_option maxRecDepth 20000 in
theorem mw_122 : pz_wd mz_122 ∈ lw_tbl := tb_in4 _ (List.mem_of_getElem? (i := 126) rfl)
set_option maxRecDepth 20000 in
theorem mw_123 : pz_wd mz_123 ∈ lw_tbl := tb_in8 _ (List.mem_of_getElem? (i := 95) rfl)
set_option maxRecDepth 20000 in
theorem mw_124 : pz_wd mz_124 ∈ lw_tbl := tb_in4 _ (List.mem_of_getElem? (i := 165) rfl)
set_option maxRecDepth 20000 in
theorem mw_125 : pz_wd mz_125 ∈ lw_tbl := tb_in8 _ (List.mem_of_getElem? (i := 119) rfl)
set_option maxRecDepth 20000 in
theorem mw_126 : pz_wd mz_126 ∈ lw_tbl := tb_in4 _ (List.mem_of_getElem? (i := 179) rfl)
set_option maxRecDepth 20000 in
theorem mw_127 : pz_wd mz_127 ∈ lw_tbl := tb_in8 _ (List.mem_of_getElem? (i := 132) rfl)
set_option maxRecDepth 20000 in
theorem mw_128 : pz_wd mz_128 ∈ lw_tbl := tb_in4 _ (List.mem_of_getElem? (i := 190) rfl)
set_option maxRecDepth 20000 in
theorem mw_129 : pz_wd mz_129 ∈ lw_tbl := tb_in4 _ (List.mem_of_getElem? (i := 194) rfl)
set_option maxRecDepth 20000 in
theorem mw_130 : pz_wd mz_130 ∈ lw_tbl := tb_in4 _ (List.mem_of_getElem? (i := 199) rfl)
set_option maxRecDepth 20000 in
theorem mw_131 : pz_wd mz_131 ∈ lw_tbl := tb_in4 _ (List.mem_of_getElem? (i := 223) rfl)
set_option maxRecDepth 20000 in
theorem mw_132 : pz_wd mz_132 ∈ lw_tbl := tb_in8 _ (List.mem_of_getElem? (i := 140) rfl)
set_option maxRecDepth 20000 in
theorem mw_133 : pz_wd mz_133 ∈ lw_tbl := tb_in4 _ (List.mem_of_getElem? (i := 230) rfl)
set_option maxRecDepth 20000 in
theorem mw_134 : pz_wd mz_134 ∈ lw_tbl := tb_in4 _ (List.mem_of_getElem? (i := 237) rfl)
set_option maxRecDepth 20000 in
theorem mw_135 : pz_wd mz_135 ∈ lw_tbl := tb_in5 _ (List.mem_of_getElem? (i := 20) rfl)
set_option maxRecDepth 20000 in
theorem mw_136 : pz_wd mz_136 ∈ lw_tbl := tb_in8 _ (List.mem_of_getElem? (i := 158) rfl)
set_option maxRecDepth 20000 in
theorem mw_137 : pz_wd mz_137 ∈ lw_tbl := tb_in5 _ (List.mem_of_getElem? (i := 28) rfl)
set_option maxRecDepth 20000 in
theorem mw_138 : pz_wd mz_138 ∈ lw_tbl := tb_in8 _ (List.mem_of_getElem? (i := 193) rfl)
set_option maxRecDepth 20000 in
theorem mw_139 : pz_wd mz_139 ∈ lw_tbl := tb_in8 _ (List.mem_of_getElem? (i := 197) rfl)
set_option maxRecDepth 20000 in
theorem mw_140 : pz_wd mz_140 ∈ lw_tbl := tb_in8 _ (List.mem_of_getElem? (i := 186) rfl)
set_option maxRecDepth 20000 in
theorem mw_141 : pz_wd mz_141 ∈ lw_tbl := tb_in8 _ (List.mem_of_getElem? (i := 174) rfl)
set_option maxRecDepth 20000 in
theorem mw_142 : pz_wd mz_142 ∈ lw_tbl := tb_in8 _ (List.mem_of_getElem? (i := 201) rfl)
set_option maxRecDepth 20000 in
theorem mw_143 : pz_wd mz_143 ∈ lw_tbl := tb_in5 _ (List.mem_of_getElem? (i := 48) rfl)
set_option maxRecDepth 20000 in
theorem mw_144 : pz_wd mz_144 ∈ lw_tbl := tb_in8 _ (List.mem_of_getElem? (i := 182) rfl)
set_option maxRecDepth 20000 in
theorem mw_145 : pz_wd mz_145 ∈ lw_tbl := tb_in5 _ (List.mem_of_getElem? (i := 63) rfl)
set_option maxRecDepth 20000 in
theorem mw_146 : pz_wd mz_146 ∈ lw_tbl := tb_in5 _ (List.mem_of_getElem? (i := 134) rfl)
set_option maxRecDepth 20000 in
theorem mw_147 : pz_wd mz_147 ∈ lw_tbl := tb_in8 _ (List.mem_of_getElem? (i := 209) rfl)
set_option maxRecDepth 20000 in
theorem mw_148 : pz_wd mz_148 ∈ lw_tbl := tb_in5 _ (List.mem_of_getElem? (i := 143) rfl)
set_option maxRecDepth 20000 in
theorem mw_149 : pz_wd mz_149 ∈ lw_tbl := tb_in5 _ (List.mem_of_getElem? (i := 155) rfl)
set_option maxRecDepth 20000 in
theorem mw_150 : pz_wd mz_150 ∈ lw_tbl := tb_in9 _ (List.mem_of_getElem? (i := 35) rfl)
set_option maxRecDepth 20000 in
theorem mw_151 : pz_wd mz_151 ∈ lw_tbl := tb_in5 _ (List.mem_of_getElem? (i := 183) rfl)
set_option maxRecDepth 20000 in
theorem mw_152 : pz_wd mz_152 ∈ lw_tbl := tb_in5 _ (List.mem_of_getElem? (i := 41) rfl)
set_option maxRecDepth 20000 in
theorem mw_153 : pz_wd mz_153 ∈ lw_tbl := tb_in5 _ (List.mem_of_getElem? (i := 159) rfl)
set_option maxRecDepth 20000 in
theorem mw_154 : pz_wd mz_154 ∈ lw_tbl := tb_in9 _ (List.mem_of_getElem? (i := 9) rfl)
set_option maxRecDepth 20000 in
theorem mw_155 : pz_wd mz_155 ∈ lw_tbl := tb_in5 _ (List.mem_of_getElem? (i := 200) rfl)
set_option maxRecDepth 20000 in
theorem mw_156 : pz_wd mz_156 ∈ lw_tbl := tb_in5 _ (List.mem_of_getElem? (i := 212) rfl)
set_option maxRecDepth 20000 in
theorem mw_157 : pz_wd mz_157 ∈ lw_tbl := tb_in5 _ (List.mem_of_getElem? (i := 147) rfl)
set_option maxRecDepth 20000 in
theorem mw_158 : pz_wd mz_158 ∈ lw_tbl := tb_in9 _ (List.mem_of_getElem? (i := 21) rfl)
set_option maxRecDepth 20000 in
theorem mw_159 : pz_wd mz_159 ∈ lw_tbl := tb_in5 _ (List.mem_of_getElem? (i := 228) rfl)
set_option maxRecDepth 20000 in
theorem mw_160 : pz_wd mz_160 ∈ lw_tbl := tb_in5 _ (List.mem_of_getElem? (i := 232) rfl)
set_option maxRecDepth 20000 in
theorem mw_161 : pz_wd mz_161 ∈ lw_tbl := tb_in9 _ (List.mem_of_getElem? (i := 73) rfl)
set_option maxRecDepth 20000 in
theorem mw_162 : pz_wd mz_162 ∈ lw_tbl := tb_in9 _ (List.mem_of_getElem? (i := 77) rfl)
set_option maxRecDepth 20000 in
theorem mw_163 : pz_wd mz_163 ∈ lw_tbl := tb_in6 _ (List.mem_of_getElem? (i := 2) rfl)
set_option maxRecDepth 20000 in
theorem mw_164 : pz_wd mz_164 ∈ lw_tbl := tb_in6 _ (List.mem_of_getElem? (i := 5) rfl)
set_option maxRecDepth 20000 in
theorem mw_165 : pz_wd mz_165 ∈ lw_tbl := tb_in6 _ (List.mem_of_getElem? (i := 8) rfl)
set_option maxRecDepth 20000 in
theorem mw_166 : pz_wd mz_166 ∈ lw_tbl := tb_in9 _ (List.mem_of_getElem? (i := 84) rfl)
set_option maxRecDepth 20000 in
theorem mw_167 : pz_wd mz_167 ∈ lw_tbl := tb_in9 _ (List.mem_of_getElem? (i := 89) rfl)
set_option maxRecDepth 20000 in
theorem mw_168 : pz_wd mz_168 ∈ lw_tbl := tb_in9 _ (List.mem_of_getElem? (i := 92) rfl)
set_option maxRecDepth 20000 in
theorem mw_169 : pz_wd mz_169 ∈ lw_tbl := tb_in6 _ (List.mem_of_getElem? (i := 27) rfl)
set_option maxRecDepth 20000 in
theorem mw_170 : pz_wd mz_170 ∈ lw_tbl := tb_in9 _ (List.mem_of_getElem? (i := 105) rfl)
set_option maxRecDepth 20000 in
theorem mw_171 : pz_wd mz_171 ∈ lw_tbl := tb_in4 _ (List.mem_of_getElem? (i := 182) rfl)
set_option maxRecDepth 20000 in
theorem mw_172 : pz_wd mz_172 ∈ lw_tbl := tb_in5 _ (List.mem_of_getElem? (i := 32) rfl)
set_option maxRecDepth 20000 in
theorem mw_173 : pz_wd mz_173 ∈ lw_tbl := tb_in1 _ (List.mem_of_getElem? (i := 41) rfl)
set_option maxRecDepth 20000 in
theorem mw_174 : pz_wd mz_174 ∈ lw_tbl := tb_in1 _ (List.mem_of_getElem? (i := 80) rfl)
set_option maxRecDepth 20000 in
theorem mw_175 : pz_wd mz_175 ∈ lw_tbl := tb_in3 _ (List.mem_of_getElem? (i := 87) rfl)
set_option maxRecDepth 20000 in
theorem mw_176 : pz_wd mz_176 ∈ lw_tbl := tb_in3 _ (List.mem_of_getElem? (i := 92) rfl)
set_option maxRecDepth 20000 in
theorem mw_177 : pz_wd mz_177 ∈ lw_tbl := tb_in3 _ (List.mem_of_getElem? (i := 190) rfl)
set_option maxRecDepth 20000 in
theorem mw_178 : pz_wd mz_178 ∈ lw_tbl := tb_in3 _ (List.mem_of_getElem? (i := 194) rfl)
set_option maxRecDepth 20000 in
theorem mw_179 : pz_wd mz_179 ∈ lw_tbl := tb_in3 _ (List.mem_of_getElem? (i := 198) rfl)
set_option maxRecDepth 20000 in
theorem mw_180 : pz_wd mz_180 ∈ lw_tbl := tb_in3 _ (List.mem_of_getElem? (i := 228) rfl)
set_option maxRecDepth 20000 in
theorem mw_181 : pz_wd mz_181 ∈ lw_tbl := tb_in4 _ (List.mem_of_getElem? (i := 9) rfl)
set_option maxRecDepth 20000 in
theorem mw_182 : pz_wd mz_182 ∈ lw_tbl := tb_in4 _ (List.mem_of_getElem? (i := 17) rfl)
set_option maxRecDepth 20000 in
theorem mw_183 : pz_wd mz_183 ∈ lw_tbl := tb_in4 _ (List.mem_of_getElem? (i := 29) rfl)
set_option maxRecDepth 20000 in
theorem mw_184 : pz_wd mz_184 ∈ lw_tbl := tb_in3 _ (List.mem_of_getElem? (i := 108) rfl)
set_option maxRecDepth 20000 in
theorem mw_185 : pz_wd mz_185 ∈ lw_tbl := tb_in4 _ (List.mem_of_getElem? (i := 40) rfl)
set_option maxRecDepth 20000 in
theorem mw_186 : pz_wd mz_186 ∈ lw_tbl := tb_in7 _ (List.mem_of_getElem? (i := 149) rfl)
set_option maxRecDepth 20000 in
theorem mw_187 : pz_wd mz_187 ∈ lw_tbl := tb_in7 _ (List.mem_of_getElem? (i := 152) rfl)
set_option maxRecDepth 20000 in
theorem mw_188 : pz_wd mz_188 ∈ lw_tbl := tb_in7 _ (List.mem_of_getElem? (i := 155) rfl)
set_option maxRecDepth 20000 in
theorem mw_189 : pz_wd mz_189 ∈ lw_tbl := tb_in7 _ (List.mem_of_getElem? (i := 184) rfl)
set_option maxRecDepth 20000 in
theorem mw_190 : pz_wd mz_190 ∈ lw_tbl := tb_in7 _ (List.mem_of_getElem? (i := 188) rfl)
set_option maxRecDepth 20000 in
theorem mw_191 : pz_wd mz_191 ∈ lw_tbl := tb_in7 _ (List.mem_of_getElem? (i := 200) rfl)
set_option maxRecDepth 20000 in
theorem mw_192 : pz_wd mz_192 ∈ lw_tbl := tb_in7 _ (List.mem_of_getElem? (i := 208) rfl)
set_option maxRecDepth 20000 in
theorem mw_193 : pz_wd mz_193 ∈ lw_tbl := tb_in7 _ (List.mem_of_getElem? (i := 216) rfl)
set_option maxRecDepth 20000 in
theorem mw_194 : pz_wd mz_194 ∈ lw_tbl := tb_in7 _ (List.mem_of_getElem? (i := 228) rfl)
set_option maxRecDepth 20000 in
theorem mw_195 : pz_wd mz_195 ∈ lw_tbl := tb_in8 _ (List.mem_of_getElem? (i := 0) rfl)
set_option maxRecDepth 20000 in
theorem mw_196 : pz_wd mz_196 ∈ lw_tbl := tb_in8 _ (List.mem_of_getElem? (i := 8) rfl)
set_option maxRecDepth 20000 in
theorem mw_197 : pz_wd mz_197 ∈ lw_tbl := tb_in8 _ (List.mem_of_getElem? (i := 16) rfl)
set_option maxRecDepth 20000 in
theorem mw_198 : pz_wd mz_198 ∈ lw_tbl := tb_in8 _ (List.mem_of_getElem? (i := 20) rfl)
set_option maxRecDepth 20000 in
theorem mw_199 : pz_wd mz_199 ∈ lw_tbl := tb_in7 _ (List.mem_of_getElem? (i := 232) rfl)
set_option maxRecDepth 20000 in
theorem mw_200 : pz_wd mz_200 ∈ lw_tbl := tb_in8 _ (List.mem_of_getElem? (i := 59) rfl)
set_option maxRecDepth 20000 in
theorem mw_201 : pz_wd mz_201 ∈ lw_tbl := tb_in4 _ (List.mem_of_getElem? (i := 131) rfl)
set_option maxRecDepth 20000 in
theorem mw_202 : pz_wd mz_202 ∈ lw_tbl := tb_in8 _ (List.mem_of_getElem? (i := 99) rfl)
set_option maxRecDepth 20000 in
theorem mw_203 : pz_wd mz_203 ∈ lw_tbl := tb_in8 _ (List.mem_of_getElem? (i := 104) rfl)
set_option maxRecDepth 20000 in
theorem mw_204 : pz_wd mz_204 ∈ lw_tbl := tb_in8 _ (List.mem_of_getElem? (i := 108) rfl)
set_option maxRecDepth 20000 in
theorem mw_205 : pz_wd mz_205 ∈ lw_tbl := tb_in4 _ (List.mem_of_getElem? (i := 157) rfl)
set_option maxRecDepth 20000 in
theorem mw_206 : pz_wd mz_206 ∈ lw_tbl := tb_in4 _ (List.mem_of_getElem? (i := 154) rfl)
set_option maxRecDepth 20000 in
theorem mw_207 : pz_wd mz_207 ∈ lw_tbl := tb_in8 _ (List.mem_of_getElem? (i := 111) rfl)
set_option maxRecDepth 20000 in
theorem mw_208 : pz_wd mz_208 ∈ lw_tbl := tb_in4 _ (List.mem_of_getElem? (i := 202) rfl)
set_option maxRecDepth 20000 in
theorem mw_209 : pz_wd mz_209 ∈ lw_tbl := tb_in4 _ (List.mem_of_getElem? (i := 209) rfl)
set_option maxRecDepth 20000 in
theorem mw_210 : pz_wd mz_210 ∈ lw_tbl := tb_in8 _ (List.mem_of_getElem? (i := 146) rfl)
set_option maxRecDepth 20000 in
theorem mw_211 : pz_wd mz_211 ∈ lw_tbl := tb_in8 _ (List.mem_of_getElem? (i := 150) rfl)
set_option maxRecDepth 20000 in
theorem mw_212 : pz_wd mz_212 ∈ lw_tbl := tb_in5 _ (List.mem_of_getElem? (i := 1) rfl)
set_option maxRecDepth 20000 in
theorem mw_213 : pz_wd mz_213 ∈ lw_tbl := tb_in5 _ (List.mem_of_getElem? (i := 5) rfl)
set_option maxRecDepth 20000 in
theorem mw_214 : pz_wd mz_214 ∈ lw_tbl := tb_in5 _ (List.mem_of_getElem? (i := 16) rfl)
set_option maxRecDepth 20000 in
theorem mw_215 : pz_wd mz_215 ∈ lw_tbl := tb_in8 _ (List.mem_of_getElem? (i := 162) rfl)
set_option maxRecDepth 20000 in
theorem mw_216 : pz_wd mz_216 ∈ lw_tbl := tb_in8 _ (List.mem_of_getElem? (i := 166) rfl)
set_option maxRecDepth 20000 in
theorem mw_217 : pz_wd mz_217 ∈ lw_tbl := tb_in8 _ (List.mem_of_getElem? (i := 170) rfl)
set_option maxRecDepth 20000 in
theorem mw_218 : pz_wd mz_218 ∈ lw_tbl := tb_in5 _ (List.mem_of_getElem? (i := 37) rfl)
set_option maxRecDepth 20000 in
theorem mw_219 : pz_wd mz_219 ∈ lw_tbl := tb_in5 _ (List.mem_of_getElem? (i := 72) rfl)
set_option maxRecDepth 20000 in
theorem mw_220 : pz_wd mz_220 ∈ lw_tbl := tb_in7 _ (List.mem_of_getElem? (i := 204) rfl)
set_option maxRecDepth 20000 in
theorem mw_221 : pz_wd mz_221 ∈ lw_tbl := tb_in8 _ (List.mem_of_getElem? (i := 213) rfl)
set_option maxRecDepth 20000 in
theorem mw_222 : pz_wd mz_222 ∈ lw_tbl := tb_in7 _ (List.mem_of_getElem? (i := 224) rfl)
set_option maxRecDepth 20000 in
theorem mw_223 : pz_wd mz_223 ∈ lw_tbl := tb_in7 _ (List.mem_of_getElem? (i := 212) rfl)
set_option maxRecDepth 20000 in
theorem mw_224 : pz_wd mz_224 ∈ lw_tbl := tb_in5 _ (List.mem_of_getElem? (i := 163) rfl)
set_option maxRecDepth 20000 in
theorem mw_225 : pz_wd mz_225 ∈ lw_tbl := tb_in9 _ (List.mem_of_getElem? (i := 13) rfl)
set_option maxRecDepth 20000 in
theorem mw_226 : pz_wd mz_226 ∈ lw_tbl := tb_in9 _ (List.mem_of_getElem? (i := 27) rfl)
set_option maxRecDepth 20000 in
theorem mw_227 : pz_wd mz_227 ∈ lw_tbl := tb_in5 _ (List.mem_of_getElem? (i := 151) rfl)
set_option maxRecDepth 20000 in
theorem mw_228 : pz_wd mz_228 ∈ lw_tbl := tb_in9 _ (List.mem_of_getElem? (i := 24) rfl)
set_option maxRecDepth 20000 in
theorem mw_229 : pz_wd mz_229 ∈ lw_tbl := tb_in6 _ (List.mem_of_getElem? (i := 14) rfl)
set_option maxRecDepth 20000 in
theorem mw_230 : pz_wd mz_230 ∈ lw_tbl := tb_in1 _ (List.mem_of_getElem? (i := 45) rfl)
set_option maxRecDepth 20000 in
theorem mw_231 : pz_wd mz_231 ∈ lw_tbl := tb_in1 _ (List.mem_of_getElem? (i := 50) rfl)
set_option maxRecDepth 20000 in
theorem mw_232 : pz_wd mz_232 ∈ lw_tbl := tb_in3 _ (List.mem_of_getElem? (i := 96) rfl)
set_option maxRecDepth 20000 in
theorem mw_233 : pz_wd mz_233 ∈ lw_tbl := tb_in3 _ (List.mem_of_getElem? (i := 202) rfl)
set_option maxRecDepth 20000 in
theorem mw_234 : pz_wd mz_234 ∈ lw_tbl := tb_in3 _ (List.mem_of_getElem? (i := 215) rfl)
set_option maxRecDepth 20000 in
theorem mw_235 : pz_wd mz_235 ∈ lw_tbl := tb_in3 _ (List.mem_of_getElem? (i := 219) rfl)
set_option maxRecDepth 20000 in
theorem mw_236 : pz_wd mz_236 ∈ lw_tbl := tb_in3 _ (List.mem_of_getElem? (i := 223) rfl)
set_option maxRecDepth 20000 in
theorem mw_237 : pz_wd mz_237 ∈ lw_tbl := tb_in3 _ (List.mem_of_getElem? (i := 232) rfl)
set_option maxRecDepth 20000 in
theorem mw_238 : pz_wd mz_238 ∈ lw_tbl := tb_in3 _ (List.mem_of_getElem? (i := 236) rfl)
set_option maxRecDepth 20000 in
theorem mw_239 : pz_wd mz_239 ∈ lw_tbl := tb_in4 _ (List.mem_of_getElem? (i := 5) rfl)
set_option maxRecDepth 20000 in
theorem mw_240 : pz_wd mz_240 ∈ lw_tbl := tb_in4 _ (List.mem_of_getElem? (i := 13) rfl)
set_option maxRecDepth 20000 in
theorem mw_241 : pz_wd mz_241 ∈ lw_tbl := tb_in4 _ (List.mem_of_getElem? (i := 25) rfl)
set_option maxRecDepth 20000 in
theorem mw_242 : pz_wd mz_242 ∈ lw_tbl := tb_in7 _ (List.mem_of_getElem? (i := 220) rfl)
set_option maxRecDepth 20000 in
theorem mw_243 : pz_wd mz_243 ∈ lw_tbl := tb_in7 _ (List.mem_of_getElem? (i := 236) rfl)
set_option maxRecDepth 20000 in
theorem mw_244 : pz_wd mz_244 ∈ lw_tbl := tb_in8 _ (List.mem_of_getElem? (i := 4) rfl)
set_option maxRecDepth 20000 in
theorem mw_245 : pz_wd mz_245 ∈ lw_tbl := tb_in8 _ (List.mem_of_getElem? (i := 12) rfl)
set_option maxRecDepth 20000 in
theorem mw_246 : pz_wd mz_246 ∈ lw_tbl := tb_in4 _ (List.mem_of_getElem? (i := 136) rfl)
set_option maxRecDepth 20000 in
theorem mw_247 : pz_wd mz_247 ∈ lw_tbl := tb_in4 _ (List.mem_of_getElem? (i := 141) rfl)
set_option maxRecDepth 20000 in
theorem mw_248 : pz_wd mz_248 ∈ lw_tbl := tb_in4 _ (List.mem_of_getElem? (i := 150) rfl)
set_option maxRecDepth 20000 in
theorem mw_249 : pz_wd mz_249 ∈ lw_tbl := tb_in4 _ (List.mem_of_getElem? (i := 213) rfl)
set_option maxRecDepth 20000 in
theorem mw_250 : pz_wd mz_250 ∈ lw_tbl := tb_in4 _ (List.mem_of_getElem? (i := 218) rfl)
set_option maxRecDepth 20000 in
theorem mw_251 : pz_wd mz_251 ∈ lw_tbl := tb_in5 _ (List.mem_of_getElem? (i := 11) rfl)
set_option maxRecDepth 20000 in
theorem mw_252 : pz_wd mz_252 ∈ lw_tbl := tb_in5 _ (List.mem_of_getElem? (i := 78) rfl)
set_option maxRecDepth 20000 in
theorem mw_253 : pz_wd mz_253 ∈ lw_tbl := tb_in3 _ (List.mem_of_getElem? (i := 208) rfl)
set_option maxRecDepth 20000 in
theorem mw_254 : pz_wd mz_254 ∈ lw_tbl := tb_in5 _ (List.mem_of_getElem? (i := 126) rfl)
set_option maxRecDepth 20000 in
theorem mw_255 : pz_wd mz_255 ∈ lw_tbl := tb_in5 _ (List.mem_of_getElem? (i := 130) rfl)
set_option maxRecDepth 20000 in
theorem mw_256 : pz_wd mz_256 ∈ lw_tbl := tb_in8 _ (List.mem_of_getElem? (i := 217) rfl)
set_option maxRecDepth 20000 in
theorem mw_257 : pz_wd mz_257 ∈ lw_tbl := tb_in8 _ (List.mem_of_getElem? (i := 221) rfl)
set_option maxRecDepth 20000 in
theorem mw_258 : pz_wd mz_258 ∈ lw_tbl := tb_in8 _ (List.mem_of_getElem? (i := 233) rfl)
set_option maxRecDepth 20000 in
theorem mw_259 : pz_wd mz_259 ∈ lw_tbl := tb_in5 _ (List.mem_of_getElem? (i := 167) rfl)
set_option maxRecDepth 20000 in
theorem mw_260 : pz_wd mz_260 ∈ lw_tbl := tb_in5 _ (List.mem_of_getElem? (i := 174) rfl)
set_option maxRecDepth 20000 in
theorem mw_261 : pz_wd mz_261 ∈ lw_tbl := tb_in9 _ (List.mem_of_getElem? (i := 17) rfl)
set_option maxRecDepth 20000 in
theorem mw_262 : pz_wd mz_262 ∈ lw_tbl := tb_in1 _ (List.mem_of_getElem? (i := 53) rfl)
set_option maxRecDepth 20000 in
theorem mw_263 : pz_wd mz_263 ∈ lw_tbl := tb_in3 _ (List.mem_of_getElem? (i := 100) rfl)
set_option maxRecDepth 20000 in
theorem mw_264 : pz_wd mz_264 ∈ lw_tbl := tb_in3 _ (List.mem_of_getElem? (i := 104) rfl)
set_option maxRecDepth 20000 in
theorem mw_265 : pz_wd mz_265 ∈ lw_tbl := tb_in3 _ (List.mem_of_getElem? (i := 112) rfl)
set_option maxRecDepth 20000 in
theorem mw_266 : pz_wd mz_266 ∈ lw_tbl := tb_in3 _ (List.mem_of_getElem? (i := 116) rfl)
set_option maxRecDepth 20000 in
theorem mw_267 : pz_wd mz_267 ∈ lw_tbl := tb_in3 _ (List.mem_of_getElem? (i := 120) rfl)
set_option maxRecDepth 20000 in
theorem mw_268 : pz_wd mz_268 ∈ lw_tbl := tb_in3 _ (List.mem_of_getElem? (i := 211) rfl)
set_option maxRecDepth 20000 in
theorem mw_269 : pz_wd mz_269 ∈ lw_tbl := tb_in4 _ (List.mem_of_getElem? (i := 0) rfl)
set_option maxRecDepth 20000 in
theorem mw_270 : pz_wd mz_270 ∈ lw_tbl := tb_in4 _ (List.mem_of_getElem? (i := 146) rfl)
set_option maxRecDepth 20000 in
theorem mw_271 : pz_wd mz_271 ∈ lw_tbl := tb_in5 _ (List.mem_of_getElem? (i := 82) rfl)
set_option maxRecDepth 20000 in
theorem mw_272 : pz_wd mz_272 ∈ lw_tbl := tb_in5 _ (List.mem_of_getElem? (i := 91) rfl)
set_option maxRecDepth 20000 in
theorem mw_273 : pz_wd mz_273 ∈ lw_tbl := tb_in8 _ (List.mem_of_getElem? (i := 225) rfl)
set_option maxRecDepth 20000 in
theorem mw_274 : pz_wd mz_274 ∈ lw_tbl := tb_in8 _ (List.mem_of_getElem? (i := 229) rfl)
set_option maxRecDepth 20000 in
theorem mw_275 : pz_wd mz_275 ∈ lw_tbl := tb_in8 _ (List.mem_of_getElem? (i := 237) rfl)
set_option maxRecDepth 20000 in
theorem mw_276 : pz_wd mz_276 ∈ lw_tbl := tb_in9 _ (List.mem_of_getElem? (i := 1) rfl)
set_option maxRecDepth 20000 in
theorem mw_277 : pz_wd mz_277 ∈ lw_tbl := tb_in5 _ (List.mem_of_getElem? (i := 170) rfl)
set_option maxRecDepth 20000 in
theorem mw_278 : pz_wd mz_278 ∈ lw_tbl := tb_in1 _ (List.mem_of_getElem? (i := 58) rfl)
set_option maxRecDepth 20000 in
theorem mw_279 : pz_wd mz_279 ∈ lw_tbl := tb_in3 _ (List.mem_of_getElem? (i := 124) rfl)
set_option maxRecDepth 20000 in
theorem mw_280 : pz_wd mz_280 ∈ lw_tbl := tb_in5 _ (List.mem_of_getElem? (i := 86) rfl)
set_option maxRecDepth 20000 in
theorem mw_281 : pz_wd mz_281 ∈ lw_tbl := tb_in3 _ (List.mem_of_getElem? (i := 128) rfl)
set_option maxRecDepth 20000 in
theorem mw_282 : pz_wd mz_282 ∈ lw_tbl := tb_in5 _ (List.mem_of_getElem? (i := 95) rfl)
set_option maxRecDepth 20000 in
theorem mw_283 : pz_wd mz_283 ∈ lw_tbl := tb_in3 _ (List.mem_of_getElem? (i := 132) rfl)
set_option maxRecDepth 20000 in
theorem mw_284 : pz_wd mz_284 ∈ lw_tbl := tb_in3 _ (List.mem_of_getElem? (i := 139) rfl)
set_option maxRecDepth 20000 in
theorem mw_285 : pz_wd mz_285 ∈ lw_tbl := tb_in5 _ (List.mem_of_getElem? (i := 99) rfl)
set_option maxRecDepth 20000 in
theorem mw_286 : pz_wd mz_286 ∈ lw_tbl := tb_in3 _ (List.mem_of_getElem? (i := 136) rfl)
set_option maxRecDepth 20000 in
theorem mw_287 : pz_wd mz_287 ∈ lw_tbl := tb_in3 _ (List.mem_of_getElem? (i := 142) rfl)
set_option maxRecDepth 20000 in
theorem mw_288 : pz_wd mz_288 ∈ lw_tbl := tb_in3 _ (List.mem_of_getElem? (i := 151) rfl)
set_option maxRecDepth 20000 in
theorem mw_289 : pz_wd mz_289 ∈ lw_tbl := tb_in5 _ (List.mem_of_getElem? (i := 103) rfl)
set_option maxRecDepth 20000 in
theorem mw_290 : pz_wd mz_290 ∈ lw_tbl := tb_in5 _ (List.mem_of_getElem? (i := 107) rfl)
set_option maxRecDepth 20000 in
theorem mw_291 : pz_wd mz_291 ∈ lw_tbl := tb_in5 _ (List.mem_of_getElem? (i := 112) rfl)
set_option maxRecDepth 20000 in
theorem mw_292 : pz_wd mz_292 ∈ lw_tbl := tb_in5 _ (List.mem_of_getElem? (i := 117) rfl)
set_option maxRecDepth 20000 in
theorem mw_293 : pz_wd mz_293 ∈ lw_tbl := tb_in5 _ (List.mem_of_getElem? (i := 120) rfl)
set_option maxRecDepth 100000 in
theorem mz_wd : ∀ mi ∈ mz.tail, pz_wd mi ∈ lw_tbl := List.forall_mem_cons.mpr ⟨mw_1, List.forall_mem_cons.mpr ⟨mw_2, List.forall_mem_cons.mpr ⟨mw_3, List.forall_mem_cons.mpr ⟨mw_4, List.forall_mem_cons.mpr ⟨mw_5, List.forall_mem_cons.mpr ⟨mw_6, List.forall_mem_cons.mpr ⟨mw_7, List.forall_mem_cons.mpr ⟨mw_8, List.forall_mem_cons.mpr ⟨mw_9, List.forall_mem_cons.mpr ⟨mw_10, List.forall_mem_cons.mpr ⟨mw_11, List.forall_mem_cons.mpr ⟨mw_12, List.forall_mem_cons.mpr ⟨mw_13, List.forall_mem_cons.mpr ⟨mw_14, List.forall_mem_cons.mpr ⟨mw_15, List.forall_mem_cons.mpr ⟨mw_16, List.forall_mem_cons.mpr ⟨mw_17, List.forall_mem_cons.mpr ⟨mw_18, List.forall_mem_cons.mpr ⟨mw_19, List.forall_mem_cons.mpr ⟨mw_20, List.forall_mem_cons.mpr ⟨mw_21, List.forall_mem_cons.mpr ⟨mw_22, List.forall_mem_cons.mpr ⟨mw_23, List.forall_mem_cons.mpr ⟨mw_24, List.forall_mem_cons.mpr ⟨mw_25, List.forall_mem_cons.mpr ⟨mw_26, List.forall_mem_cons.mpr ⟨mw_27, List.forall_mem_cons.mpr ⟨mw_28, List.forall_mem_cons.mpr ⟨mw_29, List.forall_mem_cons.mpr ⟨mw_30, List.forall_mem_cons.mpr ⟨mw_31, List.forall_mem_cons.mpr ⟨mw_32, List.forall_mem_cons.mpr ⟨mw_33, List.forall_mem_cons.mpr ⟨mw_34, List.forall_mem_cons.mpr ⟨mw_35, List.forall_mem_cons.mpr ⟨mw_36, List.forall_mem_cons.mpr ⟨mw_37, List.forall_mem_cons.mpr ⟨mw_38, List.forall_mem_cons.mpr ⟨mw_39, List.forall_mem_cons.mpr ⟨mw_40, List.forall_mem_cons.mpr ⟨mw_41, List.forall_mem_cons.mpr ⟨mw_42, List.forall_mem_cons.mpr ⟨mw_43, List.forall_mem_cons.mpr ⟨mw_44, List.forall_mem_cons.mpr ⟨mw_45, List.forall_mem_cons.mpr ⟨mw_46, List.forall_mem_cons.mpr ⟨mw_47, List.forall_mem_cons.mpr ⟨mw_48, List.forall_mem_cons.mpr ⟨mw_49, List.forall_mem_cons.mpr ⟨mw_50, List.forall_mem_cons.mpr ⟨mw_51, List.forall_mem_cons.mpr ⟨mw_52, List.forall_mem_cons.mpr ⟨mw_53, List.forall_mem_cons.mpr ⟨mw_54, List.forall_mem_cons.mpr ⟨mw_55, List.forall_mem_cons.mpr ⟨mw_56, List.forall_mem_cons.mpr ⟨mw_57, List.forall_mem_cons.mpr ⟨mw_58, List.forall_mem_cons.mpr ⟨mw_59, List.forall_mem_cons.mpr ⟨mw_60, List.forall_mem_cons.mpr ⟨mw_61, List.forall_mem_cons.mpr ⟨mw_62, List.forall_mem_cons.mpr ⟨mw_63, List.forall_mem_cons.mpr ⟨mw_64, List.forall_mem_cons.mpr ⟨mw_65, List.forall_mem_cons.mpr ⟨mw_66, List.forall_mem_cons.mpr ⟨mw_67, List.forall_mem_cons.mpr ⟨mw_68, List.forall_mem_cons.mpr ⟨mw_69, List.forall_mem_cons.mpr ⟨mw_70, List.forall_mem_cons.mpr ⟨mw_71, List.forall_mem_cons.mpr ⟨mw_72, List.forall_mem_cons.mpr ⟨mw_73, List.forall_mem_cons.mpr ⟨mw_74, List.forall_mem_cons.mpr ⟨mw_75, List.forall_mem_cons.mpr ⟨mw_76, List.forall_mem_cons.mpr ⟨mw_77, List.forall_mem_cons.mpr ⟨mw_78, List.forall_mem_cons.mpr ⟨mw_79, List.forall_mem_cons.mpr ⟨mw_80, List.forall_mem_cons.mpr ⟨mw_81, List.forall_mem_cons.mpr ⟨mw_82, List.forall_mem_cons.mpr ⟨mw_83, List.forall_mem_cons.mpr ⟨mw_84, List.forall_mem_cons.mpr ⟨mw_85, List.forall_mem_cons.mpr ⟨mw_86, List.forall_mem_cons.mpr ⟨mw_87, List.forall_mem_cons.mpr ⟨mw_88, List.forall_mem_cons.mpr ⟨mw_89, List.forall_mem_cons.mpr ⟨mw_90, List.forall_mem_cons.mpr ⟨mw_91, List.forall_mem_cons.mpr ⟨mw_92, List.forall_mem_cons.mpr ⟨mw_93, List.forall_mem_cons.mpr ⟨mw_94, List.forall_mem_cons.mpr ⟨mw_95, List.forall_mem_cons.mpr ⟨mw_96, List.forall_mem_cons.mpr ⟨mw_97, List.forall_mem_cons.mpr ⟨mw_98, List.forall_mem_cons.mpr ⟨mw_99, List.forall_mem_cons.mpr ⟨mw_100, List.forall_mem_cons.mpr ⟨mw_101, List.forall_mem_cons.mpr ⟨mw_102, List.forall_mem_cons.mpr ⟨mw_103, List.forall_mem_cons.mpr ⟨mw_104, List.forall_mem_cons.mpr ⟨mw_105, List.forall_mem_cons.mpr ⟨mw_106, List.forall_mem_cons.mpr ⟨mw_107, List.forall_mem_cons.mpr ⟨mw_108, List.forall_mem_cons.mpr ⟨mw_109, List.forall_mem_cons.mpr ⟨mw_110, List.forall_mem_cons.mpr ⟨mw_111, List.forall_mem_cons.mpr ⟨mw_112, List.forall_mem_cons.mpr ⟨mw_113, List.forall_mem_cons.mpr ⟨mw_114, List.forall_mem_cons.mpr ⟨mw_115, List.forall_mem_cons.mpr ⟨mw_116, List.forall_mem_cons.mpr ⟨mw_117, List.forall_mem_cons.mpr ⟨mw_118, List.forall_mem_cons.mpr ⟨mw_119, List.forall_mem_cons.mpr ⟨mw_120, List.forall_mem_cons.mpr ⟨mw_121, List.forall_mem_cons.mpr ⟨mw_122, List.forall_mem_cons.mpr ⟨mw_123, List.forall_mem_cons.mpr ⟨mw_124, List.forall_mem_cons.mpr ⟨mw_125, List.forall_mem_cons.mpr ⟨mw_126, List.forall_mem_cons.mpr ⟨mw_127, List.forall_mem_cons.mpr ⟨mw_128, List.forall_mem_cons.mpr ⟨mw_129, List.forall_mem_cons.mpr ⟨mw_130, List.forall_mem_cons.mpr ⟨mw_131, List.forall_mem_cons.mpr ⟨mw_132, List.forall_mem_cons.mpr ⟨mw_133, List.forall_mem_cons.mpr ⟨mw_134, List.forall_mem_cons.mpr ⟨mw_135, List.forall_mem_cons.mpr ⟨mw_136, List.forall_mem_cons.mpr ⟨mw_137, List.forall_mem_cons.mpr ⟨mw_138, List.forall_mem_cons.mpr ⟨mw_139, List.forall_mem_cons.mpr ⟨mw_140, List.forall_mem_cons.mpr ⟨mw_141, List.forall_mem_cons.mpr ⟨mw_142, List.forall_mem_cons.mpr ⟨mw_143, List.forall_mem_cons.mpr ⟨mw_144, List.forall_mem_cons.mpr ⟨mw_145, List.forall_mem_cons.mpr ⟨mw_146, List.forall_mem_cons.mpr ⟨mw_147, List.forall_mem_cons.mpr ⟨mw_148, List.forall_mem_cons.mpr ⟨mw_149, List.forall_mem_cons.mpr ⟨mw_150, List.forall_mem_cons.mpr ⟨mw_151, List.forall_mem_cons.mpr ⟨mw_152, List.forall_mem_cons.mpr ⟨mw_153, List.forall_mem_cons.mpr ⟨mw_154, List.forall_mem_cons.mpr ⟨mw_155, List.forall_mem_cons.mpr ⟨mw_156, List.forall_mem_cons.mpr ⟨mw_157, List.forall_mem_cons.mpr ⟨mw_158, List.forall_mem_cons.mpr ⟨mw_159, List.forall_mem_cons.mpr ⟨mw_160, List.forall_mem_cons.mpr ⟨mw_161, List.forall_mem_cons.mpr ⟨mw_162, List.forall_mem_cons.mpr ⟨mw_163, List.forall_mem_cons.mpr ⟨mw_164, List.forall_mem_cons.mpr ⟨mw_165, List.forall_mem_cons.mpr ⟨mw_166, List.forall_mem_cons.mpr ⟨mw_167, List.forall_mem_cons.mpr ⟨mw_168, List.forall_mem_cons.mpr ⟨mw_169, List.forall_mem_cons.mpr ⟨mw_170, List.forall_mem_cons.mpr ⟨mw_171, List.forall_mem_cons.mpr ⟨mw_172, List.forall_mem_cons.mpr ⟨mw_173, List.forall_mem_cons.mpr ⟨mw_174, List.forall_mem_cons.mpr ⟨mw_175, List.forall_mem_cons.mpr ⟨mw_176, List.forall_mem_cons.mpr ⟨mw_177, List.forall_mem_cons.mpr ⟨mw_178, List.forall_mem_cons.mpr ⟨mw_179, List.forall_mem_cons.mpr ⟨mw_180, List.forall_mem_cons.mpr ⟨mw_181, List.forall_mem_cons.mpr ⟨mw_182, List.forall_mem_cons.mpr ⟨mw_183, List.forall_mem_cons.mpr ⟨mw_184, List.forall_mem_cons.mpr ⟨mw_185, List.forall_mem_cons.mpr ⟨mw_186, List.forall_mem_cons.mpr ⟨mw_187, List.forall_mem_cons.mpr ⟨mw_188, List.forall_mem_cons.mpr ⟨mw_189, List.forall_mem_cons.mpr ⟨mw_190, List.forall_mem_cons.mpr ⟨mw_191, List.forall_mem_cons.mpr ⟨mw_192, List.forall_mem_cons.mpr ⟨mw_193, List.forall_mem_cons.mpr ⟨mw_194, List.forall_mem_cons.mpr ⟨mw_195, List.forall_mem_cons.mpr ⟨mw_196, List.forall_mem_cons.mpr ⟨mw_197, List.forall_mem_cons.mpr ⟨mw_198, List.forall_mem_cons.mpr ⟨mw_199, List.forall_mem_cons.mpr ⟨mw_200, List.forall_mem_cons.mpr ⟨mw_201, List.forall_mem_cons.mpr ⟨mw_202, List.forall_mem_cons.mpr ⟨mw_203, List.forall_mem_cons.mpr ⟨mw_204, List.forall_mem_cons.mpr ⟨mw_205, List.forall_mem_cons.mpr ⟨mw_206, List.forall_mem_cons.mpr ⟨mw_207, List.forall_mem_cons.mpr ⟨mw_208, List.forall_mem_cons.mpr ⟨mw_209, List.forall_mem_cons.mpr ⟨mw_210, List.forall_mem_cons.mpr ⟨mw_211, List.forall_mem_cons.mpr ⟨mw_212, List.forall_mem_cons.mpr ⟨mw_213, List.forall_mem_cons.mpr ⟨mw_214, List.forall_mem_cons.mpr ⟨mw_215, List.forall_mem_cons.mpr ⟨mw_216, List.forall_mem_cons.mpr ⟨mw_217, List.forall_mem_cons.mpr ⟨mw_218, List.forall_mem_cons.mpr ⟨mw_219, List.forall_mem_cons.mpr ⟨mw_220, List.forall_mem_cons.mpr ⟨mw_221, List.forall_mem_cons.mpr ⟨mw_222, List.forall_mem_cons.mpr ⟨mw_223, List.forall_mem_cons.mpr ⟨mw_224, List.forall_mem_cons.mpr ⟨mw_225, List.forall_mem_cons.mpr ⟨mw_226, List.forall_mem_cons.mpr ⟨mw_227, List.forall_mem_cons.mpr ⟨mw_228, List.forall_mem_cons.mpr ⟨mw_229, List.forall_mem_cons.mpr ⟨mw_230, List.forall_mem_cons.mpr ⟨mw_231, List.forall_mem_cons.mpr ⟨mw_232, List.forall_mem_cons.mpr ⟨mw_233, List.forall_mem_cons.mpr ⟨mw_234, List.forall_mem_cons.mpr ⟨mw_235, List.forall_mem_cons.mpr ⟨mw_236, List.forall_mem_cons.mpr ⟨mw_237, List.forall_mem_cons.mpr ⟨mw_238, List.forall_mem_cons.mpr ⟨mw_239, List.forall_mem_cons.mpr ⟨mw_240, List.forall_mem_cons.mpr ⟨mw_241, List.forall_mem_cons.mpr ⟨mw_242, List.forall_mem_cons.mpr ⟨mw_243, List.forall_mem_cons.mpr ⟨mw_244, List.forall_mem_cons.mpr ⟨mw_245, List.forall_mem_cons.mpr ⟨mw_246, List.forall_mem_cons.mpr ⟨mw_247, List.forall_mem_cons.mpr ⟨mw_248, List.forall_mem_cons.mpr ⟨mw_249, List.forall_mem_cons.mpr ⟨mw_250, List.forall_mem_cons.mpr ⟨mw_251, List.forall_mem_cons.mpr ⟨mw_252, List.forall_mem_cons.mpr ⟨mw_253, List.forall_mem_cons.mpr ⟨mw_254, List.forall_mem_cons.mpr ⟨mw_255, List.forall_mem_cons.mpr ⟨mw_256, List.forall_mem_cons.mpr ⟨mw_257, List.forall_mem_cons.mpr ⟨mw_258, List.forall_mem_cons.mpr ⟨mw_259, List.forall_mem_cons.mpr ⟨mw_260, List.forall_mem_cons.mpr ⟨mw_261, List.forall_mem_cons.mpr ⟨mw_262, List.forall_mem_cons.mpr ⟨mw_263, List.forall_mem_cons.mpr ⟨mw_264, List.forall_mem_cons.mpr ⟨mw_265, List.forall_mem_cons.mpr ⟨mw_266, List.forall_mem_cons.mpr ⟨mw_267, List.forall_mem_cons.mpr ⟨mw_268, List.forall_mem_cons.mpr ⟨mw_269, List.forall_mem_cons.mpr ⟨mw_270, List.forall_mem_cons.mpr ⟨mw_271, List.forall_mem_cons.mpr ⟨mw_272, List.forall_mem_cons.mpr ⟨mw_273, List.forall_mem_cons.mpr ⟨mw_274, List.forall_mem_cons.mpr ⟨mw_275, List.forall_mem_cons.mpr ⟨mw_276, List.forall_mem_cons.mpr ⟨mw_277, List.forall_mem_cons.mpr ⟨mw_278, List.forall_mem_cons.mpr ⟨mw_279, List.forall_mem_cons.mpr ⟨mw_280, List.forall_mem_cons.mpr ⟨mw_281, List.forall_mem_cons.mpr ⟨mw_282, List.forall_mem_cons.mpr ⟨mw_283, List.forall_mem_cons.mpr ⟨mw_284, List.forall_mem_cons.mpr ⟨mw_285, List.forall_mem_cons.mpr ⟨mw_286, List.forall_mem_cons.mpr ⟨mw_287, List.forall_mem_cons.mpr ⟨mw_288, List.forall_mem_cons.mpr ⟨mw_289, List.forall_mem_cons.mpr ⟨mw_290, List.forall_mem_cons.mpr ⟨mw_291, List.forall_mem_cons.mpr ⟨mw_292, List.forall_mem_cons.mpr ⟨mw_293, fun _ h => absurd h List.not_mem_nil⟩⟩⟩⟩⟩⟩⟩⟩⟩⟩⟩⟩⟩⟩⟩⟩⟩⟩⟩⟩⟩⟩⟩⟩⟩⟩⟩⟩⟩⟩⟩⟩⟩⟩⟩⟩⟩⟩⟩⟩⟩⟩⟩⟩⟩⟩⟩⟩⟩⟩⟩⟩⟩⟩⟩⟩⟩⟩⟩⟩⟩⟩⟩⟩⟩⟩⟩⟩⟩⟩⟩⟩⟩⟩⟩⟩⟩⟩⟩⟩⟩⟩⟩⟩⟩⟩⟩⟩⟩⟩⟩⟩⟩⟩⟩⟩⟩⟩⟩⟩⟩⟩⟩⟩⟩⟩⟩⟩⟩⟩⟩⟩⟩⟩⟩⟩⟩⟩⟩⟩⟩⟩⟩⟩⟩⟩⟩⟩⟩⟩⟩⟩⟩⟩⟩⟩⟩⟩⟩⟩⟩⟩⟩⟩⟩⟩⟩⟩⟩⟩⟩⟩⟩⟩⟩⟩⟩⟩⟩⟩⟩⟩⟩⟩⟩⟩⟩⟩⟩⟩⟩⟩⟩⟩⟩⟩⟩⟩⟩⟩⟩⟩⟩⟩⟩⟩⟩⟩⟩⟩⟩⟩⟩⟩⟩⟩⟩⟩⟩⟩⟩⟩⟩⟩⟩⟩⟩⟩⟩⟩⟩⟩⟩⟩⟩⟩⟩⟩⟩⟩⟩⟩⟩⟩⟩⟩⟩⟩⟩⟩⟩⟩⟩⟩⟩⟩⟩⟩⟩⟩⟩⟩⟩⟩⟩⟩⟩⟩⟩⟩⟩⟩⟩⟩⟩⟩⟩⟩⟩⟩⟩⟩⟩⟩⟩⟩⟩⟩⟩⟩⟩⟩⟩⟩⟩⟩⟩⟩⟩⟩⟩⟩⟩⟩⟩⟩⟩⟩⟩⟩⟩⟩⟩
theorem mz_nm : mz.zipIdx.all (fun q => q.1.2.1 == cz_y q.2) = true := by decide +kernel
theorem mz_st : mz.all (fun mi => decide (mi.2.2.2.1 ≤ 41) && (mi.2.1.name != "<init>" || mi.2.2.2.2.1 == none) && (cz_own mi.1 == mi.2.1.cls) && plainName mi.2.1.cls) = true := by decide +kernel
set_option maxRecDepth 100000 in
theorem mz_ck : mz.all pz_chm = true := pz_al ck_0 (pz_al ck_1 (pz_al ck_2 (pz_al ck_3 (pz_al ck_4 (pz_al ck_5 (pz_al ck_6 (pz_al ck_7 (pz_al ck_8 (pz_al ck_9 (pz_al ck_10 (pz_al ck_11 (pz_al ck_12 (pz_al ck_13 (pz_al ck_14 (pz_al ck_15 (pz_al ck_16 (pz_al ck_17 (pz_al ck_18 (pz_al ck_19 (pz_al ck_20 (pz_al ck_21 (pz_al ck_22 (pz_al ck_23 (pz_al ck_24 (pz_al ck_25 (pz_al ck_26 (pz_al ck_27 (pz_al ck_28 (pz_al ck_29 (pz_al ck_30 (pz_al ck_31 (pz_al ck_32 (pz_al ck_33 (pz_al ck_34 (pz_al ck_35 (pz_al ck_36 (pz_al ck_37 (pz_al ck_38 (pz_al ck_39 (pz_al ck_40 (pz_al ck_41 (pz_al ck_42 (pz_al ck_43 (pz_al ck_44 (pz_al ck_45 (pz_al ck_46 (pz_al ck_47 (pz_al ck_48 (pz_al ck_49 (pz_al ck_50 (pz_al ck_51 (pz_al ck_52 (pz_al ck_53 (pz_al ck_54 (pz_al ck_55 (pz_al ck_56 (pz_al ck_57 (pz_al ck_58 (pz_al ck_59 (pz_al ck_60 (pz_al ck_61 (pz_al ck_62 (pz_al ck_63 (pz_al ck_64 (pz_al ck_65 (pz_al ck_66 (pz_al ck_67 (pz_al ck_68 (pz_al ck_69 (pz_al ck_70 (pz_al ck_71 (pz_al ck_72 (pz_al ck_73 (pz_al ck_74 (pz_al ck_75 (pz_al ck_76 (pz_al ck_77 (pz_al ck_78 (pz_al ck_79 (pz_al ck_80 (pz_al ck_81 (pz_al ck_82 (pz_al ck_83 (pz_al ck_84 (pz_al ck_85 (pz_al ck_86 (pz_al ck_87 (pz_al ck_88 (pz_al ck_89 (pz_al ck_90 (pz_al ck_91 (pz_al ck_92 (pz_al ck_93 (pz_al ck_94 (pz_al ck_95 (pz_al ck_96 (pz_al ck_97 (pz_al ck_98 (pz_al ck_99 (pz_al ck_100 (pz_al ck_101 (pz_al ck_102 (pz_al ck_103 (pz_al ck_104 (pz_al ck_105 (pz_al ck_106 (pz_al ck_107 (pz_al ck_108 (pz_al ck_109 (pz_al ck_110 (pz_al ck_111 (pz_al ck_112 (pz_al ck_113 (pz_al ck_114 (pz_al ck_115 (pz_al ck_116 (pz_al ck_117 (pz_al ck_118 (pz_al ck_119 (pz_al ck_120 (pz_al ck_121 (pz_al ck_122 (pz_al ck_123 (pz_al ck_124 (pz_al ck_125 (pz_al ck_126 (pz_al ck_127 (pz_al ck_128 (pz_al ck_129 (pz_al ck_130 (pz_al ck_131 (pz_al ck_132 (pz_al ck_133 (pz_al ck_134 (pz_al ck_135 (pz_al ck_136 (pz_al ck_137 (pz_al ck_138 (pz_al ck_139 (pz_al ck_140 (pz_al ck_141 (pz_al ck_142 (pz_al ck_143 (pz_al ck_144 (pz_al ck_145 (pz_al ck_146 (pz_al ck_147 (pz_al ck_148 (pz_al ck_149 (pz_al ck_150 (pz_al ck_151 (pz_al ck_152 (pz_al ck_153 (pz_al ck_154 (pz_al ck_155 (pz_al ck_156 (pz_al ck_157 (pz_al ck_158 (pz_al ck_159 (pz_al ck_160 (pz_al ck_161 (pz_al ck_162 (pz_al ck_163 (pz_al ck_164 (pz_al ck_165 (pz_al ck_166 (pz_al ck_167 (pz_al ck_168 (pz_al ck_169 (pz_al ck_170 (pz_al ck_171 (pz_al ck_172 (pz_al ck_173 (pz_al ck_174 (pz_al ck_175 (pz_al ck_176 (pz_al ck_177 (pz_al ck_178 (pz_al ck_179 (pz_al ck_180 (pz_al ck_181 (pz_al ck_182 (pz_al ck_183 (pz_al ck_184 (pz_al ck_185 (pz_al ck_186 (pz_al ck_187 (pz_al ck_188 (pz_al ck_189 (pz_al ck_190 (pz_al ck_191 (pz_al ck_192 (pz_al ck_193 (pz_al ck_194 (pz_al ck_195 (pz_al ck_196 (pz_al ck_197 (pz_al ck_198 (pz_al ck_199 (pz_al ck_200 (pz_al ck_201 (pz_al ck_202 (pz_al ck_203 (pz_al ck_204 (pz_al ck_205 (pz_al ck_206 (pz_al ck_207 (pz_al ck_208 (pz_al ck_209 (pz_al ck_210 (pz_al ck_211 (pz_al ck_212 (pz_al ck_213 (pz_al ck_214 (pz_al ck_215 (pz_al ck_216 (pz_al ck_217 (pz_al ck_218 (pz_al ck_219 (pz_al ck_220 (pz_al ck_221 (pz_al ck_222 (pz_al ck_223 (pz_al ck_224 (pz_al ck_225 (pz_al ck_226 (pz_al ck_227 (pz_al ck_228 (pz_al ck_229 (pz_al ck_230 (pz_al ck_231 (pz_al ck_232 (pz_al ck_233 (pz_al ck_234 (pz_al ck_235 (pz_al ck_236 (pz_al ck_237 (pz_al ck_238 (pz_al ck_239 (pz_al ck_240 (pz_al ck_241 (pz_al ck_242 (pz_al ck_243 (pz_al ck_244 (pz_al ck_245 (pz_al ck_246 (pz_al ck_247 (pz_al ck_248 (pz_al ck_249 (pz_al ck_250 (pz_al ck_251 (pz_al ck_252 (pz_al ck_253 (pz_al ck_254 (pz_al ck_255 (pz_al ck_256 (pz_al ck_257 (pz_al ck_258 (pz_al ck_259 (pz_al ck_260 (pz_al ck_261 (pz_al ck_262 (pz_al ck_263 (pz_al ck_264 (pz_al ck_265 (pz_al ck_266 (pz_al ck_267 (pz_al ck_268 (pz_al ck_269 (pz_al ck_270 (pz_al ck_271 (pz_al ck_272 (pz_al ck_273 (pz_al ck_274 (pz_al ck_275 (pz_al ck_276 (pz_al ck_277 (pz_al ck_278 (pz_al ck_279 (pz_al ck_280 (pz_al ck_281 (pz_al ck_282 (pz_al ck_283 (pz_al ck_284 (pz_al ck_285 (pz_al ck_286 (pz_al ck_287 (pz_al ck_288 (pz_al ck_289 (pz_al ck_290 (pz_al ck_291 (pz_al ck_292 (pz_al ck_293 (rfl))))))))))))))))))))))))))))))))))))))))))))))))))))))))))))))))))))))))))))))))))))))))))))))))))))))))))))))))))))))))))))))))))))))))))))))))))))))))))))))))))))))))))))))))))))))))))))))))))))))))))))))))))))))))))))))))))))))))))))))))))))))))))))))))))))))))))))))))))))))))))))))))))))))
theorem mz_ok : pz_okt mz := by
  intro i mi hmi hi
  have hm := List.mem_of_getElem? hmi
  have h1 : pz_wd mi ∈ lw_tbl := by
    obtain ⟨j, rfl⟩ : ∃ j, i = j + 1 := ⟨i - 1, by omega⟩
    refine mz_wd mi ?_
    have : mz.tail[j]? = some mi := by rw [List.getElem?_tail]; exact hmi
    exact List.mem_of_getElem? this
  have h2 := List.all_eq_true.mp mz_nm (mi, i) (by
    rw [List.mem_iff_getElem?]
    exact ⟨i, by simp [hmi]⟩)
  have h3 := List.all_eq_true.mp mz_st mi hm
  have h4 := List.all_eq_true.mp mz_ck mi hm
  simp only [beq_iff_eq] at h2
  simp only [Bool.and_eq_true, decide_eq_true_eq, Bool.or_eq_true, bne_iff_ne, beq_iff_eq] at h3
  obtain ⟨⟨⟨g1, g2⟩, g3⟩, g4⟩ := h3
  exact ⟨h2, h1, g1, fun h => g2.elim (fun q => absurd h q) id, g3, g4, h4⟩
