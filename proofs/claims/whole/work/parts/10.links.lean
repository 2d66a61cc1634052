/-! what the pools link, a row each -/
def dl_ok (cc : ByteArray) (l : List (Nat × Jvm.ClassFile.Instr × Nat)) : Bool := l.all (fun e => decide (decode cc e.1 = .ok (e.2.1, e.2.2)))
theorem dl_get {cc : ByteArray} {l : List (Nat × Jvm.ClassFile.Instr × Nat)} (h : dl_ok cc l = true) {k pc : Nat} {i : Jvm.ClassFile.Instr} {n : Nat} (hk : l[k]? = some (pc, i, n)) : decode cc pc = .ok (i, n) := by
  unfold dl_ok at h
  have h1 := List.all_eq_true.mp h (pc, i, n) (List.mem_of_getElem? hk)
  dsimp only at h1
  exact of_decide_eq_true h1
theorem tF_0_10 : tb_fld 0 10 = some (0, 0, 1, true) := by decide +kernel
theorem tF_0_21 : tb_fld 0 21 = some (0, 1, 1, true) := by decide +kernel
theorem tF_0_30 : tb_fld 0 30 = some (0, 2, 1, true) := by decide +kernel
theorem tF_0_34 : tb_fld 0 34 = some (0, 3, 1, true) := by decide +kernel
theorem tF_0_42 : tb_fld 0 42 = some (0, 4, 1, true) := by decide +kernel
theorem tF_0_46 : tb_fld 0 46 = some (0, 5, 1, true) := by decide +kernel
theorem tF_0_85 : tb_fld 0 85 = some (3, 0, 9, true) := by decide +kernel
theorem tF_0_125 : tb_fld 0 125 = some (3, 1, 9, true) := by decide +kernel
theorem tF_0_128 : tb_fld 0 128 = some (3, 2, 9, true) := by decide +kernel
theorem tF_1_11 : tb_fld 1 11 = some (1, 0, 1, false) := by decide +kernel
theorem tF_1_15 : tb_fld 1 15 = some (1, 2, 0, false) := by decide +kernel
theorem tF_1_25 : tb_fld 1 25 = some (1, 1, 1, true) := by decide +kernel
theorem tF_2_11 : tb_fld 2 11 = some (2, 0, 1, true) := by decide +kernel
theorem tF_2_15 : tb_fld 2 15 = some (2, 1, 1, true) := by decide +kernel
theorem tF_2_19 : tb_fld 2 19 = some (2, 2, 0, false) := by decide +kernel
theorem tF_3_14 : tb_fld 3 14 = some (3, 0, 1, true) := by decide +kernel
theorem tF_3_20 : tb_fld 3 20 = some (3, 1, 1, true) := by decide +kernel
theorem tF_3_23 : tb_fld 3 23 = some (3, 2, 1, true) := by decide +kernel
theorem tF_3_26 : tb_fld 3 26 = some (3, 4, 1, true) := by decide +kernel
theorem tF_3_30 : tb_fld 3 30 = some (3, 5, 1, true) := by decide +kernel
theorem tF_3_33 : tb_fld 3 33 = some (3, 6, 0, false) := by decide +kernel
theorem tF_3_37 : tb_fld 3 37 = some (3, 3, 1, true) := by decide +kernel
theorem tF_4_9 : tb_fld 4 9 = some (4, 2, 1, true) := by decide +kernel
theorem tF_4_20 : tb_fld 4 20 = some (4, 3, 1, true) := by decide +kernel
theorem tF_4_24 : tb_fld 4 24 = some (4, 4, 0, false) := by decide +kernel
theorem tF_4_28 : tb_fld 4 28 = some (4, 5, 1, true) := by decide +kernel
theorem tF_4_31 : tb_fld 4 31 = some (4, 6, 0, false) := by decide +kernel
theorem tF_4_34 : tb_fld 4 34 = some (4, 0, 1, true) := by decide +kernel
theorem tF_4_38 : tb_fld 4 38 = some (4, 1, 1, true) := by decide +kernel
theorem tF_5_7 : tb_fld 5 7 = some (5, 1, 1, true) := by decide +kernel
theorem tF_5_13 : tb_fld 5 13 = some (5, 3, 1, true) := by decide +kernel
theorem tF_5_18 : tb_fld 5 18 = some (5, 4, 1, true) := by decide +kernel
theorem tF_5_21 : tb_fld 5 21 = some (5, 5, 1, true) := by decide +kernel
theorem tF_5_24 : tb_fld 5 24 = some (5, 6, 1, true) := by decide +kernel
theorem tF_5_27 : tb_fld 5 27 = some (5, 7, 1, true) := by decide +kernel
theorem tF_5_31 : tb_fld 5 31 = some (5, 8, 1, true) := by decide +kernel
theorem tF_5_34 : tb_fld 5 34 = some (5, 9, 1, true) := by decide +kernel
theorem tF_5_37 : tb_fld 5 37 = some (5, 10, 1, true) := by decide +kernel
theorem tF_5_40 : tb_fld 5 40 = some (5, 13, 1, true) := by decide +kernel
theorem tF_5_45 : tb_fld 5 45 = some (5, 14, 1, true) := by decide +kernel
theorem tF_5_48 : tb_fld 5 48 = some (5, 15, 1, true) := by decide +kernel
theorem tF_5_52 : tb_fld 5 52 = some (5, 17, 1, true) := by decide +kernel
theorem tF_5_55 : tb_fld 5 55 = some (5, 18, 1, true) := by decide +kernel
theorem tF_5_58 : tb_fld 5 58 = some (5, 20, 1, true) := by decide +kernel
theorem tF_5_61 : tb_fld 5 61 = some (5, 22, 1, true) := by decide +kernel
theorem tF_5_64 : tb_fld 5 64 = some (5, 0, 0, false) := by decide +kernel
theorem tF_5_68 : tb_fld 5 68 = some (5, 2, 0, false) := by decide +kernel
theorem tF_5_71 : tb_fld 5 71 = some (5, 12, 2, false) := by decide +kernel
theorem tF_5_75 : tb_fld 5 75 = some (5, 11, 0, false) := by decide +kernel
theorem tF_5_100 : tb_fld 5 100 = some (5, 16, 0, false) := by decide +kernel
theorem tF_5_103 : tb_fld 5 103 = some (5, 19, 0, false) := by decide +kernel
theorem tF_5_112 : tb_fld 5 112 = some (5, 21, 0, false) := by decide +kernel
theorem tM_0_1 : tb_mth 0 1 = some (7, 0, 0, 0) := by decide +kernel
theorem tM_0_9 : tb_mth 0 9 = some (3, 45, 0, 2) := by decide +kernel
theorem tM_0_18 : tb_mth 0 18 = some (2, 55, 1, 3) := by decide +kernel
theorem tM_0_27 : tb_mth 0 27 = some (2, 26, 1, 1) := by decide +kernel
theorem tM_0_39 : tb_mth 0 39 = some (2, 73, 2, 4) := by decide +kernel
theorem tM_0_50 : tb_mth 0 50 = some (0, 46, 1, 2) := by decide +kernel
theorem tM_0_54 : tb_mth 0 54 = some (0, 56, 1, 3) := by decide +kernel
theorem tM_0_57 : tb_mth 0 57 = some (0, 57, 1, 3) := by decide +kernel
theorem tM_0_60 : tb_mth 0 60 = some (0, 60, 1, 3) := by decide +kernel
theorem tM_0_63 : tb_mth 0 63 = some (0, 69, 2, 3) := by decide +kernel
theorem tM_0_67 : tb_mth 0 67 = some (0, 71, 0, 3) := by decide +kernel
theorem tM_0_71 : tb_mth 0 71 = some (0, 50, 2, 2) := by decide +kernel
theorem tM_0_75 : tb_mth 0 75 = some (0, 63, 1, 3) := by decide +kernel
theorem tM_0_79 : tb_mth 0 79 = some (0, 59, 1, 3) := by decide +kernel
theorem tM_0_82 : tb_mth 0 82 = some (0, 9, 1, 0) := by decide +kernel
theorem tM_0_88 : tb_mth 0 88 = some (0, 13, 2, 0) := by decide +kernel
theorem tM_0_92 : tb_mth 0 92 = some (0, 14, 1, 0) := by decide +kernel
theorem tM_0_95 : tb_mth 0 95 = some (0, 28, 0, 1) := by decide +kernel
theorem tM_0_99 : tb_mth 0 99 = some (0, 27, 0, 1) := by decide +kernel
theorem tM_0_102 : tb_mth 0 102 = some (0, 17, 0, 0) := by decide +kernel
theorem tM_0_105 : tb_mth 0 105 = some (0, 30, 1, 1) := by decide +kernel
theorem tM_0_109 : tb_mth 0 109 = some (0, 43, 2, 1) := by decide +kernel
theorem tM_0_113 : tb_mth 0 113 = some (0, 31, 1, 1) := by decide +kernel
theorem tM_0_116 : tb_mth 0 116 = some (0, 15, 0, 0) := by decide +kernel
theorem tM_0_119 : tb_mth 0 119 = some (0, 54, 0, 2) := by decide +kernel
theorem tM_0_122 : tb_mth 0 122 = some (0, 34, 2, 1) := by decide +kernel
theorem tM_0_131 : tb_mth 0 131 = some (0, 35, 6, 1) := by decide +kernel
theorem tM_0_135 : tb_mth 0 135 = some (0, 48, 1, 2) := by decide +kernel
theorem tM_0_138 : tb_mth 0 138 = some (0, 44, 0, 1) := by decide +kernel
theorem tM_0_141 : tb_mth 0 141 = some (0, 40, 0, 1) := by decide +kernel
theorem tM_0_144 : tb_mth 0 144 = some (0, 37, 1, 1) := by decide +kernel
theorem tM_0_147 : tb_mth 0 147 = some (0, 39, 1, 1) := by decide +kernel
theorem tM_0_150 : tb_mth 0 150 = some (0, 12, 2, 0) := by decide +kernel
theorem tM_0_153 : tb_mth 0 153 = some (0, 10, 2, 0) := by decide +kernel
theorem tM_0_156 : tb_mth 0 156 = some (0, 11, 2, 0) := by decide +kernel
theorem tM_0_159 : tb_mth 0 159 = some (0, 79, 3, 4) := by decide +kernel
theorem tM_0_163 : tb_mth 0 163 = some (0, 41, 2, 1) := by decide +kernel
theorem tM_0_167 : tb_mth 0 167 = some (0, 74, 3, 4) := by decide +kernel
theorem tM_0_171 : tb_mth 0 171 = some (0, 75, 3, 4) := by decide +kernel
theorem tM_0_174 : tb_mth 0 174 = some (0, 77, 1, 4) := by decide +kernel
theorem tM_0_177 : tb_mth 0 177 = some (0, 78, 2, 4) := by decide +kernel
theorem tM_1_3 : tb_mth 1 3 = some (7, 0, 0, 0) := by decide +kernel
theorem tM_1_19 : tb_mth 1 19 = some (4, 0, 2, 0) := by decide +kernel
theorem tM_1_28 : tb_mth 1 28 = some (0, 31, 1, 1) := by decide +kernel
theorem tM_1_32 : tb_mth 1 32 = some (0, 36, 3, 1) := by decide +kernel
theorem tM_1_36 : tb_mth 1 36 = some (6, 0, 5, 0) := by decide +kernel
theorem tM_1_42 : tb_mth 1 42 = some (0, 27, 0, 1) := by decide +kernel
theorem tM_1_46 : tb_mth 1 46 = some (0, 33, 1, 1) := by decide +kernel
theorem tM_1_50 : tb_mth 1 50 = some (0, 42, 3, 1) := by decide +kernel
theorem tM_1_54 : tb_mth 1 54 = some (0, 30, 1, 1) := by decide +kernel
theorem tM_1_58 : tb_mth 1 58 = some (1, 116, 2, 0) := by decide +kernel
theorem tM_2_5 : tb_mth 2 5 = some (7, 0, 0, 0) := by decide +kernel
theorem tM_2_23 : tb_mth 2 23 = some (0, 49, 1, 2) := by decide +kernel
theorem tM_2_27 : tb_mth 2 27 = some (0, 51, 2, 2) := by decide +kernel
theorem tM_2_31 : tb_mth 2 31 = some (0, 52, 2, 2) := by decide +kernel
theorem tM_2_34 : tb_mth 2 34 = some (1, 53, 2, 0) := by decide +kernel
theorem tM_2_38 : tb_mth 2 38 = some (5, 0, 2, 0) := by decide +kernel
theorem tM_2_43 : tb_mth 2 43 = some (4, 0, 2, 0) := by decide +kernel
theorem tM_3_3 : tb_mth 3 3 = some (7, 0, 0, 0) := by decide +kernel
theorem tM_3_11 : tb_mth 3 11 = some (2, 26, 1, 1) := by decide +kernel
theorem tM_3_41 : tb_mth 3 41 = some (1, 115, 2, 0) := by decide +kernel
theorem tM_3_47 : tb_mth 3 47 = some (0, 31, 1, 1) := by decide +kernel
theorem tM_3_51 : tb_mth 3 51 = some (0, 59, 1, 3) := by decide +kernel
theorem tM_3_55 : tb_mth 3 55 = some (0, 63, 1, 3) := by decide +kernel
theorem tM_3_58 : tb_mth 3 58 = some (0, 27, 0, 1) := by decide +kernel
theorem tM_3_62 : tb_mth 3 62 = some (0, 28, 0, 1) := by decide +kernel
theorem tM_3_66 : tb_mth 3 66 = some (0, 29, 0, 1) := by decide +kernel
theorem tM_3_69 : tb_mth 3 69 = some (0, 47, 1, 2) := by decide +kernel
theorem tM_3_72 : tb_mth 3 72 = some (0, 58, 1, 3) := by decide +kernel
theorem tM_3_75 : tb_mth 3 75 = some (0, 30, 1, 1) := by decide +kernel
theorem tM_3_78 : tb_mth 3 78 = some (0, 32, 1, 1) := by decide +kernel
theorem tM_3_81 : tb_mth 3 81 = some (0, 48, 1, 2) := by decide +kernel
theorem tM_3_84 : tb_mth 3 84 = some (0, 49, 1, 2) := by decide +kernel
theorem tM_3_87 : tb_mth 3 87 = some (0, 61, 0, 3) := by decide +kernel
theorem tM_3_90 : tb_mth 3 90 = some (0, 62, 1, 3) := by decide +kernel
theorem tM_3_93 : tb_mth 3 93 = some (0, 64, 1, 3) := by decide +kernel
theorem tM_3_96 : tb_mth 3 96 = some (0, 34, 2, 1) := by decide +kernel
theorem tM_3_100 : tb_mth 3 100 = some (0, 68, 1, 3) := by decide +kernel
theorem tM_3_103 : tb_mth 3 103 = some (0, 65, 1, 3) := by decide +kernel
theorem tM_3_106 : tb_mth 3 106 = some (0, 66, 1, 3) := by decide +kernel
theorem tM_3_109 : tb_mth 3 109 = some (0, 67, 1, 3) := by decide +kernel
theorem tM_3_112 : tb_mth 3 112 = some (0, 70, 2, 3) := by decide +kernel
theorem tM_3_116 : tb_mth 3 116 = some (0, 72, 0, 3) := by decide +kernel
theorem tM_4_3 : tb_mth 4 3 = some (7, 0, 0, 0) := by decide +kernel
theorem tM_4_17 : tb_mth 4 17 = some (2, 26, 1, 1) := by decide +kernel
theorem tM_4_41 : tb_mth 4 41 = some (0, 49, 1, 2) := by decide +kernel
theorem tM_4_47 : tb_mth 4 47 = some (0, 34, 2, 1) := by decide +kernel
theorem tM_4_51 : tb_mth 4 51 = some (0, 30, 1, 1) := by decide +kernel
theorem tM_4_55 : tb_mth 4 55 = some (0, 76, 1, 4) := by decide +kernel
theorem tM_4_58 : tb_mth 4 58 = some (0, 35, 6, 1) := by decide +kernel
theorem tM_4_62 : tb_mth 4 62 = some (4, 0, 2, 0) := by decide +kernel
theorem tM_4_67 : tb_mth 4 67 = some (0, 38, 5, 1) := by decide +kernel
theorem tM_4_71 : tb_mth 4 71 = some (0, 37, 1, 1) := by decide +kernel
theorem tM_4_74 : tb_mth 4 74 = some (0, 28, 0, 1) := by decide +kernel
theorem tM_4_78 : tb_mth 4 78 = some (0, 29, 0, 1) := by decide +kernel
theorem tM_4_81 : tb_mth 4 81 = some (0, 32, 1, 1) := by decide +kernel
theorem tM_4_84 : tb_mth 4 84 = some (0, 52, 2, 2) := by decide +kernel
theorem tM_5_1 : tb_mth 5 1 = some (7, 0, 0, 0) := by decide +kernel
theorem tM_5_78 : tb_mth 5 78 = some (0, 84, 0, 5) := by decide +kernel
theorem tM_5_82 : tb_mth 5 82 = some (0, 87, 1, 5) := by decide +kernel
theorem tM_5_86 : tb_mth 5 86 = some (0, 86, 0, 5) := by decide +kernel
theorem tM_5_90 : tb_mth 5 90 = some (0, 88, 1, 5) := by decide +kernel
theorem tM_5_93 : tb_mth 5 93 = some (0, 90, 1, 5) := by decide +kernel
theorem tM_5_96 : tb_mth 5 96 = some (0, 93, 2, 5) := by decide +kernel
theorem tM_5_106 : tb_mth 5 106 = some (0, 98, 0, 5) := by decide +kernel
theorem tM_5_109 : tb_mth 5 109 = some (0, 104, 0, 5) := by decide +kernel
theorem tM_5_116 : tb_mth 5 116 = some (0, 97, 1, 5) := by decide +kernel
theorem tM_5_120 : tb_mth 5 120 = some (0, 99, 2, 5) := by decide +kernel
theorem tM_5_124 : tb_mth 5 124 = some (0, 100, 2, 5) := by decide +kernel
theorem tM_5_127 : tb_mth 5 127 = some (0, 101, 2, 5) := by decide +kernel
theorem tM_5_130 : tb_mth 5 130 = some (0, 102, 1, 5) := by decide +kernel
theorem tM_5_133 : tb_mth 5 133 = some (0, 103, 0, 5) := by decide +kernel
theorem tM_5_136 : tb_mth 5 136 = some (0, 95, 1, 5) := by decide +kernel
theorem tM_5_139 : tb_mth 5 139 = some (0, 96, 1, 5) := by decide +kernel
theorem tM_5_142 : tb_mth 5 142 = some (0, 110, 1, 5) := by decide +kernel
theorem tM_6_9 : tb_mth 6 9 = some (2, 0, 0, 0) := by decide +kernel
theorem tM_6_12 : tb_mth 6 12 = some (2, 80, 0, 5) := by decide +kernel
theorem tM_6_13 : tb_mth 6 13 = some (0, 1, 1, 0) := by decide +kernel
theorem tM_6_17 : tb_mth 6 17 = some (0, 81, 1, 5) := by decide +kernel
theorem tM_6_18 : tb_mth 6 18 = some (0, 2, 1, 0) := by decide +kernel
theorem tM_6_21 : tb_mth 6 21 = some (0, 82, 1, 5) := by decide +kernel
theorem tM_6_22 : tb_mth 6 22 = some (0, 3, 1, 0) := by decide +kernel
theorem tM_6_25 : tb_mth 6 25 = some (0, 83, 1, 5) := by decide +kernel
theorem tM_6_26 : tb_mth 6 26 = some (0, 4, 1, 0) := by decide +kernel
theorem tM_6_29 : tb_mth 6 29 = some (0, 85, 1, 5) := by decide +kernel
theorem tM_6_30 : tb_mth 6 30 = some (0, 5, 2, 0) := by decide +kernel
theorem tM_6_34 : tb_mth 6 34 = some (0, 89, 2, 5) := by decide +kernel
theorem tM_6_35 : tb_mth 6 35 = some (0, 6, 0, 0) := by decide +kernel
theorem tM_6_39 : tb_mth 6 39 = some (0, 91, 0, 5) := by decide +kernel
theorem tM_6_40 : tb_mth 6 40 = some (0, 7, 2, 0) := by decide +kernel
theorem tM_6_43 : tb_mth 6 43 = some (0, 92, 2, 5) := by decide +kernel
theorem tM_6_44 : tb_mth 6 44 = some (0, 8, 1, 0) := by decide +kernel
theorem tM_6_47 : tb_mth 6 47 = some (0, 94, 1, 5) := by decide +kernel
theorem tM_6_48 : tb_mth 6 48 = some (0, 16, 0, 0) := by decide +kernel
theorem tM_6_51 : tb_mth 6 51 = some (0, 105, 0, 5) := by decide +kernel
theorem tM_6_52 : tb_mth 6 52 = some (0, 18, 1, 0) := by decide +kernel
theorem tM_6_55 : tb_mth 6 55 = some (0, 106, 1, 5) := by decide +kernel
theorem tM_6_56 : tb_mth 6 56 = some (0, 19, 0, 0) := by decide +kernel
theorem tM_6_59 : tb_mth 6 59 = some (0, 107, 0, 5) := by decide +kernel
theorem tM_6_60 : tb_mth 6 60 = some (0, 20, 1, 0) := by decide +kernel
theorem tM_6_63 : tb_mth 6 63 = some (0, 108, 1, 5) := by decide +kernel
theorem tM_6_64 : tb_mth 6 64 = some (0, 21, 1, 0) := by decide +kernel
theorem tM_6_67 : tb_mth 6 67 = some (0, 109, 1, 5) := by decide +kernel
theorem tM_6_68 : tb_mth 6 68 = some (0, 22, 2, 0) := by decide +kernel
theorem tM_6_71 : tb_mth 6 71 = some (0, 111, 2, 5) := by decide +kernel
theorem tM_6_72 : tb_mth 6 72 = some (0, 23, 2, 0) := by decide +kernel
theorem tM_6_75 : tb_mth 6 75 = some (0, 112, 2, 5) := by decide +kernel
theorem tM_6_76 : tb_mth 6 76 = some (0, 24, 2, 0) := by decide +kernel
theorem tM_6_79 : tb_mth 6 79 = some (0, 113, 2, 5) := by decide +kernel
theorem tM_6_80 : tb_mth 6 80 = some (0, 25, 0, 0) := by decide +kernel
theorem tM_6_83 : tb_mth 6 83 = some (0, 114, 0, 5) := by decide +kernel
theorem tM_7_150 : tb_mth 7 150 = some (6, 0, 5, 0) := by decide +kernel
theorem tM_7_304 : tb_mth 7 304 = some (5, 0, 2, 0) := by decide +kernel
abbrev mP_init : Nat := 0
abbrev mP_symbol : Nat := 1
abbrev mP_begin : Nat := 2
abbrev mP_put : Nat := 3
abbrev mP_need : Nat := 4
abbrev mP_pair : Nat := 5
abbrev mP_close : Nat := 6
abbrev mP_apart : Nat := 7
abbrev mP_step : Nat := 8
abbrev mP_useAssertion : Nat := 9
abbrev mP_allFit : Nat := 10
abbrev mP_allApart : Nat := 11
abbrev mP_hasRoom : Nat := 12
abbrev mP_putCopy : Nat := 13
abbrev mP_settle : Nat := 14
abbrev mP_dropAll : Nat := 15
abbrev mP_save : Nat := 16
abbrev mP_symbolsInAll : Nat := 17
abbrev mP_again : Nat := 18
abbrev mP_clear : Nat := 19
abbrev mP_count : Nat := 20
abbrev mP_length : Nat := 21
abbrev mP_at : Nat := 22
abbrev mP_told : Nat := 23
abbrev mP_is : Nat := 24
abbrev mP_check : Nat := 25
abbrev mR_init : Nat := 26
abbrev mR_isFull : Nat := 27
abbrev mR_rows : Nat := 28
abbrev mR_addEmpty : Nat := 29
abbrev mR_size : Nat := 30
abbrev mR_has : Nat := 31
abbrev mR_append : Nat := 32
abbrev mR_makeRoom : Nat := 33
abbrev mR_get : Nat := 34
abbrev mR_isSame : Nat := 35
abbrev mR_hasPart : Nat := 36
abbrev mR_dropTo : Nat := 37
abbrev mR_copyPart : Nat := 38
abbrev mR_startOf : Nat := 39
abbrev mR_total : Nat := 40
abbrev mR_addFrom : Nat := 41
abbrev mR_addPart : Nat := 42
abbrev mR_addCopy : Nat := 43
abbrev mR_isGapless : Nat := 44
abbrev mY_init : Nat := 45
abbrev mY_add : Nat := 46
abbrev mY_has : Nat := 47
abbrev mY_isConstant : Nat := 48
abbrev mY_isVariable : Nat := 49
abbrev mY_part : Nat := 50
abbrev mY_areTwoVariables : Nat := 51
abbrev mY_areParted : Nat := 52
abbrev mY_bitOf : Nat := 53
abbrev mY_known : Nat := 54
abbrev mT_init : Nat := 55
abbrev mT_start : Nat := 56
abbrev mT_addSymbol : Nat := 57
abbrev mT_mayStandNext : Nat := 58
abbrev mT_kindOf : Nat := 59
abbrev mT_addNeed : Nat := 60
abbrev mT_isAssertionOpen : Nat := 61
abbrev mT_isClosedHypothesis : Nat := 62
abbrev mT_isClosed : Nat := 63
abbrev mT_mayBeNeeded : Nat := 64
abbrev mT_hasFloating : Nat := 65
abbrev mT_isNeeded : Nat := 66
abbrev mT_allHaveFloating : Nat := 67
abbrev mT_setFloating : Nat := 68
abbrev mT_addPair : Nat := 69
abbrev mT_isPair : Nat := 70
abbrev mT_finish : Nat := 71
abbrev mT_isWhole : Nat := 72
abbrev mB_init : Nat := 73
abbrev mB_learn : Nat := 74
abbrev mB_makes : Nat := 75
abbrev mB_rowFor : Nat := 76
abbrev mB_listVariables : Nat := 77
abbrev mB_areApart : Nat := 78
abbrev mB_write : Nat := 79
abbrev mM_init : Nat := 80
abbrev mM_symbol : Nat := 81
abbrev mM_begin : Nat := 82
abbrev mM_put : Nat := 83
abbrev mM_last : Nat := 84
abbrev mM_need : Nat := 85
abbrev mM_isOpenAssertion : Nat := 86
abbrev mM_hasFloating : Nat := 87
abbrev mM_hasAll : Nat := 88
abbrev mM_pair : Nat := 89
abbrev mM_isVariable : Nat := 90
abbrev mM_close : Nat := 91
abbrev mM_apart : Nat := 92
abbrev mM_areApart : Nat := 93
abbrev mM_step : Nat := 94
abbrev mM_isClosed : Nat := 95
abbrev mM_assertion : Nat := 96
abbrev mM_fail : Nat := 97
abbrev mM_empty : Nat := 98
abbrev mM_symbolOf : Nat := 99
abbrev mM_isReplaced : Nat := 100
abbrev mM_doStayApart : Nat := 101
abbrev mM_make : Nat := 102
abbrev mM_pushMade : Nat := 103
abbrev mM_allSymbols : Nat := 104
abbrev mM_save : Nat := 105
abbrev mM_again : Nat := 106
abbrev mM_clear : Nat := 107
abbrev mM_count : Nat := 108
abbrev mM_length : Nat := 109
abbrev mM_isRow : Nat := 110
abbrev mM_at : Nat := 111
abbrev mM_told : Nat := 112
abbrev mM_is : Nat := 113
abbrev mM_check : Nat := 114
abbrev mA_fill : Nat := 115
abbrev mA_copyOf : Nat := 116
