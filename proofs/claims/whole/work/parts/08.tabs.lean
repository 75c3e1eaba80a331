def w_nst : Cond → Bool
  | .fieldLinkNest _ _ _ _ _ _ => true
  | .methodLinkNest _ _ _ _ => true
  | _ => false
def w_gd (w : Cond) : Bool := goodWord w || w_nst w
/-- the words that every method here rests on -/
def w_TB : List Cond := lw_tbl.filter w_gd
theorem w_m0 (i : Nat) {w : Cond} (h : (k2_sels lw_privs)[i]? = some w) (g : w_gd w = true) : w ∈ w_TB := List.mem_filter.mpr ⟨List.mem_append_left _ (List.mem_of_getElem? h), g⟩
theorem w_m1 (i : Nat) {w : Cond} (h : tables_1_1[i]? = some w) (g : w_gd w = true) : w ∈ w_TB := List.mem_filter.mpr ⟨List.mem_append_right _ (List.mem_append_left _ (List.mem_of_getElem? h)), g⟩
theorem w_m2 (i : Nat) {w : Cond} (h : tables_1_2[i]? = some w) (g : w_gd w = true) : w ∈ w_TB := List.mem_filter.mpr ⟨List.mem_append_right _ (List.mem_append_right _ (List.mem_append_left _ (List.mem_of_getElem? h))), g⟩
theorem w_m3 (i : Nat) {w : Cond} (h : tables_1_3[i]? = some w) (g : w_gd w = true) : w ∈ w_TB := List.mem_filter.mpr ⟨List.mem_append_right _ (List.mem_append_right _ (List.mem_append_right _ (List.mem_append_left _ (List.mem_of_getElem? h)))), g⟩
theorem w_m4 (i : Nat) {w : Cond} (h : tables_1_4[i]? = some w) (g : w_gd w = true) : w ∈ w_TB := List.mem_filter.mpr ⟨List.mem_append_right _ (List.mem_append_right _ (List.mem_append_right _ (List.mem_append_right _ (List.mem_append_left _ (List.mem_of_getElem? h))))), g⟩
theorem w_m5 (i : Nat) {w : Cond} (h : tables_1_5[i]? = some w) (g : w_gd w = true) : w ∈ w_TB := List.mem_filter.mpr ⟨List.mem_append_right _ (List.mem_append_right _ (List.mem_append_right _ (List.mem_append_right _ (List.mem_append_right _ (List.mem_append_left _ (List.mem_of_getElem? h)))))), g⟩
theorem w_m6 (i : Nat) {w : Cond} (h : tables_1_6[i]? = some w) (g : w_gd w = true) : w ∈ w_TB := List.mem_filter.mpr ⟨List.mem_append_right _ (List.mem_append_right _ (List.mem_append_right _ (List.mem_append_right _ (List.mem_append_right _ (List.mem_append_right _ (List.mem_of_getElem? h)))))), g⟩
/-! numbers of the cells, their kinds and lengths, what refers to what; the links of the fields -/
def w_kdL : List Nat := [109, 103, 0, 0, 101, 0, 0, 0, 0, 0, 0, 108, 2, 0, 0, 0, 0, 0, 0, 0, 0, 102, 0, 0, 108, 2, 0, 0, 0, 0, 0, 0, 0, 0, 0, 3, 104, 104, 104, 104, 104, 104, 104, 104, 104, 104, 0, 0, 0, 0, 0, 0, 0, 0, 0, 0, 107, 2, 0, 0, 0, 0, 0, 0, 0, 0, 0, 0, 0, 0, 2, 0, 0, 0, 0, 0, 0, 0, 0, 0, 0, 0, 0, 1, 1, 1, 0, 1, 106, 0, 105, 0, 0, 100, 2, 0, 0, 0, 0, 0, 0, 0, 0, 0, 0, 0, 0, 2, 0, 0, 0, 0, 0, 0, 0, 0, 0, 0, 0, 0, 2, 0, 0, 0, 0, 0, 0, 0, 0, 0, 0, 0, 0, 1, 1, 110, 0, 0, 0, 0, 0, 0, 0, 0, 0, 1, 0, 0, 1, 0, 0, 1, 1, 0, 0, 0, 0, 4, 4]
def w_kd (k : Nat) : Nat := w_kdL.getD k 99
def w_lnL : List Nat := [0, 0, 60, 16, 0, 7, 3, 3, 3, 3, 20, 0, 8, 12, 12, 12, 12, 12, 12, 12, 12, 0, 7, 12, 0, 8, 12, 12, 12, 12, 12, 12, 12, 12, 12, 8, 0, 0, 0, 0, 0, 0, 0, 0, 0, 0, 12, 12, 12, 12, 12, 12, 12, 12, 12, 12, 0, 12, 402, 402, 402, 402, 402, 402, 402, 402, 402, 402, 402, 402, 12, 402, 402, 402, 402, 402, 402, 402, 402, 402, 402, 402, 402, 402, 402, 201, 201, 73, 0, 3, 0, 7, 3, 0, 12, 402, 402, 402, 402, 402, 402, 402, 402, 402, 402, 402, 402, 12, 402, 402, 402, 402, 402, 402, 402, 402, 402, 402, 402, 402, 12, 402, 402, 402, 402, 402, 402, 402, 402, 402, 402, 402, 402, 402, 402, 0, 60, 16, 12, 16, 96, 8, 8, 96, 3, 4824, 4824, 4824, 402, 7, 3, 402, 402, 12, 16, 96, 12, 7, 7]
def w_ln (k : Nat) : Nat := w_lnL.getD k 0
def w_rfL : List (Nat × List Nat) := [(0, [1, 4, 11, 35, 34, 21, 56, 88, 90, 93, 44, 999, 999, 999, 999, 999]), (1, [2, 3, 999, 999, 999, 999]), (4, [5, 6, 7, 8, 9, 10, 999]), (11, [12, 999]), (21, [22, 24, 23, 999]), (24, [25, 999]), (56, [4, 11, 57, 70, 83, 84, 85, 86, 87, 999, 999]), (88, [4, 56, 89, 999, 999, 999, 999, 999, 999, 999, 999, 999, 999, 999, 999]), (90, [4, 11, 88, 91, 92, 999, 999, 999, 999]), (93, [4, 11, 88, 45, 94, 107, 120, 133, 134]), (135, [136, 999, 137, 138, 999, 999, 999, 999, 139, 999, 999, 999, 140, 999, 141, 142, 143, 999, 999, 999, 999, 999, 999, 999, 144, 145, 146, 147, 148, 149, 150, 999, 999, 151, 152, 999, 999, 999, 999, 153, 154, 155, 156, 999, 999, 999])]
def w_rf (a j : Nat) : Nat := if 36 ≤ a ∧ a < 46 then a + 10 else ((w_rfL.lookup a).getD []).getD j 999
def w_ftL : List (List Nat) := [[2, 2, 2, 2, 2, 2, 2, 2, 2], [2, 2, 2, 2, 2, 2, 0], [2, 2, 2, 0], [2, 2, 0, 0, 0, 3], [2, 0, 0, 0, 0, 1, 1], [2, 2, 2, 2, 2, 0, 0, 0, 0], [2, 2, 2, 0, 0, 0, 0, 3, 0, 0, 0, 0, 0, 0, 0], [2, 2, 2, 2, 2, 2, 2, 2, 2, 0, 0], [2, 0], [2, 2, 2, 2, 2, 2, 2, 2, 2, 2, 2, 0, 0, 0, 0, 0], [2, 0, 2, 2, 0, 0, 3, 0, 2, 0, 0, 0, 2, 0, 2, 2, 2, 0, 0, 0, 0, 0, 0, 0, 2, 2, 2, 2, 2, 2, 2, 0, 0, 2, 2, 1, 1, 1, 0, 2, 2, 2, 2, 0, 0, 1]]
def w_ft (ci : Nat) : List Nat := w_ftL.getD ci []
theorem w_kd_0 : w_kd 0 = 109 := rfl
theorem w_kd_1 : w_kd 1 = 103 := rfl
theorem w_kd_2 : w_kd 2 = 0 := rfl
theorem w_ln_2 : w_ln 2 = 60 := rfl
theorem w_kd_3 : w_kd 3 = 0 := rfl
theorem w_ln_3 : w_ln 3 = 16 := rfl
theorem w_kd_4 : w_kd 4 = 101 := rfl
theorem w_kd_5 : w_kd 5 = 0 := rfl
theorem w_ln_5 : w_ln 5 = 7 := rfl
theorem w_kd_6 : w_kd 6 = 0 := rfl
theorem w_ln_6 : w_ln 6 = 3 := rfl
theorem w_kd_7 : w_kd 7 = 0 := rfl
theorem w_ln_7 : w_ln 7 = 3 := rfl
theorem w_kd_8 : w_kd 8 = 0 := rfl
theorem w_ln_8 : w_ln 8 = 3 := rfl
theorem w_kd_9 : w_kd 9 = 0 := rfl
theorem w_ln_9 : w_ln 9 = 3 := rfl
theorem w_kd_10 : w_kd 10 = 0 := rfl
theorem w_ln_10 : w_ln 10 = 20 := rfl
theorem w_kd_11 : w_kd 11 = 108 := rfl
theorem w_kd_12 : w_kd 12 = 2 := rfl
theorem w_ln_12 : w_ln 12 = 8 := rfl
theorem w_kd_13 : w_kd 13 = 0 := rfl
theorem w_ln_13 : w_ln 13 = 12 := rfl
theorem w_kd_14 : w_kd 14 = 0 := rfl
theorem w_ln_14 : w_ln 14 = 12 := rfl
theorem w_kd_15 : w_kd 15 = 0 := rfl
theorem w_ln_15 : w_ln 15 = 12 := rfl
theorem w_kd_16 : w_kd 16 = 0 := rfl
theorem w_ln_16 : w_ln 16 = 12 := rfl
theorem w_kd_17 : w_kd 17 = 0 := rfl
theorem w_ln_17 : w_ln 17 = 12 := rfl
theorem w_kd_18 : w_kd 18 = 0 := rfl
theorem w_ln_18 : w_ln 18 = 12 := rfl
theorem w_kd_19 : w_kd 19 = 0 := rfl
theorem w_ln_19 : w_ln 19 = 12 := rfl
theorem w_kd_20 : w_kd 20 = 0 := rfl
theorem w_ln_20 : w_ln 20 = 12 := rfl
theorem w_kd_21 : w_kd 21 = 102 := rfl
theorem w_kd_22 : w_kd 22 = 0 := rfl
theorem w_ln_22 : w_ln 22 = 7 := rfl
theorem w_kd_23 : w_kd 23 = 0 := rfl
theorem w_ln_23 : w_ln 23 = 12 := rfl
theorem w_kd_24 : w_kd 24 = 108 := rfl
theorem w_kd_25 : w_kd 25 = 2 := rfl
theorem w_ln_25 : w_ln 25 = 8 := rfl
theorem w_kd_26 : w_kd 26 = 0 := rfl
theorem w_ln_26 : w_ln 26 = 12 := rfl
theorem w_kd_27 : w_kd 27 = 0 := rfl
theorem w_ln_27 : w_ln 27 = 12 := rfl
theorem w_kd_28 : w_kd 28 = 0 := rfl
theorem w_ln_28 : w_ln 28 = 12 := rfl
theorem w_kd_29 : w_kd 29 = 0 := rfl
theorem w_ln_29 : w_ln 29 = 12 := rfl
theorem w_kd_30 : w_kd 30 = 0 := rfl
theorem w_ln_30 : w_ln 30 = 12 := rfl
theorem w_kd_31 : w_kd 31 = 0 := rfl
theorem w_ln_31 : w_ln 31 = 12 := rfl
theorem w_kd_32 : w_kd 32 = 0 := rfl
theorem w_ln_32 : w_ln 32 = 12 := rfl
theorem w_kd_33 : w_kd 33 = 0 := rfl
theorem w_ln_33 : w_ln 33 = 12 := rfl
theorem w_kd_34 : w_kd 34 = 0 := rfl
theorem w_ln_34 : w_ln 34 = 12 := rfl
theorem w_kd_35 : w_kd 35 = 3 := rfl
theorem w_ln_35 : w_ln 35 = 8 := rfl
theorem w_kd_36 : w_kd 36 = 104 := rfl
theorem w_kd_37 : w_kd 37 = 104 := rfl
theorem w_kd_38 : w_kd 38 = 104 := rfl
theorem w_kd_39 : w_kd 39 = 104 := rfl
theorem w_kd_40 : w_kd 40 = 104 := rfl
theorem w_kd_41 : w_kd 41 = 104 := rfl
theorem w_kd_42 : w_kd 42 = 104 := rfl
theorem w_kd_43 : w_kd 43 = 104 := rfl
theorem w_kd_44 : w_kd 44 = 104 := rfl
theorem w_kd_45 : w_kd 45 = 104 := rfl
theorem w_kd_46 : w_kd 46 = 0 := rfl
theorem w_ln_46 : w_ln 46 = 12 := rfl
theorem w_kd_47 : w_kd 47 = 0 := rfl
theorem w_ln_47 : w_ln 47 = 12 := rfl
theorem w_kd_48 : w_kd 48 = 0 := rfl
theorem w_ln_48 : w_ln 48 = 12 := rfl
theorem w_kd_49 : w_kd 49 = 0 := rfl
theorem w_ln_49 : w_ln 49 = 12 := rfl
theorem w_kd_50 : w_kd 50 = 0 := rfl
theorem w_ln_50 : w_ln 50 = 12 := rfl
theorem w_kd_51 : w_kd 51 = 0 := rfl
theorem w_ln_51 : w_ln 51 = 12 := rfl
theorem w_kd_52 : w_kd 52 = 0 := rfl
theorem w_ln_52 : w_ln 52 = 12 := rfl
theorem w_kd_53 : w_kd 53 = 0 := rfl
theorem w_ln_53 : w_ln 53 = 12 := rfl
theorem w_kd_54 : w_kd 54 = 0 := rfl
theorem w_ln_54 : w_ln 54 = 12 := rfl
theorem w_kd_55 : w_kd 55 = 0 := rfl
theorem w_ln_55 : w_ln 55 = 12 := rfl
theorem w_kd_56 : w_kd 56 = 107 := rfl
theorem w_kd_57 : w_kd 57 = 2 := rfl
theorem w_ln_57 : w_ln 57 = 12 := rfl
theorem w_kd_58 : w_kd 58 = 0 := rfl
theorem w_ln_58 : w_ln 58 = 402 := rfl
theorem w_kd_59 : w_kd 59 = 0 := rfl
theorem w_ln_59 : w_ln 59 = 402 := rfl
theorem w_kd_60 : w_kd 60 = 0 := rfl
theorem w_ln_60 : w_ln 60 = 402 := rfl
theorem w_kd_61 : w_kd 61 = 0 := rfl
theorem w_ln_61 : w_ln 61 = 402 := rfl
theorem w_kd_62 : w_kd 62 = 0 := rfl
theorem w_ln_62 : w_ln 62 = 402 := rfl
theorem w_kd_63 : w_kd 63 = 0 := rfl
theorem w_ln_63 : w_ln 63 = 402 := rfl
theorem w_kd_64 : w_kd 64 = 0 := rfl
theorem w_ln_64 : w_ln 64 = 402 := rfl
theorem w_kd_65 : w_kd 65 = 0 := rfl
theorem w_ln_65 : w_ln 65 = 402 := rfl
theorem w_kd_66 : w_kd 66 = 0 := rfl
theorem w_ln_66 : w_ln 66 = 402 := rfl
theorem w_kd_67 : w_kd 67 = 0 := rfl
theorem w_ln_67 : w_ln 67 = 402 := rfl
theorem w_kd_68 : w_kd 68 = 0 := rfl
theorem w_ln_68 : w_ln 68 = 402 := rfl
theorem w_kd_69 : w_kd 69 = 0 := rfl
theorem w_ln_69 : w_ln 69 = 402 := rfl
theorem w_kd_70 : w_kd 70 = 2 := rfl
theorem w_ln_70 : w_ln 70 = 12 := rfl
theorem w_kd_71 : w_kd 71 = 0 := rfl
theorem w_ln_71 : w_ln 71 = 402 := rfl
theorem w_kd_72 : w_kd 72 = 0 := rfl
theorem w_ln_72 : w_ln 72 = 402 := rfl
theorem w_kd_73 : w_kd 73 = 0 := rfl
theorem w_ln_73 : w_ln 73 = 402 := rfl
theorem w_kd_74 : w_kd 74 = 0 := rfl
theorem w_ln_74 : w_ln 74 = 402 := rfl
theorem w_kd_75 : w_kd 75 = 0 := rfl
theorem w_ln_75 : w_ln 75 = 402 := rfl
theorem w_kd_76 : w_kd 76 = 0 := rfl
theorem w_ln_76 : w_ln 76 = 402 := rfl
theorem w_kd_77 : w_kd 77 = 0 := rfl
theorem w_ln_77 : w_ln 77 = 402 := rfl
theorem w_kd_78 : w_kd 78 = 0 := rfl
theorem w_ln_78 : w_ln 78 = 402 := rfl
theorem w_kd_79 : w_kd 79 = 0 := rfl
theorem w_ln_79 : w_ln 79 = 402 := rfl
theorem w_kd_80 : w_kd 80 = 0 := rfl
theorem w_ln_80 : w_ln 80 = 402 := rfl
theorem w_kd_81 : w_kd 81 = 0 := rfl
theorem w_ln_81 : w_ln 81 = 402 := rfl
theorem w_kd_82 : w_kd 82 = 0 := rfl
theorem w_ln_82 : w_ln 82 = 402 := rfl
theorem w_kd_83 : w_kd 83 = 1 := rfl
theorem w_ln_83 : w_ln 83 = 402 := rfl
theorem w_kd_84 : w_kd 84 = 1 := rfl
theorem w_ln_84 : w_ln 84 = 402 := rfl
theorem w_kd_85 : w_kd 85 = 1 := rfl
theorem w_ln_85 : w_ln 85 = 201 := rfl
theorem w_kd_86 : w_kd 86 = 0 := rfl
theorem w_ln_86 : w_ln 86 = 201 := rfl
theorem w_kd_87 : w_kd 87 = 1 := rfl
theorem w_ln_87 : w_ln 87 = 73 := rfl
theorem w_kd_88 : w_kd 88 = 106 := rfl
theorem w_kd_89 : w_kd 89 = 0 := rfl
theorem w_ln_89 : w_ln 89 = 3 := rfl
theorem w_kd_90 : w_kd 90 = 105 := rfl
theorem w_kd_91 : w_kd 91 = 0 := rfl
theorem w_ln_91 : w_ln 91 = 7 := rfl
theorem w_kd_92 : w_kd 92 = 0 := rfl
theorem w_ln_92 : w_ln 92 = 3 := rfl
theorem w_kd_93 : w_kd 93 = 100 := rfl
theorem w_kd_94 : w_kd 94 = 2 := rfl
theorem w_ln_94 : w_ln 94 = 12 := rfl
theorem w_kd_95 : w_kd 95 = 0 := rfl
theorem w_ln_95 : w_ln 95 = 402 := rfl
theorem w_kd_96 : w_kd 96 = 0 := rfl
theorem w_ln_96 : w_ln 96 = 402 := rfl
theorem w_kd_97 : w_kd 97 = 0 := rfl
theorem w_ln_97 : w_ln 97 = 402 := rfl
theorem w_kd_98 : w_kd 98 = 0 := rfl
theorem w_ln_98 : w_ln 98 = 402 := rfl
theorem w_kd_99 : w_kd 99 = 0 := rfl
theorem w_ln_99 : w_ln 99 = 402 := rfl
theorem w_kd_100 : w_kd 100 = 0 := rfl
theorem w_ln_100 : w_ln 100 = 402 := rfl
theorem w_kd_101 : w_kd 101 = 0 := rfl
theorem w_ln_101 : w_ln 101 = 402 := rfl
theorem w_kd_102 : w_kd 102 = 0 := rfl
theorem w_ln_102 : w_ln 102 = 402 := rfl
theorem w_kd_103 : w_kd 103 = 0 := rfl
theorem w_ln_103 : w_ln 103 = 402 := rfl
theorem w_kd_104 : w_kd 104 = 0 := rfl
theorem w_ln_104 : w_ln 104 = 402 := rfl
theorem w_kd_105 : w_kd 105 = 0 := rfl
theorem w_ln_105 : w_ln 105 = 402 := rfl
theorem w_kd_106 : w_kd 106 = 0 := rfl
theorem w_ln_106 : w_ln 106 = 402 := rfl
theorem w_kd_107 : w_kd 107 = 2 := rfl
theorem w_ln_107 : w_ln 107 = 12 := rfl
theorem w_kd_108 : w_kd 108 = 0 := rfl
theorem w_ln_108 : w_ln 108 = 402 := rfl
theorem w_kd_109 : w_kd 109 = 0 := rfl
theorem w_ln_109 : w_ln 109 = 402 := rfl
theorem w_kd_110 : w_kd 110 = 0 := rfl
theorem w_ln_110 : w_ln 110 = 402 := rfl
theorem w_kd_111 : w_kd 111 = 0 := rfl
theorem w_ln_111 : w_ln 111 = 402 := rfl
theorem w_kd_112 : w_kd 112 = 0 := rfl
theorem w_ln_112 : w_ln 112 = 402 := rfl
theorem w_kd_113 : w_kd 113 = 0 := rfl
theorem w_ln_113 : w_ln 113 = 402 := rfl
theorem w_kd_114 : w_kd 114 = 0 := rfl
theorem w_ln_114 : w_ln 114 = 402 := rfl
theorem w_kd_115 : w_kd 115 = 0 := rfl
theorem w_ln_115 : w_ln 115 = 402 := rfl
theorem w_kd_116 : w_kd 116 = 0 := rfl
theorem w_ln_116 : w_ln 116 = 402 := rfl
theorem w_kd_117 : w_kd 117 = 0 := rfl
theorem w_ln_117 : w_ln 117 = 402 := rfl
theorem w_kd_118 : w_kd 118 = 0 := rfl
theorem w_ln_118 : w_ln 118 = 402 := rfl
theorem w_kd_119 : w_kd 119 = 0 := rfl
theorem w_ln_119 : w_ln 119 = 402 := rfl
theorem w_kd_120 : w_kd 120 = 2 := rfl
theorem w_ln_120 : w_ln 120 = 12 := rfl
theorem w_kd_121 : w_kd 121 = 0 := rfl
theorem w_ln_121 : w_ln 121 = 402 := rfl
theorem w_kd_122 : w_kd 122 = 0 := rfl
theorem w_ln_122 : w_ln 122 = 402 := rfl
theorem w_kd_123 : w_kd 123 = 0 := rfl
theorem w_ln_123 : w_ln 123 = 402 := rfl
theorem w_kd_124 : w_kd 124 = 0 := rfl
theorem w_ln_124 : w_ln 124 = 402 := rfl
theorem w_kd_125 : w_kd 125 = 0 := rfl
theorem w_ln_125 : w_ln 125 = 402 := rfl
theorem w_kd_126 : w_kd 126 = 0 := rfl
theorem w_ln_126 : w_ln 126 = 402 := rfl
theorem w_kd_127 : w_kd 127 = 0 := rfl
theorem w_ln_127 : w_ln 127 = 402 := rfl
theorem w_kd_128 : w_kd 128 = 0 := rfl
theorem w_ln_128 : w_ln 128 = 402 := rfl
theorem w_kd_129 : w_kd 129 = 0 := rfl
theorem w_ln_129 : w_ln 129 = 402 := rfl
theorem w_kd_130 : w_kd 130 = 0 := rfl
theorem w_ln_130 : w_ln 130 = 402 := rfl
theorem w_kd_131 : w_kd 131 = 0 := rfl
theorem w_ln_131 : w_ln 131 = 402 := rfl
theorem w_kd_132 : w_kd 132 = 0 := rfl
theorem w_ln_132 : w_ln 132 = 402 := rfl
theorem w_kd_133 : w_kd 133 = 1 := rfl
theorem w_ln_133 : w_ln 133 = 402 := rfl
theorem w_kd_134 : w_kd 134 = 1 := rfl
theorem w_ln_134 : w_ln 134 = 402 := rfl
theorem w_kd_135 : w_kd 135 = 110 := rfl
theorem w_kd_136 : w_kd 136 = 0 := rfl
theorem w_ln_136 : w_ln 136 = 60 := rfl
theorem w_kd_137 : w_kd 137 = 0 := rfl
theorem w_ln_137 : w_ln 137 = 16 := rfl
theorem w_kd_138 : w_kd 138 = 0 := rfl
theorem w_ln_138 : w_ln 138 = 12 := rfl
theorem w_kd_139 : w_kd 139 = 0 := rfl
theorem w_ln_139 : w_ln 139 = 16 := rfl
theorem w_kd_140 : w_kd 140 = 0 := rfl
theorem w_ln_140 : w_ln 140 = 96 := rfl
theorem w_kd_141 : w_kd 141 = 0 := rfl
theorem w_ln_141 : w_ln 141 = 8 := rfl
theorem w_kd_142 : w_kd 142 = 0 := rfl
theorem w_ln_142 : w_ln 142 = 8 := rfl
theorem w_kd_143 : w_kd 143 = 0 := rfl
theorem w_ln_143 : w_ln 143 = 96 := rfl
theorem w_kd_144 : w_kd 144 = 0 := rfl
theorem w_ln_144 : w_ln 144 = 3 := rfl
theorem w_kd_145 : w_kd 145 = 1 := rfl
theorem w_ln_145 : w_ln 145 = 4824 := rfl
theorem w_kd_146 : w_kd 146 = 0 := rfl
theorem w_ln_146 : w_ln 146 = 4824 := rfl
theorem w_kd_147 : w_kd 147 = 0 := rfl
theorem w_ln_147 : w_ln 147 = 4824 := rfl
theorem w_kd_148 : w_kd 148 = 1 := rfl
theorem w_ln_148 : w_ln 148 = 402 := rfl
theorem w_kd_149 : w_kd 149 = 0 := rfl
theorem w_ln_149 : w_ln 149 = 7 := rfl
theorem w_kd_150 : w_kd 150 = 0 := rfl
theorem w_ln_150 : w_ln 150 = 3 := rfl
theorem w_kd_151 : w_kd 151 = 1 := rfl
theorem w_ln_151 : w_ln 151 = 402 := rfl
theorem w_kd_152 : w_kd 152 = 1 := rfl
theorem w_ln_152 : w_ln 152 = 402 := rfl
theorem w_kd_153 : w_kd 153 = 0 := rfl
theorem w_ln_153 : w_ln 153 = 12 := rfl
theorem w_kd_154 : w_kd 154 = 0 := rfl
theorem w_ln_154 : w_ln 154 = 16 := rfl
theorem w_kd_155 : w_kd 155 = 0 := rfl
theorem w_ln_155 : w_ln 155 = 96 := rfl
theorem w_kd_156 : w_kd 156 = 0 := rfl
theorem w_ln_156 : w_ln 156 = 12 := rfl
theorem w_kd_157 : w_kd 157 = 4 := rfl
theorem w_ln_157 : w_ln 157 = 7 := rfl
theorem w_kd_158 : w_kd 158 = 4 := rfl
theorem w_ln_158 : w_ln 158 = 7 := rfl
theorem w_rf_0_0 : w_rf 0 0 = 1 := rfl
theorem w_rf_0_1 : w_rf 0 1 = 4 := rfl
theorem w_rf_0_2 : w_rf 0 2 = 11 := rfl
theorem w_rf_0_3 : w_rf 0 3 = 35 := rfl
theorem w_rf_0_4 : w_rf 0 4 = 34 := rfl
theorem w_rf_0_5 : w_rf 0 5 = 21 := rfl
theorem w_rf_0_6 : w_rf 0 6 = 56 := rfl
theorem w_rf_0_7 : w_rf 0 7 = 88 := rfl
theorem w_rf_0_8 : w_rf 0 8 = 90 := rfl
theorem w_rf_0_9 : w_rf 0 9 = 93 := rfl
theorem w_rf_0_10 : w_rf 0 10 = 44 := rfl
theorem w_rf_1_0 : w_rf 1 0 = 2 := rfl
theorem w_rf_1_1 : w_rf 1 1 = 3 := rfl
theorem w_rf_4_0 : w_rf 4 0 = 5 := rfl
theorem w_rf_4_1 : w_rf 4 1 = 6 := rfl
theorem w_rf_4_2 : w_rf 4 2 = 7 := rfl
theorem w_rf_4_3 : w_rf 4 3 = 8 := rfl
theorem w_rf_4_4 : w_rf 4 4 = 9 := rfl
theorem w_rf_4_5 : w_rf 4 5 = 10 := rfl
theorem w_rf_11_0 : w_rf 11 0 = 12 := rfl
theorem w_rf_21_0 : w_rf 21 0 = 22 := rfl
theorem w_rf_21_1 : w_rf 21 1 = 24 := rfl
theorem w_rf_21_2 : w_rf 21 2 = 23 := rfl
theorem w_rf_24_0 : w_rf 24 0 = 25 := rfl
theorem w_rf_36_0 : w_rf 36 0 = 46 := rfl
theorem w_rf_37_0 : w_rf 37 0 = 47 := rfl
theorem w_rf_38_0 : w_rf 38 0 = 48 := rfl
theorem w_rf_39_0 : w_rf 39 0 = 49 := rfl
theorem w_rf_40_0 : w_rf 40 0 = 50 := rfl
theorem w_rf_41_0 : w_rf 41 0 = 51 := rfl
theorem w_rf_42_0 : w_rf 42 0 = 52 := rfl
theorem w_rf_43_0 : w_rf 43 0 = 53 := rfl
theorem w_rf_44_0 : w_rf 44 0 = 54 := rfl
theorem w_rf_45_0 : w_rf 45 0 = 55 := rfl
theorem w_rf_56_0 : w_rf 56 0 = 4 := rfl
theorem w_rf_56_1 : w_rf 56 1 = 11 := rfl
theorem w_rf_56_2 : w_rf 56 2 = 57 := rfl
theorem w_rf_56_3 : w_rf 56 3 = 70 := rfl
theorem w_rf_56_4 : w_rf 56 4 = 83 := rfl
theorem w_rf_56_5 : w_rf 56 5 = 84 := rfl
theorem w_rf_56_6 : w_rf 56 6 = 85 := rfl
theorem w_rf_56_7 : w_rf 56 7 = 86 := rfl
theorem w_rf_56_8 : w_rf 56 8 = 87 := rfl
theorem w_rf_88_0 : w_rf 88 0 = 4 := rfl
theorem w_rf_88_1 : w_rf 88 1 = 56 := rfl
theorem w_rf_88_2 : w_rf 88 2 = 89 := rfl
theorem w_rf_90_0 : w_rf 90 0 = 4 := rfl
theorem w_rf_90_1 : w_rf 90 1 = 11 := rfl
theorem w_rf_90_2 : w_rf 90 2 = 88 := rfl
theorem w_rf_90_3 : w_rf 90 3 = 91 := rfl
theorem w_rf_90_4 : w_rf 90 4 = 92 := rfl
theorem w_rf_93_0 : w_rf 93 0 = 4 := rfl
theorem w_rf_93_1 : w_rf 93 1 = 11 := rfl
theorem w_rf_93_2 : w_rf 93 2 = 88 := rfl
theorem w_rf_93_3 : w_rf 93 3 = 45 := rfl
theorem w_rf_93_4 : w_rf 93 4 = 94 := rfl
theorem w_rf_93_5 : w_rf 93 5 = 107 := rfl
theorem w_rf_93_6 : w_rf 93 6 = 120 := rfl
theorem w_rf_93_7 : w_rf 93 7 = 133 := rfl
theorem w_rf_93_8 : w_rf 93 8 = 134 := rfl
theorem w_rf_135_0 : w_rf 135 0 = 136 := rfl
theorem w_rf_135_2 : w_rf 135 2 = 137 := rfl
theorem w_rf_135_3 : w_rf 135 3 = 138 := rfl
theorem w_rf_135_8 : w_rf 135 8 = 139 := rfl
theorem w_rf_135_12 : w_rf 135 12 = 140 := rfl
theorem w_rf_135_14 : w_rf 135 14 = 141 := rfl
theorem w_rf_135_15 : w_rf 135 15 = 142 := rfl
theorem w_rf_135_16 : w_rf 135 16 = 143 := rfl
theorem w_rf_135_24 : w_rf 135 24 = 144 := rfl
theorem w_rf_135_25 : w_rf 135 25 = 145 := rfl
theorem w_rf_135_26 : w_rf 135 26 = 146 := rfl
theorem w_rf_135_27 : w_rf 135 27 = 147 := rfl
theorem w_rf_135_28 : w_rf 135 28 = 148 := rfl
theorem w_rf_135_29 : w_rf 135 29 = 149 := rfl
theorem w_rf_135_30 : w_rf 135 30 = 150 := rfl
theorem w_rf_135_33 : w_rf 135 33 = 151 := rfl
theorem w_rf_135_34 : w_rf 135 34 = 152 := rfl
theorem w_rf_135_39 : w_rf 135 39 = 153 := rfl
theorem w_rf_135_40 : w_rf 135 40 = 154 := rfl
theorem w_rf_135_41 : w_rf 135 41 = 155 := rfl
theorem w_rf_135_42 : w_rf 135 42 = 156 := rfl
def w_lk {α : Type} (L : List (Nat × α)) (i : Nat) : Option α := (L.find? (fun q => q.1 == i)).map (fun q => q.2)
def w_gsk (own : String) (q : Nat × Nat) : Prop := (q.2 = 157 ∧ (Cond.fieldLink own q.1 "HowBigTank" "LEAST" "[I" ∈ w_TB ∨ Cond.fieldLinkNest own q.1 "HowBigTank" "LEAST" "[I" "HowBigTank" ∈ w_TB)) ∨ (q.2 = 158 ∧ (Cond.fieldLink own q.1 "HowBigTank" "MOST" "[I" ∈ w_TB ∨ Cond.fieldLinkNest own q.1 "HowBigTank" "MOST" "[I" "HowBigTank" ∈ w_TB))
def w_tc (d : String) : Nat := if d = "I" then 0 else if d = "J" then 1 else if d = "Z" then 3 else 2
def w_flok (own : String) (q : Nat × Nat × Nat × Nat) : Prop := ∃ (Cn : String) (T : u_T) (N : Nat), vwCl[q.2.1]? = some (Cn, T, N) ∧ q.2.2.1 < N ∧ (T q.2.2.1).1 = Cn ∧ w_tc (T q.2.2.1).2.2.1 = q.2.2.2 ∧ (q.2.2.2 ≠ 2 → (T q.2.2.1).2.2.2 = false) ∧ Cond.fieldLink own q.1 Cn (T q.2.2.1).2.1 (T q.2.2.1).2.2.1 ∈ w_TB
def w_fl0 : List (Nat × Nat × Nat × Nat) := [(12, 0, 3, 2), (20, 0, 4, 2), (23, 0, 5, 2), (26, 0, 6, 2), (29, 0, 7, 2), (33, 0, 8, 2), (36, 0, 0, 2), (40, 0, 1, 2), (44, 0, 2, 2), (48, 1, 0, 2), (73, 4, 1, 0), (77, 4, 2, 0), (88, 6, 6, 0), (91, 6, 7, 3), (99, 6, 13, 0), (102, 6, 14, 0), (115, 8, 1, 0), (120, 8, 0, 2)]
theorem w_flk0_12 : w_lk w_fl0 12 = some (0, 3, 2) := rfl
theorem w_flk0_20 : w_lk w_fl0 20 = some (0, 4, 2) := rfl
theorem w_flk0_23 : w_lk w_fl0 23 = some (0, 5, 2) := rfl
theorem w_flk0_26 : w_lk w_fl0 26 = some (0, 6, 2) := rfl
theorem w_flk0_29 : w_lk w_fl0 29 = some (0, 7, 2) := rfl
theorem w_flk0_33 : w_lk w_fl0 33 = some (0, 8, 2) := rfl
theorem w_flk0_36 : w_lk w_fl0 36 = some (0, 0, 2) := rfl
theorem w_flk0_40 : w_lk w_fl0 40 = some (0, 1, 2) := rfl
theorem w_flk0_44 : w_lk w_fl0 44 = some (0, 2, 2) := rfl
theorem w_flk0_48 : w_lk w_fl0 48 = some (1, 0, 2) := rfl
theorem w_flk0_73 : w_lk w_fl0 73 = some (4, 1, 0) := rfl
theorem w_flk0_77 : w_lk w_fl0 77 = some (4, 2, 0) := rfl
theorem w_flk0_88 : w_lk w_fl0 88 = some (6, 6, 0) := rfl
theorem w_flk0_91 : w_lk w_fl0 91 = some (6, 7, 3) := rfl
theorem w_flk0_99 : w_lk w_fl0 99 = some (6, 13, 0) := rfl
theorem w_flk0_102 : w_lk w_fl0 102 = some (6, 14, 0) := rfl
theorem w_flk0_115 : w_lk w_fl0 115 = some (8, 1, 0) := rfl
theorem w_flk0_120 : w_lk w_fl0 120 = some (8, 0, 2) := rfl
theorem w_flo0_12 : w_flok RX0 (12, 0, 3, 2) := ⟨RX0, TX0, 9, rfl, by decide, rfl, by decide +kernel, fun _ => by first | rfl | contradiction, w_m2 106 (by decide +kernel) (by decide +kernel)⟩
theorem w_flo0_20 : w_flok RX0 (20, 0, 4, 2) := ⟨RX0, TX0, 9, rfl, by decide, rfl, by decide +kernel, fun _ => by first | rfl | contradiction, w_m2 107 (by decide +kernel) (by decide +kernel)⟩
theorem w_flo0_23 : w_flok RX0 (23, 0, 5, 2) := ⟨RX0, TX0, 9, rfl, by decide, rfl, by decide +kernel, fun _ => by first | rfl | contradiction, w_m2 108 (by decide +kernel) (by decide +kernel)⟩
theorem w_flo0_26 : w_flok RX0 (26, 0, 6, 2) := ⟨RX0, TX0, 9, rfl, by decide, rfl, by decide +kernel, fun _ => by first | rfl | contradiction, w_m2 109 (by decide +kernel) (by decide +kernel)⟩
theorem w_flo0_29 : w_flok RX0 (29, 0, 7, 2) := ⟨RX0, TX0, 9, rfl, by decide, rfl, by decide +kernel, fun _ => by first | rfl | contradiction, w_m2 110 (by decide +kernel) (by decide +kernel)⟩
theorem w_flo0_33 : w_flok RX0 (33, 0, 8, 2) := ⟨RX0, TX0, 9, rfl, by decide, rfl, by decide +kernel, fun _ => by first | rfl | contradiction, w_m2 111 (by decide +kernel) (by decide +kernel)⟩
theorem w_flo0_36 : w_flok RX0 (36, 0, 0, 2) := ⟨RX0, TX0, 9, rfl, by decide, rfl, by decide +kernel, fun _ => by first | rfl | contradiction, w_m2 103 (by decide +kernel) (by decide +kernel)⟩
theorem w_flo0_40 : w_flok RX0 (40, 0, 1, 2) := ⟨RX0, TX0, 9, rfl, by decide, rfl, by decide +kernel, fun _ => by first | rfl | contradiction, w_m2 104 (by decide +kernel) (by decide +kernel)⟩
theorem w_flo0_44 : w_flok RX0 (44, 0, 2, 2) := ⟨RX0, TX0, 9, rfl, by decide, rfl, by decide +kernel, fun _ => by first | rfl | contradiction, w_m2 105 (by decide +kernel) (by decide +kernel)⟩
theorem w_flo0_48 : w_flok RX0 (48, 1, 0, 2) := ⟨RX1, TX1, 7, rfl, by decide, rfl, by decide +kernel, fun _ => by first | rfl | contradiction, w_m1 62 (by decide +kernel) (by decide +kernel)⟩
theorem w_flo0_73 : w_flok RX0 (73, 4, 1, 0) := ⟨RX4, TX4, 7, rfl, by decide, rfl, by decide +kernel, fun _ => by first | rfl | contradiction, w_m1 155 (by decide +kernel) (by decide +kernel)⟩
theorem w_flo0_77 : w_flok RX0 (77, 4, 2, 0) := ⟨RX4, TX4, 7, rfl, by decide, rfl, by decide +kernel, fun _ => by first | rfl | contradiction, w_m1 158 (by decide +kernel) (by decide +kernel)⟩
theorem w_flo0_88 : w_flok RX0 (88, 6, 6, 0) := ⟨RX6, TX6, 15, rfl, by decide, rfl, by decide +kernel, fun _ => by first | rfl | contradiction, w_m2 6 (by decide +kernel) (by decide +kernel)⟩
theorem w_flo0_91 : w_flok RX0 (91, 6, 7, 3) := ⟨RX6, TX6, 15, rfl, by decide, rfl, by decide +kernel, fun _ => by first | rfl | contradiction, w_m2 8 (by decide +kernel) (by decide +kernel)⟩
theorem w_flo0_99 : w_flok RX0 (99, 6, 13, 0) := ⟨RX6, TX6, 15, rfl, by decide, rfl, by decide +kernel, fun _ => by first | rfl | contradiction, w_m2 19 (by decide +kernel) (by decide +kernel)⟩
theorem w_flo0_102 : w_flok RX0 (102, 6, 14, 0) := ⟨RX6, TX6, 15, rfl, by decide, rfl, by decide +kernel, fun _ => by first | rfl | contradiction, w_m2 22 (by decide +kernel) (by decide +kernel)⟩
theorem w_flo0_115 : w_flok RX0 (115, 8, 1, 0) := ⟨RX8, TX8, 2, rfl, by decide, rfl, by decide +kernel, fun _ => by first | rfl | contradiction, w_m1 114 (by decide +kernel) (by decide +kernel)⟩
theorem w_flo0_120 : w_flok RX0 (120, 8, 0, 2) := ⟨RX8, TX8, 2, rfl, by decide, rfl, by decide +kernel, fun _ => by first | rfl | contradiction, w_m1 109 (by decide +kernel) (by decide +kernel)⟩
theorem w_flok0 : ∀ q ∈ w_fl0, w_flok RX0 q := List.forall_mem_cons.mpr ⟨w_flo0_12, List.forall_mem_cons.mpr ⟨w_flo0_20, List.forall_mem_cons.mpr ⟨w_flo0_23, List.forall_mem_cons.mpr ⟨w_flo0_26, List.forall_mem_cons.mpr ⟨w_flo0_29, List.forall_mem_cons.mpr ⟨w_flo0_33, List.forall_mem_cons.mpr ⟨w_flo0_36, List.forall_mem_cons.mpr ⟨w_flo0_40, List.forall_mem_cons.mpr ⟨w_flo0_44, List.forall_mem_cons.mpr ⟨w_flo0_48, List.forall_mem_cons.mpr ⟨w_flo0_73, List.forall_mem_cons.mpr ⟨w_flo0_77, List.forall_mem_cons.mpr ⟨w_flo0_88, List.forall_mem_cons.mpr ⟨w_flo0_91, List.forall_mem_cons.mpr ⟨w_flo0_99, List.forall_mem_cons.mpr ⟨w_flo0_102, List.forall_mem_cons.mpr ⟨w_flo0_115, List.forall_mem_cons.mpr ⟨w_flo0_120, fun _ h => absurd h List.not_mem_nil⟩⟩⟩⟩⟩⟩⟩⟩⟩⟩⟩⟩⟩⟩⟩⟩⟩⟩
def w_gs0 : List (Nat × Nat) := []
theorem w_gsok0 : ∀ q ∈ w_gs0, w_gsk RX0 q := fun _ h => absurd h List.not_mem_nil
def w_kl0 : List (Nat × Int) := []
theorem w_klok0 : ∀ q ∈ w_kl0, Cond.constantLong RX0 q.1 (Int64.ofInt q.2) ∈ w_TB := fun _ h => absurd h List.not_mem_nil
def w_ki0 : List (Nat × Int) := []
theorem w_kiok0 : ∀ q ∈ w_ki0, Cond.constant RX0 q.1 (Int32.ofInt q.2) ∈ w_TB := fun _ h => absurd h List.not_mem_nil
def w_fl1 : List (Nat × Nat × Nat × Nat) := [(9, 1, 0, 2), (15, 1, 1, 2), (18, 1, 2, 2), (21, 1, 3, 2), (24, 1, 4, 2), (27, 1, 5, 2), (30, 3, 1, 2), (41, 3, 3, 0), (51, 1, 6, 0)]
theorem w_flk1_9 : w_lk w_fl1 9 = some (1, 0, 2) := rfl
theorem w_flk1_15 : w_lk w_fl1 15 = some (1, 1, 2) := rfl
theorem w_flk1_18 : w_lk w_fl1 18 = some (1, 2, 2) := rfl
theorem w_flk1_21 : w_lk w_fl1 21 = some (1, 3, 2) := rfl
theorem w_flk1_24 : w_lk w_fl1 24 = some (1, 4, 2) := rfl
theorem w_flk1_27 : w_lk w_fl1 27 = some (1, 5, 2) := rfl
theorem w_flk1_30 : w_lk w_fl1 30 = some (3, 1, 2) := rfl
theorem w_flk1_41 : w_lk w_fl1 41 = some (3, 3, 0) := rfl
theorem w_flk1_51 : w_lk w_fl1 51 = some (1, 6, 0) := rfl
theorem w_flo1_9 : w_flok RX1 (9, 1, 0, 2) := ⟨RX1, TX1, 7, rfl, by decide, rfl, by decide +kernel, fun _ => by first | rfl | contradiction, w_m1 61 (by decide +kernel) (by decide +kernel)⟩
theorem w_flo1_15 : w_flok RX1 (15, 1, 1, 2) := ⟨RX1, TX1, 7, rfl, by decide, rfl, by decide +kernel, fun _ => by first | rfl | contradiction, w_m1 67 (by decide +kernel) (by decide +kernel)⟩
theorem w_flo1_18 : w_flok RX1 (18, 1, 2, 2) := ⟨RX1, TX1, 7, rfl, by decide, rfl, by decide +kernel, fun _ => by first | rfl | contradiction, w_m1 68 (by decide +kernel) (by decide +kernel)⟩
theorem w_flo1_21 : w_flok RX1 (21, 1, 3, 2) := ⟨RX1, TX1, 7, rfl, by decide, rfl, by decide +kernel, fun _ => by first | rfl | contradiction, w_m1 69 (by decide +kernel) (by decide +kernel)⟩
theorem w_flo1_24 : w_flok RX1 (24, 1, 4, 2) := ⟨RX1, TX1, 7, rfl, by decide, rfl, by decide +kernel, fun _ => by first | rfl | contradiction, w_m1 72 (by decide +kernel) (by decide +kernel)⟩
theorem w_flo1_27 : w_flok RX1 (27, 1, 5, 2) := ⟨RX1, TX1, 7, rfl, by decide, rfl, by decide +kernel, fun _ => by first | rfl | contradiction, w_m1 75 (by decide +kernel) (by decide +kernel)⟩
theorem w_flo1_30 : w_flok RX1 (30, 3, 1, 2) := ⟨RX3, TX3, 6, rfl, by decide, rfl, by decide +kernel, fun _ => by first | rfl | contradiction, w_m1 32 (by decide +kernel) (by decide +kernel)⟩
theorem w_flo1_41 : w_flok RX1 (41, 3, 3, 0) := ⟨RX3, TX3, 6, rfl, by decide, rfl, by decide +kernel, fun _ => by first | rfl | contradiction, w_m1 36 (by decide +kernel) (by decide +kernel)⟩
theorem w_flo1_51 : w_flok RX1 (51, 1, 6, 0) := ⟨RX1, TX1, 7, rfl, by decide, rfl, by decide +kernel, fun _ => by first | rfl | contradiction, w_m1 77 (by decide +kernel) (by decide +kernel)⟩
theorem w_flok1 : ∀ q ∈ w_fl1, w_flok RX1 q := List.forall_mem_cons.mpr ⟨w_flo1_9, List.forall_mem_cons.mpr ⟨w_flo1_15, List.forall_mem_cons.mpr ⟨w_flo1_18, List.forall_mem_cons.mpr ⟨w_flo1_21, List.forall_mem_cons.mpr ⟨w_flo1_24, List.forall_mem_cons.mpr ⟨w_flo1_27, List.forall_mem_cons.mpr ⟨w_flo1_30, List.forall_mem_cons.mpr ⟨w_flo1_41, List.forall_mem_cons.mpr ⟨w_flo1_51, fun _ h => absurd h List.not_mem_nil⟩⟩⟩⟩⟩⟩⟩⟩⟩
def w_gs1 : List (Nat × Nat) := []
theorem w_gsok1 : ∀ q ∈ w_gs1, w_gsk RX1 q := fun _ h => absurd h List.not_mem_nil
def w_kl1 : List (Nat × Int) := [(62, 31)]
theorem w_klk1_62 : w_lk w_kl1 62 = some (31) := rfl
theorem w_klok1 : ∀ q ∈ w_kl1, Cond.constantLong RX1 q.1 (Int64.ofInt q.2) ∈ w_TB := List.forall_mem_cons.mpr ⟨w_m4 88 (by decide +kernel) (by decide +kernel), fun _ h => absurd h List.not_mem_nil⟩
def w_ki1 : List (Nat × Int) := []
theorem w_kiok1 : ∀ q ∈ w_ki1, Cond.constant RX1 q.1 (Int32.ofInt q.2) ∈ w_TB := fun _ h => absurd h List.not_mem_nil
def w_fl2 : List (Nat × Nat × Nat × Nat) := [(9, 2, 0, 2), (18, 2, 1, 2), (22, 2, 2, 2)]
theorem w_flk2_9 : w_lk w_fl2 9 = some (2, 0, 2) := rfl
theorem w_flk2_18 : w_lk w_fl2 18 = some (2, 1, 2) := rfl
theorem w_flk2_22 : w_lk w_fl2 22 = some (2, 2, 2) := rfl
theorem w_flo2_9 : w_flok RX2 (9, 2, 0, 2) := ⟨RX2, TX2, 4, rfl, by decide, rfl, by decide +kernel, fun _ => by first | rfl | contradiction, w_m1 130 (by decide +kernel) (by decide +kernel)⟩
theorem w_flo2_18 : w_flok RX2 (18, 2, 1, 2) := ⟨RX2, TX2, 4, rfl, by decide, rfl, by decide +kernel, fun _ => by first | rfl | contradiction, w_m1 132 (by decide +kernel) (by decide +kernel)⟩
theorem w_flo2_22 : w_flok RX2 (22, 2, 2, 2) := ⟨RX2, TX2, 4, rfl, by decide, rfl, by decide +kernel, fun _ => by first | rfl | contradiction, w_m1 134 (by decide +kernel) (by decide +kernel)⟩
theorem w_flok2 : ∀ q ∈ w_fl2, w_flok RX2 q := List.forall_mem_cons.mpr ⟨w_flo2_9, List.forall_mem_cons.mpr ⟨w_flo2_18, List.forall_mem_cons.mpr ⟨w_flo2_22, fun _ h => absurd h List.not_mem_nil⟩⟩⟩
def w_gs2 : List (Nat × Nat) := []
theorem w_gsok2 : ∀ q ∈ w_gs2, w_gsk RX2 q := fun _ h => absurd h List.not_mem_nil
def w_kl2 : List (Nat × Int) := []
theorem w_klok2 : ∀ q ∈ w_kl2, Cond.constantLong RX2 q.1 (Int64.ofInt q.2) ∈ w_TB := fun _ h => absurd h List.not_mem_nil
def w_ki2 : List (Nat × Int) := []
theorem w_kiok2 : ∀ q ∈ w_ki2, Cond.constant RX2 q.1 (Int32.ofInt q.2) ∈ w_TB := fun _ h => absurd h List.not_mem_nil
def w_fl3 : List (Nat × Nat × Nat × Nat) := [(9, 3, 0, 2), (15, 3, 1, 2), (18, 3, 2, 0), (22, 3, 4, 0), (25, 3, 5, 3), (49, 3, 3, 0)]
theorem w_flk3_9 : w_lk w_fl3 9 = some (3, 0, 2) := rfl
theorem w_flk3_15 : w_lk w_fl3 15 = some (3, 1, 2) := rfl
theorem w_flk3_18 : w_lk w_fl3 18 = some (3, 2, 0) := rfl
theorem w_flk3_22 : w_lk w_fl3 22 = some (3, 4, 0) := rfl
theorem w_flk3_25 : w_lk w_fl3 25 = some (3, 5, 3) := rfl
theorem w_flk3_49 : w_lk w_fl3 49 = some (3, 3, 0) := rfl
theorem w_flo3_9 : w_flok RX3 (9, 3, 0, 2) := ⟨RX3, TX3, 6, rfl, by decide, rfl, by decide +kernel, fun _ => by first | rfl | contradiction, w_m1 29 (by decide +kernel) (by decide +kernel)⟩
theorem w_flo3_15 : w_flok RX3 (15, 3, 1, 2) := ⟨RX3, TX3, 6, rfl, by decide, rfl, by decide +kernel, fun _ => by first | rfl | contradiction, w_m1 31 (by decide +kernel) (by decide +kernel)⟩
theorem w_flo3_18 : w_flok RX3 (18, 3, 2, 0) := ⟨RX3, TX3, 6, rfl, by decide, rfl, by decide +kernel, fun _ => by first | rfl | contradiction, w_m1 35 (by decide +kernel) (by decide +kernel)⟩
theorem w_flo3_22 : w_flok RX3 (22, 3, 4, 0) := ⟨RX3, TX3, 6, rfl, by decide, rfl, by decide +kernel, fun _ => by first | rfl | contradiction, w_m1 38 (by decide +kernel) (by decide +kernel)⟩
theorem w_flo3_25 : w_flok RX3 (25, 3, 5, 3) := ⟨RX3, TX3, 6, rfl, by decide, rfl, by decide +kernel, fun _ => by first | rfl | contradiction, w_m1 40 (by decide +kernel) (by decide +kernel)⟩
theorem w_flo3_49 : w_flok RX3 (49, 3, 3, 0) := ⟨RX3, TX3, 6, rfl, by decide, rfl, by decide +kernel, fun _ => by first | rfl | contradiction, w_m1 37 (by decide +kernel) (by decide +kernel)⟩
theorem w_flok3 : ∀ q ∈ w_fl3, w_flok RX3 q := List.forall_mem_cons.mpr ⟨w_flo3_9, List.forall_mem_cons.mpr ⟨w_flo3_15, List.forall_mem_cons.mpr ⟨w_flo3_18, List.forall_mem_cons.mpr ⟨w_flo3_22, List.forall_mem_cons.mpr ⟨w_flo3_25, List.forall_mem_cons.mpr ⟨w_flo3_49, fun _ h => absurd h List.not_mem_nil⟩⟩⟩⟩⟩⟩
def w_gs3 : List (Nat × Nat) := [(38, 157), (59, 158)]
theorem w_gsk3_38 : w_lk w_gs3 38 = some 157 := rfl
theorem w_gsk3_59 : w_lk w_gs3 59 = some 158 := rfl
theorem w_gsok3 : ∀ q ∈ w_gs3, w_gsk RX3 q := List.forall_mem_cons.mpr ⟨Or.inl ⟨rfl, Or.inr (w_m2 207 (by decide +kernel) (by decide +kernel))⟩, List.forall_mem_cons.mpr ⟨Or.inr ⟨rfl, Or.inr (w_m2 221 (by decide +kernel) (by decide +kernel))⟩, fun _ h => absurd h List.not_mem_nil⟩⟩
def w_kl3 : List (Nat × Int) := []
theorem w_klok3 : ∀ q ∈ w_kl3, Cond.constantLong RX3 q.1 (Int64.ofInt q.2) ∈ w_TB := fun _ h => absurd h List.not_mem_nil
def w_ki3 : List (Nat × Int) := []
theorem w_kiok3 : ∀ q ∈ w_ki3, Cond.constant RX3 q.1 (Int32.ofInt q.2) ∈ w_TB := fun _ h => absurd h List.not_mem_nil
def w_fl4 : List (Nat × Nat × Nat × Nat) := [(9, 4, 0, 2), (15, 4, 3, 0), (19, 4, 4, 0), (22, 4, 1, 0)]
theorem w_flk4_9 : w_lk w_fl4 9 = some (4, 0, 2) := rfl
theorem w_flk4_15 : w_lk w_fl4 15 = some (4, 3, 0) := rfl
theorem w_flk4_19 : w_lk w_fl4 19 = some (4, 4, 0) := rfl
theorem w_flk4_22 : w_lk w_fl4 22 = some (4, 1, 0) := rfl
theorem w_flo4_9 : w_flok RX4 (9, 4, 0, 2) := ⟨RX4, TX4, 7, rfl, by decide, rfl, by decide +kernel, fun _ => by first | rfl | contradiction, w_m1 151 (by decide +kernel) (by decide +kernel)⟩
theorem w_flo4_15 : w_flok RX4 (15, 4, 3, 0) := ⟨RX4, TX4, 7, rfl, by decide, rfl, by decide +kernel, fun _ => by first | rfl | contradiction, w_m1 161 (by decide +kernel) (by decide +kernel)⟩
theorem w_flo4_19 : w_flok RX4 (19, 4, 4, 0) := ⟨RX4, TX4, 7, rfl, by decide, rfl, by decide +kernel, fun _ => by first | rfl | contradiction, w_m1 163 (by decide +kernel) (by decide +kernel)⟩
theorem w_flo4_22 : w_flok RX4 (22, 4, 1, 0) := ⟨RX4, TX4, 7, rfl, by decide, rfl, by decide +kernel, fun _ => by first | rfl | contradiction, w_m1 154 (by decide +kernel) (by decide +kernel)⟩
theorem w_flok4 : ∀ q ∈ w_fl4, w_flok RX4 q := List.forall_mem_cons.mpr ⟨w_flo4_9, List.forall_mem_cons.mpr ⟨w_flo4_15, List.forall_mem_cons.mpr ⟨w_flo4_19, List.forall_mem_cons.mpr ⟨w_flo4_22, fun _ h => absurd h List.not_mem_nil⟩⟩⟩⟩
def w_gs4 : List (Nat × Nat) := []
theorem w_gsok4 : ∀ q ∈ w_gs4, w_gsk RX4 q := fun _ h => absurd h List.not_mem_nil
def w_kl4 : List (Nat × Int) := []
theorem w_klok4 : ∀ q ∈ w_kl4, Cond.constantLong RX4 q.1 (Int64.ofInt q.2) ∈ w_TB := fun _ h => absurd h List.not_mem_nil
def w_ki4 : List (Nat × Int) := []
theorem w_kiok4 : ∀ q ∈ w_ki4, Cond.constant RX4 q.1 (Int32.ofInt q.2) ∈ w_TB := fun _ h => absurd h List.not_mem_nil
def w_fl5 : List (Nat × Nat × Nat × Nat) := [(9, 5, 3, 2), (15, 5, 4, 2), (18, 5, 0, 2), (22, 5, 1, 2), (26, 5, 2, 2), (36, 5, 5, 0), (46, 8, 1, 0), (51, 8, 0, 2), (63, 6, 6, 0), (66, 6, 13, 0), (69, 1, 6, 0), (74, 6, 2, 2), (75, 6, 14, 0), (78, 6, 9, 0), (81, 6, 11, 0), (84, 6, 10, 0), (87, 1, 0, 2), (94, 5, 8, 0), (101, 5, 6, 0), (104, 5, 7, 0)]
theorem w_flk5_9 : w_lk w_fl5 9 = some (5, 3, 2) := rfl
theorem w_flk5_15 : w_lk w_fl5 15 = some (5, 4, 2) := rfl
theorem w_flk5_18 : w_lk w_fl5 18 = some (5, 0, 2) := rfl
theorem w_flk5_22 : w_lk w_fl5 22 = some (5, 1, 2) := rfl
theorem w_flk5_26 : w_lk w_fl5 26 = some (5, 2, 2) := rfl
theorem w_flk5_36 : w_lk w_fl5 36 = some (5, 5, 0) := rfl
theorem w_flk5_46 : w_lk w_fl5 46 = some (8, 1, 0) := rfl
theorem w_flk5_51 : w_lk w_fl5 51 = some (8, 0, 2) := rfl
theorem w_flk5_63 : w_lk w_fl5 63 = some (6, 6, 0) := rfl
theorem w_flk5_66 : w_lk w_fl5 66 = some (6, 13, 0) := rfl
theorem w_flk5_69 : w_lk w_fl5 69 = some (1, 6, 0) := rfl
theorem w_flk5_74 : w_lk w_fl5 74 = some (6, 2, 2) := rfl
theorem w_flk5_75 : w_lk w_fl5 75 = some (6, 14, 0) := rfl
theorem w_flk5_78 : w_lk w_fl5 78 = some (6, 9, 0) := rfl
theorem w_flk5_81 : w_lk w_fl5 81 = some (6, 11, 0) := rfl
theorem w_flk5_84 : w_lk w_fl5 84 = some (6, 10, 0) := rfl
theorem w_flk5_87 : w_lk w_fl5 87 = some (1, 0, 2) := rfl
theorem w_flk5_94 : w_lk w_fl5 94 = some (5, 8, 0) := rfl
theorem w_flk5_101 : w_lk w_fl5 101 = some (5, 6, 0) := rfl
theorem w_flk5_104 : w_lk w_fl5 104 = some (5, 7, 0) := rfl
theorem w_flo5_9 : w_flok RX5 (9, 5, 3, 2) := ⟨RX5, TX5, 9, rfl, by decide, rfl, by decide +kernel, fun _ => by first | rfl | contradiction, w_m2 63 (by decide +kernel) (by decide +kernel)⟩
theorem w_flo5_15 : w_flok RX5 (15, 5, 4, 2) := ⟨RX5, TX5, 9, rfl, by decide, rfl, by decide +kernel, fun _ => by first | rfl | contradiction, w_m2 65 (by decide +kernel) (by decide +kernel)⟩
theorem w_flo5_18 : w_flok RX5 (18, 5, 0, 2) := ⟨RX5, TX5, 9, rfl, by decide, rfl, by decide +kernel, fun _ => by first | rfl | contradiction, w_m2 60 (by decide +kernel) (by decide +kernel)⟩
theorem w_flo5_22 : w_flok RX5 (22, 5, 1, 2) := ⟨RX5, TX5, 9, rfl, by decide, rfl, by decide +kernel, fun _ => by first | rfl | contradiction, w_m2 61 (by decide +kernel) (by decide +kernel)⟩
theorem w_flo5_26 : w_flok RX5 (26, 5, 2, 2) := ⟨RX5, TX5, 9, rfl, by decide, rfl, by decide +kernel, fun _ => by first | rfl | contradiction, w_m2 62 (by decide +kernel) (by decide +kernel)⟩
theorem w_flo5_36 : w_flok RX5 (36, 5, 5, 0) := ⟨RX5, TX5, 9, rfl, by decide, rfl, by decide +kernel, fun _ => by first | rfl | contradiction, w_m2 67 (by decide +kernel) (by decide +kernel)⟩
theorem w_flo5_46 : w_flok RX5 (46, 8, 1, 0) := ⟨RX8, TX8, 2, rfl, by decide, rfl, by decide +kernel, fun _ => by first | rfl | contradiction, w_m1 111 (by decide +kernel) (by decide +kernel)⟩
theorem w_flo5_51 : w_flok RX5 (51, 8, 0, 2) := ⟨RX8, TX8, 2, rfl, by decide, rfl, by decide +kernel, fun _ => by first | rfl | contradiction, w_m1 106 (by decide +kernel) (by decide +kernel)⟩
theorem w_flo5_63 : w_flok RX5 (63, 6, 6, 0) := ⟨RX6, TX6, 15, rfl, by decide, rfl, by decide +kernel, fun _ => by first | rfl | contradiction, w_m2 5 (by decide +kernel) (by decide +kernel)⟩
theorem w_flo5_66 : w_flok RX5 (66, 6, 13, 0) := ⟨RX6, TX6, 15, rfl, by decide, rfl, by decide +kernel, fun _ => by first | rfl | contradiction, w_m2 17 (by decide +kernel) (by decide +kernel)⟩
theorem w_flo5_69 : w_flok RX5 (69, 1, 6, 0) := ⟨RX1, TX1, 7, rfl, by decide, rfl, by decide +kernel, fun _ => by first | rfl | contradiction, w_m1 79 (by decide +kernel) (by decide +kernel)⟩
theorem w_flo5_74 : w_flok RX5 (74, 6, 2, 2) := ⟨RX6, TX6, 15, rfl, by decide, rfl, by decide +kernel, fun _ => by first | rfl | contradiction, w_m2 0 (by decide +kernel) (by decide +kernel)⟩
theorem w_flo5_75 : w_flok RX5 (75, 6, 14, 0) := ⟨RX6, TX6, 15, rfl, by decide, rfl, by decide +kernel, fun _ => by first | rfl | contradiction, w_m2 20 (by decide +kernel) (by decide +kernel)⟩
theorem w_flo5_78 : w_flok RX5 (78, 6, 9, 0) := ⟨RX6, TX6, 15, rfl, by decide, rfl, by decide +kernel, fun _ => by first | rfl | contradiction, w_m2 11 (by decide +kernel) (by decide +kernel)⟩
theorem w_flo5_81 : w_flok RX5 (81, 6, 11, 0) := ⟨RX6, TX6, 15, rfl, by decide, rfl, by decide +kernel, fun _ => by first | rfl | contradiction, w_m2 14 (by decide +kernel) (by decide +kernel)⟩
theorem w_flo5_84 : w_flok RX5 (84, 6, 10, 0) := ⟨RX6, TX6, 15, rfl, by decide, rfl, by decide +kernel, fun _ => by first | rfl | contradiction, w_m2 13 (by decide +kernel) (by decide +kernel)⟩
theorem w_flo5_87 : w_flok RX5 (87, 1, 0, 2) := ⟨RX1, TX1, 7, rfl, by decide, rfl, by decide +kernel, fun _ => by first | rfl | contradiction, w_m1 65 (by decide +kernel) (by decide +kernel)⟩
theorem w_flo5_94 : w_flok RX5 (94, 5, 8, 0) := ⟨RX5, TX5, 9, rfl, by decide, rfl, by decide +kernel, fun _ => by first | rfl | contradiction, w_m2 73 (by decide +kernel) (by decide +kernel)⟩
theorem w_flo5_101 : w_flok RX5 (101, 5, 6, 0) := ⟨RX5, TX5, 9, rfl, by decide, rfl, by decide +kernel, fun _ => by first | rfl | contradiction, w_m2 69 (by decide +kernel) (by decide +kernel)⟩
theorem w_flo5_104 : w_flok RX5 (104, 5, 7, 0) := ⟨RX5, TX5, 9, rfl, by decide, rfl, by decide +kernel, fun _ => by first | rfl | contradiction, w_m2 71 (by decide +kernel) (by decide +kernel)⟩
theorem w_flok5 : ∀ q ∈ w_fl5, w_flok RX5 q := List.forall_mem_cons.mpr ⟨w_flo5_9, List.forall_mem_cons.mpr ⟨w_flo5_15, List.forall_mem_cons.mpr ⟨w_flo5_18, List.forall_mem_cons.mpr ⟨w_flo5_22, List.forall_mem_cons.mpr ⟨w_flo5_26, List.forall_mem_cons.mpr ⟨w_flo5_36, List.forall_mem_cons.mpr ⟨w_flo5_46, List.forall_mem_cons.mpr ⟨w_flo5_51, List.forall_mem_cons.mpr ⟨w_flo5_63, List.forall_mem_cons.mpr ⟨w_flo5_66, List.forall_mem_cons.mpr ⟨w_flo5_69, List.forall_mem_cons.mpr ⟨w_flo5_74, List.forall_mem_cons.mpr ⟨w_flo5_75, List.forall_mem_cons.mpr ⟨w_flo5_78, List.forall_mem_cons.mpr ⟨w_flo5_81, List.forall_mem_cons.mpr ⟨w_flo5_84, List.forall_mem_cons.mpr ⟨w_flo5_87, List.forall_mem_cons.mpr ⟨w_flo5_94, List.forall_mem_cons.mpr ⟨w_flo5_101, List.forall_mem_cons.mpr ⟨w_flo5_104, fun _ h => absurd h List.not_mem_nil⟩⟩⟩⟩⟩⟩⟩⟩⟩⟩⟩⟩⟩⟩⟩⟩⟩⟩⟩⟩
def w_gs5 : List (Nat × Nat) := []
theorem w_gsok5 : ∀ q ∈ w_gs5, w_gsk RX5 q := fun _ h => absurd h List.not_mem_nil
def w_kl5 : List (Nat × Int) := []
theorem w_klok5 : ∀ q ∈ w_kl5, Cond.constantLong RX5 q.1 (Int64.ofInt q.2) ∈ w_TB := fun _ h => absurd h List.not_mem_nil
def w_ki5 : List (Nat × Int) := [(93, 1073741824)]
theorem w_kik5_93 : w_lk w_ki5 93 = some (1073741824) := rfl
theorem w_kiok5 : ∀ q ∈ w_ki5, Cond.constant RX5 q.1 (Int32.ofInt q.2) ∈ w_TB := List.forall_mem_cons.mpr ⟨w_m3 205 (by decide +kernel) (by decide +kernel), fun _ h => absurd h List.not_mem_nil⟩
def w_fl6 : List (Nat × Nat × Nat × Nat) := [(9, 6, 2, 2), (15, 6, 0, 2), (19, 6, 1, 2), (23, 6, 3, 0), (27, 6, 4, 0), (30, 1, 0, 2), (35, 6, 5, 0), (38, 6, 6, 0), (41, 6, 7, 3), (49, 6, 8, 0), (52, 6, 9, 0), (55, 6, 10, 0), (66, 4, 1, 0), (71, 4, 2, 0), (78, 6, 12, 0), (81, 6, 13, 0), (84, 6, 11, 0), (87, 6, 14, 0), (90, 1, 6, 0), (93, 1, 4, 2), (100, 1, 3, 2), (107, 7, 2, 2), (113, 7, 3, 2), (125, 4, 0, 2)]
theorem w_flk6_9 : w_lk w_fl6 9 = some (6, 2, 2) := rfl
theorem w_flk6_15 : w_lk w_fl6 15 = some (6, 0, 2) := rfl
theorem w_flk6_19 : w_lk w_fl6 19 = some (6, 1, 2) := rfl
theorem w_flk6_23 : w_lk w_fl6 23 = some (6, 3, 0) := rfl
theorem w_flk6_27 : w_lk w_fl6 27 = some (6, 4, 0) := rfl
theorem w_flk6_30 : w_lk w_fl6 30 = some (1, 0, 2) := rfl
theorem w_flk6_35 : w_lk w_fl6 35 = some (6, 5, 0) := rfl
theorem w_flk6_38 : w_lk w_fl6 38 = some (6, 6, 0) := rfl
theorem w_flk6_41 : w_lk w_fl6 41 = some (6, 7, 3) := rfl
theorem w_flk6_49 : w_lk w_fl6 49 = some (6, 8, 0) := rfl
theorem w_flk6_52 : w_lk w_fl6 52 = some (6, 9, 0) := rfl
theorem w_flk6_55 : w_lk w_fl6 55 = some (6, 10, 0) := rfl
theorem w_flk6_66 : w_lk w_fl6 66 = some (4, 1, 0) := rfl
theorem w_flk6_71 : w_lk w_fl6 71 = some (4, 2, 0) := rfl
theorem w_flk6_78 : w_lk w_fl6 78 = some (6, 12, 0) := rfl
theorem w_flk6_81 : w_lk w_fl6 81 = some (6, 13, 0) := rfl
theorem w_flk6_84 : w_lk w_fl6 84 = some (6, 11, 0) := rfl
theorem w_flk6_87 : w_lk w_fl6 87 = some (6, 14, 0) := rfl
theorem w_flk6_90 : w_lk w_fl6 90 = some (1, 6, 0) := rfl
theorem w_flk6_93 : w_lk w_fl6 93 = some (1, 4, 2) := rfl
theorem w_flk6_100 : w_lk w_fl6 100 = some (1, 3, 2) := rfl
theorem w_flk6_107 : w_lk w_fl6 107 = some (7, 2, 2) := rfl
theorem w_flk6_113 : w_lk w_fl6 113 = some (7, 3, 2) := rfl
theorem w_flk6_125 : w_lk w_fl6 125 = some (4, 0, 2) := rfl
theorem w_flo6_9 : w_flok RX6 (9, 6, 2, 2) := ⟨RX6, TX6, 15, rfl, by decide, rfl, by decide +kernel, fun _ => by first | rfl | contradiction, w_m1 239 (by decide +kernel) (by decide +kernel)⟩
theorem w_flo6_15 : w_flok RX6 (15, 6, 0, 2) := ⟨RX6, TX6, 15, rfl, by decide, rfl, by decide +kernel, fun _ => by first | rfl | contradiction, w_m1 237 (by decide +kernel) (by decide +kernel)⟩
theorem w_flo6_19 : w_flok RX6 (19, 6, 1, 2) := ⟨RX6, TX6, 15, rfl, by decide, rfl, by decide +kernel, fun _ => by first | rfl | contradiction, w_m1 238 (by decide +kernel) (by decide +kernel)⟩
theorem w_flo6_23 : w_flok RX6 (23, 6, 3, 0) := ⟨RX6, TX6, 15, rfl, by decide, rfl, by decide +kernel, fun _ => by first | rfl | contradiction, w_m2 1 (by decide +kernel) (by decide +kernel)⟩
theorem w_flo6_27 : w_flok RX6 (27, 6, 4, 0) := ⟨RX6, TX6, 15, rfl, by decide, rfl, by decide +kernel, fun _ => by first | rfl | contradiction, w_m2 2 (by decide +kernel) (by decide +kernel)⟩
theorem w_flo6_30 : w_flok RX6 (30, 1, 0, 2) := ⟨RX1, TX1, 7, rfl, by decide, rfl, by decide +kernel, fun _ => by first | rfl | contradiction, w_m1 63 (by decide +kernel) (by decide +kernel)⟩
theorem w_flo6_35 : w_flok RX6 (35, 6, 5, 0) := ⟨RX6, TX6, 15, rfl, by decide, rfl, by decide +kernel, fun _ => by first | rfl | contradiction, w_m2 3 (by decide +kernel) (by decide +kernel)⟩
theorem w_flo6_38 : w_flok RX6 (38, 6, 6, 0) := ⟨RX6, TX6, 15, rfl, by decide, rfl, by decide +kernel, fun _ => by first | rfl | contradiction, w_m2 4 (by decide +kernel) (by decide +kernel)⟩
theorem w_flo6_41 : w_flok RX6 (41, 6, 7, 3) := ⟨RX6, TX6, 15, rfl, by decide, rfl, by decide +kernel, fun _ => by first | rfl | contradiction, w_m2 7 (by decide +kernel) (by decide +kernel)⟩
theorem w_flo6_49 : w_flok RX6 (49, 6, 8, 0) := ⟨RX6, TX6, 15, rfl, by decide, rfl, by decide +kernel, fun _ => by first | rfl | contradiction, w_m2 9 (by decide +kernel) (by decide +kernel)⟩
theorem w_flo6_52 : w_flok RX6 (52, 6, 9, 0) := ⟨RX6, TX6, 15, rfl, by decide, rfl, by decide +kernel, fun _ => by first | rfl | contradiction, w_m2 10 (by decide +kernel) (by decide +kernel)⟩
theorem w_flo6_55 : w_flok RX6 (55, 6, 10, 0) := ⟨RX6, TX6, 15, rfl, by decide, rfl, by decide +kernel, fun _ => by first | rfl | contradiction, w_m2 12 (by decide +kernel) (by decide +kernel)⟩
theorem w_flo6_66 : w_flok RX6 (66, 4, 1, 0) := ⟨RX4, TX4, 7, rfl, by decide, rfl, by decide +kernel, fun _ => by first | rfl | contradiction, w_m1 156 (by decide +kernel) (by decide +kernel)⟩
theorem w_flo6_71 : w_flok RX6 (71, 4, 2, 0) := ⟨RX4, TX4, 7, rfl, by decide, rfl, by decide +kernel, fun _ => by first | rfl | contradiction, w_m1 159 (by decide +kernel) (by decide +kernel)⟩
theorem w_flo6_78 : w_flok RX6 (78, 6, 12, 0) := ⟨RX6, TX6, 15, rfl, by decide, rfl, by decide +kernel, fun _ => by first | rfl | contradiction, w_m2 16 (by decide +kernel) (by decide +kernel)⟩
theorem w_flo6_81 : w_flok RX6 (81, 6, 13, 0) := ⟨RX6, TX6, 15, rfl, by decide, rfl, by decide +kernel, fun _ => by first | rfl | contradiction, w_m2 18 (by decide +kernel) (by decide +kernel)⟩
theorem w_flo6_84 : w_flok RX6 (84, 6, 11, 0) := ⟨RX6, TX6, 15, rfl, by decide, rfl, by decide +kernel, fun _ => by first | rfl | contradiction, w_m2 15 (by decide +kernel) (by decide +kernel)⟩
theorem w_flo6_87 : w_flok RX6 (87, 6, 14, 0) := ⟨RX6, TX6, 15, rfl, by decide, rfl, by decide +kernel, fun _ => by first | rfl | contradiction, w_m2 21 (by decide +kernel) (by decide +kernel)⟩
theorem w_flo6_90 : w_flok RX6 (90, 1, 6, 0) := ⟨RX1, TX1, 7, rfl, by decide, rfl, by decide +kernel, fun _ => by first | rfl | contradiction, w_m1 80 (by decide +kernel) (by decide +kernel)⟩
theorem w_flo6_93 : w_flok RX6 (93, 1, 4, 2) := ⟨RX1, TX1, 7, rfl, by decide, rfl, by decide +kernel, fun _ => by first | rfl | contradiction, w_m1 74 (by decide +kernel) (by decide +kernel)⟩
theorem w_flo6_100 : w_flok RX6 (100, 1, 3, 2) := ⟨RX1, TX1, 7, rfl, by decide, rfl, by decide +kernel, fun _ => by first | rfl | contradiction, w_m1 71 (by decide +kernel) (by decide +kernel)⟩
theorem w_flo6_107 : w_flok RX6 (107, 7, 2, 2) := ⟨RX7, TX7, 11, rfl, by decide, rfl, by decide +kernel, fun _ => by first | rfl | contradiction, w_m1 195 (by decide +kernel) (by decide +kernel)⟩
theorem w_flo6_113 : w_flok RX6 (113, 7, 3, 2) := ⟨RX7, TX7, 11, rfl, by decide, rfl, by decide +kernel, fun _ => by first | rfl | contradiction, w_m1 198 (by decide +kernel) (by decide +kernel)⟩
theorem w_flo6_125 : w_flok RX6 (125, 4, 0, 2) := ⟨RX4, TX4, 7, rfl, by decide, rfl, by decide +kernel, fun _ => by first | rfl | contradiction, w_m1 152 (by decide +kernel) (by decide +kernel)⟩
theorem w_flok6 : ∀ q ∈ w_fl6, w_flok RX6 q := List.forall_mem_cons.mpr ⟨w_flo6_9, List.forall_mem_cons.mpr ⟨w_flo6_15, List.forall_mem_cons.mpr ⟨w_flo6_19, List.forall_mem_cons.mpr ⟨w_flo6_23, List.forall_mem_cons.mpr ⟨w_flo6_27, List.forall_mem_cons.mpr ⟨w_flo6_30, List.forall_mem_cons.mpr ⟨w_flo6_35, List.forall_mem_cons.mpr ⟨w_flo6_38, List.forall_mem_cons.mpr ⟨w_flo6_41, List.forall_mem_cons.mpr ⟨w_flo6_49, List.forall_mem_cons.mpr ⟨w_flo6_52, List.forall_mem_cons.mpr ⟨w_flo6_55, List.forall_mem_cons.mpr ⟨w_flo6_66, List.forall_mem_cons.mpr ⟨w_flo6_71, List.forall_mem_cons.mpr ⟨w_flo6_78, List.forall_mem_cons.mpr ⟨w_flo6_81, List.forall_mem_cons.mpr ⟨w_flo6_84, List.forall_mem_cons.mpr ⟨w_flo6_87, List.forall_mem_cons.mpr ⟨w_flo6_90, List.forall_mem_cons.mpr ⟨w_flo6_93, List.forall_mem_cons.mpr ⟨w_flo6_100, List.forall_mem_cons.mpr ⟨w_flo6_107, List.forall_mem_cons.mpr ⟨w_flo6_113, List.forall_mem_cons.mpr ⟨w_flo6_125, fun _ h => absurd h List.not_mem_nil⟩⟩⟩⟩⟩⟩⟩⟩⟩⟩⟩⟩⟩⟩⟩⟩⟩⟩⟩⟩⟩⟩⟩⟩
def w_gs6 : List (Nat × Nat) := []
theorem w_gsok6 : ∀ q ∈ w_gs6, w_gsk RX6 q := fun _ h => absurd h List.not_mem_nil
def w_kl6 : List (Nat × Int) := []
theorem w_klok6 : ∀ q ∈ w_kl6, Cond.constantLong RX6 q.1 (Int64.ofInt q.2) ∈ w_TB := fun _ h => absurd h List.not_mem_nil
def w_ki6 : List (Nat × Int) := []
theorem w_kiok6 : ∀ q ∈ w_ki6, Cond.constant RX6 q.1 (Int32.ofInt q.2) ∈ w_TB := fun _ h => absurd h List.not_mem_nil
def w_fl7 : List (Nat × Nat × Nat × Nat) := [(11, 7, 2, 2), (16, 7, 3, 2), (19, 7, 4, 2), (23, 7, 5, 2), (26, 7, 6, 2), (29, 7, 7, 2), (33, 7, 8, 2), (36, 7, 10, 0), (40, 7, 0, 2), (44, 7, 1, 2), (69, 8, 1, 0), (74, 1, 6, 0), (79, 1, 3, 2), (86, 7, 9, 0), (89, 1, 4, 2), (92, 1, 0, 2), (106, 8, 0, 2)]
theorem w_flk7_11 : w_lk w_fl7 11 = some (7, 2, 2) := rfl
theorem w_flk7_16 : w_lk w_fl7 16 = some (7, 3, 2) := rfl
theorem w_flk7_19 : w_lk w_fl7 19 = some (7, 4, 2) := rfl
theorem w_flk7_23 : w_lk w_fl7 23 = some (7, 5, 2) := rfl
theorem w_flk7_26 : w_lk w_fl7 26 = some (7, 6, 2) := rfl
theorem w_flk7_29 : w_lk w_fl7 29 = some (7, 7, 2) := rfl
theorem w_flk7_33 : w_lk w_fl7 33 = some (7, 8, 2) := rfl
theorem w_flk7_36 : w_lk w_fl7 36 = some (7, 10, 0) := rfl
theorem w_flk7_40 : w_lk w_fl7 40 = some (7, 0, 2) := rfl
theorem w_flk7_44 : w_lk w_fl7 44 = some (7, 1, 2) := rfl
theorem w_flk7_69 : w_lk w_fl7 69 = some (8, 1, 0) := rfl
theorem w_flk7_74 : w_lk w_fl7 74 = some (1, 6, 0) := rfl
theorem w_flk7_79 : w_lk w_fl7 79 = some (1, 3, 2) := rfl
theorem w_flk7_86 : w_lk w_fl7 86 = some (7, 9, 0) := rfl
theorem w_flk7_89 : w_lk w_fl7 89 = some (1, 4, 2) := rfl
theorem w_flk7_92 : w_lk w_fl7 92 = some (1, 0, 2) := rfl
theorem w_flk7_106 : w_lk w_fl7 106 = some (8, 0, 2) := rfl
theorem w_flo7_11 : w_flok RX7 (11, 7, 2, 2) := ⟨RX7, TX7, 11, rfl, by decide, rfl, by decide +kernel, fun _ => by first | rfl | contradiction, w_m1 194 (by decide +kernel) (by decide +kernel)⟩
theorem w_flo7_16 : w_flok RX7 (16, 7, 3, 2) := ⟨RX7, TX7, 11, rfl, by decide, rfl, by decide +kernel, fun _ => by first | rfl | contradiction, w_m1 197 (by decide +kernel) (by decide +kernel)⟩
theorem w_flo7_19 : w_flok RX7 (19, 7, 4, 2) := ⟨RX7, TX7, 11, rfl, by decide, rfl, by decide +kernel, fun _ => by first | rfl | contradiction, w_m1 200 (by decide +kernel) (by decide +kernel)⟩
theorem w_flo7_23 : w_flok RX7 (23, 7, 5, 2) := ⟨RX7, TX7, 11, rfl, by decide, rfl, by decide +kernel, fun _ => by first | rfl | contradiction, w_m1 201 (by decide +kernel) (by decide +kernel)⟩
theorem w_flo7_26 : w_flok RX7 (26, 7, 6, 2) := ⟨RX7, TX7, 11, rfl, by decide, rfl, by decide +kernel, fun _ => by first | rfl | contradiction, w_m1 202 (by decide +kernel) (by decide +kernel)⟩
theorem w_flo7_29 : w_flok RX7 (29, 7, 7, 2) := ⟨RX7, TX7, 11, rfl, by decide, rfl, by decide +kernel, fun _ => by first | rfl | contradiction, w_m1 203 (by decide +kernel) (by decide +kernel)⟩
theorem w_flo7_33 : w_flok RX7 (33, 7, 8, 2) := ⟨RX7, TX7, 11, rfl, by decide, rfl, by decide +kernel, fun _ => by first | rfl | contradiction, w_m1 204 (by decide +kernel) (by decide +kernel)⟩
theorem w_flo7_36 : w_flok RX7 (36, 7, 10, 0) := ⟨RX7, TX7, 11, rfl, by decide, rfl, by decide +kernel, fun _ => by first | rfl | contradiction, w_m1 206 (by decide +kernel) (by decide +kernel)⟩
theorem w_flo7_40 : w_flok RX7 (40, 7, 0, 2) := ⟨RX7, TX7, 11, rfl, by decide, rfl, by decide +kernel, fun _ => by first | rfl | contradiction, w_m1 192 (by decide +kernel) (by decide +kernel)⟩
theorem w_flo7_44 : w_flok RX7 (44, 7, 1, 2) := ⟨RX7, TX7, 11, rfl, by decide, rfl, by decide +kernel, fun _ => by first | rfl | contradiction, w_m1 193 (by decide +kernel) (by decide +kernel)⟩
theorem w_flo7_69 : w_flok RX7 (69, 8, 1, 0) := ⟨RX8, TX8, 2, rfl, by decide, rfl, by decide +kernel, fun _ => by first | rfl | contradiction, w_m1 112 (by decide +kernel) (by decide +kernel)⟩
theorem w_flo7_74 : w_flok RX7 (74, 1, 6, 0) := ⟨RX1, TX1, 7, rfl, by decide, rfl, by decide +kernel, fun _ => by first | rfl | contradiction, w_m1 78 (by decide +kernel) (by decide +kernel)⟩
theorem w_flo7_79 : w_flok RX7 (79, 1, 3, 2) := ⟨RX1, TX1, 7, rfl, by decide, rfl, by decide +kernel, fun _ => by first | rfl | contradiction, w_m1 70 (by decide +kernel) (by decide +kernel)⟩
theorem w_flo7_86 : w_flok RX7 (86, 7, 9, 0) := ⟨RX7, TX7, 11, rfl, by decide, rfl, by decide +kernel, fun _ => by first | rfl | contradiction, w_m1 205 (by decide +kernel) (by decide +kernel)⟩
theorem w_flo7_89 : w_flok RX7 (89, 1, 4, 2) := ⟨RX1, TX1, 7, rfl, by decide, rfl, by decide +kernel, fun _ => by first | rfl | contradiction, w_m1 73 (by decide +kernel) (by decide +kernel)⟩
theorem w_flo7_92 : w_flok RX7 (92, 1, 0, 2) := ⟨RX1, TX1, 7, rfl, by decide, rfl, by decide +kernel, fun _ => by first | rfl | contradiction, w_m1 64 (by decide +kernel) (by decide +kernel)⟩
theorem w_flo7_106 : w_flok RX7 (106, 8, 0, 2) := ⟨RX8, TX8, 2, rfl, by decide, rfl, by decide +kernel, fun _ => by first | rfl | contradiction, w_m1 108 (by decide +kernel) (by decide +kernel)⟩
theorem w_flok7 : ∀ q ∈ w_fl7, w_flok RX7 q := List.forall_mem_cons.mpr ⟨w_flo7_11, List.forall_mem_cons.mpr ⟨w_flo7_16, List.forall_mem_cons.mpr ⟨w_flo7_19, List.forall_mem_cons.mpr ⟨w_flo7_23, List.forall_mem_cons.mpr ⟨w_flo7_26, List.forall_mem_cons.mpr ⟨w_flo7_29, List.forall_mem_cons.mpr ⟨w_flo7_33, List.forall_mem_cons.mpr ⟨w_flo7_36, List.forall_mem_cons.mpr ⟨w_flo7_40, List.forall_mem_cons.mpr ⟨w_flo7_44, List.forall_mem_cons.mpr ⟨w_flo7_69, List.forall_mem_cons.mpr ⟨w_flo7_74, List.forall_mem_cons.mpr ⟨w_flo7_79, List.forall_mem_cons.mpr ⟨w_flo7_86, List.forall_mem_cons.mpr ⟨w_flo7_89, List.forall_mem_cons.mpr ⟨w_flo7_92, List.forall_mem_cons.mpr ⟨w_flo7_106, fun _ h => absurd h List.not_mem_nil⟩⟩⟩⟩⟩⟩⟩⟩⟩⟩⟩⟩⟩⟩⟩⟩⟩
def w_gs7 : List (Nat × Nat) := []
theorem w_gsok7 : ∀ q ∈ w_gs7, w_gsk RX7 q := fun _ h => absurd h List.not_mem_nil
def w_kl7 : List (Nat × Int) := [(100, 1152921504606846976)]
theorem w_klk7_100 : w_lk w_kl7 100 = some (1152921504606846976) := rfl
theorem w_klok7 : ∀ q ∈ w_kl7, Cond.constantLong RX7 q.1 (Int64.ofInt q.2) ∈ w_TB := List.forall_mem_cons.mpr ⟨w_m3 120 (by decide +kernel) (by decide +kernel), fun _ h => absurd h List.not_mem_nil⟩
def w_ki7 : List (Nat × Int) := []
theorem w_kiok7 : ∀ q ∈ w_ki7, Cond.constant RX7 q.1 (Int32.ofInt q.2) ∈ w_TB := fun _ h => absurd h List.not_mem_nil
def w_fl8 : List (Nat × Nat × Nat × Nat) := [(11, 8, 0, 2), (16, 8, 1, 0)]
theorem w_flk8_11 : w_lk w_fl8 11 = some (8, 0, 2) := rfl
theorem w_flk8_16 : w_lk w_fl8 16 = some (8, 1, 0) := rfl
theorem w_flo8_11 : w_flok RX8 (11, 8, 0, 2) := ⟨RX8, TX8, 2, rfl, by decide, rfl, by decide +kernel, fun _ => by first | rfl | contradiction, w_m1 105 (by decide +kernel) (by decide +kernel)⟩
theorem w_flo8_16 : w_flok RX8 (16, 8, 1, 0) := ⟨RX8, TX8, 2, rfl, by decide, rfl, by decide +kernel, fun _ => by first | rfl | contradiction, w_m1 110 (by decide +kernel) (by decide +kernel)⟩
theorem w_flok8 : ∀ q ∈ w_fl8, w_flok RX8 q := List.forall_mem_cons.mpr ⟨w_flo8_11, List.forall_mem_cons.mpr ⟨w_flo8_16, fun _ h => absurd h List.not_mem_nil⟩⟩
def w_gs8 : List (Nat × Nat) := []
theorem w_gsok8 : ∀ q ∈ w_gs8, w_gsk RX8 q := fun _ h => absurd h List.not_mem_nil
def w_kl8 : List (Nat × Int) := []
theorem w_klok8 : ∀ q ∈ w_kl8, Cond.constantLong RX8 q.1 (Int64.ofInt q.2) ∈ w_TB := fun _ h => absurd h List.not_mem_nil
def w_ki8 : List (Nat × Int) := []
theorem w_kiok8 : ∀ q ∈ w_ki8, Cond.constant RX8 q.1 (Int32.ofInt q.2) ∈ w_TB := fun _ h => absurd h List.not_mem_nil
def w_fl9 : List (Nat × Nat × Nat × Nat) := [(12, 9, 0, 2), (19, 9, 1, 2), (26, 9, 2, 2), (32, 9, 3, 2), (36, 9, 4, 2), (43, 9, 5, 2), (48, 9, 10, 2), (63, 9, 6, 2), (72, 9, 7, 2), (81, 9, 8, 2), (88, 9, 9, 2), (96, 3, 2, 0), (108, 3, 4, 0), (115, 9, 12, 0), (118, 9, 15, 0), (121, 1, 6, 0), (124, 8, 1, 0), (127, 3, 1, 2), (130, 8, 0, 2), (140, 9, 11, 0), (143, 4, 1, 0), (146, 4, 2, 0), (149, 4, 0, 2), (158, 1, 0, 2), (188, 5, 3, 2), (191, 5, 4, 2), (212, 5, 5, 0), (218, 9, 13, 0), (225, 5, 6, 0), (228, 5, 8, 0), (231, 5, 7, 0), (240, 4, 3, 0), (247, 4, 5, 1), (254, 4, 4, 0), (260, 4, 6, 1), (270, 7, 2, 2), (273, 7, 3, 2), (276, 9, 14, 0), (295, 2, 0, 2), (296, 2, 1, 2), (301, 2, 2, 2), (302, 2, 3, 0), (320, 3, 0, 2), (325, 1, 5, 2)]
theorem w_flk9_12 : w_lk w_fl9 12 = some (9, 0, 2) := rfl
theorem w_flk9_19 : w_lk w_fl9 19 = some (9, 1, 2) := rfl
theorem w_flk9_26 : w_lk w_fl9 26 = some (9, 2, 2) := rfl
theorem w_flk9_32 : w_lk w_fl9 32 = some (9, 3, 2) := rfl
theorem w_flk9_36 : w_lk w_fl9 36 = some (9, 4, 2) := rfl
theorem w_flk9_43 : w_lk w_fl9 43 = some (9, 5, 2) := rfl
theorem w_flk9_48 : w_lk w_fl9 48 = some (9, 10, 2) := rfl
theorem w_flk9_63 : w_lk w_fl9 63 = some (9, 6, 2) := rfl
theorem w_flk9_72 : w_lk w_fl9 72 = some (9, 7, 2) := rfl
theorem w_flk9_81 : w_lk w_fl9 81 = some (9, 8, 2) := rfl
theorem w_flk9_88 : w_lk w_fl9 88 = some (9, 9, 2) := rfl
theorem w_flk9_96 : w_lk w_fl9 96 = some (3, 2, 0) := rfl
theorem w_flk9_108 : w_lk w_fl9 108 = some (3, 4, 0) := rfl
theorem w_flk9_115 : w_lk w_fl9 115 = some (9, 12, 0) := rfl
theorem w_flk9_118 : w_lk w_fl9 118 = some (9, 15, 0) := rfl
theorem w_flk9_121 : w_lk w_fl9 121 = some (1, 6, 0) := rfl
theorem w_flk9_124 : w_lk w_fl9 124 = some (8, 1, 0) := rfl
theorem w_flk9_127 : w_lk w_fl9 127 = some (3, 1, 2) := rfl
theorem w_flk9_130 : w_lk w_fl9 130 = some (8, 0, 2) := rfl
theorem w_flk9_140 : w_lk w_fl9 140 = some (9, 11, 0) := rfl
theorem w_flk9_143 : w_lk w_fl9 143 = some (4, 1, 0) := rfl
theorem w_flk9_146 : w_lk w_fl9 146 = some (4, 2, 0) := rfl
theorem w_flk9_149 : w_lk w_fl9 149 = some (4, 0, 2) := rfl
theorem w_flk9_158 : w_lk w_fl9 158 = some (1, 0, 2) := rfl
theorem w_flk9_188 : w_lk w_fl9 188 = some (5, 3, 2) := rfl
theorem w_flk9_191 : w_lk w_fl9 191 = some (5, 4, 2) := rfl
theorem w_flk9_212 : w_lk w_fl9 212 = some (5, 5, 0) := rfl
theorem w_flk9_218 : w_lk w_fl9 218 = some (9, 13, 0) := rfl
theorem w_flk9_225 : w_lk w_fl9 225 = some (5, 6, 0) := rfl
theorem w_flk9_228 : w_lk w_fl9 228 = some (5, 8, 0) := rfl
theorem w_flk9_231 : w_lk w_fl9 231 = some (5, 7, 0) := rfl
theorem w_flk9_240 : w_lk w_fl9 240 = some (4, 3, 0) := rfl
theorem w_flk9_247 : w_lk w_fl9 247 = some (4, 5, 1) := rfl
theorem w_flk9_254 : w_lk w_fl9 254 = some (4, 4, 0) := rfl
theorem w_flk9_260 : w_lk w_fl9 260 = some (4, 6, 1) := rfl
theorem w_flk9_270 : w_lk w_fl9 270 = some (7, 2, 2) := rfl
theorem w_flk9_273 : w_lk w_fl9 273 = some (7, 3, 2) := rfl
theorem w_flk9_276 : w_lk w_fl9 276 = some (9, 14, 0) := rfl
theorem w_flk9_295 : w_lk w_fl9 295 = some (2, 0, 2) := rfl
theorem w_flk9_296 : w_lk w_fl9 296 = some (2, 1, 2) := rfl
theorem w_flk9_301 : w_lk w_fl9 301 = some (2, 2, 2) := rfl
theorem w_flk9_302 : w_lk w_fl9 302 = some (2, 3, 0) := rfl
theorem w_flk9_320 : w_lk w_fl9 320 = some (3, 0, 2) := rfl
theorem w_flk9_325 : w_lk w_fl9 325 = some (1, 5, 2) := rfl
theorem w_flo9_12 : w_flok RX9 (12, 9, 0, 2) := ⟨RX9, TX9, 16, rfl, by decide, rfl, by decide +kernel, fun _ => by first | rfl | contradiction, w_m2 131 (by decide +kernel) (by decide +kernel)⟩
theorem w_flo9_19 : w_flok RX9 (19, 9, 1, 2) := ⟨RX9, TX9, 16, rfl, by decide, rfl, by decide +kernel, fun _ => by first | rfl | contradiction, w_m2 132 (by decide +kernel) (by decide +kernel)⟩
theorem w_flo9_26 : w_flok RX9 (26, 9, 2, 2) := ⟨RX9, TX9, 16, rfl, by decide, rfl, by decide +kernel, fun _ => by first | rfl | contradiction, w_m2 133 (by decide +kernel) (by decide +kernel)⟩
theorem w_flo9_32 : w_flok RX9 (32, 9, 3, 2) := ⟨RX9, TX9, 16, rfl, by decide, rfl, by decide +kernel, fun _ => by first | rfl | contradiction, w_m2 134 (by decide +kernel) (by decide +kernel)⟩
theorem w_flo9_36 : w_flok RX9 (36, 9, 4, 2) := ⟨RX9, TX9, 16, rfl, by decide, rfl, by decide +kernel, fun _ => by first | rfl | contradiction, w_m2 135 (by decide +kernel) (by decide +kernel)⟩
theorem w_flo9_43 : w_flok RX9 (43, 9, 5, 2) := ⟨RX9, TX9, 16, rfl, by decide, rfl, by decide +kernel, fun _ => by first | rfl | contradiction, w_m2 136 (by decide +kernel) (by decide +kernel)⟩
theorem w_flo9_48 : w_flok RX9 (48, 9, 10, 2) := ⟨RX9, TX9, 16, rfl, by decide, rfl, by decide +kernel, fun _ => by first | rfl | contradiction, w_m2 141 (by decide +kernel) (by decide +kernel)⟩
theorem w_flo9_63 : w_flok RX9 (63, 9, 6, 2) := ⟨RX9, TX9, 16, rfl, by decide, rfl, by decide +kernel, fun _ => by first | rfl | contradiction, w_m2 137 (by decide +kernel) (by decide +kernel)⟩
theorem w_flo9_72 : w_flok RX9 (72, 9, 7, 2) := ⟨RX9, TX9, 16, rfl, by decide, rfl, by decide +kernel, fun _ => by first | rfl | contradiction, w_m2 138 (by decide +kernel) (by decide +kernel)⟩
theorem w_flo9_81 : w_flok RX9 (81, 9, 8, 2) := ⟨RX9, TX9, 16, rfl, by decide, rfl, by decide +kernel, fun _ => by first | rfl | contradiction, w_m2 139 (by decide +kernel) (by decide +kernel)⟩
theorem w_flo9_88 : w_flok RX9 (88, 9, 9, 2) := ⟨RX9, TX9, 16, rfl, by decide, rfl, by decide +kernel, fun _ => by first | rfl | contradiction, w_m2 140 (by decide +kernel) (by decide +kernel)⟩
theorem w_flo9_96 : w_flok RX9 (96, 3, 2, 0) := ⟨RX3, TX3, 6, rfl, by decide, rfl, by decide +kernel, fun _ => by first | rfl | contradiction, w_m1 34 (by decide +kernel) (by decide +kernel)⟩
theorem w_flo9_108 : w_flok RX9 (108, 3, 4, 0) := ⟨RX3, TX3, 6, rfl, by decide, rfl, by decide +kernel, fun _ => by first | rfl | contradiction, w_m1 39 (by decide +kernel) (by decide +kernel)⟩
theorem w_flo9_115 : w_flok RX9 (115, 9, 12, 0) := ⟨RX9, TX9, 16, rfl, by decide, rfl, by decide +kernel, fun _ => by first | rfl | contradiction, w_m2 143 (by decide +kernel) (by decide +kernel)⟩
theorem w_flo9_118 : w_flok RX9 (118, 9, 15, 0) := ⟨RX9, TX9, 16, rfl, by decide, rfl, by decide +kernel, fun _ => by first | rfl | contradiction, w_m2 146 (by decide +kernel) (by decide +kernel)⟩
theorem w_flo9_121 : w_flok RX9 (121, 1, 6, 0) := ⟨RX1, TX1, 7, rfl, by decide, rfl, by decide +kernel, fun _ => by first | rfl | contradiction, w_m1 81 (by decide +kernel) (by decide +kernel)⟩
theorem w_flo9_124 : w_flok RX9 (124, 8, 1, 0) := ⟨RX8, TX8, 2, rfl, by decide, rfl, by decide +kernel, fun _ => by first | rfl | contradiction, w_m1 113 (by decide +kernel) (by decide +kernel)⟩
theorem w_flo9_127 : w_flok RX9 (127, 3, 1, 2) := ⟨RX3, TX3, 6, rfl, by decide, rfl, by decide +kernel, fun _ => by first | rfl | contradiction, w_m1 33 (by decide +kernel) (by decide +kernel)⟩
theorem w_flo9_130 : w_flok RX9 (130, 8, 0, 2) := ⟨RX8, TX8, 2, rfl, by decide, rfl, by decide +kernel, fun _ => by first | rfl | contradiction, w_m1 107 (by decide +kernel) (by decide +kernel)⟩
theorem w_flo9_140 : w_flok RX9 (140, 9, 11, 0) := ⟨RX9, TX9, 16, rfl, by decide, rfl, by decide +kernel, fun _ => by first | rfl | contradiction, w_m2 142 (by decide +kernel) (by decide +kernel)⟩
theorem w_flo9_143 : w_flok RX9 (143, 4, 1, 0) := ⟨RX4, TX4, 7, rfl, by decide, rfl, by decide +kernel, fun _ => by first | rfl | contradiction, w_m1 157 (by decide +kernel) (by decide +kernel)⟩
theorem w_flo9_146 : w_flok RX9 (146, 4, 2, 0) := ⟨RX4, TX4, 7, rfl, by decide, rfl, by decide +kernel, fun _ => by first | rfl | contradiction, w_m1 160 (by decide +kernel) (by decide +kernel)⟩
theorem w_flo9_149 : w_flok RX9 (149, 4, 0, 2) := ⟨RX4, TX4, 7, rfl, by decide, rfl, by decide +kernel, fun _ => by first | rfl | contradiction, w_m1 153 (by decide +kernel) (by decide +kernel)⟩
theorem w_flo9_158 : w_flok RX9 (158, 1, 0, 2) := ⟨RX1, TX1, 7, rfl, by decide, rfl, by decide +kernel, fun _ => by first | rfl | contradiction, w_m1 66 (by decide +kernel) (by decide +kernel)⟩
theorem w_flo9_188 : w_flok RX9 (188, 5, 3, 2) := ⟨RX5, TX5, 9, rfl, by decide, rfl, by decide +kernel, fun _ => by first | rfl | contradiction, w_m2 64 (by decide +kernel) (by decide +kernel)⟩
theorem w_flo9_191 : w_flok RX9 (191, 5, 4, 2) := ⟨RX5, TX5, 9, rfl, by decide, rfl, by decide +kernel, fun _ => by first | rfl | contradiction, w_m2 66 (by decide +kernel) (by decide +kernel)⟩
theorem w_flo9_212 : w_flok RX9 (212, 5, 5, 0) := ⟨RX5, TX5, 9, rfl, by decide, rfl, by decide +kernel, fun _ => by first | rfl | contradiction, w_m2 68 (by decide +kernel) (by decide +kernel)⟩
theorem w_flo9_218 : w_flok RX9 (218, 9, 13, 0) := ⟨RX9, TX9, 16, rfl, by decide, rfl, by decide +kernel, fun _ => by first | rfl | contradiction, w_m2 144 (by decide +kernel) (by decide +kernel)⟩
theorem w_flo9_225 : w_flok RX9 (225, 5, 6, 0) := ⟨RX5, TX5, 9, rfl, by decide, rfl, by decide +kernel, fun _ => by first | rfl | contradiction, w_m2 70 (by decide +kernel) (by decide +kernel)⟩
theorem w_flo9_228 : w_flok RX9 (228, 5, 8, 0) := ⟨RX5, TX5, 9, rfl, by decide, rfl, by decide +kernel, fun _ => by first | rfl | contradiction, w_m2 74 (by decide +kernel) (by decide +kernel)⟩
theorem w_flo9_231 : w_flok RX9 (231, 5, 7, 0) := ⟨RX5, TX5, 9, rfl, by decide, rfl, by decide +kernel, fun _ => by first | rfl | contradiction, w_m2 72 (by decide +kernel) (by decide +kernel)⟩
theorem w_flo9_240 : w_flok RX9 (240, 4, 3, 0) := ⟨RX4, TX4, 7, rfl, by decide, rfl, by decide +kernel, fun _ => by first | rfl | contradiction, w_m1 162 (by decide +kernel) (by decide +kernel)⟩
theorem w_flo9_247 : w_flok RX9 (247, 4, 5, 1) := ⟨RX4, TX4, 7, rfl, by decide, rfl, by decide +kernel, fun _ => by first | rfl | contradiction, w_m1 165 (by decide +kernel) (by decide +kernel)⟩
theorem w_flo9_254 : w_flok RX9 (254, 4, 4, 0) := ⟨RX4, TX4, 7, rfl, by decide, rfl, by decide +kernel, fun _ => by first | rfl | contradiction, w_m1 164 (by decide +kernel) (by decide +kernel)⟩
theorem w_flo9_260 : w_flok RX9 (260, 4, 6, 1) := ⟨RX4, TX4, 7, rfl, by decide, rfl, by decide +kernel, fun _ => by first | rfl | contradiction, w_m1 166 (by decide +kernel) (by decide +kernel)⟩
theorem w_flo9_270 : w_flok RX9 (270, 7, 2, 2) := ⟨RX7, TX7, 11, rfl, by decide, rfl, by decide +kernel, fun _ => by first | rfl | contradiction, w_m1 196 (by decide +kernel) (by decide +kernel)⟩
theorem w_flo9_273 : w_flok RX9 (273, 7, 3, 2) := ⟨RX7, TX7, 11, rfl, by decide, rfl, by decide +kernel, fun _ => by first | rfl | contradiction, w_m1 199 (by decide +kernel) (by decide +kernel)⟩
theorem w_flo9_276 : w_flok RX9 (276, 9, 14, 0) := ⟨RX9, TX9, 16, rfl, by decide, rfl, by decide +kernel, fun _ => by first | rfl | contradiction, w_m2 145 (by decide +kernel) (by decide +kernel)⟩
theorem w_flo9_295 : w_flok RX9 (295, 2, 0, 2) := ⟨RX2, TX2, 4, rfl, by decide, rfl, by decide +kernel, fun _ => by first | rfl | contradiction, w_m1 131 (by decide +kernel) (by decide +kernel)⟩
theorem w_flo9_296 : w_flok RX9 (296, 2, 1, 2) := ⟨RX2, TX2, 4, rfl, by decide, rfl, by decide +kernel, fun _ => by first | rfl | contradiction, w_m1 133 (by decide +kernel) (by decide +kernel)⟩
theorem w_flo9_301 : w_flok RX9 (301, 2, 2, 2) := ⟨RX2, TX2, 4, rfl, by decide, rfl, by decide +kernel, fun _ => by first | rfl | contradiction, w_m1 135 (by decide +kernel) (by decide +kernel)⟩
theorem w_flo9_302 : w_flok RX9 (302, 2, 3, 0) := ⟨RX2, TX2, 4, rfl, by decide, rfl, by decide +kernel, fun _ => by first | rfl | contradiction, w_m1 136 (by decide +kernel) (by decide +kernel)⟩
theorem w_flo9_320 : w_flok RX9 (320, 3, 0, 2) := ⟨RX3, TX3, 6, rfl, by decide, rfl, by decide +kernel, fun _ => by first | rfl | contradiction, w_m1 30 (by decide +kernel) (by decide +kernel)⟩
theorem w_flo9_325 : w_flok RX9 (325, 1, 5, 2) := ⟨RX1, TX1, 7, rfl, by decide, rfl, by decide +kernel, fun _ => by first | rfl | contradiction, w_m1 76 (by decide +kernel) (by decide +kernel)⟩
theorem w_flok9 : ∀ q ∈ w_fl9, w_flok RX9 q := List.forall_mem_cons.mpr ⟨w_flo9_12, List.forall_mem_cons.mpr ⟨w_flo9_19, List.forall_mem_cons.mpr ⟨w_flo9_26, List.forall_mem_cons.mpr ⟨w_flo9_32, List.forall_mem_cons.mpr ⟨w_flo9_36, List.forall_mem_cons.mpr ⟨w_flo9_43, List.forall_mem_cons.mpr ⟨w_flo9_48, List.forall_mem_cons.mpr ⟨w_flo9_63, List.forall_mem_cons.mpr ⟨w_flo9_72, List.forall_mem_cons.mpr ⟨w_flo9_81, List.forall_mem_cons.mpr ⟨w_flo9_88, List.forall_mem_cons.mpr ⟨w_flo9_96, List.forall_mem_cons.mpr ⟨w_flo9_108, List.forall_mem_cons.mpr ⟨w_flo9_115, List.forall_mem_cons.mpr ⟨w_flo9_118, List.forall_mem_cons.mpr ⟨w_flo9_121, List.forall_mem_cons.mpr ⟨w_flo9_124, List.forall_mem_cons.mpr ⟨w_flo9_127, List.forall_mem_cons.mpr ⟨w_flo9_130, List.forall_mem_cons.mpr ⟨w_flo9_140, List.forall_mem_cons.mpr ⟨w_flo9_143, List.forall_mem_cons.mpr ⟨w_flo9_146, List.forall_mem_cons.mpr ⟨w_flo9_149, List.forall_mem_cons.mpr ⟨w_flo9_158, List.forall_mem_cons.mpr ⟨w_flo9_188, List.forall_mem_cons.mpr ⟨w_flo9_191, List.forall_mem_cons.mpr ⟨w_flo9_212, List.forall_mem_cons.mpr ⟨w_flo9_218, List.forall_mem_cons.mpr ⟨w_flo9_225, List.forall_mem_cons.mpr ⟨w_flo9_228, List.forall_mem_cons.mpr ⟨w_flo9_231, List.forall_mem_cons.mpr ⟨w_flo9_240, List.forall_mem_cons.mpr ⟨w_flo9_247, List.forall_mem_cons.mpr ⟨w_flo9_254, List.forall_mem_cons.mpr ⟨w_flo9_260, List.forall_mem_cons.mpr ⟨w_flo9_270, List.forall_mem_cons.mpr ⟨w_flo9_273, List.forall_mem_cons.mpr ⟨w_flo9_276, List.forall_mem_cons.mpr ⟨w_flo9_295, List.forall_mem_cons.mpr ⟨w_flo9_296, List.forall_mem_cons.mpr ⟨w_flo9_301, List.forall_mem_cons.mpr ⟨w_flo9_302, List.forall_mem_cons.mpr ⟨w_flo9_320, List.forall_mem_cons.mpr ⟨w_flo9_325, fun _ h => absurd h List.not_mem_nil⟩⟩⟩⟩⟩⟩⟩⟩⟩⟩⟩⟩⟩⟩⟩⟩⟩⟩⟩⟩⟩⟩⟩⟩⟩⟩⟩⟩⟩⟩⟩⟩⟩⟩⟩⟩⟩⟩⟩⟩⟩⟩⟩⟩
def w_gs9 : List (Nat × Nat) := [(165, 157), (168, 158)]
theorem w_gsk9_165 : w_lk w_gs9 165 = some 157 := rfl
theorem w_gsk9_168 : w_lk w_gs9 168 = some 158 := rfl
theorem w_gsok9 : ∀ q ∈ w_gs9, w_gsk RX9 q := List.forall_mem_cons.mpr ⟨Or.inl ⟨rfl, Or.inl (w_m3 70 (by decide +kernel) (by decide +kernel))⟩, List.forall_mem_cons.mpr ⟨Or.inr ⟨rfl, Or.inl (w_m3 71 (by decide +kernel) (by decide +kernel))⟩, fun _ h => absurd h List.not_mem_nil⟩⟩
def w_kl9 : List (Nat × Int) := [(234, -101), (236, -103), (238, -102), (308, 401), (318, 31)]
theorem w_klk9_234 : w_lk w_kl9 234 = some (-101) := rfl
theorem w_klk9_236 : w_lk w_kl9 236 = some (-103) := rfl
theorem w_klk9_238 : w_lk w_kl9 238 = some (-102) := rfl
theorem w_klk9_308 : w_lk w_kl9 308 = some (401) := rfl
theorem w_klk9_318 : w_lk w_kl9 318 = some (31) := rfl
theorem w_klok9 : ∀ q ∈ w_kl9, Cond.constantLong RX9 q.1 (Int64.ofInt q.2) ∈ w_TB := List.forall_mem_cons.mpr ⟨w_m3 218 (by decide +kernel) (by decide +kernel), List.forall_mem_cons.mpr ⟨w_m3 219 (by decide +kernel) (by decide +kernel), List.forall_mem_cons.mpr ⟨w_m3 220 (by decide +kernel) (by decide +kernel), List.forall_mem_cons.mpr ⟨w_m4 83 (by decide +kernel) (by decide +kernel), List.forall_mem_cons.mpr ⟨w_m4 92 (by decide +kernel) (by decide +kernel), fun _ h => absurd h List.not_mem_nil⟩⟩⟩⟩⟩
def w_ki9 : List (Nat × Int) := []
theorem w_kiok9 : ∀ q ∈ w_ki9, Cond.constant RX9 q.1 (Int32.ofInt q.2) ∈ w_TB := fun _ h => absurd h List.not_mem_nil
def w_fl10 : List (Nat × Nat × Nat × Nat) := [(7, 10, 0, 2), (13, 10, 2, 2), (16, 10, 3, 2), (19, 10, 8, 2), (22, 10, 12, 2), (25, 10, 14, 2), (28, 10, 15, 2), (31, 10, 16, 2), (34, 10, 24, 2), (37, 10, 25, 2), (41, 10, 26, 2), (44, 10, 27, 2), (47, 10, 28, 2), (50, 10, 29, 2), (53, 10, 30, 2), (56, 10, 33, 2), (59, 10, 34, 2), (62, 10, 39, 2), (65, 10, 40, 2), (68, 10, 41, 2), (71, 10, 42, 2), (74, 10, 44, 0), (80, 10, 1, 0), (83, 10, 4, 0), (86, 10, 5, 0), (93, 10, 6, 3), (119, 10, 7, 0), (138, 10, 9, 0), (141, 10, 10, 0), (144, 10, 11, 0), (147, 10, 13, 0), (165, 10, 17, 0), (168, 10, 22, 0), (171, 10, 18, 0), (174, 10, 19, 0), (177, 10, 21, 0), (180, 10, 20, 0), (183, 10, 23, 0), (222, 10, 31, 0), (257, 10, 32, 0), (260, 10, 36, 1), (264, 10, 37, 1), (281, 10, 35, 1), (291, 10, 38, 0), (300, 10, 43, 0), (308, 10, 45, 1)]
theorem w_flk10_7 : w_lk w_fl10 7 = some (10, 0, 2) := rfl
theorem w_flk10_13 : w_lk w_fl10 13 = some (10, 2, 2) := rfl
theorem w_flk10_16 : w_lk w_fl10 16 = some (10, 3, 2) := rfl
theorem w_flk10_19 : w_lk w_fl10 19 = some (10, 8, 2) := rfl
theorem w_flk10_22 : w_lk w_fl10 22 = some (10, 12, 2) := rfl
theorem w_flk10_25 : w_lk w_fl10 25 = some (10, 14, 2) := rfl
theorem w_flk10_28 : w_lk w_fl10 28 = some (10, 15, 2) := rfl
theorem w_flk10_31 : w_lk w_fl10 31 = some (10, 16, 2) := rfl
theorem w_flk10_34 : w_lk w_fl10 34 = some (10, 24, 2) := rfl
theorem w_flk10_37 : w_lk w_fl10 37 = some (10, 25, 2) := rfl
theorem w_flk10_41 : w_lk w_fl10 41 = some (10, 26, 2) := rfl
theorem w_flk10_44 : w_lk w_fl10 44 = some (10, 27, 2) := rfl
theorem w_flk10_47 : w_lk w_fl10 47 = some (10, 28, 2) := rfl
theorem w_flk10_50 : w_lk w_fl10 50 = some (10, 29, 2) := rfl
theorem w_flk10_53 : w_lk w_fl10 53 = some (10, 30, 2) := rfl
theorem w_flk10_56 : w_lk w_fl10 56 = some (10, 33, 2) := rfl
theorem w_flk10_59 : w_lk w_fl10 59 = some (10, 34, 2) := rfl
theorem w_flk10_62 : w_lk w_fl10 62 = some (10, 39, 2) := rfl
theorem w_flk10_65 : w_lk w_fl10 65 = some (10, 40, 2) := rfl
theorem w_flk10_68 : w_lk w_fl10 68 = some (10, 41, 2) := rfl
theorem w_flk10_71 : w_lk w_fl10 71 = some (10, 42, 2) := rfl
theorem w_flk10_74 : w_lk w_fl10 74 = some (10, 44, 0) := rfl
theorem w_flk10_80 : w_lk w_fl10 80 = some (10, 1, 0) := rfl
theorem w_flk10_83 : w_lk w_fl10 83 = some (10, 4, 0) := rfl
theorem w_flk10_86 : w_lk w_fl10 86 = some (10, 5, 0) := rfl
theorem w_flk10_93 : w_lk w_fl10 93 = some (10, 6, 3) := rfl
theorem w_flk10_119 : w_lk w_fl10 119 = some (10, 7, 0) := rfl
theorem w_flk10_138 : w_lk w_fl10 138 = some (10, 9, 0) := rfl
theorem w_flk10_141 : w_lk w_fl10 141 = some (10, 10, 0) := rfl
theorem w_flk10_144 : w_lk w_fl10 144 = some (10, 11, 0) := rfl
theorem w_flk10_147 : w_lk w_fl10 147 = some (10, 13, 0) := rfl
theorem w_flk10_165 : w_lk w_fl10 165 = some (10, 17, 0) := rfl
theorem w_flk10_168 : w_lk w_fl10 168 = some (10, 22, 0) := rfl
theorem w_flk10_171 : w_lk w_fl10 171 = some (10, 18, 0) := rfl
theorem w_flk10_174 : w_lk w_fl10 174 = some (10, 19, 0) := rfl
theorem w_flk10_177 : w_lk w_fl10 177 = some (10, 21, 0) := rfl
theorem w_flk10_180 : w_lk w_fl10 180 = some (10, 20, 0) := rfl
theorem w_flk10_183 : w_lk w_fl10 183 = some (10, 23, 0) := rfl
theorem w_flk10_222 : w_lk w_fl10 222 = some (10, 31, 0) := rfl
theorem w_flk10_257 : w_lk w_fl10 257 = some (10, 32, 0) := rfl
theorem w_flk10_260 : w_lk w_fl10 260 = some (10, 36, 1) := rfl
theorem w_flk10_264 : w_lk w_fl10 264 = some (10, 37, 1) := rfl
theorem w_flk10_281 : w_lk w_fl10 281 = some (10, 35, 1) := rfl
theorem w_flk10_291 : w_lk w_fl10 291 = some (10, 38, 0) := rfl
theorem w_flk10_300 : w_lk w_fl10 300 = some (10, 43, 0) := rfl
theorem w_flk10_308 : w_lk w_fl10 308 = some (10, 45, 1) := rfl
theorem w_flo10_7 : w_flok RX10 (7, 10, 0, 2) := ⟨RX10, TX10, 46, rfl, by decide, rfl, by decide +kernel, fun _ => by first | rfl | contradiction, w_m4 101 (by decide +kernel) (by decide +kernel)⟩
theorem w_flo10_13 : w_flok RX10 (13, 10, 2, 2) := ⟨RX10, TX10, 46, rfl, by decide, rfl, by decide +kernel, fun _ => by first | rfl | contradiction, w_m4 103 (by decide +kernel) (by decide +kernel)⟩
theorem w_flo10_16 : w_flok RX10 (16, 10, 3, 2) := ⟨RX10, TX10, 46, rfl, by decide, rfl, by decide +kernel, fun _ => by first | rfl | contradiction, w_m4 104 (by decide +kernel) (by decide +kernel)⟩
theorem w_flo10_19 : w_flok RX10 (19, 10, 8, 2) := ⟨RX10, TX10, 46, rfl, by decide, rfl, by decide +kernel, fun _ => by first | rfl | contradiction, w_m4 109 (by decide +kernel) (by decide +kernel)⟩
theorem w_flo10_22 : w_flok RX10 (22, 10, 12, 2) := ⟨RX10, TX10, 46, rfl, by decide, rfl, by decide +kernel, fun _ => by first | rfl | contradiction, w_m4 113 (by decide +kernel) (by decide +kernel)⟩
theorem w_flo10_25 : w_flok RX10 (25, 10, 14, 2) := ⟨RX10, TX10, 46, rfl, by decide, rfl, by decide +kernel, fun _ => by first | rfl | contradiction, w_m4 115 (by decide +kernel) (by decide +kernel)⟩
theorem w_flo10_28 : w_flok RX10 (28, 10, 15, 2) := ⟨RX10, TX10, 46, rfl, by decide, rfl, by decide +kernel, fun _ => by first | rfl | contradiction, w_m4 116 (by decide +kernel) (by decide +kernel)⟩
theorem w_flo10_31 : w_flok RX10 (31, 10, 16, 2) := ⟨RX10, TX10, 46, rfl, by decide, rfl, by decide +kernel, fun _ => by first | rfl | contradiction, w_m4 117 (by decide +kernel) (by decide +kernel)⟩
theorem w_flo10_34 : w_flok RX10 (34, 10, 24, 2) := ⟨RX10, TX10, 46, rfl, by decide, rfl, by decide +kernel, fun _ => by first | rfl | contradiction, w_m4 125 (by decide +kernel) (by decide +kernel)⟩
theorem w_flo10_37 : w_flok RX10 (37, 10, 25, 2) := ⟨RX10, TX10, 46, rfl, by decide, rfl, by decide +kernel, fun _ => by first | rfl | contradiction, w_m4 126 (by decide +kernel) (by decide +kernel)⟩
theorem w_flo10_41 : w_flok RX10 (41, 10, 26, 2) := ⟨RX10, TX10, 46, rfl, by decide, rfl, by decide +kernel, fun _ => by first | rfl | contradiction, w_m4 127 (by decide +kernel) (by decide +kernel)⟩
theorem w_flo10_44 : w_flok RX10 (44, 10, 27, 2) := ⟨RX10, TX10, 46, rfl, by decide, rfl, by decide +kernel, fun _ => by first | rfl | contradiction, w_m4 128 (by decide +kernel) (by decide +kernel)⟩
theorem w_flo10_47 : w_flok RX10 (47, 10, 28, 2) := ⟨RX10, TX10, 46, rfl, by decide, rfl, by decide +kernel, fun _ => by first | rfl | contradiction, w_m4 129 (by decide +kernel) (by decide +kernel)⟩
theorem w_flo10_50 : w_flok RX10 (50, 10, 29, 2) := ⟨RX10, TX10, 46, rfl, by decide, rfl, by decide +kernel, fun _ => by first | rfl | contradiction, w_m4 130 (by decide +kernel) (by decide +kernel)⟩
theorem w_flo10_53 : w_flok RX10 (53, 10, 30, 2) := ⟨RX10, TX10, 46, rfl, by decide, rfl, by decide +kernel, fun _ => by first | rfl | contradiction, w_m4 131 (by decide +kernel) (by decide +kernel)⟩
theorem w_flo10_56 : w_flok RX10 (56, 10, 33, 2) := ⟨RX10, TX10, 46, rfl, by decide, rfl, by decide +kernel, fun _ => by first | rfl | contradiction, w_m4 134 (by decide +kernel) (by decide +kernel)⟩
theorem w_flo10_59 : w_flok RX10 (59, 10, 34, 2) := ⟨RX10, TX10, 46, rfl, by decide, rfl, by decide +kernel, fun _ => by first | rfl | contradiction, w_m4 135 (by decide +kernel) (by decide +kernel)⟩
theorem w_flo10_62 : w_flok RX10 (62, 10, 39, 2) := ⟨RX10, TX10, 46, rfl, by decide, rfl, by decide +kernel, fun _ => by first | rfl | contradiction, w_m4 140 (by decide +kernel) (by decide +kernel)⟩
theorem w_flo10_65 : w_flok RX10 (65, 10, 40, 2) := ⟨RX10, TX10, 46, rfl, by decide, rfl, by decide +kernel, fun _ => by first | rfl | contradiction, w_m4 141 (by decide +kernel) (by decide +kernel)⟩
theorem w_flo10_68 : w_flok RX10 (68, 10, 41, 2) := ⟨RX10, TX10, 46, rfl, by decide, rfl, by decide +kernel, fun _ => by first | rfl | contradiction, w_m4 142 (by decide +kernel) (by decide +kernel)⟩
theorem w_flo10_71 : w_flok RX10 (71, 10, 42, 2) := ⟨RX10, TX10, 46, rfl, by decide, rfl, by decide +kernel, fun _ => by first | rfl | contradiction, w_m4 143 (by decide +kernel) (by decide +kernel)⟩
theorem w_flo10_74 : w_flok RX10 (74, 10, 44, 0) := ⟨RX10, TX10, 46, rfl, by decide, rfl, by decide +kernel, fun _ => by first | rfl | contradiction, w_m4 145 (by decide +kernel) (by decide +kernel)⟩
theorem w_flo10_80 : w_flok RX10 (80, 10, 1, 0) := ⟨RX10, TX10, 46, rfl, by decide, rfl, by decide +kernel, fun _ => by first | rfl | contradiction, w_m4 102 (by decide +kernel) (by decide +kernel)⟩
theorem w_flo10_83 : w_flok RX10 (83, 10, 4, 0) := ⟨RX10, TX10, 46, rfl, by decide, rfl, by decide +kernel, fun _ => by first | rfl | contradiction, w_m4 105 (by decide +kernel) (by decide +kernel)⟩
theorem w_flo10_86 : w_flok RX10 (86, 10, 5, 0) := ⟨RX10, TX10, 46, rfl, by decide, rfl, by decide +kernel, fun _ => by first | rfl | contradiction, w_m4 106 (by decide +kernel) (by decide +kernel)⟩
theorem w_flo10_93 : w_flok RX10 (93, 10, 6, 3) := ⟨RX10, TX10, 46, rfl, by decide, rfl, by decide +kernel, fun _ => by first | rfl | contradiction, w_m4 107 (by decide +kernel) (by decide +kernel)⟩
theorem w_flo10_119 : w_flok RX10 (119, 10, 7, 0) := ⟨RX10, TX10, 46, rfl, by decide, rfl, by decide +kernel, fun _ => by first | rfl | contradiction, w_m4 108 (by decide +kernel) (by decide +kernel)⟩
theorem w_flo10_138 : w_flok RX10 (138, 10, 9, 0) := ⟨RX10, TX10, 46, rfl, by decide, rfl, by decide +kernel, fun _ => by first | rfl | contradiction, w_m4 110 (by decide +kernel) (by decide +kernel)⟩
theorem w_flo10_141 : w_flok RX10 (141, 10, 10, 0) := ⟨RX10, TX10, 46, rfl, by decide, rfl, by decide +kernel, fun _ => by first | rfl | contradiction, w_m4 111 (by decide +kernel) (by decide +kernel)⟩
theorem w_flo10_144 : w_flok RX10 (144, 10, 11, 0) := ⟨RX10, TX10, 46, rfl, by decide, rfl, by decide +kernel, fun _ => by first | rfl | contradiction, w_m4 112 (by decide +kernel) (by decide +kernel)⟩
theorem w_flo10_147 : w_flok RX10 (147, 10, 13, 0) := ⟨RX10, TX10, 46, rfl, by decide, rfl, by decide +kernel, fun _ => by first | rfl | contradiction, w_m4 114 (by decide +kernel) (by decide +kernel)⟩
theorem w_flo10_165 : w_flok RX10 (165, 10, 17, 0) := ⟨RX10, TX10, 46, rfl, by decide, rfl, by decide +kernel, fun _ => by first | rfl | contradiction, w_m4 118 (by decide +kernel) (by decide +kernel)⟩
theorem w_flo10_168 : w_flok RX10 (168, 10, 22, 0) := ⟨RX10, TX10, 46, rfl, by decide, rfl, by decide +kernel, fun _ => by first | rfl | contradiction, w_m4 123 (by decide +kernel) (by decide +kernel)⟩
theorem w_flo10_171 : w_flok RX10 (171, 10, 18, 0) := ⟨RX10, TX10, 46, rfl, by decide, rfl, by decide +kernel, fun _ => by first | rfl | contradiction, w_m4 119 (by decide +kernel) (by decide +kernel)⟩
theorem w_flo10_174 : w_flok RX10 (174, 10, 19, 0) := ⟨RX10, TX10, 46, rfl, by decide, rfl, by decide +kernel, fun _ => by first | rfl | contradiction, w_m4 120 (by decide +kernel) (by decide +kernel)⟩
theorem w_flo10_177 : w_flok RX10 (177, 10, 21, 0) := ⟨RX10, TX10, 46, rfl, by decide, rfl, by decide +kernel, fun _ => by first | rfl | contradiction, w_m4 122 (by decide +kernel) (by decide +kernel)⟩
theorem w_flo10_180 : w_flok RX10 (180, 10, 20, 0) := ⟨RX10, TX10, 46, rfl, by decide, rfl, by decide +kernel, fun _ => by first | rfl | contradiction, w_m4 121 (by decide +kernel) (by decide +kernel)⟩
theorem w_flo10_183 : w_flok RX10 (183, 10, 23, 0) := ⟨RX10, TX10, 46, rfl, by decide, rfl, by decide +kernel, fun _ => by first | rfl | contradiction, w_m4 124 (by decide +kernel) (by decide +kernel)⟩
theorem w_flo10_222 : w_flok RX10 (222, 10, 31, 0) := ⟨RX10, TX10, 46, rfl, by decide, rfl, by decide +kernel, fun _ => by first | rfl | contradiction, w_m4 132 (by decide +kernel) (by decide +kernel)⟩
theorem w_flo10_257 : w_flok RX10 (257, 10, 32, 0) := ⟨RX10, TX10, 46, rfl, by decide, rfl, by decide +kernel, fun _ => by first | rfl | contradiction, w_m4 133 (by decide +kernel) (by decide +kernel)⟩
theorem w_flo10_260 : w_flok RX10 (260, 10, 36, 1) := ⟨RX10, TX10, 46, rfl, by decide, rfl, by decide +kernel, fun _ => by first | rfl | contradiction, w_m4 137 (by decide +kernel) (by decide +kernel)⟩
theorem w_flo10_264 : w_flok RX10 (264, 10, 37, 1) := ⟨RX10, TX10, 46, rfl, by decide, rfl, by decide +kernel, fun _ => by first | rfl | contradiction, w_m4 138 (by decide +kernel) (by decide +kernel)⟩
theorem w_flo10_281 : w_flok RX10 (281, 10, 35, 1) := ⟨RX10, TX10, 46, rfl, by decide, rfl, by decide +kernel, fun _ => by first | rfl | contradiction, w_m4 136 (by decide +kernel) (by decide +kernel)⟩
theorem w_flo10_291 : w_flok RX10 (291, 10, 38, 0) := ⟨RX10, TX10, 46, rfl, by decide, rfl, by decide +kernel, fun _ => by first | rfl | contradiction, w_m4 139 (by decide +kernel) (by decide +kernel)⟩
theorem w_flo10_300 : w_flok RX10 (300, 10, 43, 0) := ⟨RX10, TX10, 46, rfl, by decide, rfl, by decide +kernel, fun _ => by first | rfl | contradiction, w_m4 144 (by decide +kernel) (by decide +kernel)⟩
theorem w_flo10_308 : w_flok RX10 (308, 10, 45, 1) := ⟨RX10, TX10, 46, rfl, by decide, rfl, by decide +kernel, fun _ => by first | rfl | contradiction, w_m4 146 (by decide +kernel) (by decide +kernel)⟩
theorem w_flok10 : ∀ q ∈ w_fl10, w_flok RX10 q := List.forall_mem_cons.mpr ⟨w_flo10_7, List.forall_mem_cons.mpr ⟨w_flo10_13, List.forall_mem_cons.mpr ⟨w_flo10_16, List.forall_mem_cons.mpr ⟨w_flo10_19, List.forall_mem_cons.mpr ⟨w_flo10_22, List.forall_mem_cons.mpr ⟨w_flo10_25, List.forall_mem_cons.mpr ⟨w_flo10_28, List.forall_mem_cons.mpr ⟨w_flo10_31, List.forall_mem_cons.mpr ⟨w_flo10_34, List.forall_mem_cons.mpr ⟨w_flo10_37, List.forall_mem_cons.mpr ⟨w_flo10_41, List.forall_mem_cons.mpr ⟨w_flo10_44, List.forall_mem_cons.mpr ⟨w_flo10_47, List.forall_mem_cons.mpr ⟨w_flo10_50, List.forall_mem_cons.mpr ⟨w_flo10_53, List.forall_mem_cons.mpr ⟨w_flo10_56, List.forall_mem_cons.mpr ⟨w_flo10_59, List.forall_mem_cons.mpr ⟨w_flo10_62, List.forall_mem_cons.mpr ⟨w_flo10_65, List.forall_mem_cons.mpr ⟨w_flo10_68, List.forall_mem_cons.mpr ⟨w_flo10_71, List.forall_mem_cons.mpr ⟨w_flo10_74, List.forall_mem_cons.mpr ⟨w_flo10_80, List.forall_mem_cons.mpr ⟨w_flo10_83, List.forall_mem_cons.mpr ⟨w_flo10_86, List.forall_mem_cons.mpr ⟨w_flo10_93, List.forall_mem_cons.mpr ⟨w_flo10_119, List.forall_mem_cons.mpr ⟨w_flo10_138, List.forall_mem_cons.mpr ⟨w_flo10_141, List.forall_mem_cons.mpr ⟨w_flo10_144, List.forall_mem_cons.mpr ⟨w_flo10_147, List.forall_mem_cons.mpr ⟨w_flo10_165, List.forall_mem_cons.mpr ⟨w_flo10_168, List.forall_mem_cons.mpr ⟨w_flo10_171, List.forall_mem_cons.mpr ⟨w_flo10_174, List.forall_mem_cons.mpr ⟨w_flo10_177, List.forall_mem_cons.mpr ⟨w_flo10_180, List.forall_mem_cons.mpr ⟨w_flo10_183, List.forall_mem_cons.mpr ⟨w_flo10_222, List.forall_mem_cons.mpr ⟨w_flo10_257, List.forall_mem_cons.mpr ⟨w_flo10_260, List.forall_mem_cons.mpr ⟨w_flo10_264, List.forall_mem_cons.mpr ⟨w_flo10_281, List.forall_mem_cons.mpr ⟨w_flo10_291, List.forall_mem_cons.mpr ⟨w_flo10_300, List.forall_mem_cons.mpr ⟨w_flo10_308, fun _ h => absurd h List.not_mem_nil⟩⟩⟩⟩⟩⟩⟩⟩⟩⟩⟩⟩⟩⟩⟩⟩⟩⟩⟩⟩⟩⟩⟩⟩⟩⟩⟩⟩⟩⟩⟩⟩⟩⟩⟩⟩⟩⟩⟩⟩⟩⟩⟩⟩⟩⟩
def w_gs10 : List (Nat × Nat) := []
theorem w_gsok10 : ∀ q ∈ w_gs10, w_gsk RX10 q := fun _ h => absurd h List.not_mem_nil
def w_kl10 : List (Nat × Int) := [(78, 255), (103, 48), (105, 57), (122, 9), (133, 2), (150, 4), (152, 200), (157, 5), (159, 7), (161, 6), (163, 11), (239, 10), (241, 12), (253, 96), (255, 99), (275, -101), (277, -103), (279, -102), (294, -1), (306, 31), (311, 401)]
theorem w_klk10_78 : w_lk w_kl10 78 = some (255) := rfl
theorem w_klk10_103 : w_lk w_kl10 103 = some (48) := rfl
theorem w_klk10_105 : w_lk w_kl10 105 = some (57) := rfl
theorem w_klk10_122 : w_lk w_kl10 122 = some (9) := rfl
theorem w_klk10_133 : w_lk w_kl10 133 = some (2) := rfl
theorem w_klk10_150 : w_lk w_kl10 150 = some (4) := rfl
theorem w_klk10_152 : w_lk w_kl10 152 = some (200) := rfl
theorem w_klk10_157 : w_lk w_kl10 157 = some (5) := rfl
theorem w_klk10_159 : w_lk w_kl10 159 = some (7) := rfl
theorem w_klk10_161 : w_lk w_kl10 161 = some (6) := rfl
theorem w_klk10_163 : w_lk w_kl10 163 = some (11) := rfl
theorem w_klk10_239 : w_lk w_kl10 239 = some (10) := rfl
theorem w_klk10_241 : w_lk w_kl10 241 = some (12) := rfl
theorem w_klk10_253 : w_lk w_kl10 253 = some (96) := rfl
theorem w_klk10_255 : w_lk w_kl10 255 = some (99) := rfl
theorem w_klk10_275 : w_lk w_kl10 275 = some (-101) := rfl
theorem w_klk10_277 : w_lk w_kl10 277 = some (-103) := rfl
theorem w_klk10_279 : w_lk w_kl10 279 = some (-102) := rfl
theorem w_klk10_294 : w_lk w_kl10 294 = some (-1) := rfl
theorem w_klk10_306 : w_lk w_kl10 306 = some (31) := rfl
theorem w_klk10_311 : w_lk w_kl10 311 = some (401) := rfl
theorem w_klok10 : ∀ q ∈ w_kl10, Cond.constantLong RX10 q.1 (Int64.ofInt q.2) ∈ w_TB := List.forall_mem_cons.mpr ⟨w_m5 4 (by decide +kernel) (by decide +kernel), List.forall_mem_cons.mpr ⟨w_m5 25 (by decide +kernel) (by decide +kernel), List.forall_mem_cons.mpr ⟨w_m5 26 (by decide +kernel) (by decide +kernel), List.forall_mem_cons.mpr ⟨w_m5 52 (by decide +kernel) (by decide +kernel), List.forall_mem_cons.mpr ⟨w_m5 13 (by decide +kernel) (by decide +kernel), List.forall_mem_cons.mpr ⟨w_m5 69 (by decide +kernel) (by decide +kernel), List.forall_mem_cons.mpr ⟨w_m5 70 (by decide +kernel) (by decide +kernel), List.forall_mem_cons.mpr ⟨w_m5 79 (by decide +kernel) (by decide +kernel), List.forall_mem_cons.mpr ⟨w_m5 84 (by decide +kernel) (by decide +kernel), List.forall_mem_cons.mpr ⟨w_m5 89 (by decide +kernel) (by decide +kernel), List.forall_mem_cons.mpr ⟨w_m5 94 (by decide +kernel) (by decide +kernel), List.forall_mem_cons.mpr ⟨w_m5 103 (by decide +kernel) (by decide +kernel), List.forall_mem_cons.mpr ⟨w_m5 104 (by decide +kernel) (by decide +kernel), List.forall_mem_cons.mpr ⟨w_m5 180 (by decide +kernel) (by decide +kernel), List.forall_mem_cons.mpr ⟨w_m5 185 (by decide +kernel) (by decide +kernel), List.forall_mem_cons.mpr ⟨w_m5 194 (by decide +kernel) (by decide +kernel), List.forall_mem_cons.mpr ⟨w_m5 195 (by decide +kernel) (by decide +kernel), List.forall_mem_cons.mpr ⟨w_m5 196 (by decide +kernel) (by decide +kernel), List.forall_mem_cons.mpr ⟨w_m5 227 (by decide +kernel) (by decide +kernel), List.forall_mem_cons.mpr ⟨w_m6 21 (by decide +kernel) (by decide +kernel), List.forall_mem_cons.mpr ⟨w_m6 16 (by decide +kernel) (by decide +kernel), fun _ h => absurd h List.not_mem_nil⟩⟩⟩⟩⟩⟩⟩⟩⟩⟩⟩⟩⟩⟩⟩⟩⟩⟩⟩⟩⟩
def w_ki10 : List (Nat × Int) := []
theorem w_kiok10 : ∀ q ∈ w_ki10, Cond.constant RX10 q.1 (Int32.ofInt q.2) ∈ w_TB := fun _ h => absurd h List.not_mem_nil
theorem w_in0 : ∀ w ∈ u_ws RX0 TX0 9, w ∈ w_TB := by
  show ∀ w ∈ [u_lay RX0 TX0 0, u_lay RX0 TX0 1, u_lay RX0 TX0 2, u_lay RX0 TX0 3, u_lay RX0 TX0 4, u_lay RX0 TX0 5, u_lay RX0 TX0 6, u_lay RX0 TX0 7, u_lay RX0 TX0 8], w ∈ w_TB
  exact List.forall_mem_cons.mpr ⟨w_m2 112 (by decide +kernel) (by decide +kernel), List.forall_mem_cons.mpr ⟨w_m2 114 (by decide +kernel) (by decide +kernel), List.forall_mem_cons.mpr ⟨w_m2 116 (by decide +kernel) (by decide +kernel), List.forall_mem_cons.mpr ⟨w_m2 118 (by decide +kernel) (by decide +kernel), List.forall_mem_cons.mpr ⟨w_m2 120 (by decide +kernel) (by decide +kernel), List.forall_mem_cons.mpr ⟨w_m2 122 (by decide +kernel) (by decide +kernel), List.forall_mem_cons.mpr ⟨w_m2 124 (by decide +kernel) (by decide +kernel), List.forall_mem_cons.mpr ⟨w_m2 126 (by decide +kernel) (by decide +kernel), List.forall_mem_cons.mpr ⟨w_m2 128 (by decide +kernel) (by decide +kernel), fun _ h => absurd h List.not_mem_nil⟩⟩⟩⟩⟩⟩⟩⟩⟩
theorem w_in1 : ∀ w ∈ u_ws RX1 TX1 7, w ∈ w_TB := by
  show ∀ w ∈ [u_lay RX1 TX1 0, u_lay RX1 TX1 1, u_lay RX1 TX1 2, u_lay RX1 TX1 3, u_lay RX1 TX1 4, u_lay RX1 TX1 5, u_lay RX1 TX1 6], w ∈ w_TB
  exact List.forall_mem_cons.mpr ⟨w_m1 82 (by decide +kernel) (by decide +kernel), List.forall_mem_cons.mpr ⟨w_m1 84 (by decide +kernel) (by decide +kernel), List.forall_mem_cons.mpr ⟨w_m1 86 (by decide +kernel) (by decide +kernel), List.forall_mem_cons.mpr ⟨w_m1 88 (by decide +kernel) (by decide +kernel), List.forall_mem_cons.mpr ⟨w_m1 90 (by decide +kernel) (by decide +kernel), List.forall_mem_cons.mpr ⟨w_m1 92 (by decide +kernel) (by decide +kernel), List.forall_mem_cons.mpr ⟨w_m1 94 (by decide +kernel) (by decide +kernel), fun _ h => absurd h List.not_mem_nil⟩⟩⟩⟩⟩⟩⟩
theorem w_in2 : ∀ w ∈ u_ws RX2 TX2 4, w ∈ w_TB := by
  show ∀ w ∈ [u_lay RX2 TX2 0, u_lay RX2 TX2 1, u_lay RX2 TX2 2, u_lay RX2 TX2 3], w ∈ w_TB
  exact List.forall_mem_cons.mpr ⟨w_m1 137 (by decide +kernel) (by decide +kernel), List.forall_mem_cons.mpr ⟨w_m1 139 (by decide +kernel) (by decide +kernel), List.forall_mem_cons.mpr ⟨w_m1 141 (by decide +kernel) (by decide +kernel), List.forall_mem_cons.mpr ⟨w_m1 143 (by decide +kernel) (by decide +kernel), fun _ h => absurd h List.not_mem_nil⟩⟩⟩⟩
theorem w_in3 : ∀ w ∈ u_ws RX3 TX3 6, w ∈ w_TB := by
  show ∀ w ∈ [u_lay RX3 TX3 0, u_lay RX3 TX3 1, u_lay RX3 TX3 2, u_lay RX3 TX3 3, u_lay RX3 TX3 4, u_lay RX3 TX3 5], w ∈ w_TB
  exact List.forall_mem_cons.mpr ⟨w_m1 41 (by decide +kernel) (by decide +kernel), List.forall_mem_cons.mpr ⟨w_m1 43 (by decide +kernel) (by decide +kernel), List.forall_mem_cons.mpr ⟨w_m1 45 (by decide +kernel) (by decide +kernel), List.forall_mem_cons.mpr ⟨w_m1 47 (by decide +kernel) (by decide +kernel), List.forall_mem_cons.mpr ⟨w_m1 49 (by decide +kernel) (by decide +kernel), List.forall_mem_cons.mpr ⟨w_m1 51 (by decide +kernel) (by decide +kernel), fun _ h => absurd h List.not_mem_nil⟩⟩⟩⟩⟩⟩
theorem w_in4 : ∀ w ∈ u_ws RX4 TX4 7, w ∈ w_TB := by
  show ∀ w ∈ [u_lay RX4 TX4 0, u_lay RX4 TX4 1, u_lay RX4 TX4 2, u_lay RX4 TX4 3, u_lay RX4 TX4 4, u_lay RX4 TX4 5, u_lay RX4 TX4 6], w ∈ w_TB
  exact List.forall_mem_cons.mpr ⟨w_m1 167 (by decide +kernel) (by decide +kernel), List.forall_mem_cons.mpr ⟨w_m1 169 (by decide +kernel) (by decide +kernel), List.forall_mem_cons.mpr ⟨w_m1 171 (by decide +kernel) (by decide +kernel), List.forall_mem_cons.mpr ⟨w_m1 173 (by decide +kernel) (by decide +kernel), List.forall_mem_cons.mpr ⟨w_m1 175 (by decide +kernel) (by decide +kernel), List.forall_mem_cons.mpr ⟨w_m1 177 (by decide +kernel) (by decide +kernel), List.forall_mem_cons.mpr ⟨w_m1 179 (by decide +kernel) (by decide +kernel), fun _ h => absurd h List.not_mem_nil⟩⟩⟩⟩⟩⟩⟩
theorem w_in5 : ∀ w ∈ u_ws RX5 TX5 9, w ∈ w_TB := by
  show ∀ w ∈ [u_lay RX5 TX5 0, u_lay RX5 TX5 1, u_lay RX5 TX5 2, u_lay RX5 TX5 3, u_lay RX5 TX5 4, u_lay RX5 TX5 5, u_lay RX5 TX5 6, u_lay RX5 TX5 7, u_lay RX5 TX5 8], w ∈ w_TB
  exact List.forall_mem_cons.mpr ⟨w_m2 75 (by decide +kernel) (by decide +kernel), List.forall_mem_cons.mpr ⟨w_m2 77 (by decide +kernel) (by decide +kernel), List.forall_mem_cons.mpr ⟨w_m2 79 (by decide +kernel) (by decide +kernel), List.forall_mem_cons.mpr ⟨w_m2 81 (by decide +kernel) (by decide +kernel), List.forall_mem_cons.mpr ⟨w_m2 83 (by decide +kernel) (by decide +kernel), List.forall_mem_cons.mpr ⟨w_m2 85 (by decide +kernel) (by decide +kernel), List.forall_mem_cons.mpr ⟨w_m2 87 (by decide +kernel) (by decide +kernel), List.forall_mem_cons.mpr ⟨w_m2 89 (by decide +kernel) (by decide +kernel), List.forall_mem_cons.mpr ⟨w_m2 91 (by decide +kernel) (by decide +kernel), fun _ h => absurd h List.not_mem_nil⟩⟩⟩⟩⟩⟩⟩⟩⟩
theorem w_in6 : ∀ w ∈ u_ws RX6 TX6 15, w ∈ w_TB := by
  show ∀ w ∈ [u_lay RX6 TX6 0, u_lay RX6 TX6 1, u_lay RX6 TX6 2, u_lay RX6 TX6 3, u_lay RX6 TX6 4, u_lay RX6 TX6 5, u_lay RX6 TX6 6, u_lay RX6 TX6 7, u_lay RX6 TX6 8, u_lay RX6 TX6 9, u_lay RX6 TX6 10, u_lay RX6 TX6 11, u_lay RX6 TX6 12, u_lay RX6 TX6 13, u_lay RX6 TX6 14], w ∈ w_TB
  exact List.forall_mem_cons.mpr ⟨w_m2 23 (by decide +kernel) (by decide +kernel), List.forall_mem_cons.mpr ⟨w_m2 25 (by decide +kernel) (by decide +kernel), List.forall_mem_cons.mpr ⟨w_m2 27 (by decide +kernel) (by decide +kernel), List.forall_mem_cons.mpr ⟨w_m2 29 (by decide +kernel) (by decide +kernel), List.forall_mem_cons.mpr ⟨w_m2 31 (by decide +kernel) (by decide +kernel), List.forall_mem_cons.mpr ⟨w_m2 33 (by decide +kernel) (by decide +kernel), List.forall_mem_cons.mpr ⟨w_m2 35 (by decide +kernel) (by decide +kernel), List.forall_mem_cons.mpr ⟨w_m2 37 (by decide +kernel) (by decide +kernel), List.forall_mem_cons.mpr ⟨w_m2 39 (by decide +kernel) (by decide +kernel), List.forall_mem_cons.mpr ⟨w_m2 41 (by decide +kernel) (by decide +kernel), List.forall_mem_cons.mpr ⟨w_m2 43 (by decide +kernel) (by decide +kernel), List.forall_mem_cons.mpr ⟨w_m2 45 (by decide +kernel) (by decide +kernel), List.forall_mem_cons.mpr ⟨w_m2 47 (by decide +kernel) (by decide +kernel), List.forall_mem_cons.mpr ⟨w_m2 49 (by decide +kernel) (by decide +kernel), List.forall_mem_cons.mpr ⟨w_m2 51 (by decide +kernel) (by decide +kernel), fun _ h => absurd h List.not_mem_nil⟩⟩⟩⟩⟩⟩⟩⟩⟩⟩⟩⟩⟩⟩⟩
theorem w_in7 : ∀ w ∈ u_ws RX7 TX7 11, w ∈ w_TB := by
  show ∀ w ∈ [u_lay RX7 TX7 0, u_lay RX7 TX7 1, u_lay RX7 TX7 2, u_lay RX7 TX7 3, u_lay RX7 TX7 4, u_lay RX7 TX7 5, u_lay RX7 TX7 6, u_lay RX7 TX7 7, u_lay RX7 TX7 8, u_lay RX7 TX7 9, u_lay RX7 TX7 10], w ∈ w_TB
  exact List.forall_mem_cons.mpr ⟨w_m1 207 (by decide +kernel) (by decide +kernel), List.forall_mem_cons.mpr ⟨w_m1 209 (by decide +kernel) (by decide +kernel), List.forall_mem_cons.mpr ⟨w_m1 211 (by decide +kernel) (by decide +kernel), List.forall_mem_cons.mpr ⟨w_m1 213 (by decide +kernel) (by decide +kernel), List.forall_mem_cons.mpr ⟨w_m1 215 (by decide +kernel) (by decide +kernel), List.forall_mem_cons.mpr ⟨w_m1 217 (by decide +kernel) (by decide +kernel), List.forall_mem_cons.mpr ⟨w_m1 219 (by decide +kernel) (by decide +kernel), List.forall_mem_cons.mpr ⟨w_m1 221 (by decide +kernel) (by decide +kernel), List.forall_mem_cons.mpr ⟨w_m1 223 (by decide +kernel) (by decide +kernel), List.forall_mem_cons.mpr ⟨w_m1 225 (by decide +kernel) (by decide +kernel), List.forall_mem_cons.mpr ⟨w_m1 227 (by decide +kernel) (by decide +kernel), fun _ h => absurd h List.not_mem_nil⟩⟩⟩⟩⟩⟩⟩⟩⟩⟩⟩
theorem w_in8 : ∀ w ∈ u_ws RX8 TX8 2, w ∈ w_TB := by
  show ∀ w ∈ [u_lay RX8 TX8 0, u_lay RX8 TX8 1], w ∈ w_TB
  exact List.forall_mem_cons.mpr ⟨w_m1 115 (by decide +kernel) (by decide +kernel), List.forall_mem_cons.mpr ⟨w_m1 117 (by decide +kernel) (by decide +kernel), fun _ h => absurd h List.not_mem_nil⟩⟩
theorem w_in9 : ∀ w ∈ u_ws RX9 TX9 16, w ∈ w_TB := by
  show ∀ w ∈ [u_lay RX9 TX9 0, u_lay RX9 TX9 1, u_lay RX9 TX9 2, u_lay RX9 TX9 3, u_lay RX9 TX9 4, u_lay RX9 TX9 5, u_lay RX9 TX9 6, u_lay RX9 TX9 7, u_lay RX9 TX9 8, u_lay RX9 TX9 9, u_lay RX9 TX9 10, u_lay RX9 TX9 11, u_lay RX9 TX9 12, u_lay RX9 TX9 13, u_lay RX9 TX9 14, u_lay RX9 TX9 15], w ∈ w_TB
  exact List.forall_mem_cons.mpr ⟨w_m2 147 (by decide +kernel) (by decide +kernel), List.forall_mem_cons.mpr ⟨w_m2 149 (by decide +kernel) (by decide +kernel), List.forall_mem_cons.mpr ⟨w_m2 151 (by decide +kernel) (by decide +kernel), List.forall_mem_cons.mpr ⟨w_m2 153 (by decide +kernel) (by decide +kernel), List.forall_mem_cons.mpr ⟨w_m2 155 (by decide +kernel) (by decide +kernel), List.forall_mem_cons.mpr ⟨w_m2 157 (by decide +kernel) (by decide +kernel), List.forall_mem_cons.mpr ⟨w_m2 159 (by decide +kernel) (by decide +kernel), List.forall_mem_cons.mpr ⟨w_m2 161 (by decide +kernel) (by decide +kernel), List.forall_mem_cons.mpr ⟨w_m2 163 (by decide +kernel) (by decide +kernel), List.forall_mem_cons.mpr ⟨w_m2 165 (by decide +kernel) (by decide +kernel), List.forall_mem_cons.mpr ⟨w_m2 167 (by decide +kernel) (by decide +kernel), List.forall_mem_cons.mpr ⟨w_m2 169 (by decide +kernel) (by decide +kernel), List.forall_mem_cons.mpr ⟨w_m2 171 (by decide +kernel) (by decide +kernel), List.forall_mem_cons.mpr ⟨w_m2 173 (by decide +kernel) (by decide +kernel), List.forall_mem_cons.mpr ⟨w_m2 175 (by decide +kernel) (by decide +kernel), List.forall_mem_cons.mpr ⟨w_m2 177 (by decide +kernel) (by decide +kernel), fun _ h => absurd h List.not_mem_nil⟩⟩⟩⟩⟩⟩⟩⟩⟩⟩⟩⟩⟩⟩⟩⟩
theorem w_in10 : ∀ w ∈ u_ws RX10 TX10 46, w ∈ w_TB := by
  show ∀ w ∈ [u_lay RX10 TX10 0, u_lay RX10 TX10 1, u_lay RX10 TX10 2, u_lay RX10 TX10 3, u_lay RX10 TX10 4, u_lay RX10 TX10 5, u_lay RX10 TX10 6, u_lay RX10 TX10 7, u_lay RX10 TX10 8, u_lay RX10 TX10 9, u_lay RX10 TX10 10, u_lay RX10 TX10 11, u_lay RX10 TX10 12, u_lay RX10 TX10 13, u_lay RX10 TX10 14, u_lay RX10 TX10 15, u_lay RX10 TX10 16, u_lay RX10 TX10 17, u_lay RX10 TX10 18, u_lay RX10 TX10 19, u_lay RX10 TX10 20, u_lay RX10 TX10 21, u_lay RX10 TX10 22, u_lay RX10 TX10 23, u_lay RX10 TX10 24, u_lay RX10 TX10 25, u_lay RX10 TX10 26, u_lay RX10 TX10 27, u_lay RX10 TX10 28, u_lay RX10 TX10 29, u_lay RX10 TX10 30, u_lay RX10 TX10 31, u_lay RX10 TX10 32, u_lay RX10 TX10 33, u_lay RX10 TX10 34, u_lay RX10 TX10 35, u_lay RX10 TX10 36, u_lay RX10 TX10 37, u_lay RX10 TX10 38, u_lay RX10 TX10 39, u_lay RX10 TX10 40, u_lay RX10 TX10 41, u_lay RX10 TX10 42, u_lay RX10 TX10 43, u_lay RX10 TX10 44, u_lay RX10 TX10 45], w ∈ w_TB
  exact List.forall_mem_cons.mpr ⟨w_m4 147 (by decide +kernel) (by decide +kernel), List.forall_mem_cons.mpr ⟨w_m4 149 (by decide +kernel) (by decide +kernel), List.forall_mem_cons.mpr ⟨w_m4 151 (by decide +kernel) (by decide +kernel), List.forall_mem_cons.mpr ⟨w_m4 153 (by decide +kernel) (by decide +kernel), List.forall_mem_cons.mpr ⟨w_m4 155 (by decide +kernel) (by decide +kernel), List.forall_mem_cons.mpr ⟨w_m4 157 (by decide +kernel) (by decide +kernel), List.forall_mem_cons.mpr ⟨w_m4 159 (by decide +kernel) (by decide +kernel), List.forall_mem_cons.mpr ⟨w_m4 161 (by decide +kernel) (by decide +kernel), List.forall_mem_cons.mpr ⟨w_m4 163 (by decide +kernel) (by decide +kernel), List.forall_mem_cons.mpr ⟨w_m4 165 (by decide +kernel) (by decide +kernel), List.forall_mem_cons.mpr ⟨w_m4 167 (by decide +kernel) (by decide +kernel), List.forall_mem_cons.mpr ⟨w_m4 169 (by decide +kernel) (by decide +kernel), List.forall_mem_cons.mpr ⟨w_m4 171 (by decide +kernel) (by decide +kernel), List.forall_mem_cons.mpr ⟨w_m4 173 (by decide +kernel) (by decide +kernel), List.forall_mem_cons.mpr ⟨w_m4 175 (by decide +kernel) (by decide +kernel), List.forall_mem_cons.mpr ⟨w_m4 177 (by decide +kernel) (by decide +kernel), List.forall_mem_cons.mpr ⟨w_m4 179 (by decide +kernel) (by decide +kernel), List.forall_mem_cons.mpr ⟨w_m4 181 (by decide +kernel) (by decide +kernel), List.forall_mem_cons.mpr ⟨w_m4 183 (by decide +kernel) (by decide +kernel), List.forall_mem_cons.mpr ⟨w_m4 185 (by decide +kernel) (by decide +kernel), List.forall_mem_cons.mpr ⟨w_m4 187 (by decide +kernel) (by decide +kernel), List.forall_mem_cons.mpr ⟨w_m4 189 (by decide +kernel) (by decide +kernel), List.forall_mem_cons.mpr ⟨w_m4 191 (by decide +kernel) (by decide +kernel), List.forall_mem_cons.mpr ⟨w_m4 193 (by decide +kernel) (by decide +kernel), List.forall_mem_cons.mpr ⟨w_m4 195 (by decide +kernel) (by decide +kernel), List.forall_mem_cons.mpr ⟨w_m4 197 (by decide +kernel) (by decide +kernel), List.forall_mem_cons.mpr ⟨w_m4 199 (by decide +kernel) (by decide +kernel), List.forall_mem_cons.mpr ⟨w_m4 201 (by decide +kernel) (by decide +kernel), List.forall_mem_cons.mpr ⟨w_m4 203 (by decide +kernel) (by decide +kernel), List.forall_mem_cons.mpr ⟨w_m4 205 (by decide +kernel) (by decide +kernel), List.forall_mem_cons.mpr ⟨w_m4 207 (by decide +kernel) (by decide +kernel), List.forall_mem_cons.mpr ⟨w_m4 209 (by decide +kernel) (by decide +kernel), List.forall_mem_cons.mpr ⟨w_m4 211 (by decide +kernel) (by decide +kernel), List.forall_mem_cons.mpr ⟨w_m4 213 (by decide +kernel) (by decide +kernel), List.forall_mem_cons.mpr ⟨w_m4 215 (by decide +kernel) (by decide +kernel), List.forall_mem_cons.mpr ⟨w_m4 217 (by decide +kernel) (by decide +kernel), List.forall_mem_cons.mpr ⟨w_m4 219 (by decide +kernel) (by decide +kernel), List.forall_mem_cons.mpr ⟨w_m4 221 (by decide +kernel) (by decide +kernel), List.forall_mem_cons.mpr ⟨w_m4 223 (by decide +kernel) (by decide +kernel), List.forall_mem_cons.mpr ⟨w_m4 225 (by decide +kernel) (by decide +kernel), List.forall_mem_cons.mpr ⟨w_m4 227 (by decide +kernel) (by decide +kernel), List.forall_mem_cons.mpr ⟨w_m4 229 (by decide +kernel) (by decide +kernel), List.forall_mem_cons.mpr ⟨w_m4 231 (by decide +kernel) (by decide +kernel), List.forall_mem_cons.mpr ⟨w_m4 233 (by decide +kernel) (by decide +kernel), List.forall_mem_cons.mpr ⟨w_m4 235 (by decide +kernel) (by decide +kernel), List.forall_mem_cons.mpr ⟨w_m4 237 (by decide +kernel) (by decide +kernel), fun _ h => absurd h List.not_mem_nil⟩⟩⟩⟩⟩⟩⟩⟩⟩⟩⟩⟩⟩⟩⟩⟩⟩⟩⟩⟩⟩⟩⟩⟩⟩⟩⟩⟩⟩⟩⟩⟩⟩⟩⟩⟩⟩⟩⟩⟩⟩⟩⟩⟩⟩⟩
theorem w_clok : ∀ (ci : Nat) (Cn : String) (T : u_T) (N : Nat), vwCl[ci]? = some (Cn, T, N) → (∀ w ∈ u_ws Cn T N, w ∈ w_TB) ∧ (∃ ty0 : Nat → FieldType, ∀ k, k < N → parseFieldDescriptor (T k).2.2.1 = some (ty0 k)) ∧ (∀ a, a < N → ∀ b, b < N → a ≠ b → (T a).2.1 ≠ (T b).2.1) ∧ (w_ft ci).length = N ∧ (∀ j, j < N → (w_ft ci).getD j 0 = w_tc (T j).2.2.1) := by
  intro ci Cn T N h
  match ci, h with
  | 0, h => cases h; exact ⟨w_in0, ⟨tyX0, tyX0_ok⟩, nmX0, rfl, by decide +kernel⟩
  | 1, h => cases h; exact ⟨w_in1, ⟨tyX1, tyX1_ok⟩, nmX1, rfl, by decide +kernel⟩
  | 2, h => cases h; exact ⟨w_in2, ⟨tyX2, tyX2_ok⟩, nmX2, rfl, by decide +kernel⟩
  | 3, h => cases h; exact ⟨w_in3, ⟨tyX3, tyX3_ok⟩, nmX3, rfl, by decide +kernel⟩
  | 4, h => cases h; exact ⟨w_in4, ⟨tyX4, tyX4_ok⟩, nmX4, rfl, by decide +kernel⟩
  | 5, h => cases h; exact ⟨w_in5, ⟨tyX5, tyX5_ok⟩, nmX5, rfl, by decide +kernel⟩
  | 6, h => cases h; exact ⟨w_in6, ⟨tyX6, tyX6_ok⟩, nmX6, rfl, by decide +kernel⟩
  | 7, h => cases h; exact ⟨w_in7, ⟨tyX7, tyX7_ok⟩, nmX7, rfl, by decide +kernel⟩
  | 8, h => cases h; exact ⟨w_in8, ⟨tyX8, tyX8_ok⟩, nmX8, rfl, by decide +kernel⟩
  | 9, h => cases h; exact ⟨w_in9, ⟨tyX9, tyX9_ok⟩, nmX9, rfl, by decide +kernel⟩
  | 10, h => cases h; exact ⟨w_in10, ⟨tyX10, tyX10_ok⟩, nmX10, rfl, by decide +kernel⟩
  | n + 11, h => simp [vwCl] at h
