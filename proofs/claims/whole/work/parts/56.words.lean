/-! the words that the law's calls want lie in the tables -/
theorem tb_1 {w : Cond} (h : w ∈ tables_1_1) : w ∈ lw_tbl := List.mem_append_right _ (List.mem_append_left _ h)
theorem tb_2 {w : Cond} (h : w ∈ tables_1_2) : w ∈ lw_tbl := List.mem_append_right _ (List.mem_append_right _ (List.mem_append_left _ h))
theorem tb_3 {w : Cond} (h : w ∈ tables_1_3) : w ∈ lw_tbl := List.mem_append_right _ (List.mem_append_right _ (List.mem_append_right _ (List.mem_append_left _ h)))
theorem tb_4 {w : Cond} (h : w ∈ tables_1_4) : w ∈ lw_tbl := List.mem_append_right _ (List.mem_append_right _ (List.mem_append_right _ (List.mem_append_right _ h)))
theorem tb_p {w : Cond} (h : w ∈ k2_sels lw_privs) : w ∈ lw_tbl := List.mem_append_left _ h
theorem nn_in : ∀ w ∈ ([] : List Cond), w ∈ lw_tbl := fun _ h => absurd h List.not_mem_nil
theorem pool_in {C : String} {T : u_T} {N : Nat} (ix : List Nat) (h : ∀ k, k < N → lw_tbl[ix.getD k 0]? = some (u_lay C T k)) : ∀ w ∈ u_ws C T N, w ∈ lw_tbl := by
  intro w hw
  obtain ⟨k, hk, rfl⟩ := List.mem_map.mp hw
  exact List.mem_of_getElem? (h k (List.mem_range.mp hk))
set_option maxRecDepth 100000 in
theorem in_wsX00 : ∀ w ∈ wsX00, w ∈ lw_tbl := pool_in (80 :: 82 :: 84 :: 86 :: []) (by decide +kernel)
set_option maxRecDepth 100000 in
theorem in_wsX10 : ∀ w ∈ wsX10, w ∈ lw_tbl := pool_in (153 :: 155 :: 157 :: 159 :: 161 :: 163 :: 165 :: []) (by decide +kernel)
set_option maxRecDepth 100000 in
theorem in_wsX20 : ∀ w ∈ wsX20, w ∈ lw_tbl := pool_in (99 :: 101 :: 103 :: []) (by decide +kernel)
set_option maxRecDepth 100000 in
theorem in_wsX30 : ∀ w ∈ wsX30, w ∈ lw_tbl := pool_in (119 :: 121 :: 123 :: 125 :: 127 :: 129 :: 131 :: []) (by decide +kernel)
set_option maxRecDepth 100000 in
theorem in_wsX40 : ∀ w ∈ wsX40, w ∈ lw_tbl := pool_in (63 :: 65 :: 67 :: []) (by decide +kernel)
set_option maxRecDepth 100000 in
theorem in_wsX50 : ∀ w ∈ wsX50, w ∈ lw_tbl := pool_in (204 :: 206 :: 208 :: 210 :: []) (by decide +kernel)
set_option maxRecDepth 100000 in
theorem in_wsX60 : ∀ w ∈ wsX60, w ∈ lw_tbl := pool_in (180 :: 182 :: 184 :: 186 :: 188 :: 190 :: []) (by decide +kernel)
set_option maxRecDepth 100000 in
theorem in_wsX70 : ∀ w ∈ wsX70, w ∈ lw_tbl := pool_in (223 :: 225 :: 227 :: 229 :: 231 :: 233 :: 235 :: 237 :: 239 :: 241 :: []) (by decide +kernel)
set_option maxRecDepth 100000 in
theorem in_wsX80 : ∀ w ∈ wsX80, w ∈ lw_tbl := pool_in (734 :: 736 :: 738 :: 740 :: 742 :: 744 :: 746 :: 748 :: 750 :: 752 :: 754 :: 756 :: 758 :: 760 :: 762 :: 764 :: 766 :: 768 :: 770 :: 772 :: 774 :: 776 :: 778 :: 780 :: 782 :: 784 :: 786 :: 788 :: 790 :: 792 :: 794 :: 796 :: 798 :: 800 :: []) (by decide +kernel)
theorem mw_691 : Cond.code yL_cell cL_cell 2 (some .int) ∈ lw_tbl := tb_3 (List.mem_of_getElem? (i := 180) rfl)
set_option maxRecDepth 100000 in
theorem in_wsL_cell : ∀ w ∈ wsL_cell, w ∈ lw_tbl := List.forall_mem_cons.mpr ⟨mw_691, nn_in⟩
theorem mw_31 : Cond.initialized RL ∈ lw_tbl := tb_1 (List.mem_of_getElem? (i := 0) rfl)
theorem mw_690 : Cond.static yL_cell ∈ lw_tbl := tb_3 (List.mem_of_getElem? (i := 179) rfl)
theorem mw_689 : Cond.methodLink RL 9 yL_cell ∈ lw_tbl := tb_3 (List.mem_of_getElem? (i := 178) rfl)
set_option maxRecDepth 100000 in
theorem gt_L_cell : GoodIn lw_tbl (va_wsS RL 9 yL_cell wsL_cell) := goodIn_sub (List.forall_mem_append.mpr ⟨List.forall_mem_cons.mpr ⟨mw_689, List.forall_mem_cons.mpr ⟨mw_690, List.forall_mem_cons.mpr ⟨mw_31, nn_in⟩⟩⟩, in_wsL_cell⟩) (by decide +kernel)
theorem mw_50 : Cond.code yX7_init cX7_init 5 none ∈ lw_tbl := tb_1 (List.mem_of_getElem? (i := 19) rfl)
theorem mw_135 : Cond.static Lib.Math.min.name ∈ lw_tbl := tb_1 (List.mem_of_getElem? (i := 104) rfl)
theorem mw_134 : Cond.methodLink RX7 47 Lib.Math.min.name ∈ lw_tbl := tb_1 (List.mem_of_getElem? (i := 103) rfl)
theorem mw_222 : Cond.fieldLink RX7 44 "DredgePond" "latestFault" "I" ∈ lw_tbl := tb_1 (List.mem_of_getElem? (i := 191) rfl)
theorem mw_221 : Cond.fieldLink RX7 41 "DredgePond" "fines" "I" ∈ lw_tbl := tb_1 (List.mem_of_getElem? (i := 190) rfl)
theorem mw_220 : Cond.fieldLink RX7 37 "DredgePond" "today" "I" ∈ lw_tbl := tb_1 (List.mem_of_getElem? (i := 189) rfl)
theorem mw_219 : Cond.fieldLink RX7 33 "DredgePond" "reader" "LDredgePond$LawReader;" ∈ lw_tbl := tb_1 (List.mem_of_getElem? (i := 188) rfl)
theorem mw_36 : Cond.initialized RX3 ∈ lw_tbl := tb_1 (List.mem_of_getElem? (i := 5) rfl)
theorem mw_107 : Cond.instantiable RX3 7 ∈ lw_tbl := tb_1 (List.mem_of_getElem? (i := 76) rfl)
theorem mw_106 : Cond.classLink RX7 30 RX3 ∈ lw_tbl := tb_1 (List.mem_of_getElem? (i := 75) rfl)
theorem mw_218 : Cond.fieldLink RX7 26 "DredgePond" "laws" "LDredgePond$LawBook;" ∈ lw_tbl := tb_1 (List.mem_of_getElem? (i := 187) rfl)
theorem mw_35 : Cond.initialized RX2 ∈ lw_tbl := tb_1 (List.mem_of_getElem? (i := 4) rfl)
theorem mw_91 : Cond.instantiable RX2 3 ∈ lw_tbl := tb_1 (List.mem_of_getElem? (i := 60) rfl)
theorem mw_90 : Cond.classLink RX7 23 RX2 ∈ lw_tbl := tb_1 (List.mem_of_getElem? (i := 59) rfl)
theorem mw_217 : Cond.fieldLink RX7 19 "DredgePond" "bag" "LDredgePond$Bag;" ∈ lw_tbl := tb_1 (List.mem_of_getElem? (i := 186) rfl)
theorem mw_34 : Cond.initialized RX0 ∈ lw_tbl := tb_1 (List.mem_of_getElem? (i := 3) rfl)
theorem mw_71 : Cond.instantiable RX0 4 ∈ lw_tbl := tb_1 (List.mem_of_getElem? (i := 40) rfl)
theorem mw_70 : Cond.classLink RX7 16 RX0 ∈ lw_tbl := tb_1 (List.mem_of_getElem? (i := 39) rfl)
theorem mw_216 : Cond.fieldLink RX7 10 "DredgePond" "pond" "LDredgePond$Pond;" ∈ lw_tbl := tb_1 (List.mem_of_getElem? (i := 185) rfl)
theorem mw_33 : Cond.initialized RX4 ∈ lw_tbl := tb_1 (List.mem_of_getElem? (i := 2) rfl)
theorem mw_55 : Cond.instantiable RX4 3 ∈ lw_tbl := tb_1 (List.mem_of_getElem? (i := 24) rfl)
theorem mw_54 : Cond.classLink RX7 7 RX4 ∈ lw_tbl := tb_1 (List.mem_of_getElem? (i := 23) rfl)
theorem mw_53 : Cond.code objectInit ⟨#[0xb1]⟩ 1 none ∈ lw_tbl := tb_1 (List.mem_of_getElem? (i := 22) rfl)
theorem mw_52 : Cond.instanceMethod objectInit ∈ lw_tbl := tb_1 (List.mem_of_getElem? (i := 21) rfl)
theorem mw_51 : Cond.methodLink RX7 1 objectInit ∈ lw_tbl := tb_1 (List.mem_of_getElem? (i := 20) rfl)
set_option maxRecDepth 100000 in
theorem in_wsX7_init_r1 : ∀ w ∈ wsX7_init_r1, w ∈ lw_tbl := List.forall_mem_cons.mpr ⟨mw_51, List.forall_mem_cons.mpr ⟨mw_52, List.forall_mem_cons.mpr ⟨mw_53, List.forall_mem_cons.mpr ⟨mw_54, List.forall_mem_cons.mpr ⟨mw_55, List.forall_mem_cons.mpr ⟨mw_33, List.forall_mem_cons.mpr ⟨mw_216, List.forall_mem_cons.mpr ⟨mw_70, List.forall_mem_cons.mpr ⟨mw_71, List.forall_mem_cons.mpr ⟨mw_34, List.forall_mem_cons.mpr ⟨mw_217, List.forall_mem_cons.mpr ⟨mw_90, List.forall_mem_cons.mpr ⟨mw_91, List.forall_mem_cons.mpr ⟨mw_35, List.forall_mem_cons.mpr ⟨mw_218, List.forall_mem_cons.mpr ⟨mw_106, List.forall_mem_cons.mpr ⟨mw_107, List.forall_mem_cons.mpr ⟨mw_36, List.forall_mem_cons.mpr ⟨mw_219, List.forall_mem_cons.mpr ⟨mw_220, List.forall_mem_cons.mpr ⟨mw_221, List.forall_mem_cons.mpr ⟨mw_222, List.forall_mem_cons.mpr ⟨mw_134, List.forall_mem_cons.mpr ⟨mw_135, nn_in⟩⟩⟩⟩⟩⟩⟩⟩⟩⟩⟩⟩⟩⟩⟩⟩⟩⟩⟩⟩⟩⟩⟩⟩
theorem mw_73 : Cond.instanceMethod yX0_init ∈ lw_tbl := tb_1 (List.mem_of_getElem? (i := 42) rfl)
theorem mw_62 : Cond.fieldLink RX4 16 "DredgePond$Pond" "hours" "I" ∈ lw_tbl := tb_1 (List.mem_of_getElem? (i := 31) rfl)
theorem mw_61 : Cond.fieldLink RX4 13 "DredgePond$Pond" "dirt" "I" ∈ lw_tbl := tb_1 (List.mem_of_getElem? (i := 30) rfl)
theorem mw_60 : Cond.fieldLink RX4 7 "DredgePond$Pond" "height" "I" ∈ lw_tbl := tb_1 (List.mem_of_getElem? (i := 29) rfl)
theorem mw_59 : Cond.methodLink RX4 1 objectInit ∈ lw_tbl := tb_1 (List.mem_of_getElem? (i := 28) rfl)
theorem mw_58 : Cond.code yX4_init cX4_init 1 none ∈ lw_tbl := tb_1 (List.mem_of_getElem? (i := 27) rfl)
theorem mw_57 : Cond.instanceMethod yX4_init ∈ lw_tbl := tb_1 (List.mem_of_getElem? (i := 26) rfl)
theorem mw_215 : Cond.fieldLink RX7 77 "DredgePond" "route" "LDredgePond$Route;" ∈ lw_tbl := tb_1 (List.mem_of_getElem? (i := 184) rfl)
theorem mw_40 : Cond.initialized RX5 ∈ lw_tbl := tb_1 (List.mem_of_getElem? (i := 9) rfl)
theorem mw_195 : Cond.instantiable RX5 4 ∈ lw_tbl := tb_1 (List.mem_of_getElem? (i := 164) rfl)
theorem mw_194 : Cond.classLink RX7 74 RX5 ∈ lw_tbl := tb_1 (List.mem_of_getElem? (i := 163) rfl)
theorem mw_214 : Cond.fieldLink RX7 70 "DredgePond" "trail" "LDredgePond$Trail;" ∈ lw_tbl := tb_1 (List.mem_of_getElem? (i := 183) rfl)
theorem mw_39 : Cond.initialized RX6 ∈ lw_tbl := tb_1 (List.mem_of_getElem? (i := 8) rfl)
theorem mw_169 : Cond.instantiable RX6 6 ∈ lw_tbl := tb_1 (List.mem_of_getElem? (i := 138) rfl)
theorem mw_168 : Cond.classLink RX7 65 RX6 ∈ lw_tbl := tb_1 (List.mem_of_getElem? (i := 137) rfl)
theorem mw_213 : Cond.fieldLink RX7 61 "DredgePond" "ground" "LDredgePond$Ground;" ∈ lw_tbl := tb_1 (List.mem_of_getElem? (i := 182) rfl)
theorem mw_38 : Cond.initialized RX1 ∈ lw_tbl := tb_1 (List.mem_of_getElem? (i := 7) rfl)
theorem mw_141 : Cond.instantiable RX1 7 ∈ lw_tbl := tb_1 (List.mem_of_getElem? (i := 110) rfl)
theorem mw_140 : Cond.classLink RX7 56 RX1 ∈ lw_tbl := tb_1 (List.mem_of_getElem? (i := 109) rfl)
theorem mw_139 : Cond.code Lib.Math.max.name Lib.Math.max.code 2 (some .int) ∈ lw_tbl := tb_1 (List.mem_of_getElem? (i := 108) rfl)
theorem mw_138 : Cond.static Lib.Math.max.name ∈ lw_tbl := tb_1 (List.mem_of_getElem? (i := 107) rfl)
theorem mw_137 : Cond.methodLink RX7 53 Lib.Math.max.name ∈ lw_tbl := tb_1 (List.mem_of_getElem? (i := 106) rfl)
theorem mw_136 : Cond.code Lib.Math.min.name Lib.Math.min.code 2 (some .int) ∈ lw_tbl := tb_1 (List.mem_of_getElem? (i := 105) rfl)
theorem mw_37 : Cond.initialized "java/lang/Math" ∈ lw_tbl := tb_1 (List.mem_of_getElem? (i := 6) rfl)
set_option maxRecDepth 100000 in
theorem in_wsX7_init_r2 : ∀ w ∈ wsX7_init_r2, w ∈ lw_tbl := List.forall_mem_cons.mpr ⟨mw_37, List.forall_mem_cons.mpr ⟨mw_136, List.forall_mem_cons.mpr ⟨mw_137, List.forall_mem_cons.mpr ⟨mw_138, List.forall_mem_cons.mpr ⟨mw_139, List.forall_mem_cons.mpr ⟨mw_140, List.forall_mem_cons.mpr ⟨mw_141, List.forall_mem_cons.mpr ⟨mw_38, List.forall_mem_cons.mpr ⟨mw_213, List.forall_mem_cons.mpr ⟨mw_168, List.forall_mem_cons.mpr ⟨mw_169, List.forall_mem_cons.mpr ⟨mw_39, List.forall_mem_cons.mpr ⟨mw_214, List.forall_mem_cons.mpr ⟨mw_194, List.forall_mem_cons.mpr ⟨mw_195, List.forall_mem_cons.mpr ⟨mw_40, List.forall_mem_cons.mpr ⟨mw_215, List.forall_mem_cons.mpr ⟨mw_57, List.forall_mem_cons.mpr ⟨mw_58, List.forall_mem_cons.mpr ⟨mw_59, List.forall_mem_cons.mpr ⟨mw_60, List.forall_mem_cons.mpr ⟨mw_61, List.forall_mem_cons.mpr ⟨mw_62, List.forall_mem_cons.mpr ⟨mw_73, nn_in⟩⟩⟩⟩⟩⟩⟩⟩⟩⟩⟩⟩⟩⟩⟩⟩⟩⟩⟩⟩⟩⟩⟩⟩
theorem mw_142 : Cond.methodLink RX7 58 yX1_init ∈ lw_tbl := tb_1 (List.mem_of_getElem? (i := 111) rfl)
theorem mw_118 : Cond.fieldLink RX3 33 "DredgePond$LawReader" "stop" "I" ∈ lw_tbl := tb_1 (List.mem_of_getElem? (i := 87) rfl)
theorem mw_117 : Cond.fieldLink RX3 30 "DredgePond$LawReader" "start" "I" ∈ lw_tbl := tb_1 (List.mem_of_getElem? (i := 86) rfl)
theorem mw_116 : Cond.fieldLink RX3 27 "DredgePond$LawReader" "kind" "I" ∈ lw_tbl := tb_1 (List.mem_of_getElem? (i := 85) rfl)
theorem mw_115 : Cond.fieldLink RX3 24 "DredgePond$LawReader" "length" "I" ∈ lw_tbl := tb_1 (List.mem_of_getElem? (i := 84) rfl)
theorem mw_114 : Cond.fieldLink RX3 20 "DredgePond$LawReader" "bytes" "I" ∈ lw_tbl := tb_1 (List.mem_of_getElem? (i := 83) rfl)
theorem mw_113 : Cond.fieldLink RX3 17 "DredgePond$LawReader" "terms" "[I" ∈ lw_tbl := tb_1 (List.mem_of_getElem? (i := 82) rfl)
theorem mw_112 : Cond.fieldLink RX3 11 "DredgePond$LawReader" "tape" "[I" ∈ lw_tbl := tb_1 (List.mem_of_getElem? (i := 81) rfl)
theorem mw_111 : Cond.methodLink RX3 3 objectInit ∈ lw_tbl := tb_1 (List.mem_of_getElem? (i := 80) rfl)
theorem mw_110 : Cond.code yX3_init cX3_init 1 none ∈ lw_tbl := tb_1 (List.mem_of_getElem? (i := 79) rfl)
theorem mw_109 : Cond.instanceMethod yX3_init ∈ lw_tbl := tb_1 (List.mem_of_getElem? (i := 78) rfl)
theorem mw_98 : Cond.fieldLink RX2 18 "DredgePond$LawBook" "taken" "I" ∈ lw_tbl := tb_1 (List.mem_of_getElem? (i := 67) rfl)
theorem mw_97 : Cond.fieldLink RX2 15 "DredgePond$LawBook" "since" "[I" ∈ lw_tbl := tb_1 (List.mem_of_getElem? (i := 66) rfl)
theorem mw_96 : Cond.fieldLink RX2 11 "DredgePond$LawBook" "terms" "[I" ∈ lw_tbl := tb_1 (List.mem_of_getElem? (i := 65) rfl)
theorem mw_95 : Cond.methodLink RX2 3 objectInit ∈ lw_tbl := tb_1 (List.mem_of_getElem? (i := 64) rfl)
theorem mw_94 : Cond.code yX2_init cX2_init 1 none ∈ lw_tbl := tb_1 (List.mem_of_getElem? (i := 63) rfl)
theorem mw_93 : Cond.instanceMethod yX2_init ∈ lw_tbl := tb_1 (List.mem_of_getElem? (i := 62) rfl)
theorem mw_79 : Cond.fieldLink RX0 22 "DredgePond$Bag" "pace" "I" ∈ lw_tbl := tb_1 (List.mem_of_getElem? (i := 48) rfl)
theorem mw_78 : Cond.fieldLink RX0 19 "DredgePond$Bag" "gone" "I" ∈ lw_tbl := tb_1 (List.mem_of_getElem? (i := 47) rfl)
theorem mw_77 : Cond.fieldLink RX0 15 "DredgePond$Bag" "whole" "I" ∈ lw_tbl := tb_1 (List.mem_of_getElem? (i := 46) rfl)
theorem mw_76 : Cond.fieldLink RX0 9 "DredgePond$Bag" "months" "[I" ∈ lw_tbl := tb_1 (List.mem_of_getElem? (i := 45) rfl)
theorem mw_89 : Cond.arrayClass .int ∈ lw_tbl := tb_1 (List.mem_of_getElem? (i := 58) rfl)
theorem mw_75 : Cond.methodLink RX0 3 objectInit ∈ lw_tbl := tb_1 (List.mem_of_getElem? (i := 44) rfl)
theorem mw_74 : Cond.code yX0_init cX0_init 1 none ∈ lw_tbl := tb_1 (List.mem_of_getElem? (i := 43) rfl)
set_option maxRecDepth 100000 in
theorem in_wsX7_init_r3 : ∀ w ∈ wsX7_init_r3, w ∈ lw_tbl := List.forall_mem_cons.mpr ⟨mw_74, List.forall_mem_cons.mpr ⟨mw_75, List.forall_mem_cons.mpr ⟨mw_89, List.forall_mem_cons.mpr ⟨mw_76, List.forall_mem_cons.mpr ⟨mw_77, List.forall_mem_cons.mpr ⟨mw_78, List.forall_mem_cons.mpr ⟨mw_79, List.forall_mem_cons.mpr ⟨mw_93, List.forall_mem_cons.mpr ⟨mw_94, List.forall_mem_cons.mpr ⟨mw_95, List.forall_mem_cons.mpr ⟨mw_96, List.forall_mem_cons.mpr ⟨mw_97, List.forall_mem_cons.mpr ⟨mw_98, List.forall_mem_cons.mpr ⟨mw_109, List.forall_mem_cons.mpr ⟨mw_110, List.forall_mem_cons.mpr ⟨mw_111, List.forall_mem_cons.mpr ⟨mw_112, List.forall_mem_cons.mpr ⟨mw_113, List.forall_mem_cons.mpr ⟨mw_114, List.forall_mem_cons.mpr ⟨mw_115, List.forall_mem_cons.mpr ⟨mw_116, List.forall_mem_cons.mpr ⟨mw_117, List.forall_mem_cons.mpr ⟨mw_118, List.forall_mem_cons.mpr ⟨mw_142, nn_in⟩⟩⟩⟩⟩⟩⟩⟩⟩⟩⟩⟩⟩⟩⟩⟩⟩⟩⟩⟩⟩⟩⟩⟩
theorem mw_198 : Cond.code yX5_init cX5_init 3 none ∈ lw_tbl := tb_1 (List.mem_of_getElem? (i := 167) rfl)
theorem mw_197 : Cond.instanceMethod yX5_init ∈ lw_tbl := tb_1 (List.mem_of_getElem? (i := 166) rfl)
theorem mw_196 : Cond.methodLink RX7 76 yX5_init ∈ lw_tbl := tb_1 (List.mem_of_getElem? (i := 165) rfl)
theorem mw_177 : Cond.fieldLink RX6 29 "DredgePond$Trail" "fined" "[Z" ∈ lw_tbl := tb_1 (List.mem_of_getElem? (i := 146) rfl)
theorem mw_176 : Cond.fieldLink RX6 25 "DredgePond$Trail" "laidBack" "[Z" ∈ lw_tbl := tb_1 (List.mem_of_getElem? (i := 145) rfl)
theorem mw_193 : Cond.arrayClass .boolean ∈ lw_tbl := tb_1 (List.mem_of_getElem? (i := 162) rfl)
theorem mw_175 : Cond.fieldLink RX6 22 "DredgePond$Trail" "dayOf" "[I" ∈ lw_tbl := tb_1 (List.mem_of_getElem? (i := 144) rfl)
theorem mw_174 : Cond.fieldLink RX6 18 "DredgePond$Trail" "placeOf" "[I" ∈ lw_tbl := tb_1 (List.mem_of_getElem? (i := 143) rfl)
theorem mw_179 : Cond.fieldLink RX6 15 "DredgePond$Trail" "laidBacks" "I" ∈ lw_tbl := tb_1 (List.mem_of_getElem? (i := 148) rfl)
theorem mw_178 : Cond.fieldLink RX6 9 "DredgePond$Trail" "dug" "I" ∈ lw_tbl := tb_1 (List.mem_of_getElem? (i := 147) rfl)
theorem mw_173 : Cond.methodLink RX6 3 objectInit ∈ lw_tbl := tb_1 (List.mem_of_getElem? (i := 142) rfl)
theorem mw_172 : Cond.code yX6_init cX6_init 2 none ∈ lw_tbl := tb_1 (List.mem_of_getElem? (i := 141) rfl)
theorem mw_171 : Cond.instanceMethod yX6_init ∈ lw_tbl := tb_1 (List.mem_of_getElem? (i := 140) rfl)
theorem mw_170 : Cond.methodLink RX7 67 yX6_init ∈ lw_tbl := tb_1 (List.mem_of_getElem? (i := 139) rfl)
theorem mw_151 : Cond.fieldLink RX1 31 "DredgePond$Ground" "greatest" "[I" ∈ lw_tbl := tb_1 (List.mem_of_getElem? (i := 120) rfl)
theorem mw_150 : Cond.fieldLink RX1 28 "DredgePond$Ground" "least" "[I" ∈ lw_tbl := tb_1 (List.mem_of_getElem? (i := 119) rfl)
theorem mw_149 : Cond.fieldLink RX1 25 "DredgePond$Ground" "tins" "[I" ∈ lw_tbl := tb_1 (List.mem_of_getElem? (i := 118) rfl)
theorem mw_148 : Cond.fieldLink RX1 21 "DredgePond$Ground" "depths" "[I" ∈ lw_tbl := tb_1 (List.mem_of_getElem? (i := 117) rfl)
theorem mw_147 : Cond.fieldLink RX1 18 "DredgePond$Ground" "places" "I" ∈ lw_tbl := tb_1 (List.mem_of_getElem? (i := 116) rfl)
theorem mw_146 : Cond.fieldLink RX1 15 "DredgePond$Ground" "rows" "I" ∈ lw_tbl := tb_1 (List.mem_of_getElem? (i := 115) rfl)
theorem mw_152 : Cond.fieldLink RX1 11 "DredgePond$Ground" "gradient" "I" ∈ lw_tbl := tb_1 (List.mem_of_getElem? (i := 121) rfl)
theorem mw_145 : Cond.methodLink RX1 3 objectInit ∈ lw_tbl := tb_1 (List.mem_of_getElem? (i := 114) rfl)
theorem mw_144 : Cond.code yX1_init cX1_init 5 none ∈ lw_tbl := tb_1 (List.mem_of_getElem? (i := 113) rfl)
theorem mw_143 : Cond.instanceMethod yX1_init ∈ lw_tbl := tb_1 (List.mem_of_getElem? (i := 112) rfl)
set_option maxRecDepth 100000 in
theorem in_wsX7_init_r4 : ∀ w ∈ wsX7_init_r4, w ∈ lw_tbl := List.forall_mem_cons.mpr ⟨mw_143, List.forall_mem_cons.mpr ⟨mw_144, List.forall_mem_cons.mpr ⟨mw_145, List.forall_mem_cons.mpr ⟨mw_152, List.forall_mem_cons.mpr ⟨mw_146, List.forall_mem_cons.mpr ⟨mw_147, List.forall_mem_cons.mpr ⟨mw_148, List.forall_mem_cons.mpr ⟨mw_149, List.forall_mem_cons.mpr ⟨mw_150, List.forall_mem_cons.mpr ⟨mw_151, List.forall_mem_cons.mpr ⟨mw_170, List.forall_mem_cons.mpr ⟨mw_171, List.forall_mem_cons.mpr ⟨mw_172, List.forall_mem_cons.mpr ⟨mw_173, List.forall_mem_cons.mpr ⟨mw_178, List.forall_mem_cons.mpr ⟨mw_179, List.forall_mem_cons.mpr ⟨mw_174, List.forall_mem_cons.mpr ⟨mw_175, List.forall_mem_cons.mpr ⟨mw_193, List.forall_mem_cons.mpr ⟨mw_176, List.forall_mem_cons.mpr ⟨mw_177, List.forall_mem_cons.mpr ⟨mw_196, List.forall_mem_cons.mpr ⟨mw_197, List.forall_mem_cons.mpr ⟨mw_198, nn_in⟩⟩⟩⟩⟩⟩⟩⟩⟩⟩⟩⟩⟩⟩⟩⟩⟩⟩⟩⟩⟩⟩⟩⟩
theorem mw_202 : Cond.fieldLink RX5 21 "DredgePond$Route" "sums" "[I" ∈ lw_tbl := tb_1 (List.mem_of_getElem? (i := 171) rfl)
theorem mw_201 : Cond.fieldLink RX5 18 "DredgePond$Route" "places" "I" ∈ lw_tbl := tb_1 (List.mem_of_getElem? (i := 170) rfl)
theorem mw_200 : Cond.fieldLink RX5 15 "DredgePond$Route" "rows" "I" ∈ lw_tbl := tb_1 (List.mem_of_getElem? (i := 169) rfl)
theorem mw_203 : Cond.fieldLink RX5 9 "DredgePond$Route" "price" "I" ∈ lw_tbl := tb_1 (List.mem_of_getElem? (i := 172) rfl)
theorem mw_199 : Cond.methodLink RX5 3 objectInit ∈ lw_tbl := tb_1 (List.mem_of_getElem? (i := 168) rfl)
set_option maxRecDepth 100000 in
theorem in_wsX7_init_r5 : ∀ w ∈ wsX7_init_r5, w ∈ lw_tbl := List.forall_mem_cons.mpr ⟨mw_199, List.forall_mem_cons.mpr ⟨mw_203, List.forall_mem_cons.mpr ⟨mw_200, List.forall_mem_cons.mpr ⟨mw_201, List.forall_mem_cons.mpr ⟨mw_202, nn_in⟩⟩⟩⟩⟩
set_option maxRecDepth 100000 in
theorem in_wsX7_init : ∀ w ∈ wsX7_init, w ∈ lw_tbl := List.forall_mem_cons.mpr ⟨mw_50, List.forall_mem_append.mpr ⟨List.forall_mem_append.mpr ⟨List.forall_mem_append.mpr ⟨List.forall_mem_append.mpr ⟨List.forall_mem_append.mpr ⟨List.forall_mem_append.mpr ⟨List.forall_mem_append.mpr ⟨List.forall_mem_append.mpr ⟨List.forall_mem_append.mpr ⟨in_wsX7_init_r1, List.forall_mem_append.mpr ⟨in_wsX7_init_r2, List.forall_mem_append.mpr ⟨in_wsX7_init_r3, List.forall_mem_append.mpr ⟨in_wsX7_init_r4, in_wsX7_init_r5⟩⟩⟩⟩, in_wsX40⟩, in_wsX70⟩, in_wsX00⟩, in_wsX20⟩, in_wsX30⟩, in_wsX10⟩, in_wsX60⟩, in_wsX50⟩⟩
set_option maxRecDepth 100000 in
theorem gt_X7_init : GoodIn lw_tbl (wsX7_init) := goodIn_sub (in_wsX7_init) (by decide +kernel)
theorem mw_696 : Cond.code yX8_init cX8_init 4 none ∈ lw_tbl := tb_3 (List.mem_of_getElem? (i := 185) rfl)
theorem mw_724 : Cond.fieldLink RX8 64 "DredgePondModel" "text" "[B" ∈ lw_tbl := tb_3 (List.mem_of_getElem? (i := 213) rfl)
theorem mw_723 : Cond.fieldLink RX8 60 "DredgePondModel" "tape" "[B" ∈ lw_tbl := tb_3 (List.mem_of_getElem? (i := 212) rfl)
theorem mw_647 : Cond.arrayClass .byte ∈ lw_tbl := tb_3 (List.mem_of_getElem? (i := 136) rfl)
theorem mw_722 : Cond.fieldLink RX8 57 "DredgePondModel" "sums" "[I" ∈ lw_tbl := tb_3 (List.mem_of_getElem? (i := 211) rfl)
theorem mw_721 : Cond.fieldLink RX8 54 "DredgePondModel" "months" "[I" ∈ lw_tbl := tb_3 (List.mem_of_getElem? (i := 210) rfl)
theorem mw_717 : Cond.fieldLink RX8 51 "DredgePondModel" "speed" "I" ∈ lw_tbl := tb_3 (List.mem_of_getElem? (i := 206) rfl)
theorem mw_715 : Cond.fieldLink RX8 48 "DredgePondModel" "level" "I" ∈ lw_tbl := tb_3 (List.mem_of_getElem? (i := 204) rfl)
theorem mw_714 : Cond.fieldLink RX8 45 "DredgePondModel" "hours" "I" ∈ lw_tbl := tb_3 (List.mem_of_getElem? (i := 203) rfl)
theorem mw_713 : Cond.fieldLink RX8 42 "DredgePondModel" "place" "I" ∈ lw_tbl := tb_3 (List.mem_of_getElem? (i := 202) rfl)
theorem mw_712 : Cond.fieldLink RX8 39 "DredgePondModel" "row" "I" ∈ lw_tbl := tb_3 (List.mem_of_getElem? (i := 201) rfl)
theorem mw_710 : Cond.fieldLink RX8 36 "DredgePondModel" "cost" "I" ∈ lw_tbl := tb_3 (List.mem_of_getElem? (i := 199) rfl)
theorem mw_709 : Cond.fieldLink RX8 32 "DredgePondModel" "grade" "I" ∈ lw_tbl := tb_3 (List.mem_of_getElem? (i := 198) rfl)
theorem mw_708 : Cond.fieldLink RX8 29 "DredgePondModel" "isFined" "[Z" ∈ lw_tbl := tb_3 (List.mem_of_getElem? (i := 197) rfl)
theorem mw_707 : Cond.fieldLink RX8 26 "DredgePondModel" "isBack" "[Z" ∈ lw_tbl := tb_3 (List.mem_of_getElem? (i := 196) rfl)
theorem mw_706 : Cond.fieldLink RX8 23 "DredgePondModel" "isDug" "[Z" ∈ lw_tbl := tb_3 (List.mem_of_getElem? (i := 195) rfl)
theorem mw_705 : Cond.fieldLink RX8 19 "DredgePondModel" "isTold" "[Z" ∈ lw_tbl := tb_3 (List.mem_of_getElem? (i := 194) rfl)
theorem mw_704 : Cond.fieldLink RX8 16 "DredgePondModel" "dugOn" "[I" ∈ lw_tbl := tb_3 (List.mem_of_getElem? (i := 193) rfl)
theorem mw_703 : Cond.fieldLink RX8 13 "DredgePondModel" "tin" "[I" ∈ lw_tbl := tb_3 (List.mem_of_getElem? (i := 192) rfl)
theorem mw_702 : Cond.fieldLink RX8 7 "DredgePondModel" "depth" "[I" ∈ lw_tbl := tb_3 (List.mem_of_getElem? (i := 191) rfl)
theorem mw_697 : Cond.methodLink RX8 1 objectInit ∈ lw_tbl := tb_3 (List.mem_of_getElem? (i := 186) rfl)
set_option maxRecDepth 100000 in
theorem in_wsX8_init_r1 : ∀ w ∈ wsX8_init_r1, w ∈ lw_tbl := List.forall_mem_cons.mpr ⟨mw_697, List.forall_mem_cons.mpr ⟨mw_52, List.forall_mem_cons.mpr ⟨mw_53, List.forall_mem_cons.mpr ⟨mw_89, List.forall_mem_cons.mpr ⟨mw_702, List.forall_mem_cons.mpr ⟨mw_703, List.forall_mem_cons.mpr ⟨mw_704, List.forall_mem_cons.mpr ⟨mw_193, List.forall_mem_cons.mpr ⟨mw_705, List.forall_mem_cons.mpr ⟨mw_706, List.forall_mem_cons.mpr ⟨mw_707, List.forall_mem_cons.mpr ⟨mw_708, List.forall_mem_cons.mpr ⟨mw_709, List.forall_mem_cons.mpr ⟨mw_710, List.forall_mem_cons.mpr ⟨mw_712, List.forall_mem_cons.mpr ⟨mw_713, List.forall_mem_cons.mpr ⟨mw_714, List.forall_mem_cons.mpr ⟨mw_715, List.forall_mem_cons.mpr ⟨mw_717, List.forall_mem_cons.mpr ⟨mw_721, List.forall_mem_cons.mpr ⟨mw_722, List.forall_mem_cons.mpr ⟨mw_647, List.forall_mem_cons.mpr ⟨mw_723, List.forall_mem_cons.mpr ⟨mw_724, nn_in⟩⟩⟩⟩⟩⟩⟩⟩⟩⟩⟩⟩⟩⟩⟩⟩⟩⟩⟩⟩⟩⟩⟩⟩
theorem mw_701 : Cond.fieldLink RX8 88 "DredgePondModel" "places" "I" ∈ lw_tbl := tb_3 (List.mem_of_getElem? (i := 190) rfl)
theorem mw_700 : Cond.fieldLink RX8 85 "DredgePondModel" "rows" "I" ∈ lw_tbl := tb_3 (List.mem_of_getElem? (i := 189) rfl)
theorem mw_699 : Cond.methodLink RX8 82 Lib.Math.max.name ∈ lw_tbl := tb_3 (List.mem_of_getElem? (i := 188) rfl)
theorem mw_698 : Cond.methodLink RX8 76 Lib.Math.min.name ∈ lw_tbl := tb_3 (List.mem_of_getElem? (i := 187) rfl)
theorem mw_731 : Cond.fieldLink RX8 73 "DredgePondModel" "taken" "[I" ∈ lw_tbl := tb_3 (List.mem_of_getElem? (i := 220) rfl)
theorem mw_730 : Cond.fieldLink RX8 70 "DredgePondModel" "told" "[I" ∈ lw_tbl := tb_3 (List.mem_of_getElem? (i := 219) rfl)
theorem mw_728 : Cond.fieldLink RX8 67 "DredgePondModel" "fault" "I" ∈ lw_tbl := tb_3 (List.mem_of_getElem? (i := 217) rfl)
set_option maxRecDepth 100000 in
theorem in_wsX8_init_r2 : ∀ w ∈ wsX8_init_r2, w ∈ lw_tbl := List.forall_mem_cons.mpr ⟨mw_728, List.forall_mem_cons.mpr ⟨mw_730, List.forall_mem_cons.mpr ⟨mw_731, List.forall_mem_cons.mpr ⟨mw_698, List.forall_mem_cons.mpr ⟨mw_135, List.forall_mem_cons.mpr ⟨mw_37, List.forall_mem_cons.mpr ⟨mw_136, List.forall_mem_cons.mpr ⟨mw_699, List.forall_mem_cons.mpr ⟨mw_138, List.forall_mem_cons.mpr ⟨mw_139, List.forall_mem_cons.mpr ⟨mw_700, List.forall_mem_cons.mpr ⟨mw_701, nn_in⟩⟩⟩⟩⟩⟩⟩⟩⟩⟩⟩⟩
set_option maxRecDepth 100000 in
theorem in_wsX8_init : ∀ w ∈ wsX8_init, w ∈ lw_tbl := List.forall_mem_cons.mpr ⟨mw_696, List.forall_mem_append.mpr ⟨List.forall_mem_append.mpr ⟨in_wsX8_init_r1, in_wsX8_init_r2⟩, in_wsX80⟩⟩
set_option maxRecDepth 100000 in
theorem gt_X8_init : GoodIn lw_tbl (wsX8_init) := goodIn_sub (in_wsX8_init) (by decide +kernel)
theorem mw_247 : Cond.code yX7_depth cX7_depth 4 (some .boolean) ∈ lw_tbl := tb_1 (List.mem_of_getElem? (i := 216) rfl)
theorem mw_264 : Cond.methodLink RX7 85 yX7_within ∈ lw_tbl := tb_1 (List.mem_of_getElem? (i := 233) rfl)
theorem mw_262 : Cond.code yX6_isDug cX6_isDug 3 (some .boolean) ∈ lw_tbl := tb_1 (List.mem_of_getElem? (i := 231) rfl)
theorem mw_261 : Cond.selects RX6 yX6_isDug yX6_isDug ∈ lw_tbl := tb_1 (List.mem_of_getElem? (i := 230) rfl)
theorem mw_260 : Cond.instanceMethod yX6_isDug ∈ lw_tbl := tb_1 (List.mem_of_getElem? (i := 229) rfl)
theorem mw_259 : Cond.methodLink RX7 118 yX6_isDug ∈ lw_tbl := tb_1 (List.mem_of_getElem? (i := 228) rfl)
theorem mw_258 : Cond.code yX7_within cX7_within 3 (some .boolean) ∈ lw_tbl := tb_1 (List.mem_of_getElem? (i := 227) rfl)
theorem mw_257 : Cond.static yX7_within ∈ lw_tbl := tb_1 (List.mem_of_getElem? (i := 226) rfl)
theorem mw_255 : Cond.code yX1_has cX1_has 3 (some .boolean) ∈ lw_tbl := tb_1 (List.mem_of_getElem? (i := 224) rfl)
theorem mw_254 : Cond.selects RX1 yX1_has yX1_has ∈ lw_tbl := tb_1 (List.mem_of_getElem? (i := 223) rfl)
theorem mw_253 : Cond.instanceMethod yX1_has ∈ lw_tbl := tb_1 (List.mem_of_getElem? (i := 222) rfl)
theorem mw_252 : Cond.methodLink RX7 99 yX1_has ∈ lw_tbl := tb_1 (List.mem_of_getElem? (i := 221) rfl)
theorem mw_251 : Cond.code yX7_isUndug cX7_isUndug 3 (some .boolean) ∈ lw_tbl := tb_1 (List.mem_of_getElem? (i := 220) rfl)
theorem mw_32 : Cond.initialized RX7 ∈ lw_tbl := tb_1 (List.mem_of_getElem? (i := 1) rfl)
theorem mw_0 : Cond.selects RX7 yX7_isUndug yX7_isUndug ∈ lw_tbl := tb_p (List.mem_of_getElem? (i := 0) rfl)
theorem mw_250 : Cond.instanceMethod yX7_isUndug ∈ lw_tbl := tb_1 (List.mem_of_getElem? (i := 219) rfl)
theorem mw_248 : Cond.methodLink RX7 81 yX7_isUndug ∈ lw_tbl := tb_1 (List.mem_of_getElem? (i := 217) rfl)
set_option maxRecDepth 100000 in
theorem in_wsX7_depth_r1 : ∀ w ∈ wsX7_depth_r1, w ∈ lw_tbl := List.forall_mem_cons.mpr ⟨mw_213, List.forall_mem_cons.mpr ⟨mw_248, List.forall_mem_cons.mpr ⟨mw_250, List.forall_mem_cons.mpr ⟨mw_0, List.forall_mem_cons.mpr ⟨mw_32, List.forall_mem_cons.mpr ⟨mw_251, List.forall_mem_cons.mpr ⟨mw_214, List.forall_mem_cons.mpr ⟨mw_252, List.forall_mem_cons.mpr ⟨mw_253, List.forall_mem_cons.mpr ⟨mw_254, List.forall_mem_cons.mpr ⟨mw_38, List.forall_mem_cons.mpr ⟨mw_255, List.forall_mem_cons.mpr ⟨mw_146, List.forall_mem_cons.mpr ⟨mw_147, List.forall_mem_cons.mpr ⟨mw_257, List.forall_mem_cons.mpr ⟨mw_258, List.forall_mem_cons.mpr ⟨mw_259, List.forall_mem_cons.mpr ⟨mw_260, List.forall_mem_cons.mpr ⟨mw_261, List.forall_mem_cons.mpr ⟨mw_39, List.forall_mem_cons.mpr ⟨mw_262, List.forall_mem_cons.mpr ⟨mw_178, List.forall_mem_cons.mpr ⟨mw_174, List.forall_mem_cons.mpr ⟨mw_264, nn_in⟩⟩⟩⟩⟩⟩⟩⟩⟩⟩⟩⟩⟩⟩⟩⟩⟩⟩⟩⟩⟩⟩⟩⟩
theorem mw_268 : Cond.code yX1_deepen cX1_deepen 4 none ∈ lw_tbl := tb_1 (List.mem_of_getElem? (i := 237) rfl)
theorem mw_267 : Cond.selects RX1 yX1_deepen yX1_deepen ∈ lw_tbl := tb_1 (List.mem_of_getElem? (i := 236) rfl)
theorem mw_266 : Cond.instanceMethod yX1_deepen ∈ lw_tbl := tb_1 (List.mem_of_getElem? (i := 235) rfl)
theorem mw_265 : Cond.methodLink RX7 89 yX1_deepen ∈ lw_tbl := tb_1 (List.mem_of_getElem? (i := 234) rfl)
set_option maxRecDepth 100000 in
theorem in_wsX7_depth_r2 : ∀ w ∈ wsX7_depth_r2, w ∈ lw_tbl := List.forall_mem_cons.mpr ⟨mw_265, List.forall_mem_cons.mpr ⟨mw_266, List.forall_mem_cons.mpr ⟨mw_267, List.forall_mem_cons.mpr ⟨mw_268, List.forall_mem_cons.mpr ⟨mw_148, nn_in⟩⟩⟩⟩⟩
set_option maxRecDepth 100000 in
theorem in_wsX7_depth : ∀ w ∈ wsX7_depth, w ∈ lw_tbl := List.forall_mem_cons.mpr ⟨mw_247, List.forall_mem_append.mpr ⟨List.forall_mem_append.mpr ⟨List.forall_mem_append.mpr ⟨List.forall_mem_append.mpr ⟨in_wsX7_depth_r1, in_wsX7_depth_r2⟩, in_wsX70⟩, in_wsX10⟩, in_wsX60⟩⟩
theorem mw_246 : Cond.selects RX7 yX7_depth yX7_depth ∈ lw_tbl := tb_1 (List.mem_of_getElem? (i := 215) rfl)
theorem mw_245 : Cond.instanceMethod yX7_depth ∈ lw_tbl := tb_1 (List.mem_of_getElem? (i := 214) rfl)
theorem mw_244 : Cond.methodLink RL 21 yX7_depth ∈ lw_tbl := tb_1 (List.mem_of_getElem? (i := 213) rfl)
set_option maxRecDepth 100000 in
theorem gt_X7_depth : GoodIn lw_tbl (wsV RL 21 RX7 yX7_depth wsX7_depth) := goodIn_sub (List.forall_mem_append.mpr ⟨List.forall_mem_cons.mpr ⟨mw_244, List.forall_mem_cons.mpr ⟨mw_245, List.forall_mem_cons.mpr ⟨mw_246, List.forall_mem_cons.mpr ⟨mw_32, nn_in⟩⟩⟩⟩, in_wsX7_depth⟩) (by decide +kernel)
theorem mw_806 : Cond.code yX8_depth cX8_depth 4 (some .boolean) ∈ lw_tbl := tb_4 (List.mem_of_getElem? (i := 55) rfl)
theorem mw_813 : Cond.code yX8_isIn cX8_isIn 3 (some .boolean) ∈ lw_tbl := tb_4 (List.mem_of_getElem? (i := 62) rfl)
theorem mw_812 : Cond.static yX8_isIn ∈ lw_tbl := tb_4 (List.mem_of_getElem? (i := 61) rfl)
theorem mw_811 : Cond.methodLink RX8 91 yX8_isIn ∈ lw_tbl := tb_4 (List.mem_of_getElem? (i := 60) rfl)
theorem mw_810 : Cond.code yX8_isSquare cX8_isSquare 3 (some .boolean) ∈ lw_tbl := tb_4 (List.mem_of_getElem? (i := 59) rfl)
theorem mw_41 : Cond.initialized RX8 ∈ lw_tbl := tb_1 (List.mem_of_getElem? (i := 10) rfl)
theorem mw_16 : Cond.selects RX8 yX8_isSquare yX8_isSquare ∈ lw_tbl := tb_p (List.mem_of_getElem? (i := 16) rfl)
theorem mw_809 : Cond.instanceMethod yX8_isSquare ∈ lw_tbl := tb_4 (List.mem_of_getElem? (i := 58) rfl)
theorem mw_807 : Cond.methodLink RX8 95 yX8_isSquare ∈ lw_tbl := tb_4 (List.mem_of_getElem? (i := 56) rfl)
set_option maxRecDepth 100000 in
theorem in_wsX8_depth : ∀ w ∈ wsX8_depth, w ∈ lw_tbl := List.forall_mem_cons.mpr ⟨mw_806, List.forall_mem_append.mpr ⟨List.forall_mem_cons.mpr ⟨mw_706, List.forall_mem_cons.mpr ⟨mw_702, List.forall_mem_cons.mpr ⟨mw_807, List.forall_mem_cons.mpr ⟨mw_809, List.forall_mem_cons.mpr ⟨mw_16, List.forall_mem_cons.mpr ⟨mw_41, List.forall_mem_cons.mpr ⟨mw_810, List.forall_mem_cons.mpr ⟨mw_700, List.forall_mem_cons.mpr ⟨mw_701, List.forall_mem_cons.mpr ⟨mw_811, List.forall_mem_cons.mpr ⟨mw_812, List.forall_mem_cons.mpr ⟨mw_813, nn_in⟩⟩⟩⟩⟩⟩⟩⟩⟩⟩⟩⟩, in_wsX80⟩⟩
theorem mw_805 : Cond.selects RX8 yX8_depth yX8_depth ∈ lw_tbl := tb_4 (List.mem_of_getElem? (i := 54) rfl)
theorem mw_804 : Cond.instanceMethod yX8_depth ∈ lw_tbl := tb_4 (List.mem_of_getElem? (i := 53) rfl)
theorem mw_803 : Cond.methodLink RL 25 yX8_depth ∈ lw_tbl := tb_4 (List.mem_of_getElem? (i := 52) rfl)
set_option maxRecDepth 100000 in
theorem gt_X8_depth : GoodIn lw_tbl (wsV RL 25 RX8 yX8_depth wsX8_depth) := goodIn_sub (List.forall_mem_append.mpr ⟨List.forall_mem_cons.mpr ⟨mw_803, List.forall_mem_cons.mpr ⟨mw_804, List.forall_mem_cons.mpr ⟨mw_805, List.forall_mem_cons.mpr ⟨mw_41, nn_in⟩⟩⟩⟩, in_wsX8_depth⟩) (by decide +kernel)
theorem mw_272 : Cond.code yX7_grade cX7_grade 2 (some .boolean) ∈ lw_tbl := tb_2 (List.mem_of_getElem? (i := 1) rfl)
theorem mw_287 : Cond.instanceMethod yX1_sweepDown ∈ lw_tbl := tb_2 (List.mem_of_getElem? (i := 16) rfl)
theorem mw_285 : Cond.methodLink RX1 55 yX1_sweepDown ∈ lw_tbl := tb_2 (List.mem_of_getElem? (i := 14) rfl)
theorem mw_284 : Cond.code yX1_openSpans cX1_openSpans 3 none ∈ lw_tbl := tb_2 (List.mem_of_getElem? (i := 13) rfl)
theorem mw_2 : Cond.selects RX1 yX1_openSpans yX1_openSpans ∈ lw_tbl := tb_p (List.mem_of_getElem? (i := 2) rfl)
theorem mw_283 : Cond.instanceMethod yX1_openSpans ∈ lw_tbl := tb_2 (List.mem_of_getElem? (i := 12) rfl)
theorem mw_281 : Cond.methodLink RX1 52 yX1_openSpans ∈ lw_tbl := tb_2 (List.mem_of_getElem? (i := 10) rfl)
theorem mw_280 : Cond.code yX1_narrowAll cX1_narrowAll 1 none ∈ lw_tbl := tb_2 (List.mem_of_getElem? (i := 9) rfl)
theorem mw_1 : Cond.selects RX1 yX1_narrowAll yX1_narrowAll ∈ lw_tbl := tb_p (List.mem_of_getElem? (i := 1) rfl)
theorem mw_279 : Cond.instanceMethod yX1_narrowAll ∈ lw_tbl := tb_2 (List.mem_of_getElem? (i := 8) rfl)
theorem mw_277 : Cond.methodLink RX1 38 yX1_narrowAll ∈ lw_tbl := tb_2 (List.mem_of_getElem? (i := 6) rfl)
theorem mw_276 : Cond.code yX1_slope cX1_slope 2 none ∈ lw_tbl := tb_2 (List.mem_of_getElem? (i := 5) rfl)
theorem mw_275 : Cond.selects RX1 yX1_slope yX1_slope ∈ lw_tbl := tb_2 (List.mem_of_getElem? (i := 4) rfl)
theorem mw_274 : Cond.instanceMethod yX1_slope ∈ lw_tbl := tb_2 (List.mem_of_getElem? (i := 3) rfl)
theorem mw_273 : Cond.methodLink RX7 93 yX1_slope ∈ lw_tbl := tb_2 (List.mem_of_getElem? (i := 2) rfl)
set_option maxRecDepth 100000 in
theorem in_wsX7_grade_r1 : ∀ w ∈ wsX7_grade_r1, w ∈ lw_tbl := List.forall_mem_cons.mpr ⟨mw_213, List.forall_mem_cons.mpr ⟨mw_264, List.forall_mem_cons.mpr ⟨mw_257, List.forall_mem_cons.mpr ⟨mw_32, List.forall_mem_cons.mpr ⟨mw_258, List.forall_mem_cons.mpr ⟨mw_273, List.forall_mem_cons.mpr ⟨mw_274, List.forall_mem_cons.mpr ⟨mw_275, List.forall_mem_cons.mpr ⟨mw_38, List.forall_mem_cons.mpr ⟨mw_276, List.forall_mem_cons.mpr ⟨mw_152, List.forall_mem_cons.mpr ⟨mw_277, List.forall_mem_cons.mpr ⟨mw_279, List.forall_mem_cons.mpr ⟨mw_1, List.forall_mem_cons.mpr ⟨mw_280, List.forall_mem_cons.mpr ⟨mw_281, List.forall_mem_cons.mpr ⟨mw_283, List.forall_mem_cons.mpr ⟨mw_2, List.forall_mem_cons.mpr ⟨mw_284, List.forall_mem_cons.mpr ⟨mw_149, List.forall_mem_cons.mpr ⟨mw_150, List.forall_mem_cons.mpr ⟨mw_151, List.forall_mem_cons.mpr ⟨mw_285, List.forall_mem_cons.mpr ⟨mw_287, nn_in⟩⟩⟩⟩⟩⟩⟩⟩⟩⟩⟩⟩⟩⟩⟩⟩⟩⟩⟩⟩⟩⟩⟩⟩
theorem mw_302 : Cond.code yX1_closeToldSpans cX1_closeToldSpans 2 none ∈ lw_tbl := tb_2 (List.mem_of_getElem? (i := 31) rfl)
theorem mw_6 : Cond.selects RX1 yX1_closeToldSpans yX1_closeToldSpans ∈ lw_tbl := tb_p (List.mem_of_getElem? (i := 6) rfl)
theorem mw_301 : Cond.instanceMethod yX1_closeToldSpans ∈ lw_tbl := tb_2 (List.mem_of_getElem? (i := 30) rfl)
theorem mw_299 : Cond.methodLink RX1 61 yX1_closeToldSpans ∈ lw_tbl := tb_2 (List.mem_of_getElem? (i := 28) rfl)
theorem mw_298 : Cond.code yX1_sweepUp cX1_sweepUp 4 none ∈ lw_tbl := tb_2 (List.mem_of_getElem? (i := 27) rfl)
theorem mw_5 : Cond.selects RX1 yX1_sweepUp yX1_sweepUp ∈ lw_tbl := tb_p (List.mem_of_getElem? (i := 5) rfl)
theorem mw_297 : Cond.instanceMethod yX1_sweepUp ∈ lw_tbl := tb_2 (List.mem_of_getElem? (i := 26) rfl)
theorem mw_295 : Cond.methodLink RX1 58 yX1_sweepUp ∈ lw_tbl := tb_2 (List.mem_of_getElem? (i := 24) rfl)
theorem mw_294 : Cond.methodLink RX1 73 Lib.Math.min.name ∈ lw_tbl := tb_2 (List.mem_of_getElem? (i := 23) rfl)
theorem mw_293 : Cond.methodLink RX1 68 Lib.Math.max.name ∈ lw_tbl := tb_2 (List.mem_of_getElem? (i := 22) rfl)
theorem mw_292 : Cond.code yX1_narrow cX1_narrow 3 none ∈ lw_tbl := tb_2 (List.mem_of_getElem? (i := 21) rfl)
theorem mw_4 : Cond.selects RX1 yX1_narrow yX1_narrow ∈ lw_tbl := tb_p (List.mem_of_getElem? (i := 4) rfl)
theorem mw_291 : Cond.instanceMethod yX1_narrow ∈ lw_tbl := tb_2 (List.mem_of_getElem? (i := 20) rfl)
theorem mw_289 : Cond.methodLink RX1 64 yX1_narrow ∈ lw_tbl := tb_2 (List.mem_of_getElem? (i := 18) rfl)
theorem mw_288 : Cond.code yX1_sweepDown cX1_sweepDown 4 none ∈ lw_tbl := tb_2 (List.mem_of_getElem? (i := 17) rfl)
theorem mw_3 : Cond.selects RX1 yX1_sweepDown yX1_sweepDown ∈ lw_tbl := tb_p (List.mem_of_getElem? (i := 3) rfl)
set_option maxRecDepth 100000 in
theorem in_wsX7_grade_r2 : ∀ w ∈ wsX7_grade_r2, w ∈ lw_tbl := List.forall_mem_cons.mpr ⟨mw_3, List.forall_mem_cons.mpr ⟨mw_288, List.forall_mem_cons.mpr ⟨mw_146, List.forall_mem_cons.mpr ⟨mw_147, List.forall_mem_cons.mpr ⟨mw_289, List.forall_mem_cons.mpr ⟨mw_291, List.forall_mem_cons.mpr ⟨mw_4, List.forall_mem_cons.mpr ⟨mw_292, List.forall_mem_cons.mpr ⟨mw_293, List.forall_mem_cons.mpr ⟨mw_138, List.forall_mem_cons.mpr ⟨mw_37, List.forall_mem_cons.mpr ⟨mw_139, List.forall_mem_cons.mpr ⟨mw_294, List.forall_mem_cons.mpr ⟨mw_135, List.forall_mem_cons.mpr ⟨mw_136, List.forall_mem_cons.mpr ⟨mw_295, List.forall_mem_cons.mpr ⟨mw_297, List.forall_mem_cons.mpr ⟨mw_5, List.forall_mem_cons.mpr ⟨mw_298, List.forall_mem_cons.mpr ⟨mw_299, List.forall_mem_cons.mpr ⟨mw_301, List.forall_mem_cons.mpr ⟨mw_6, List.forall_mem_cons.mpr ⟨mw_302, nn_in⟩⟩⟩⟩⟩⟩⟩⟩⟩⟩⟩⟩⟩⟩⟩⟩⟩⟩⟩⟩⟩⟩⟩
set_option maxRecDepth 100000 in
theorem in_wsX7_grade : ∀ w ∈ wsX7_grade, w ∈ lw_tbl := List.forall_mem_cons.mpr ⟨mw_272, List.forall_mem_append.mpr ⟨List.forall_mem_append.mpr ⟨List.forall_mem_append.mpr ⟨in_wsX7_grade_r1, in_wsX7_grade_r2⟩, in_wsX70⟩, in_wsX10⟩⟩
theorem mw_271 : Cond.selects RX7 yX7_grade yX7_grade ∈ lw_tbl := tb_2 (List.mem_of_getElem? (i := 0) rfl)
theorem mw_270 : Cond.instanceMethod yX7_grade ∈ lw_tbl := tb_1 (List.mem_of_getElem? (i := 239) rfl)
theorem mw_269 : Cond.methodLink RL 26 yX7_grade ∈ lw_tbl := tb_1 (List.mem_of_getElem? (i := 238) rfl)
set_option maxRecDepth 100000 in
theorem gt_X7_grade : GoodIn lw_tbl (wsV RL 26 RX7 yX7_grade wsX7_grade) := goodIn_sub (List.forall_mem_append.mpr ⟨List.forall_mem_cons.mpr ⟨mw_269, List.forall_mem_cons.mpr ⟨mw_270, List.forall_mem_cons.mpr ⟨mw_271, List.forall_mem_cons.mpr ⟨mw_32, nn_in⟩⟩⟩⟩, in_wsX7_grade⟩) (by decide +kernel)
theorem mw_817 : Cond.code yX8_grade cX8_grade 2 (some .boolean) ∈ lw_tbl := tb_4 (List.mem_of_getElem? (i := 66) rfl)
set_option maxRecDepth 100000 in
theorem in_wsX8_grade : ∀ w ∈ wsX8_grade, w ∈ lw_tbl := List.forall_mem_cons.mpr ⟨mw_817, List.forall_mem_append.mpr ⟨List.forall_mem_cons.mpr ⟨mw_709, List.forall_mem_cons.mpr ⟨mw_811, List.forall_mem_cons.mpr ⟨mw_812, List.forall_mem_cons.mpr ⟨mw_41, List.forall_mem_cons.mpr ⟨mw_813, nn_in⟩⟩⟩⟩⟩, in_wsX80⟩⟩
theorem mw_816 : Cond.selects RX8 yX8_grade yX8_grade ∈ lw_tbl := tb_4 (List.mem_of_getElem? (i := 65) rfl)
theorem mw_815 : Cond.instanceMethod yX8_grade ∈ lw_tbl := tb_4 (List.mem_of_getElem? (i := 64) rfl)
theorem mw_814 : Cond.methodLink RL 30 yX8_grade ∈ lw_tbl := tb_4 (List.mem_of_getElem? (i := 63) rfl)
set_option maxRecDepth 100000 in
theorem gt_X8_grade : GoodIn lw_tbl (wsV RL 30 RX8 yX8_grade wsX8_grade) := goodIn_sub (List.forall_mem_append.mpr ⟨List.forall_mem_cons.mpr ⟨mw_814, List.forall_mem_cons.mpr ⟨mw_815, List.forall_mem_cons.mpr ⟨mw_816, List.forall_mem_cons.mpr ⟨mw_41, nn_in⟩⟩⟩⟩, in_wsX8_grade⟩) (by decide +kernel)
theorem mw_306 : Cond.code yX7_bore cX7_bore 4 (some .boolean) ∈ lw_tbl := tb_2 (List.mem_of_getElem? (i := 35) rfl)
set_option maxRecDepth 100000 in
theorem in_wsX7_bore_r1 : ∀ w ∈ wsX7_bore_r1, w ∈ lw_tbl := List.forall_mem_cons.mpr ⟨mw_213, List.forall_mem_cons.mpr ⟨mw_248, List.forall_mem_cons.mpr ⟨mw_250, List.forall_mem_cons.mpr ⟨mw_0, List.forall_mem_cons.mpr ⟨mw_32, List.forall_mem_cons.mpr ⟨mw_251, List.forall_mem_cons.mpr ⟨mw_214, List.forall_mem_cons.mpr ⟨mw_252, List.forall_mem_cons.mpr ⟨mw_253, List.forall_mem_cons.mpr ⟨mw_254, List.forall_mem_cons.mpr ⟨mw_38, List.forall_mem_cons.mpr ⟨mw_255, List.forall_mem_cons.mpr ⟨mw_146, List.forall_mem_cons.mpr ⟨mw_147, List.forall_mem_cons.mpr ⟨mw_257, List.forall_mem_cons.mpr ⟨mw_258, List.forall_mem_cons.mpr ⟨mw_259, List.forall_mem_cons.mpr ⟨mw_260, List.forall_mem_cons.mpr ⟨mw_261, List.forall_mem_cons.mpr ⟨mw_39, List.forall_mem_cons.mpr ⟨mw_262, List.forall_mem_cons.mpr ⟨mw_178, List.forall_mem_cons.mpr ⟨mw_174, List.forall_mem_cons.mpr ⟨mw_264, nn_in⟩⟩⟩⟩⟩⟩⟩⟩⟩⟩⟩⟩⟩⟩⟩⟩⟩⟩⟩⟩⟩⟩⟩⟩
theorem mw_310 : Cond.code yX1_tell cX1_tell 4 none ∈ lw_tbl := tb_2 (List.mem_of_getElem? (i := 39) rfl)
theorem mw_309 : Cond.selects RX1 yX1_tell yX1_tell ∈ lw_tbl := tb_2 (List.mem_of_getElem? (i := 38) rfl)
theorem mw_308 : Cond.instanceMethod yX1_tell ∈ lw_tbl := tb_2 (List.mem_of_getElem? (i := 37) rfl)
theorem mw_307 : Cond.methodLink RX7 96 yX1_tell ∈ lw_tbl := tb_2 (List.mem_of_getElem? (i := 36) rfl)
set_option maxRecDepth 100000 in
theorem in_wsX7_bore_r2 : ∀ w ∈ wsX7_bore_r2, w ∈ lw_tbl := List.forall_mem_cons.mpr ⟨mw_307, List.forall_mem_cons.mpr ⟨mw_308, List.forall_mem_cons.mpr ⟨mw_309, List.forall_mem_cons.mpr ⟨mw_310, List.forall_mem_cons.mpr ⟨mw_149, List.forall_mem_cons.mpr ⟨mw_277, List.forall_mem_cons.mpr ⟨mw_279, List.forall_mem_cons.mpr ⟨mw_1, List.forall_mem_cons.mpr ⟨mw_280, List.forall_mem_cons.mpr ⟨mw_281, List.forall_mem_cons.mpr ⟨mw_283, List.forall_mem_cons.mpr ⟨mw_2, List.forall_mem_cons.mpr ⟨mw_284, List.forall_mem_cons.mpr ⟨mw_150, List.forall_mem_cons.mpr ⟨mw_151, List.forall_mem_cons.mpr ⟨mw_285, List.forall_mem_cons.mpr ⟨mw_287, List.forall_mem_cons.mpr ⟨mw_3, List.forall_mem_cons.mpr ⟨mw_288, List.forall_mem_cons.mpr ⟨mw_289, List.forall_mem_cons.mpr ⟨mw_291, List.forall_mem_cons.mpr ⟨mw_4, List.forall_mem_cons.mpr ⟨mw_292, List.forall_mem_cons.mpr ⟨mw_152, nn_in⟩⟩⟩⟩⟩⟩⟩⟩⟩⟩⟩⟩⟩⟩⟩⟩⟩⟩⟩⟩⟩⟩⟩⟩
set_option maxRecDepth 100000 in
theorem in_wsX7_bore_r3 : ∀ w ∈ wsX7_bore_r3, w ∈ lw_tbl := List.forall_mem_cons.mpr ⟨mw_293, List.forall_mem_cons.mpr ⟨mw_138, List.forall_mem_cons.mpr ⟨mw_37, List.forall_mem_cons.mpr ⟨mw_139, List.forall_mem_cons.mpr ⟨mw_294, List.forall_mem_cons.mpr ⟨mw_135, List.forall_mem_cons.mpr ⟨mw_136, List.forall_mem_cons.mpr ⟨mw_295, List.forall_mem_cons.mpr ⟨mw_297, List.forall_mem_cons.mpr ⟨mw_5, List.forall_mem_cons.mpr ⟨mw_298, List.forall_mem_cons.mpr ⟨mw_299, List.forall_mem_cons.mpr ⟨mw_301, List.forall_mem_cons.mpr ⟨mw_6, List.forall_mem_cons.mpr ⟨mw_302, nn_in⟩⟩⟩⟩⟩⟩⟩⟩⟩⟩⟩⟩⟩⟩⟩
set_option maxRecDepth 100000 in
theorem in_wsX7_bore : ∀ w ∈ wsX7_bore, w ∈ lw_tbl := List.forall_mem_cons.mpr ⟨mw_306, List.forall_mem_append.mpr ⟨List.forall_mem_append.mpr ⟨List.forall_mem_append.mpr ⟨List.forall_mem_append.mpr ⟨in_wsX7_bore_r1, List.forall_mem_append.mpr ⟨in_wsX7_bore_r2, in_wsX7_bore_r3⟩⟩, in_wsX70⟩, in_wsX10⟩, in_wsX60⟩⟩
theorem mw_305 : Cond.selects RX7 yX7_bore yX7_bore ∈ lw_tbl := tb_2 (List.mem_of_getElem? (i := 34) rfl)
theorem mw_304 : Cond.instanceMethod yX7_bore ∈ lw_tbl := tb_2 (List.mem_of_getElem? (i := 33) rfl)
theorem mw_303 : Cond.methodLink RL 31 yX7_bore ∈ lw_tbl := tb_2 (List.mem_of_getElem? (i := 32) rfl)
set_option maxRecDepth 100000 in
theorem gt_X7_bore : GoodIn lw_tbl (wsV RL 31 RX7 yX7_bore wsX7_bore) := goodIn_sub (List.forall_mem_append.mpr ⟨List.forall_mem_cons.mpr ⟨mw_303, List.forall_mem_cons.mpr ⟨mw_304, List.forall_mem_cons.mpr ⟨mw_305, List.forall_mem_cons.mpr ⟨mw_32, nn_in⟩⟩⟩⟩, in_wsX7_bore⟩) (by decide +kernel)
theorem mw_821 : Cond.code yX8_bore cX8_bore 4 (some .boolean) ∈ lw_tbl := tb_4 (List.mem_of_getElem? (i := 70) rfl)
theorem mw_825 : Cond.code yX8_learns cX8_learns 3 none ∈ lw_tbl := tb_4 (List.mem_of_getElem? (i := 74) rfl)
theorem mw_17 : Cond.selects RX8 yX8_learns yX8_learns ∈ lw_tbl := tb_p (List.mem_of_getElem? (i := 17) rfl)
theorem mw_824 : Cond.instanceMethod yX8_learns ∈ lw_tbl := tb_4 (List.mem_of_getElem? (i := 73) rfl)
theorem mw_822 : Cond.methodLink RX8 99 yX8_learns ∈ lw_tbl := tb_4 (List.mem_of_getElem? (i := 71) rfl)
set_option maxRecDepth 100000 in
theorem in_wsX8_bore : ∀ w ∈ wsX8_bore, w ∈ lw_tbl := List.forall_mem_cons.mpr ⟨mw_821, List.forall_mem_append.mpr ⟨List.forall_mem_cons.mpr ⟨mw_706, List.forall_mem_cons.mpr ⟨mw_807, List.forall_mem_cons.mpr ⟨mw_809, List.forall_mem_cons.mpr ⟨mw_16, List.forall_mem_cons.mpr ⟨mw_41, List.forall_mem_cons.mpr ⟨mw_810, List.forall_mem_cons.mpr ⟨mw_700, List.forall_mem_cons.mpr ⟨mw_701, List.forall_mem_cons.mpr ⟨mw_811, List.forall_mem_cons.mpr ⟨mw_812, List.forall_mem_cons.mpr ⟨mw_813, List.forall_mem_cons.mpr ⟨mw_822, List.forall_mem_cons.mpr ⟨mw_824, List.forall_mem_cons.mpr ⟨mw_17, List.forall_mem_cons.mpr ⟨mw_825, List.forall_mem_cons.mpr ⟨mw_703, List.forall_mem_cons.mpr ⟨mw_705, nn_in⟩⟩⟩⟩⟩⟩⟩⟩⟩⟩⟩⟩⟩⟩⟩⟩⟩, in_wsX80⟩⟩
theorem mw_820 : Cond.selects RX8 yX8_bore yX8_bore ∈ lw_tbl := tb_4 (List.mem_of_getElem? (i := 69) rfl)
theorem mw_819 : Cond.instanceMethod yX8_bore ∈ lw_tbl := tb_4 (List.mem_of_getElem? (i := 68) rfl)
theorem mw_818 : Cond.methodLink RL 34 yX8_bore ∈ lw_tbl := tb_4 (List.mem_of_getElem? (i := 67) rfl)
set_option maxRecDepth 100000 in
theorem gt_X8_bore : GoodIn lw_tbl (wsV RL 34 RX8 yX8_bore wsX8_bore) := goodIn_sub (List.forall_mem_append.mpr ⟨List.forall_mem_cons.mpr ⟨mw_818, List.forall_mem_cons.mpr ⟨mw_819, List.forall_mem_cons.mpr ⟨mw_820, List.forall_mem_cons.mpr ⟨mw_41, nn_in⟩⟩⟩⟩, in_wsX8_bore⟩) (by decide +kernel)
theorem mw_314 : Cond.code yX7_square cX7_square 4 (some .int) ∈ lw_tbl := tb_2 (List.mem_of_getElem? (i := 43) rfl)
theorem mw_324 : Cond.instanceMethod yX1_greatestAt ∈ lw_tbl := tb_2 (List.mem_of_getElem? (i := 53) rfl)
theorem mw_323 : Cond.methodLink RX7 108 yX1_greatestAt ∈ lw_tbl := tb_2 (List.mem_of_getElem? (i := 52) rfl)
theorem mw_322 : Cond.code yX1_leastAt cX1_leastAt 3 (some .int) ∈ lw_tbl := tb_2 (List.mem_of_getElem? (i := 51) rfl)
theorem mw_321 : Cond.selects RX1 yX1_leastAt yX1_leastAt ∈ lw_tbl := tb_2 (List.mem_of_getElem? (i := 50) rfl)
theorem mw_320 : Cond.instanceMethod yX1_leastAt ∈ lw_tbl := tb_2 (List.mem_of_getElem? (i := 49) rfl)
theorem mw_319 : Cond.methodLink RX7 105 yX1_leastAt ∈ lw_tbl := tb_2 (List.mem_of_getElem? (i := 48) rfl)
theorem mw_318 : Cond.code yX1_depthAt cX1_depthAt 3 (some .int) ∈ lw_tbl := tb_2 (List.mem_of_getElem? (i := 47) rfl)
theorem mw_317 : Cond.selects RX1 yX1_depthAt yX1_depthAt ∈ lw_tbl := tb_2 (List.mem_of_getElem? (i := 46) rfl)
theorem mw_316 : Cond.instanceMethod yX1_depthAt ∈ lw_tbl := tb_2 (List.mem_of_getElem? (i := 45) rfl)
theorem mw_315 : Cond.methodLink RX7 102 yX1_depthAt ∈ lw_tbl := tb_2 (List.mem_of_getElem? (i := 44) rfl)
set_option maxRecDepth 100000 in
theorem in_wsX7_square_r1 : ∀ w ∈ wsX7_square_r1, w ∈ lw_tbl := List.forall_mem_cons.mpr ⟨mw_213, List.forall_mem_cons.mpr ⟨mw_214, List.forall_mem_cons.mpr ⟨mw_252, List.forall_mem_cons.mpr ⟨mw_253, List.forall_mem_cons.mpr ⟨mw_254, List.forall_mem_cons.mpr ⟨mw_38, List.forall_mem_cons.mpr ⟨mw_255, List.forall_mem_cons.mpr ⟨mw_146, List.forall_mem_cons.mpr ⟨mw_147, List.forall_mem_cons.mpr ⟨mw_257, List.forall_mem_cons.mpr ⟨mw_32, List.forall_mem_cons.mpr ⟨mw_258, List.forall_mem_cons.mpr ⟨mw_315, List.forall_mem_cons.mpr ⟨mw_316, List.forall_mem_cons.mpr ⟨mw_317, List.forall_mem_cons.mpr ⟨mw_318, List.forall_mem_cons.mpr ⟨mw_148, List.forall_mem_cons.mpr ⟨mw_319, List.forall_mem_cons.mpr ⟨mw_320, List.forall_mem_cons.mpr ⟨mw_321, List.forall_mem_cons.mpr ⟨mw_322, List.forall_mem_cons.mpr ⟨mw_150, List.forall_mem_cons.mpr ⟨mw_323, List.forall_mem_cons.mpr ⟨mw_324, nn_in⟩⟩⟩⟩⟩⟩⟩⟩⟩⟩⟩⟩⟩⟩⟩⟩⟩⟩⟩⟩⟩⟩⟩⟩
theorem mw_339 : Cond.code yX6_isLaidBack cX6_isLaidBack 3 (some .boolean) ∈ lw_tbl := tb_2 (List.mem_of_getElem? (i := 68) rfl)
theorem mw_338 : Cond.selects RX6 yX6_isLaidBack yX6_isLaidBack ∈ lw_tbl := tb_2 (List.mem_of_getElem? (i := 67) rfl)
theorem mw_337 : Cond.instanceMethod yX6_isLaidBack ∈ lw_tbl := tb_2 (List.mem_of_getElem? (i := 66) rfl)
theorem mw_336 : Cond.methodLink RX7 121 yX6_isLaidBack ∈ lw_tbl := tb_2 (List.mem_of_getElem? (i := 65) rfl)
theorem mw_335 : Cond.code yX7_oneIf cX7_oneIf 1 (some .int) ∈ lw_tbl := tb_2 (List.mem_of_getElem? (i := 64) rfl)
theorem mw_334 : Cond.static yX7_oneIf ∈ lw_tbl := tb_2 (List.mem_of_getElem? (i := 63) rfl)
theorem mw_333 : Cond.methodLink RX7 114 yX7_oneIf ∈ lw_tbl := tb_2 (List.mem_of_getElem? (i := 62) rfl)
theorem mw_332 : Cond.methodLink RX1 45 yX1_greatestAt ∈ lw_tbl := tb_2 (List.mem_of_getElem? (i := 61) rfl)
theorem mw_331 : Cond.methodLink RX1 41 yX1_leastAt ∈ lw_tbl := tb_2 (List.mem_of_getElem? (i := 60) rfl)
theorem mw_330 : Cond.code yX1_quarrelsAt cX1_quarrelsAt 3 (some .boolean) ∈ lw_tbl := tb_2 (List.mem_of_getElem? (i := 59) rfl)
theorem mw_329 : Cond.selects RX1 yX1_quarrelsAt yX1_quarrelsAt ∈ lw_tbl := tb_2 (List.mem_of_getElem? (i := 58) rfl)
theorem mw_328 : Cond.instanceMethod yX1_quarrelsAt ∈ lw_tbl := tb_2 (List.mem_of_getElem? (i := 57) rfl)
theorem mw_327 : Cond.methodLink RX7 111 yX1_quarrelsAt ∈ lw_tbl := tb_2 (List.mem_of_getElem? (i := 56) rfl)
theorem mw_326 : Cond.code yX1_greatestAt cX1_greatestAt 3 (some .int) ∈ lw_tbl := tb_2 (List.mem_of_getElem? (i := 55) rfl)
theorem mw_325 : Cond.selects RX1 yX1_greatestAt yX1_greatestAt ∈ lw_tbl := tb_2 (List.mem_of_getElem? (i := 54) rfl)
set_option maxRecDepth 100000 in
theorem in_wsX7_square_r2 : ∀ w ∈ wsX7_square_r2, w ∈ lw_tbl := List.forall_mem_cons.mpr ⟨mw_325, List.forall_mem_cons.mpr ⟨mw_326, List.forall_mem_cons.mpr ⟨mw_151, List.forall_mem_cons.mpr ⟨mw_327, List.forall_mem_cons.mpr ⟨mw_328, List.forall_mem_cons.mpr ⟨mw_329, List.forall_mem_cons.mpr ⟨mw_330, List.forall_mem_cons.mpr ⟨mw_331, List.forall_mem_cons.mpr ⟨mw_332, List.forall_mem_cons.mpr ⟨mw_333, List.forall_mem_cons.mpr ⟨mw_334, List.forall_mem_cons.mpr ⟨mw_335, List.forall_mem_cons.mpr ⟨mw_259, List.forall_mem_cons.mpr ⟨mw_260, List.forall_mem_cons.mpr ⟨mw_261, List.forall_mem_cons.mpr ⟨mw_39, List.forall_mem_cons.mpr ⟨mw_262, List.forall_mem_cons.mpr ⟨mw_178, List.forall_mem_cons.mpr ⟨mw_174, List.forall_mem_cons.mpr ⟨mw_336, List.forall_mem_cons.mpr ⟨mw_337, List.forall_mem_cons.mpr ⟨mw_338, List.forall_mem_cons.mpr ⟨mw_339, List.forall_mem_cons.mpr ⟨mw_176, nn_in⟩⟩⟩⟩⟩⟩⟩⟩⟩⟩⟩⟩⟩⟩⟩⟩⟩⟩⟩⟩⟩⟩⟩⟩
theorem mw_344 : Cond.code yX1_isTold cX1_isTold 3 (some .boolean) ∈ lw_tbl := tb_2 (List.mem_of_getElem? (i := 73) rfl)
theorem mw_343 : Cond.selects RX1 yX1_isTold yX1_isTold ∈ lw_tbl := tb_2 (List.mem_of_getElem? (i := 72) rfl)
theorem mw_342 : Cond.instanceMethod yX1_isTold ∈ lw_tbl := tb_2 (List.mem_of_getElem? (i := 71) rfl)
theorem mw_341 : Cond.methodLink RX7 124 yX1_isTold ∈ lw_tbl := tb_2 (List.mem_of_getElem? (i := 70) rfl)
theorem mw_340 : Cond.methodLink RX6 46 yX6_isDug ∈ lw_tbl := tb_2 (List.mem_of_getElem? (i := 69) rfl)
set_option maxRecDepth 100000 in
theorem in_wsX7_square_r3 : ∀ w ∈ wsX7_square_r3, w ∈ lw_tbl := List.forall_mem_cons.mpr ⟨mw_340, List.forall_mem_cons.mpr ⟨mw_341, List.forall_mem_cons.mpr ⟨mw_342, List.forall_mem_cons.mpr ⟨mw_343, List.forall_mem_cons.mpr ⟨mw_344, List.forall_mem_cons.mpr ⟨mw_149, nn_in⟩⟩⟩⟩⟩⟩
set_option maxRecDepth 100000 in
theorem in_wsX7_square : ∀ w ∈ wsX7_square, w ∈ lw_tbl := List.forall_mem_cons.mpr ⟨mw_314, List.forall_mem_append.mpr ⟨List.forall_mem_append.mpr ⟨List.forall_mem_append.mpr ⟨List.forall_mem_append.mpr ⟨in_wsX7_square_r1, List.forall_mem_append.mpr ⟨in_wsX7_square_r2, in_wsX7_square_r3⟩⟩, in_wsX70⟩, in_wsX10⟩, in_wsX60⟩⟩
theorem mw_313 : Cond.selects RX7 yX7_square yX7_square ∈ lw_tbl := tb_2 (List.mem_of_getElem? (i := 42) rfl)
theorem mw_312 : Cond.instanceMethod yX7_square ∈ lw_tbl := tb_2 (List.mem_of_getElem? (i := 41) rfl)
theorem mw_311 : Cond.methodLink RL 35 yX7_square ∈ lw_tbl := tb_2 (List.mem_of_getElem? (i := 40) rfl)
set_option maxRecDepth 100000 in
theorem gt_X7_square : GoodIn lw_tbl (wsV RL 35 RX7 yX7_square wsX7_square) := goodIn_sub (List.forall_mem_append.mpr ⟨List.forall_mem_cons.mpr ⟨mw_311, List.forall_mem_cons.mpr ⟨mw_312, List.forall_mem_cons.mpr ⟨mw_313, List.forall_mem_cons.mpr ⟨mw_32, nn_in⟩⟩⟩⟩, in_wsX7_square⟩) (by decide +kernel)
theorem mw_833 : Cond.code yX8_square cX8_square 5 (some .int) ∈ lw_tbl := tb_4 (List.mem_of_getElem? (i := 82) rfl)
theorem mw_420 : Cond.code Lib.Math.abs.name Lib.Math.abs.code 1 (some .int) ∈ lw_tbl := tb_2 (List.mem_of_getElem? (i := 149) rfl)
theorem mw_419 : Cond.static Lib.Math.abs.name ∈ lw_tbl := tb_2 (List.mem_of_getElem? (i := 148) rfl)
theorem mw_838 : Cond.methodLink RX8 103 Lib.Math.abs.name ∈ lw_tbl := tb_4 (List.mem_of_getElem? (i := 87) rfl)
theorem mw_837 : Cond.code yX8_end cX8_end 9 (some .int) ∈ lw_tbl := tb_4 (List.mem_of_getElem? (i := 86) rfl)
theorem mw_18 : Cond.selects RX8 yX8_end yX8_end ∈ lw_tbl := tb_p (List.mem_of_getElem? (i := 18) rfl)
theorem mw_836 : Cond.instanceMethod yX8_end ∈ lw_tbl := tb_4 (List.mem_of_getElem? (i := 85) rfl)
theorem mw_834 : Cond.methodLink RX8 107 yX8_end ∈ lw_tbl := tb_4 (List.mem_of_getElem? (i := 83) rfl)
set_option maxRecDepth 100000 in
theorem in_wsX8_square_r1 : ∀ w ∈ wsX8_square_r1, w ∈ lw_tbl := List.forall_mem_cons.mpr ⟨mw_702, List.forall_mem_cons.mpr ⟨mw_706, List.forall_mem_cons.mpr ⟨mw_707, List.forall_mem_cons.mpr ⟨mw_705, List.forall_mem_cons.mpr ⟨mw_807, List.forall_mem_cons.mpr ⟨mw_809, List.forall_mem_cons.mpr ⟨mw_16, List.forall_mem_cons.mpr ⟨mw_41, List.forall_mem_cons.mpr ⟨mw_810, List.forall_mem_cons.mpr ⟨mw_700, List.forall_mem_cons.mpr ⟨mw_701, List.forall_mem_cons.mpr ⟨mw_811, List.forall_mem_cons.mpr ⟨mw_812, List.forall_mem_cons.mpr ⟨mw_813, List.forall_mem_cons.mpr ⟨mw_834, List.forall_mem_cons.mpr ⟨mw_836, List.forall_mem_cons.mpr ⟨mw_18, List.forall_mem_cons.mpr ⟨mw_837, List.forall_mem_cons.mpr ⟨mw_703, List.forall_mem_cons.mpr ⟨mw_709, List.forall_mem_cons.mpr ⟨mw_838, List.forall_mem_cons.mpr ⟨mw_419, List.forall_mem_cons.mpr ⟨mw_37, List.forall_mem_cons.mpr ⟨mw_420, nn_in⟩⟩⟩⟩⟩⟩⟩⟩⟩⟩⟩⟩⟩⟩⟩⟩⟩⟩⟩⟩⟩⟩⟩⟩
theorem mw_845 : Cond.code yX8_one cX8_one 1 (some .int) ∈ lw_tbl := tb_4 (List.mem_of_getElem? (i := 94) rfl)
theorem mw_844 : Cond.static yX8_one ∈ lw_tbl := tb_4 (List.mem_of_getElem? (i := 93) rfl)
theorem mw_843 : Cond.methodLink RX8 114 yX8_one ∈ lw_tbl := tb_4 (List.mem_of_getElem? (i := 92) rfl)
theorem mw_842 : Cond.code yX8_quarrels cX8_quarrels 3 (some .boolean) ∈ lw_tbl := tb_4 (List.mem_of_getElem? (i := 91) rfl)
theorem mw_19 : Cond.selects RX8 yX8_quarrels yX8_quarrels ∈ lw_tbl := tb_p (List.mem_of_getElem? (i := 19) rfl)
theorem mw_841 : Cond.instanceMethod yX8_quarrels ∈ lw_tbl := tb_4 (List.mem_of_getElem? (i := 90) rfl)
theorem mw_839 : Cond.methodLink RX8 111 yX8_quarrels ∈ lw_tbl := tb_4 (List.mem_of_getElem? (i := 88) rfl)
set_option maxRecDepth 100000 in
theorem in_wsX8_square_r2 : ∀ w ∈ wsX8_square_r2, w ∈ lw_tbl := List.forall_mem_cons.mpr ⟨mw_698, List.forall_mem_cons.mpr ⟨mw_135, List.forall_mem_cons.mpr ⟨mw_136, List.forall_mem_cons.mpr ⟨mw_699, List.forall_mem_cons.mpr ⟨mw_138, List.forall_mem_cons.mpr ⟨mw_139, List.forall_mem_cons.mpr ⟨mw_839, List.forall_mem_cons.mpr ⟨mw_841, List.forall_mem_cons.mpr ⟨mw_19, List.forall_mem_cons.mpr ⟨mw_842, List.forall_mem_cons.mpr ⟨mw_843, List.forall_mem_cons.mpr ⟨mw_844, List.forall_mem_cons.mpr ⟨mw_845, nn_in⟩⟩⟩⟩⟩⟩⟩⟩⟩⟩⟩⟩⟩
set_option maxRecDepth 100000 in
theorem in_wsX8_square : ∀ w ∈ wsX8_square, w ∈ lw_tbl := List.forall_mem_cons.mpr ⟨mw_833, List.forall_mem_append.mpr ⟨List.forall_mem_append.mpr ⟨in_wsX8_square_r1, in_wsX8_square_r2⟩, in_wsX80⟩⟩
theorem mw_832 : Cond.selects RX8 yX8_square yX8_square ∈ lw_tbl := tb_4 (List.mem_of_getElem? (i := 81) rfl)
theorem mw_831 : Cond.instanceMethod yX8_square ∈ lw_tbl := tb_4 (List.mem_of_getElem? (i := 80) rfl)
theorem mw_830 : Cond.methodLink RL 39 yX8_square ∈ lw_tbl := tb_4 (List.mem_of_getElem? (i := 79) rfl)
set_option maxRecDepth 100000 in
theorem gt_X8_square : GoodIn lw_tbl (wsV RL 39 RX8 yX8_square wsX8_square) := goodIn_sub (List.forall_mem_append.mpr ⟨List.forall_mem_cons.mpr ⟨mw_830, List.forall_mem_cons.mpr ⟨mw_831, List.forall_mem_cons.mpr ⟨mw_832, List.forall_mem_cons.mpr ⟨mw_41, nn_in⟩⟩⟩⟩, in_wsX8_square⟩) (by decide +kernel)
theorem mw_348 : Cond.code yX7_cost cX7_cost 2 (some .boolean) ∈ lw_tbl := tb_2 (List.mem_of_getElem? (i := 77) rfl)
theorem mw_352 : Cond.code yX5_charge cX5_charge 2 none ∈ lw_tbl := tb_2 (List.mem_of_getElem? (i := 81) rfl)
theorem mw_351 : Cond.selects RX5 yX5_charge yX5_charge ∈ lw_tbl := tb_2 (List.mem_of_getElem? (i := 80) rfl)
theorem mw_350 : Cond.instanceMethod yX5_charge ∈ lw_tbl := tb_2 (List.mem_of_getElem? (i := 79) rfl)
theorem mw_349 : Cond.methodLink RX7 127 yX5_charge ∈ lw_tbl := tb_2 (List.mem_of_getElem? (i := 78) rfl)
set_option maxRecDepth 100000 in
theorem in_wsX7_cost : ∀ w ∈ wsX7_cost, w ∈ lw_tbl := List.forall_mem_cons.mpr ⟨mw_348, List.forall_mem_append.mpr ⟨List.forall_mem_append.mpr ⟨List.forall_mem_cons.mpr ⟨mw_215, List.forall_mem_cons.mpr ⟨mw_264, List.forall_mem_cons.mpr ⟨mw_257, List.forall_mem_cons.mpr ⟨mw_32, List.forall_mem_cons.mpr ⟨mw_258, List.forall_mem_cons.mpr ⟨mw_349, List.forall_mem_cons.mpr ⟨mw_350, List.forall_mem_cons.mpr ⟨mw_351, List.forall_mem_cons.mpr ⟨mw_40, List.forall_mem_cons.mpr ⟨mw_352, List.forall_mem_cons.mpr ⟨mw_203, nn_in⟩⟩⟩⟩⟩⟩⟩⟩⟩⟩⟩, in_wsX70⟩, in_wsX50⟩⟩
theorem mw_347 : Cond.selects RX7 yX7_cost yX7_cost ∈ lw_tbl := tb_2 (List.mem_of_getElem? (i := 76) rfl)
theorem mw_346 : Cond.instanceMethod yX7_cost ∈ lw_tbl := tb_2 (List.mem_of_getElem? (i := 75) rfl)
theorem mw_345 : Cond.methodLink RL 40 yX7_cost ∈ lw_tbl := tb_2 (List.mem_of_getElem? (i := 74) rfl)
set_option maxRecDepth 100000 in
theorem gt_X7_cost : GoodIn lw_tbl (wsV RL 40 RX7 yX7_cost wsX7_cost) := goodIn_sub (List.forall_mem_append.mpr ⟨List.forall_mem_cons.mpr ⟨mw_345, List.forall_mem_cons.mpr ⟨mw_346, List.forall_mem_cons.mpr ⟨mw_347, List.forall_mem_cons.mpr ⟨mw_32, nn_in⟩⟩⟩⟩, in_wsX7_cost⟩) (by decide +kernel)
theorem mw_829 : Cond.code yX8_cost cX8_cost 2 (some .boolean) ∈ lw_tbl := tb_4 (List.mem_of_getElem? (i := 78) rfl)
set_option maxRecDepth 100000 in
theorem in_wsX8_cost : ∀ w ∈ wsX8_cost, w ∈ lw_tbl := List.forall_mem_cons.mpr ⟨mw_829, List.forall_mem_append.mpr ⟨List.forall_mem_cons.mpr ⟨mw_710, List.forall_mem_cons.mpr ⟨mw_811, List.forall_mem_cons.mpr ⟨mw_812, List.forall_mem_cons.mpr ⟨mw_41, List.forall_mem_cons.mpr ⟨mw_813, nn_in⟩⟩⟩⟩⟩, in_wsX80⟩⟩
theorem mw_828 : Cond.selects RX8 yX8_cost yX8_cost ∈ lw_tbl := tb_4 (List.mem_of_getElem? (i := 77) rfl)
theorem mw_827 : Cond.instanceMethod yX8_cost ∈ lw_tbl := tb_4 (List.mem_of_getElem? (i := 76) rfl)
theorem mw_826 : Cond.methodLink RL 43 yX8_cost ∈ lw_tbl := tb_4 (List.mem_of_getElem? (i := 75) rfl)
set_option maxRecDepth 100000 in
theorem gt_X8_cost : GoodIn lw_tbl (wsV RL 43 RX8 yX8_cost wsX8_cost) := goodIn_sub (List.forall_mem_append.mpr ⟨List.forall_mem_cons.mpr ⟨mw_826, List.forall_mem_cons.mpr ⟨mw_827, List.forall_mem_cons.mpr ⟨mw_828, List.forall_mem_cons.mpr ⟨mw_41, nn_in⟩⟩⟩⟩, in_wsX8_cost⟩) (by decide +kernel)
theorem mw_356 : Cond.code yX7_path cX7_path 7 (some .int) ∈ lw_tbl := tb_2 (List.mem_of_getElem? (i := 85) rfl)
theorem mw_368 : Cond.selects RX5 yX5_weigh yX5_weigh ∈ lw_tbl := tb_2 (List.mem_of_getElem? (i := 97) rfl)
theorem mw_367 : Cond.instanceMethod yX5_weigh ∈ lw_tbl := tb_2 (List.mem_of_getElem? (i := 96) rfl)
theorem mw_366 : Cond.methodLink RX7 138 yX5_weigh ∈ lw_tbl := tb_2 (List.mem_of_getElem? (i := 95) rfl)
theorem mw_364 : Cond.code yX1_rowCount cX1_rowCount 1 (some .int) ∈ lw_tbl := tb_2 (List.mem_of_getElem? (i := 93) rfl)
theorem mw_363 : Cond.selects RX1 yX1_rowCount yX1_rowCount ∈ lw_tbl := tb_2 (List.mem_of_getElem? (i := 92) rfl)
theorem mw_362 : Cond.instanceMethod yX1_rowCount ∈ lw_tbl := tb_2 (List.mem_of_getElem? (i := 91) rfl)
theorem mw_361 : Cond.methodLink RX7 134 yX1_rowCount ∈ lw_tbl := tb_2 (List.mem_of_getElem? (i := 90) rfl)
theorem mw_360 : Cond.code yX6_nextRow cX6_nextRow 1 (some .int) ∈ lw_tbl := tb_2 (List.mem_of_getElem? (i := 89) rfl)
theorem mw_359 : Cond.selects RX6 yX6_nextRow yX6_nextRow ∈ lw_tbl := tb_2 (List.mem_of_getElem? (i := 88) rfl)
theorem mw_358 : Cond.instanceMethod yX6_nextRow ∈ lw_tbl := tb_2 (List.mem_of_getElem? (i := 87) rfl)
theorem mw_357 : Cond.methodLink RX7 130 yX6_nextRow ∈ lw_tbl := tb_2 (List.mem_of_getElem? (i := 86) rfl)
theorem mw_365 : Cond.constant RX7 137 (-100000000) ∈ lw_tbl := tb_2 (List.mem_of_getElem? (i := 94) rfl)
set_option maxRecDepth 100000 in
theorem in_wsX7_path_r1 : ∀ w ∈ wsX7_path_r1, w ∈ lw_tbl := List.forall_mem_cons.mpr ⟨mw_214, List.forall_mem_cons.mpr ⟨mw_213, List.forall_mem_cons.mpr ⟨mw_365, List.forall_mem_cons.mpr ⟨mw_215, List.forall_mem_cons.mpr ⟨mw_357, List.forall_mem_cons.mpr ⟨mw_358, List.forall_mem_cons.mpr ⟨mw_359, List.forall_mem_cons.mpr ⟨mw_39, List.forall_mem_cons.mpr ⟨mw_360, List.forall_mem_cons.mpr ⟨mw_178, List.forall_mem_cons.mpr ⟨mw_361, List.forall_mem_cons.mpr ⟨mw_362, List.forall_mem_cons.mpr ⟨mw_363, List.forall_mem_cons.mpr ⟨mw_38, List.forall_mem_cons.mpr ⟨mw_364, List.forall_mem_cons.mpr ⟨mw_146, List.forall_mem_cons.mpr ⟨mw_264, List.forall_mem_cons.mpr ⟨mw_257, List.forall_mem_cons.mpr ⟨mw_32, List.forall_mem_cons.mpr ⟨mw_258, List.forall_mem_cons.mpr ⟨mw_366, List.forall_mem_cons.mpr ⟨mw_367, List.forall_mem_cons.mpr ⟨mw_368, List.forall_mem_cons.mpr ⟨mw_40, nn_in⟩⟩⟩⟩⟩⟩⟩⟩⟩⟩⟩⟩⟩⟩⟩⟩⟩⟩⟩⟩⟩⟩⟩⟩
theorem mw_375 : Cond.methodLink RX5 56 yX1_greatestAt ∈ lw_tbl := tb_2 (List.mem_of_getElem? (i := 104) rfl)
theorem mw_374 : Cond.methodLink RX5 53 yX1_leastAt ∈ lw_tbl := tb_2 (List.mem_of_getElem? (i := 103) rfl)
theorem mw_373 : Cond.code yX5_tinBy cX5_tinBy 4 (some .int) ∈ lw_tbl := tb_2 (List.mem_of_getElem? (i := 102) rfl)
theorem mw_372 : Cond.static yX5_tinBy ∈ lw_tbl := tb_2 (List.mem_of_getElem? (i := 101) rfl)
theorem mw_371 : Cond.methodLink RX5 31 yX5_tinBy ∈ lw_tbl := tb_2 (List.mem_of_getElem? (i := 100) rfl)
theorem mw_370 : Cond.methodLink RX5 25 yX1_depthAt ∈ lw_tbl := tb_2 (List.mem_of_getElem? (i := 99) rfl)
theorem mw_369 : Cond.code yX5_weigh cX5_weigh 7 none ∈ lw_tbl := tb_2 (List.mem_of_getElem? (i := 98) rfl)
set_option maxRecDepth 100000 in
theorem in_wsX7_path_r2 : ∀ w ∈ wsX7_path_r2, w ∈ lw_tbl := List.forall_mem_cons.mpr ⟨mw_369, List.forall_mem_cons.mpr ⟨mw_200, List.forall_mem_cons.mpr ⟨mw_201, List.forall_mem_cons.mpr ⟨mw_203, List.forall_mem_cons.mpr ⟨mw_202, List.forall_mem_cons.mpr ⟨mw_370, List.forall_mem_cons.mpr ⟨mw_316, List.forall_mem_cons.mpr ⟨mw_317, List.forall_mem_cons.mpr ⟨mw_318, List.forall_mem_cons.mpr ⟨mw_148, List.forall_mem_cons.mpr ⟨mw_147, List.forall_mem_cons.mpr ⟨mw_371, List.forall_mem_cons.mpr ⟨mw_372, List.forall_mem_cons.mpr ⟨mw_373, List.forall_mem_cons.mpr ⟨mw_374, List.forall_mem_cons.mpr ⟨mw_320, List.forall_mem_cons.mpr ⟨mw_321, List.forall_mem_cons.mpr ⟨mw_322, List.forall_mem_cons.mpr ⟨mw_150, List.forall_mem_cons.mpr ⟨mw_375, List.forall_mem_cons.mpr ⟨mw_324, List.forall_mem_cons.mpr ⟨mw_325, List.forall_mem_cons.mpr ⟨mw_326, List.forall_mem_cons.mpr ⟨mw_151, nn_in⟩⟩⟩⟩⟩⟩⟩⟩⟩⟩⟩⟩⟩⟩⟩⟩⟩⟩⟩⟩⟩⟩⟩⟩
theorem mw_393 : Cond.code yX6_dredgePlace cX6_dredgePlace 1 (some .int) ∈ lw_tbl := tb_2 (List.mem_of_getElem? (i := 122) rfl)
theorem mw_392 : Cond.selects RX6 yX6_dredgePlace yX6_dredgePlace ∈ lw_tbl := tb_2 (List.mem_of_getElem? (i := 121) rfl)
theorem mw_391 : Cond.instanceMethod yX6_dredgePlace ∈ lw_tbl := tb_2 (List.mem_of_getElem? (i := 120) rfl)
theorem mw_390 : Cond.methodLink RX7 142 yX6_dredgePlace ∈ lw_tbl := tb_2 (List.mem_of_getElem? (i := 119) rfl)
theorem mw_389 : Cond.code yX5_sumFrom cX5_sumFrom 3 (some .int) ∈ lw_tbl := tb_2 (List.mem_of_getElem? (i := 118) rfl)
theorem mw_388 : Cond.selects RX5 yX5_sumFrom yX5_sumFrom ∈ lw_tbl := tb_2 (List.mem_of_getElem? (i := 117) rfl)
theorem mw_387 : Cond.instanceMethod yX5_sumFrom ∈ lw_tbl := tb_2 (List.mem_of_getElem? (i := 116) rfl)
theorem mw_386 : Cond.methodLink RX5 38 yX5_sumFrom ∈ lw_tbl := tb_2 (List.mem_of_getElem? (i := 115) rfl)
theorem mw_385 : Cond.code yX5_bestOf cX5_bestOf 6 (some .int) ∈ lw_tbl := tb_2 (List.mem_of_getElem? (i := 114) rfl)
theorem mw_7 : Cond.selects RX5 yX5_bestOf yX5_bestOf ∈ lw_tbl := tb_p (List.mem_of_getElem? (i := 7) rfl)
theorem mw_384 : Cond.instanceMethod yX5_bestOf ∈ lw_tbl := tb_2 (List.mem_of_getElem? (i := 113) rfl)
theorem mw_382 : Cond.methodLink RX5 41 yX5_bestOf ∈ lw_tbl := tb_2 (List.mem_of_getElem? (i := 111) rfl)
theorem mw_381 : Cond.methodLink RX5 50 Lib.Math.min.name ∈ lw_tbl := tb_2 (List.mem_of_getElem? (i := 110) rfl)
theorem mw_380 : Cond.methodLink RX5 45 Lib.Math.max.name ∈ lw_tbl := tb_2 (List.mem_of_getElem? (i := 109) rfl)
theorem mw_379 : Cond.code yX5_bestBeside cX5_bestBeside 3 (some .int) ∈ lw_tbl := tb_2 (List.mem_of_getElem? (i := 108) rfl)
theorem mw_378 : Cond.selects RX5 yX5_bestBeside yX5_bestBeside ∈ lw_tbl := tb_2 (List.mem_of_getElem? (i := 107) rfl)
theorem mw_377 : Cond.instanceMethod yX5_bestBeside ∈ lw_tbl := tb_2 (List.mem_of_getElem? (i := 106) rfl)
theorem mw_376 : Cond.methodLink RX5 35 yX5_bestBeside ∈ lw_tbl := tb_2 (List.mem_of_getElem? (i := 105) rfl)
set_option maxRecDepth 100000 in
theorem in_wsX7_path_r3 : ∀ w ∈ wsX7_path_r3, w ∈ lw_tbl := List.forall_mem_cons.mpr ⟨mw_376, List.forall_mem_cons.mpr ⟨mw_377, List.forall_mem_cons.mpr ⟨mw_378, List.forall_mem_cons.mpr ⟨mw_379, List.forall_mem_cons.mpr ⟨mw_380, List.forall_mem_cons.mpr ⟨mw_138, List.forall_mem_cons.mpr ⟨mw_37, List.forall_mem_cons.mpr ⟨mw_139, List.forall_mem_cons.mpr ⟨mw_381, List.forall_mem_cons.mpr ⟨mw_135, List.forall_mem_cons.mpr ⟨mw_136, List.forall_mem_cons.mpr ⟨mw_382, List.forall_mem_cons.mpr ⟨mw_384, List.forall_mem_cons.mpr ⟨mw_7, List.forall_mem_cons.mpr ⟨mw_385, List.forall_mem_cons.mpr ⟨mw_386, List.forall_mem_cons.mpr ⟨mw_387, List.forall_mem_cons.mpr ⟨mw_388, List.forall_mem_cons.mpr ⟨mw_389, List.forall_mem_cons.mpr ⟨mw_390, List.forall_mem_cons.mpr ⟨mw_391, List.forall_mem_cons.mpr ⟨mw_392, List.forall_mem_cons.mpr ⟨mw_393, List.forall_mem_cons.mpr ⟨mw_174, nn_in⟩⟩⟩⟩⟩⟩⟩⟩⟩⟩⟩⟩⟩⟩⟩⟩⟩⟩⟩⟩⟩⟩⟩⟩
theorem mw_399 : Cond.methodLink RX7 151 yX5_bestBeside ∈ lw_tbl := tb_2 (List.mem_of_getElem? (i := 128) rfl)
theorem mw_398 : Cond.methodLink RX7 148 yX5_sumFrom ∈ lw_tbl := tb_2 (List.mem_of_getElem? (i := 127) rfl)
theorem mw_397 : Cond.code yX5_startPlace cX5_startPlace 3 (some .int) ∈ lw_tbl := tb_2 (List.mem_of_getElem? (i := 126) rfl)
theorem mw_396 : Cond.selects RX5 yX5_startPlace yX5_startPlace ∈ lw_tbl := tb_2 (List.mem_of_getElem? (i := 125) rfl)
theorem mw_395 : Cond.instanceMethod yX5_startPlace ∈ lw_tbl := tb_2 (List.mem_of_getElem? (i := 124) rfl)
theorem mw_394 : Cond.methodLink RX7 145 yX5_startPlace ∈ lw_tbl := tb_2 (List.mem_of_getElem? (i := 123) rfl)
set_option maxRecDepth 100000 in
theorem in_wsX7_path_r4 : ∀ w ∈ wsX7_path_r4, w ∈ lw_tbl := List.forall_mem_cons.mpr ⟨mw_394, List.forall_mem_cons.mpr ⟨mw_395, List.forall_mem_cons.mpr ⟨mw_396, List.forall_mem_cons.mpr ⟨mw_397, List.forall_mem_cons.mpr ⟨mw_398, List.forall_mem_cons.mpr ⟨mw_399, nn_in⟩⟩⟩⟩⟩⟩
set_option maxRecDepth 100000 in
theorem in_wsX7_path : ∀ w ∈ wsX7_path, w ∈ lw_tbl := List.forall_mem_cons.mpr ⟨mw_356, List.forall_mem_append.mpr ⟨List.forall_mem_append.mpr ⟨List.forall_mem_append.mpr ⟨List.forall_mem_append.mpr ⟨List.forall_mem_append.mpr ⟨in_wsX7_path_r1, List.forall_mem_append.mpr ⟨in_wsX7_path_r2, List.forall_mem_append.mpr ⟨in_wsX7_path_r3, in_wsX7_path_r4⟩⟩⟩, in_wsX70⟩, in_wsX60⟩, in_wsX10⟩, in_wsX50⟩⟩
theorem mw_355 : Cond.selects RX7 yX7_path yX7_path ∈ lw_tbl := tb_2 (List.mem_of_getElem? (i := 84) rfl)
theorem mw_354 : Cond.instanceMethod yX7_path ∈ lw_tbl := tb_2 (List.mem_of_getElem? (i := 83) rfl)
theorem mw_353 : Cond.methodLink RL 44 yX7_path ∈ lw_tbl := tb_2 (List.mem_of_getElem? (i := 82) rfl)
set_option maxRecDepth 100000 in
theorem gt_X7_path : GoodIn lw_tbl (wsV RL 44 RX7 yX7_path wsX7_path) := goodIn_sub (List.forall_mem_append.mpr ⟨List.forall_mem_cons.mpr ⟨mw_353, List.forall_mem_cons.mpr ⟨mw_354, List.forall_mem_cons.mpr ⟨mw_355, List.forall_mem_cons.mpr ⟨mw_32, nn_in⟩⟩⟩⟩, in_wsX7_path⟩) (by decide +kernel)
theorem mw_849 : Cond.code yX8_path cX8_path 6 (some .int) ∈ lw_tbl := tb_4 (List.mem_of_getElem? (i := 98) rfl)
theorem mw_854 : Cond.code yX8_tinBy cX8_tinBy 4 (some .int) ∈ lw_tbl := tb_4 (List.mem_of_getElem? (i := 103) rfl)
theorem mw_20 : Cond.selects RX8 yX8_tinBy yX8_tinBy ∈ lw_tbl := tb_p (List.mem_of_getElem? (i := 20) rfl)
theorem mw_853 : Cond.instanceMethod yX8_tinBy ∈ lw_tbl := tb_4 (List.mem_of_getElem? (i := 102) rfl)
theorem mw_851 : Cond.methodLink RX8 119 yX8_tinBy ∈ lw_tbl := tb_4 (List.mem_of_getElem? (i := 100) rfl)
theorem mw_850 : Cond.constant RX8 118 (-100000000) ∈ lw_tbl := tb_4 (List.mem_of_getElem? (i := 99) rfl)
set_option maxRecDepth 100000 in
theorem in_wsX8_path_r1 : ∀ w ∈ wsX8_path_r1, w ∈ lw_tbl := List.forall_mem_cons.mpr ⟨mw_712, List.forall_mem_cons.mpr ⟨mw_700, List.forall_mem_cons.mpr ⟨mw_850, List.forall_mem_cons.mpr ⟨mw_701, List.forall_mem_cons.mpr ⟨mw_702, List.forall_mem_cons.mpr ⟨mw_710, List.forall_mem_cons.mpr ⟨mw_722, List.forall_mem_cons.mpr ⟨mw_713, List.forall_mem_cons.mpr ⟨mw_811, List.forall_mem_cons.mpr ⟨mw_812, List.forall_mem_cons.mpr ⟨mw_41, List.forall_mem_cons.mpr ⟨mw_813, List.forall_mem_cons.mpr ⟨mw_851, List.forall_mem_cons.mpr ⟨mw_853, List.forall_mem_cons.mpr ⟨mw_20, List.forall_mem_cons.mpr ⟨mw_854, List.forall_mem_cons.mpr ⟨mw_834, List.forall_mem_cons.mpr ⟨mw_836, List.forall_mem_cons.mpr ⟨mw_18, List.forall_mem_cons.mpr ⟨mw_837, List.forall_mem_cons.mpr ⟨mw_705, List.forall_mem_cons.mpr ⟨mw_703, List.forall_mem_cons.mpr ⟨mw_709, List.forall_mem_cons.mpr ⟨mw_838, nn_in⟩⟩⟩⟩⟩⟩⟩⟩⟩⟩⟩⟩⟩⟩⟩⟩⟩⟩⟩⟩⟩⟩⟩⟩
theorem mw_858 : Cond.code yX8_best cX8_best 5 (some .int) ∈ lw_tbl := tb_4 (List.mem_of_getElem? (i := 107) rfl)
theorem mw_21 : Cond.selects RX8 yX8_best yX8_best ∈ lw_tbl := tb_p (List.mem_of_getElem? (i := 21) rfl)
theorem mw_857 : Cond.instanceMethod yX8_best ∈ lw_tbl := tb_4 (List.mem_of_getElem? (i := 106) rfl)
theorem mw_855 : Cond.methodLink RX8 123 yX8_best ∈ lw_tbl := tb_4 (List.mem_of_getElem? (i := 104) rfl)
set_option maxRecDepth 100000 in
theorem in_wsX8_path_r2 : ∀ w ∈ wsX8_path_r2, w ∈ lw_tbl := List.forall_mem_cons.mpr ⟨mw_419, List.forall_mem_cons.mpr ⟨mw_37, List.forall_mem_cons.mpr ⟨mw_420, List.forall_mem_cons.mpr ⟨mw_698, List.forall_mem_cons.mpr ⟨mw_135, List.forall_mem_cons.mpr ⟨mw_136, List.forall_mem_cons.mpr ⟨mw_699, List.forall_mem_cons.mpr ⟨mw_138, List.forall_mem_cons.mpr ⟨mw_139, List.forall_mem_cons.mpr ⟨mw_855, List.forall_mem_cons.mpr ⟨mw_857, List.forall_mem_cons.mpr ⟨mw_21, List.forall_mem_cons.mpr ⟨mw_858, nn_in⟩⟩⟩⟩⟩⟩⟩⟩⟩⟩⟩⟩⟩
set_option maxRecDepth 100000 in
theorem in_wsX8_path : ∀ w ∈ wsX8_path, w ∈ lw_tbl := List.forall_mem_cons.mpr ⟨mw_849, List.forall_mem_append.mpr ⟨List.forall_mem_append.mpr ⟨in_wsX8_path_r1, in_wsX8_path_r2⟩, in_wsX80⟩⟩
theorem mw_848 : Cond.selects RX8 yX8_path yX8_path ∈ lw_tbl := tb_4 (List.mem_of_getElem? (i := 97) rfl)
theorem mw_847 : Cond.instanceMethod yX8_path ∈ lw_tbl := tb_4 (List.mem_of_getElem? (i := 96) rfl)
theorem mw_846 : Cond.methodLink RL 48 yX8_path ∈ lw_tbl := tb_4 (List.mem_of_getElem? (i := 95) rfl)
set_option maxRecDepth 100000 in
theorem gt_X8_path : GoodIn lw_tbl (wsV RL 48 RX8 yX8_path wsX8_path) := goodIn_sub (List.forall_mem_append.mpr ⟨List.forall_mem_cons.mpr ⟨mw_846, List.forall_mem_cons.mpr ⟨mw_847, List.forall_mem_cons.mpr ⟨mw_848, List.forall_mem_cons.mpr ⟨mw_41, nn_in⟩⟩⟩⟩, in_wsX8_path⟩) (by decide +kernel)
theorem mw_403 : Cond.code yX7_next cX7_next 1 (some .int) ∈ lw_tbl := tb_2 (List.mem_of_getElem? (i := 132) rfl)
theorem mw_408 : Cond.methodLink RX1 48 yX1_isTold ∈ lw_tbl := tb_2 (List.mem_of_getElem? (i := 137) rfl)
theorem mw_407 : Cond.code yX1_widestFrom cX1_widestFrom 7 (some .int) ∈ lw_tbl := tb_2 (List.mem_of_getElem? (i := 136) rfl)
theorem mw_406 : Cond.selects RX1 yX1_widestFrom yX1_widestFrom ∈ lw_tbl := tb_2 (List.mem_of_getElem? (i := 135) rfl)
theorem mw_405 : Cond.instanceMethod yX1_widestFrom ∈ lw_tbl := tb_2 (List.mem_of_getElem? (i := 134) rfl)
theorem mw_404 : Cond.methodLink RX7 154 yX1_widestFrom ∈ lw_tbl := tb_2 (List.mem_of_getElem? (i := 133) rfl)
set_option maxRecDepth 100000 in
theorem in_wsX7_next_r1 : ∀ w ∈ wsX7_next_r1, w ∈ lw_tbl := List.forall_mem_cons.mpr ⟨mw_213, List.forall_mem_cons.mpr ⟨mw_214, List.forall_mem_cons.mpr ⟨mw_357, List.forall_mem_cons.mpr ⟨mw_358, List.forall_mem_cons.mpr ⟨mw_359, List.forall_mem_cons.mpr ⟨mw_39, List.forall_mem_cons.mpr ⟨mw_360, List.forall_mem_cons.mpr ⟨mw_178, List.forall_mem_cons.mpr ⟨mw_404, List.forall_mem_cons.mpr ⟨mw_405, List.forall_mem_cons.mpr ⟨mw_406, List.forall_mem_cons.mpr ⟨mw_38, List.forall_mem_cons.mpr ⟨mw_407, List.forall_mem_cons.mpr ⟨mw_146, List.forall_mem_cons.mpr ⟨mw_147, List.forall_mem_cons.mpr ⟨mw_408, List.forall_mem_cons.mpr ⟨mw_342, List.forall_mem_cons.mpr ⟨mw_343, List.forall_mem_cons.mpr ⟨mw_344, List.forall_mem_cons.mpr ⟨mw_149, List.forall_mem_cons.mpr ⟨mw_332, List.forall_mem_cons.mpr ⟨mw_324, List.forall_mem_cons.mpr ⟨mw_325, List.forall_mem_cons.mpr ⟨mw_326, nn_in⟩⟩⟩⟩⟩⟩⟩⟩⟩⟩⟩⟩⟩⟩⟩⟩⟩⟩⟩⟩⟩⟩⟩⟩
set_option maxRecDepth 100000 in
theorem in_wsX7_next_r2 : ∀ w ∈ wsX7_next_r2, w ∈ lw_tbl := List.forall_mem_cons.mpr ⟨mw_151, List.forall_mem_cons.mpr ⟨mw_331, List.forall_mem_cons.mpr ⟨mw_320, List.forall_mem_cons.mpr ⟨mw_321, List.forall_mem_cons.mpr ⟨mw_322, List.forall_mem_cons.mpr ⟨mw_150, nn_in⟩⟩⟩⟩⟩⟩
set_option maxRecDepth 100000 in
theorem in_wsX7_next : ∀ w ∈ wsX7_next, w ∈ lw_tbl := List.forall_mem_cons.mpr ⟨mw_403, List.forall_mem_append.mpr ⟨List.forall_mem_append.mpr ⟨List.forall_mem_append.mpr ⟨List.forall_mem_append.mpr ⟨in_wsX7_next_r1, in_wsX7_next_r2⟩, in_wsX70⟩, in_wsX60⟩, in_wsX10⟩⟩
theorem mw_402 : Cond.selects RX7 yX7_next yX7_next ∈ lw_tbl := tb_2 (List.mem_of_getElem? (i := 131) rfl)
theorem mw_401 : Cond.instanceMethod yX7_next ∈ lw_tbl := tb_2 (List.mem_of_getElem? (i := 130) rfl)
theorem mw_400 : Cond.methodLink RL 49 yX7_next ∈ lw_tbl := tb_2 (List.mem_of_getElem? (i := 129) rfl)
set_option maxRecDepth 100000 in
theorem gt_X7_next : GoodIn lw_tbl (wsV RL 49 RX7 yX7_next wsX7_next) := goodIn_sub (List.forall_mem_append.mpr ⟨List.forall_mem_cons.mpr ⟨mw_400, List.forall_mem_cons.mpr ⟨mw_401, List.forall_mem_cons.mpr ⟨mw_402, List.forall_mem_cons.mpr ⟨mw_32, nn_in⟩⟩⟩⟩, in_wsX7_next⟩) (by decide +kernel)
theorem mw_862 : Cond.code yX8_next cX8_next 6 (some .int) ∈ lw_tbl := tb_4 (List.mem_of_getElem? (i := 111) rfl)
set_option maxRecDepth 100000 in
theorem in_wsX8_next : ∀ w ∈ wsX8_next, w ∈ lw_tbl := List.forall_mem_cons.mpr ⟨mw_862, List.forall_mem_append.mpr ⟨List.forall_mem_cons.mpr ⟨mw_712, List.forall_mem_cons.mpr ⟨mw_700, List.forall_mem_cons.mpr ⟨mw_701, List.forall_mem_cons.mpr ⟨mw_705, List.forall_mem_cons.mpr ⟨mw_834, List.forall_mem_cons.mpr ⟨mw_836, List.forall_mem_cons.mpr ⟨mw_18, List.forall_mem_cons.mpr ⟨mw_41, List.forall_mem_cons.mpr ⟨mw_837, List.forall_mem_cons.mpr ⟨mw_703, List.forall_mem_cons.mpr ⟨mw_709, List.forall_mem_cons.mpr ⟨mw_838, List.forall_mem_cons.mpr ⟨mw_419, List.forall_mem_cons.mpr ⟨mw_37, List.forall_mem_cons.mpr ⟨mw_420, List.forall_mem_cons.mpr ⟨mw_698, List.forall_mem_cons.mpr ⟨mw_135, List.forall_mem_cons.mpr ⟨mw_136, List.forall_mem_cons.mpr ⟨mw_699, List.forall_mem_cons.mpr ⟨mw_138, List.forall_mem_cons.mpr ⟨mw_139, nn_in⟩⟩⟩⟩⟩⟩⟩⟩⟩⟩⟩⟩⟩⟩⟩⟩⟩⟩⟩⟩⟩, in_wsX80⟩⟩
theorem mw_861 : Cond.selects RX8 yX8_next yX8_next ∈ lw_tbl := tb_4 (List.mem_of_getElem? (i := 110) rfl)
theorem mw_860 : Cond.instanceMethod yX8_next ∈ lw_tbl := tb_4 (List.mem_of_getElem? (i := 109) rfl)
theorem mw_859 : Cond.methodLink RL 53 yX8_next ∈ lw_tbl := tb_4 (List.mem_of_getElem? (i := 108) rfl)
set_option maxRecDepth 100000 in
theorem gt_X8_next : GoodIn lw_tbl (wsV RL 53 RX8 yX8_next wsX8_next) := goodIn_sub (List.forall_mem_append.mpr ⟨List.forall_mem_cons.mpr ⟨mw_859, List.forall_mem_cons.mpr ⟨mw_860, List.forall_mem_cons.mpr ⟨mw_861, List.forall_mem_cons.mpr ⟨mw_41, nn_in⟩⟩⟩⟩, in_wsX8_next⟩) (by decide +kernel)
theorem mw_412 : Cond.code yX7_bars cX7_bars 4 (some .int) ∈ lw_tbl := tb_2 (List.mem_of_getElem? (i := 141) rfl)
theorem mw_418 : Cond.methodLink RX6 36 Lib.Math.abs.name ∈ lw_tbl := tb_2 (List.mem_of_getElem? (i := 147) rfl)
theorem mw_416 : Cond.code yX6_reaches cX6_reaches 2 (some .boolean) ∈ lw_tbl := tb_2 (List.mem_of_getElem? (i := 145) rfl)
theorem mw_415 : Cond.selects RX6 yX6_reaches yX6_reaches ∈ lw_tbl := tb_2 (List.mem_of_getElem? (i := 144) rfl)
theorem mw_414 : Cond.instanceMethod yX6_reaches ∈ lw_tbl := tb_2 (List.mem_of_getElem? (i := 143) rfl)
theorem mw_413 : Cond.methodLink RX7 158 yX6_reaches ∈ lw_tbl := tb_2 (List.mem_of_getElem? (i := 142) rfl)
set_option maxRecDepth 100000 in
theorem in_wsX7_bars_r1 : ∀ w ∈ wsX7_bars_r1, w ∈ lw_tbl := List.forall_mem_cons.mpr ⟨mw_214, List.forall_mem_cons.mpr ⟨mw_213, List.forall_mem_cons.mpr ⟨mw_216, List.forall_mem_cons.mpr ⟨mw_357, List.forall_mem_cons.mpr ⟨mw_358, List.forall_mem_cons.mpr ⟨mw_359, List.forall_mem_cons.mpr ⟨mw_39, List.forall_mem_cons.mpr ⟨mw_360, List.forall_mem_cons.mpr ⟨mw_178, List.forall_mem_cons.mpr ⟨mw_252, List.forall_mem_cons.mpr ⟨mw_253, List.forall_mem_cons.mpr ⟨mw_254, List.forall_mem_cons.mpr ⟨mw_38, List.forall_mem_cons.mpr ⟨mw_255, List.forall_mem_cons.mpr ⟨mw_146, List.forall_mem_cons.mpr ⟨mw_147, List.forall_mem_cons.mpr ⟨mw_257, List.forall_mem_cons.mpr ⟨mw_32, List.forall_mem_cons.mpr ⟨mw_258, List.forall_mem_cons.mpr ⟨mw_413, List.forall_mem_cons.mpr ⟨mw_414, List.forall_mem_cons.mpr ⟨mw_415, List.forall_mem_cons.mpr ⟨mw_416, List.forall_mem_cons.mpr ⟨mw_418, nn_in⟩⟩⟩⟩⟩⟩⟩⟩⟩⟩⟩⟩⟩⟩⟩⟩⟩⟩⟩⟩⟩⟩⟩⟩
theorem mw_431 : Cond.selects RX2 yX2_term yX2_term ∈ lw_tbl := tb_2 (List.mem_of_getElem? (i := 160) rfl)
theorem mw_430 : Cond.instanceMethod yX2_term ∈ lw_tbl := tb_2 (List.mem_of_getElem? (i := 159) rfl)
theorem mw_429 : Cond.methodLink RX7 230 yX2_term ∈ lw_tbl := tb_2 (List.mem_of_getElem? (i := 158) rfl)
theorem mw_428 : Cond.code yX7_lawToday cX7_lawToday 2 (some .int) ∈ lw_tbl := tb_2 (List.mem_of_getElem? (i := 157) rfl)
theorem mw_8 : Cond.selects RX7 yX7_lawToday yX7_lawToday ∈ lw_tbl := tb_p (List.mem_of_getElem? (i := 8) rfl)
theorem mw_427 : Cond.instanceMethod yX7_lawToday ∈ lw_tbl := tb_2 (List.mem_of_getElem? (i := 156) rfl)
theorem mw_425 : Cond.methodLink RX7 165 yX7_lawToday ∈ lw_tbl := tb_2 (List.mem_of_getElem? (i := 154) rfl)
theorem mw_424 : Cond.code yX4_level cX4_level 1 (some .int) ∈ lw_tbl := tb_2 (List.mem_of_getElem? (i := 153) rfl)
theorem mw_423 : Cond.selects RX4 yX4_level yX4_level ∈ lw_tbl := tb_2 (List.mem_of_getElem? (i := 152) rfl)
theorem mw_422 : Cond.instanceMethod yX4_level ∈ lw_tbl := tb_2 (List.mem_of_getElem? (i := 151) rfl)
theorem mw_421 : Cond.methodLink RX7 162 yX4_level ∈ lw_tbl := tb_2 (List.mem_of_getElem? (i := 150) rfl)
theorem mw_417 : Cond.methodLink RX6 32 yX6_dredgePlace ∈ lw_tbl := tb_2 (List.mem_of_getElem? (i := 146) rfl)
set_option maxRecDepth 100000 in
theorem in_wsX7_bars_r2 : ∀ w ∈ wsX7_bars_r2, w ∈ lw_tbl := List.forall_mem_cons.mpr ⟨mw_419, List.forall_mem_cons.mpr ⟨mw_37, List.forall_mem_cons.mpr ⟨mw_420, List.forall_mem_cons.mpr ⟨mw_417, List.forall_mem_cons.mpr ⟨mw_391, List.forall_mem_cons.mpr ⟨mw_392, List.forall_mem_cons.mpr ⟨mw_393, List.forall_mem_cons.mpr ⟨mw_174, List.forall_mem_cons.mpr ⟨mw_421, List.forall_mem_cons.mpr ⟨mw_422, List.forall_mem_cons.mpr ⟨mw_423, List.forall_mem_cons.mpr ⟨mw_33, List.forall_mem_cons.mpr ⟨mw_424, List.forall_mem_cons.mpr ⟨mw_60, List.forall_mem_cons.mpr ⟨mw_425, List.forall_mem_cons.mpr ⟨mw_427, List.forall_mem_cons.mpr ⟨mw_8, List.forall_mem_cons.mpr ⟨mw_428, List.forall_mem_cons.mpr ⟨mw_218, List.forall_mem_cons.mpr ⟨mw_220, List.forall_mem_cons.mpr ⟨mw_429, List.forall_mem_cons.mpr ⟨mw_430, List.forall_mem_cons.mpr ⟨mw_431, List.forall_mem_cons.mpr ⟨mw_35, nn_in⟩⟩⟩⟩⟩⟩⟩⟩⟩⟩⟩⟩⟩⟩⟩⟩⟩⟩⟩⟩⟩⟩⟩⟩
theorem mw_447 : Cond.methodLink RX7 236 yX6_dredgeRow ∈ lw_tbl := tb_2 (List.mem_of_getElem? (i := 176) rfl)
theorem mw_451 : Cond.methodLink RX7 255 Lib.Math.abs.name ∈ lw_tbl := tb_2 (List.mem_of_getElem? (i := 180) rfl)
theorem mw_446 : Cond.code yX7_bankAhead cX7_bankAhead 4 (some .int) ∈ lw_tbl := tb_2 (List.mem_of_getElem? (i := 175) rfl)
theorem mw_9 : Cond.selects RX7 yX7_bankAhead yX7_bankAhead ∈ lw_tbl := tb_p (List.mem_of_getElem? (i := 9) rfl)
theorem mw_445 : Cond.instanceMethod yX7_bankAhead ∈ lw_tbl := tb_2 (List.mem_of_getElem? (i := 174) rfl)
theorem mw_443 : Cond.methodLink RX7 168 yX7_bankAhead ∈ lw_tbl := tb_2 (List.mem_of_getElem? (i := 172) rfl)
theorem mw_441 : Cond.fieldLink RX2 26 "DredgePond$LawBook" "USUAL" "[I" ∈ lw_tbl := tb_2 (List.mem_of_getElem? (i := 170) rfl)
theorem mw_440 : Cond.code yX2_usual cX2_usual 1 (some .int) ∈ lw_tbl := tb_2 (List.mem_of_getElem? (i := 169) rfl)
theorem mw_439 : Cond.static yX2_usual ∈ lw_tbl := tb_2 (List.mem_of_getElem? (i := 168) rfl)
theorem mw_438 : Cond.methodLink RX2 42 yX2_usual ∈ lw_tbl := tb_2 (List.mem_of_getElem? (i := 167) rfl)
theorem mw_436 : Cond.code yX2_inForce cX2_inForce 3 (some .int) ∈ lw_tbl := tb_2 (List.mem_of_getElem? (i := 165) rfl)
theorem mw_435 : Cond.selects RX2 yX2_inForce yX2_inForce ∈ lw_tbl := tb_2 (List.mem_of_getElem? (i := 164) rfl)
theorem mw_434 : Cond.instanceMethod yX2_inForce ∈ lw_tbl := tb_2 (List.mem_of_getElem? (i := 163) rfl)
theorem mw_433 : Cond.methodLink RX2 39 yX2_inForce ∈ lw_tbl := tb_2 (List.mem_of_getElem? (i := 162) rfl)
theorem mw_432 : Cond.code yX2_term cX2_term 4 (some .int) ∈ lw_tbl := tb_2 (List.mem_of_getElem? (i := 161) rfl)
set_option maxRecDepth 100000 in
theorem in_wsX7_bars_r3 : ∀ w ∈ wsX7_bars_r3, w ∈ lw_tbl := List.forall_mem_cons.mpr ⟨mw_432, List.forall_mem_cons.mpr ⟨mw_96, List.forall_mem_cons.mpr ⟨mw_433, List.forall_mem_cons.mpr ⟨mw_434, List.forall_mem_cons.mpr ⟨mw_435, List.forall_mem_cons.mpr ⟨mw_436, List.forall_mem_cons.mpr ⟨mw_98, List.forall_mem_cons.mpr ⟨mw_97, List.forall_mem_cons.mpr ⟨mw_438, List.forall_mem_cons.mpr ⟨mw_439, List.forall_mem_cons.mpr ⟨mw_440, List.forall_mem_cons.mpr ⟨mw_441, List.forall_mem_cons.mpr ⟨mw_264, List.forall_mem_cons.mpr ⟨mw_315, List.forall_mem_cons.mpr ⟨mw_316, List.forall_mem_cons.mpr ⟨mw_317, List.forall_mem_cons.mpr ⟨mw_318, List.forall_mem_cons.mpr ⟨mw_148, List.forall_mem_cons.mpr ⟨mw_443, List.forall_mem_cons.mpr ⟨mw_445, List.forall_mem_cons.mpr ⟨mw_9, List.forall_mem_cons.mpr ⟨mw_446, List.forall_mem_cons.mpr ⟨mw_451, List.forall_mem_cons.mpr ⟨mw_447, nn_in⟩⟩⟩⟩⟩⟩⟩⟩⟩⟩⟩⟩⟩⟩⟩⟩⟩⟩⟩⟩⟩⟩⟩⟩
theorem mw_466 : Cond.code yX4_mud cX4_mud 1 (some .int) ∈ lw_tbl := tb_2 (List.mem_of_getElem? (i := 195) rfl)
theorem mw_465 : Cond.selects RX4 yX4_mud yX4_mud ∈ lw_tbl := tb_2 (List.mem_of_getElem? (i := 194) rfl)
theorem mw_464 : Cond.instanceMethod yX4_mud ∈ lw_tbl := tb_2 (List.mem_of_getElem? (i := 193) rfl)
theorem mw_463 : Cond.methodLink RX7 239 yX4_mud ∈ lw_tbl := tb_2 (List.mem_of_getElem? (i := 192) rfl)
theorem mw_462 : Cond.code yX7_isMuddy cX7_isMuddy 1 (some .boolean) ∈ lw_tbl := tb_2 (List.mem_of_getElem? (i := 191) rfl)
theorem mw_10 : Cond.selects RX7 yX7_isMuddy yX7_isMuddy ∈ lw_tbl := tb_p (List.mem_of_getElem? (i := 10) rfl)
theorem mw_461 : Cond.instanceMethod yX7_isMuddy ∈ lw_tbl := tb_2 (List.mem_of_getElem? (i := 190) rfl)
theorem mw_459 : Cond.methodLink RX7 177 yX7_isMuddy ∈ lw_tbl := tb_2 (List.mem_of_getElem? (i := 188) rfl)
theorem mw_458 : Cond.code yX4_hoursFor cX4_hoursFor 1 (some .int) ∈ lw_tbl := tb_2 (List.mem_of_getElem? (i := 187) rfl)
theorem mw_457 : Cond.static yX4_hoursFor ∈ lw_tbl := tb_2 (List.mem_of_getElem? (i := 186) rfl)
theorem mw_456 : Cond.methodLink RX7 174 yX4_hoursFor ∈ lw_tbl := tb_2 (List.mem_of_getElem? (i := 185) rfl)
theorem mw_455 : Cond.code yX4_hoursLeft cX4_hoursLeft 1 (some .int) ∈ lw_tbl := tb_2 (List.mem_of_getElem? (i := 184) rfl)
theorem mw_454 : Cond.selects RX4 yX4_hoursLeft yX4_hoursLeft ∈ lw_tbl := tb_2 (List.mem_of_getElem? (i := 183) rfl)
theorem mw_453 : Cond.instanceMethod yX4_hoursLeft ∈ lw_tbl := tb_2 (List.mem_of_getElem? (i := 182) rfl)
theorem mw_452 : Cond.methodLink RX7 171 yX4_hoursLeft ∈ lw_tbl := tb_2 (List.mem_of_getElem? (i := 181) rfl)
theorem mw_450 : Cond.code yX6_dredgeRow cX6_dredgeRow 1 (some .int) ∈ lw_tbl := tb_2 (List.mem_of_getElem? (i := 179) rfl)
theorem mw_449 : Cond.selects RX6 yX6_dredgeRow yX6_dredgeRow ∈ lw_tbl := tb_2 (List.mem_of_getElem? (i := 178) rfl)
theorem mw_448 : Cond.instanceMethod yX6_dredgeRow ∈ lw_tbl := tb_2 (List.mem_of_getElem? (i := 177) rfl)
set_option maxRecDepth 100000 in
theorem in_wsX7_bars_r4 : ∀ w ∈ wsX7_bars_r4, w ∈ lw_tbl := List.forall_mem_cons.mpr ⟨mw_448, List.forall_mem_cons.mpr ⟨mw_449, List.forall_mem_cons.mpr ⟨mw_450, List.forall_mem_cons.mpr ⟨mw_390, List.forall_mem_cons.mpr ⟨mw_452, List.forall_mem_cons.mpr ⟨mw_453, List.forall_mem_cons.mpr ⟨mw_454, List.forall_mem_cons.mpr ⟨mw_455, List.forall_mem_cons.mpr ⟨mw_62, List.forall_mem_cons.mpr ⟨mw_456, List.forall_mem_cons.mpr ⟨mw_457, List.forall_mem_cons.mpr ⟨mw_458, List.forall_mem_cons.mpr ⟨mw_459, List.forall_mem_cons.mpr ⟨mw_461, List.forall_mem_cons.mpr ⟨mw_10, List.forall_mem_cons.mpr ⟨mw_462, List.forall_mem_cons.mpr ⟨mw_463, List.forall_mem_cons.mpr ⟨mw_464, List.forall_mem_cons.mpr ⟨mw_465, List.forall_mem_cons.mpr ⟨mw_466, List.forall_mem_cons.mpr ⟨mw_61, nn_in⟩⟩⟩⟩⟩⟩⟩⟩⟩⟩⟩⟩⟩⟩⟩⟩⟩⟩⟩⟩⟩
set_option maxRecDepth 100000 in
theorem in_wsX7_bars : ∀ w ∈ wsX7_bars, w ∈ lw_tbl := List.forall_mem_cons.mpr ⟨mw_412, List.forall_mem_append.mpr ⟨List.forall_mem_append.mpr ⟨List.forall_mem_append.mpr ⟨List.forall_mem_append.mpr ⟨List.forall_mem_append.mpr ⟨List.forall_mem_append.mpr ⟨in_wsX7_bars_r1, List.forall_mem_append.mpr ⟨in_wsX7_bars_r2, List.forall_mem_append.mpr ⟨in_wsX7_bars_r3, in_wsX7_bars_r4⟩⟩⟩, in_wsX70⟩, in_wsX60⟩, in_wsX10⟩, in_wsX40⟩, in_wsX20⟩⟩
theorem mw_411 : Cond.selects RX7 yX7_bars yX7_bars ∈ lw_tbl := tb_2 (List.mem_of_getElem? (i := 140) rfl)
theorem mw_410 : Cond.instanceMethod yX7_bars ∈ lw_tbl := tb_2 (List.mem_of_getElem? (i := 139) rfl)
theorem mw_409 : Cond.methodLink RL 54 yX7_bars ∈ lw_tbl := tb_2 (List.mem_of_getElem? (i := 138) rfl)
set_option maxRecDepth 100000 in
theorem gt_X7_bars : GoodIn lw_tbl (wsV RL 54 RX7 yX7_bars wsX7_bars) := goodIn_sub (List.forall_mem_append.mpr ⟨List.forall_mem_cons.mpr ⟨mw_409, List.forall_mem_cons.mpr ⟨mw_410, List.forall_mem_cons.mpr ⟨mw_411, List.forall_mem_cons.mpr ⟨mw_32, nn_in⟩⟩⟩⟩, in_wsX7_bars⟩) (by decide +kernel)
theorem mw_866 : Cond.code yX8_bars cX8_bars 3 (some .int) ∈ lw_tbl := tb_4 (List.mem_of_getElem? (i := 115) rfl)
theorem mw_23 : Cond.selects RX8 yX8_tellsOn yX8_tellsOn ∈ lw_tbl := tb_p (List.mem_of_getElem? (i := 23) rfl)
theorem mw_873 : Cond.instanceMethod yX8_tellsOn ∈ lw_tbl := tb_4 (List.mem_of_getElem? (i := 122) rfl)
theorem mw_871 : Cond.methodLink RX8 208 yX8_tellsOn ∈ lw_tbl := tb_4 (List.mem_of_getElem? (i := 120) rfl)
theorem mw_711 : Cond.fieldLink RX8 135 "DredgePondModel" "today" "I" ∈ lw_tbl := tb_3 (List.mem_of_getElem? (i := 200) rfl)
theorem mw_870 : Cond.code yX8_now cX8_now 2 (some .int) ∈ lw_tbl := tb_4 (List.mem_of_getElem? (i := 119) rfl)
theorem mw_22 : Cond.selects RX8 yX8_now yX8_now ∈ lw_tbl := tb_p (List.mem_of_getElem? (i := 22) rfl)
theorem mw_869 : Cond.instanceMethod yX8_now ∈ lw_tbl := tb_4 (List.mem_of_getElem? (i := 118) rfl)
theorem mw_867 : Cond.methodLink RX8 126 yX8_now ∈ lw_tbl := tb_4 (List.mem_of_getElem? (i := 116) rfl)
theorem mw_716 : Cond.fieldLink RX8 129 "DredgePondModel" "mud" "I" ∈ lw_tbl := tb_3 (List.mem_of_getElem? (i := 205) rfl)
set_option maxRecDepth 100000 in
theorem in_wsX8_bars_r1 : ∀ w ∈ wsX8_bars_r1, w ∈ lw_tbl := List.forall_mem_cons.mpr ⟨mw_701, List.forall_mem_cons.mpr ⟨mw_712, List.forall_mem_cons.mpr ⟨mw_700, List.forall_mem_cons.mpr ⟨mw_713, List.forall_mem_cons.mpr ⟨mw_838, List.forall_mem_cons.mpr ⟨mw_419, List.forall_mem_cons.mpr ⟨mw_37, List.forall_mem_cons.mpr ⟨mw_420, List.forall_mem_cons.mpr ⟨mw_702, List.forall_mem_cons.mpr ⟨mw_715, List.forall_mem_cons.mpr ⟨mw_714, List.forall_mem_cons.mpr ⟨mw_716, List.forall_mem_cons.mpr ⟨mw_811, List.forall_mem_cons.mpr ⟨mw_812, List.forall_mem_cons.mpr ⟨mw_41, List.forall_mem_cons.mpr ⟨mw_813, List.forall_mem_cons.mpr ⟨mw_867, List.forall_mem_cons.mpr ⟨mw_869, List.forall_mem_cons.mpr ⟨mw_22, List.forall_mem_cons.mpr ⟨mw_870, List.forall_mem_cons.mpr ⟨mw_711, List.forall_mem_cons.mpr ⟨mw_871, List.forall_mem_cons.mpr ⟨mw_873, List.forall_mem_cons.mpr ⟨mw_23, nn_in⟩⟩⟩⟩⟩⟩⟩⟩⟩⟩⟩⟩⟩⟩⟩⟩⟩⟩⟩⟩⟩⟩⟩⟩
theorem mw_881 : Cond.code yX8_plain cX8_plain 1 (some .int) ∈ lw_tbl := tb_4 (List.mem_of_getElem? (i := 130) rfl)
theorem mw_880 : Cond.static yX8_plain ∈ lw_tbl := tb_4 (List.mem_of_getElem? (i := 129) rfl)
theorem mw_879 : Cond.methodLink RX8 198 yX8_plain ∈ lw_tbl := tb_4 (List.mem_of_getElem? (i := 128) rfl)
theorem mw_729 : Cond.fieldLink RX8 195 "DredgePondModel" "laws" "I" ∈ lw_tbl := tb_3 (List.mem_of_getElem? (i := 218) rfl)
theorem mw_878 : Cond.code yX8_inForce cX8_inForce 4 (some .int) ∈ lw_tbl := tb_4 (List.mem_of_getElem? (i := 127) rfl)
theorem mw_24 : Cond.selects RX8 yX8_inForce yX8_inForce ∈ lw_tbl := tb_p (List.mem_of_getElem? (i := 24) rfl)
theorem mw_877 : Cond.instanceMethod yX8_inForce ∈ lw_tbl := tb_4 (List.mem_of_getElem? (i := 126) rfl)
theorem mw_875 : Cond.methodLink RX8 205 yX8_inForce ∈ lw_tbl := tb_4 (List.mem_of_getElem? (i := 124) rfl)
theorem mw_874 : Cond.code yX8_tellsOn cX8_tellsOn 4 (some .int) ∈ lw_tbl := tb_4 (List.mem_of_getElem? (i := 123) rfl)
set_option maxRecDepth 100000 in
theorem in_wsX8_bars_r2 : ∀ w ∈ wsX8_bars_r2, w ∈ lw_tbl := List.forall_mem_cons.mpr ⟨mw_874, List.forall_mem_cons.mpr ⟨mw_730, List.forall_mem_cons.mpr ⟨mw_875, List.forall_mem_cons.mpr ⟨mw_877, List.forall_mem_cons.mpr ⟨mw_24, List.forall_mem_cons.mpr ⟨mw_878, List.forall_mem_cons.mpr ⟨mw_729, List.forall_mem_cons.mpr ⟨mw_731, List.forall_mem_cons.mpr ⟨mw_879, List.forall_mem_cons.mpr ⟨mw_880, List.forall_mem_cons.mpr ⟨mw_881, nn_in⟩⟩⟩⟩⟩⟩⟩⟩⟩⟩⟩
set_option maxRecDepth 100000 in
theorem in_wsX8_bars : ∀ w ∈ wsX8_bars, w ∈ lw_tbl := List.forall_mem_cons.mpr ⟨mw_866, List.forall_mem_append.mpr ⟨List.forall_mem_append.mpr ⟨in_wsX8_bars_r1, in_wsX8_bars_r2⟩, in_wsX80⟩⟩
theorem mw_865 : Cond.selects RX8 yX8_bars yX8_bars ∈ lw_tbl := tb_4 (List.mem_of_getElem? (i := 114) rfl)
theorem mw_864 : Cond.instanceMethod yX8_bars ∈ lw_tbl := tb_4 (List.mem_of_getElem? (i := 113) rfl)
theorem mw_863 : Cond.methodLink RL 58 yX8_bars ∈ lw_tbl := tb_4 (List.mem_of_getElem? (i := 112) rfl)
set_option maxRecDepth 100000 in
theorem gt_X8_bars : GoodIn lw_tbl (wsV RL 58 RX8 yX8_bars wsX8_bars) := goodIn_sub (List.forall_mem_append.mpr ⟨List.forall_mem_cons.mpr ⟨mw_863, List.forall_mem_cons.mpr ⟨mw_864, List.forall_mem_cons.mpr ⟨mw_865, List.forall_mem_cons.mpr ⟨mw_41, nn_in⟩⟩⟩⟩, in_wsX8_bars⟩) (by decide +kernel)
theorem mw_470 : Cond.code yX7_dig cX7_dig 5 (some .int) ∈ lw_tbl := tb_2 (List.mem_of_getElem? (i := 199) rfl)
theorem mw_471 : Cond.methodLink RX7 181 yX7_bars ∈ lw_tbl := tb_2 (List.mem_of_getElem? (i := 200) rfl)
set_option maxRecDepth 100000 in
theorem in_wsX7_dig_r1 : ∀ w ∈ wsX7_dig_r1, w ∈ lw_tbl := List.forall_mem_cons.mpr ⟨mw_214, List.forall_mem_cons.mpr ⟨mw_213, List.forall_mem_cons.mpr ⟨mw_220, List.forall_mem_cons.mpr ⟨mw_216, List.forall_mem_cons.mpr ⟨mw_217, List.forall_mem_cons.mpr ⟨mw_264, List.forall_mem_cons.mpr ⟨mw_257, List.forall_mem_cons.mpr ⟨mw_32, List.forall_mem_cons.mpr ⟨mw_258, List.forall_mem_cons.mpr ⟨mw_471, List.forall_mem_cons.mpr ⟨mw_410, List.forall_mem_cons.mpr ⟨mw_411, List.forall_mem_cons.mpr ⟨mw_412, List.forall_mem_cons.mpr ⟨mw_357, List.forall_mem_cons.mpr ⟨mw_358, List.forall_mem_cons.mpr ⟨mw_359, List.forall_mem_cons.mpr ⟨mw_39, List.forall_mem_cons.mpr ⟨mw_360, List.forall_mem_cons.mpr ⟨mw_178, List.forall_mem_cons.mpr ⟨mw_252, List.forall_mem_cons.mpr ⟨mw_253, List.forall_mem_cons.mpr ⟨mw_254, List.forall_mem_cons.mpr ⟨mw_38, List.forall_mem_cons.mpr ⟨mw_255, nn_in⟩⟩⟩⟩⟩⟩⟩⟩⟩⟩⟩⟩⟩⟩⟩⟩⟩⟩⟩⟩⟩⟩⟩⟩
set_option maxRecDepth 100000 in
theorem in_wsX7_dig_r2 : ∀ w ∈ wsX7_dig_r2, w ∈ lw_tbl := List.forall_mem_cons.mpr ⟨mw_146, List.forall_mem_cons.mpr ⟨mw_147, List.forall_mem_cons.mpr ⟨mw_413, List.forall_mem_cons.mpr ⟨mw_414, List.forall_mem_cons.mpr ⟨mw_415, List.forall_mem_cons.mpr ⟨mw_416, List.forall_mem_cons.mpr ⟨mw_418, List.forall_mem_cons.mpr ⟨mw_419, List.forall_mem_cons.mpr ⟨mw_37, List.forall_mem_cons.mpr ⟨mw_420, List.forall_mem_cons.mpr ⟨mw_417, List.forall_mem_cons.mpr ⟨mw_391, List.forall_mem_cons.mpr ⟨mw_392, List.forall_mem_cons.mpr ⟨mw_393, List.forall_mem_cons.mpr ⟨mw_174, List.forall_mem_cons.mpr ⟨mw_421, List.forall_mem_cons.mpr ⟨mw_422, List.forall_mem_cons.mpr ⟨mw_423, List.forall_mem_cons.mpr ⟨mw_33, List.forall_mem_cons.mpr ⟨mw_424, List.forall_mem_cons.mpr ⟨mw_60, List.forall_mem_cons.mpr ⟨mw_425, List.forall_mem_cons.mpr ⟨mw_427, List.forall_mem_cons.mpr ⟨mw_8, nn_in⟩⟩⟩⟩⟩⟩⟩⟩⟩⟩⟩⟩⟩⟩⟩⟩⟩⟩⟩⟩⟩⟩⟩⟩
set_option maxRecDepth 100000 in
theorem in_wsX7_dig_r3 : ∀ w ∈ wsX7_dig_r3, w ∈ lw_tbl := List.forall_mem_cons.mpr ⟨mw_428, List.forall_mem_cons.mpr ⟨mw_218, List.forall_mem_cons.mpr ⟨mw_429, List.forall_mem_cons.mpr ⟨mw_430, List.forall_mem_cons.mpr ⟨mw_431, List.forall_mem_cons.mpr ⟨mw_35, List.forall_mem_cons.mpr ⟨mw_432, List.forall_mem_cons.mpr ⟨mw_96, List.forall_mem_cons.mpr ⟨mw_433, List.forall_mem_cons.mpr ⟨mw_434, List.forall_mem_cons.mpr ⟨mw_435, List.forall_mem_cons.mpr ⟨mw_436, List.forall_mem_cons.mpr ⟨mw_98, List.forall_mem_cons.mpr ⟨mw_97, List.forall_mem_cons.mpr ⟨mw_438, List.forall_mem_cons.mpr ⟨mw_439, List.forall_mem_cons.mpr ⟨mw_440, List.forall_mem_cons.mpr ⟨mw_441, List.forall_mem_cons.mpr ⟨mw_315, List.forall_mem_cons.mpr ⟨mw_316, List.forall_mem_cons.mpr ⟨mw_317, List.forall_mem_cons.mpr ⟨mw_318, List.forall_mem_cons.mpr ⟨mw_148, List.forall_mem_cons.mpr ⟨mw_443, nn_in⟩⟩⟩⟩⟩⟩⟩⟩⟩⟩⟩⟩⟩⟩⟩⟩⟩⟩⟩⟩⟩⟩⟩⟩
set_option maxRecDepth 100000 in
theorem in_wsX7_dig_r4 : ∀ w ∈ wsX7_dig_r4, w ∈ lw_tbl := List.forall_mem_cons.mpr ⟨mw_445, List.forall_mem_cons.mpr ⟨mw_9, List.forall_mem_cons.mpr ⟨mw_446, List.forall_mem_cons.mpr ⟨mw_451, List.forall_mem_cons.mpr ⟨mw_447, List.forall_mem_cons.mpr ⟨mw_448, List.forall_mem_cons.mpr ⟨mw_449, List.forall_mem_cons.mpr ⟨mw_450, List.forall_mem_cons.mpr ⟨mw_390, List.forall_mem_cons.mpr ⟨mw_452, List.forall_mem_cons.mpr ⟨mw_453, List.forall_mem_cons.mpr ⟨mw_454, List.forall_mem_cons.mpr ⟨mw_455, List.forall_mem_cons.mpr ⟨mw_62, List.forall_mem_cons.mpr ⟨mw_456, List.forall_mem_cons.mpr ⟨mw_457, List.forall_mem_cons.mpr ⟨mw_458, List.forall_mem_cons.mpr ⟨mw_459, List.forall_mem_cons.mpr ⟨mw_461, List.forall_mem_cons.mpr ⟨mw_10, List.forall_mem_cons.mpr ⟨mw_462, List.forall_mem_cons.mpr ⟨mw_463, List.forall_mem_cons.mpr ⟨mw_464, List.forall_mem_cons.mpr ⟨mw_465, nn_in⟩⟩⟩⟩⟩⟩⟩⟩⟩⟩⟩⟩⟩⟩⟩⟩⟩⟩⟩⟩⟩⟩⟩⟩
set_option maxRecDepth 100000 in
theorem in_wsX7_dig_r5 : ∀ w ∈ wsX7_dig_r5, w ∈ lw_tbl := List.forall_mem_cons.mpr ⟨mw_466, List.forall_mem_cons.mpr ⟨mw_61, List.forall_mem_cons.mpr ⟨mw_307, List.forall_mem_cons.mpr ⟨mw_308, List.forall_mem_cons.mpr ⟨mw_309, List.forall_mem_cons.mpr ⟨mw_310, List.forall_mem_cons.mpr ⟨mw_149, List.forall_mem_cons.mpr ⟨mw_277, List.forall_mem_cons.mpr ⟨mw_279, List.forall_mem_cons.mpr ⟨mw_1, List.forall_mem_cons.mpr ⟨mw_280, List.forall_mem_cons.mpr ⟨mw_281, List.forall_mem_cons.mpr ⟨mw_283, List.forall_mem_cons.mpr ⟨mw_2, List.forall_mem_cons.mpr ⟨mw_284, List.forall_mem_cons.mpr ⟨mw_150, List.forall_mem_cons.mpr ⟨mw_151, List.forall_mem_cons.mpr ⟨mw_285, List.forall_mem_cons.mpr ⟨mw_287, List.forall_mem_cons.mpr ⟨mw_3, List.forall_mem_cons.mpr ⟨mw_288, List.forall_mem_cons.mpr ⟨mw_289, List.forall_mem_cons.mpr ⟨mw_291, List.forall_mem_cons.mpr ⟨mw_4, nn_in⟩⟩⟩⟩⟩⟩⟩⟩⟩⟩⟩⟩⟩⟩⟩⟩⟩⟩⟩⟩⟩⟩⟩⟩
theorem mw_478 : Cond.selects RX4 yX4_stir yX4_stir ∈ lw_tbl := tb_2 (List.mem_of_getElem? (i := 207) rfl)
theorem mw_477 : Cond.instanceMethod yX4_stir ∈ lw_tbl := tb_2 (List.mem_of_getElem? (i := 206) rfl)
theorem mw_476 : Cond.methodLink RX7 187 yX4_stir ∈ lw_tbl := tb_2 (List.mem_of_getElem? (i := 205) rfl)
theorem mw_475 : Cond.code yX6_goTo cX6_goTo 3 none ∈ lw_tbl := tb_2 (List.mem_of_getElem? (i := 204) rfl)
theorem mw_474 : Cond.selects RX6 yX6_goTo yX6_goTo ∈ lw_tbl := tb_2 (List.mem_of_getElem? (i := 203) rfl)
theorem mw_473 : Cond.instanceMethod yX6_goTo ∈ lw_tbl := tb_2 (List.mem_of_getElem? (i := 202) rfl)
theorem mw_472 : Cond.methodLink RX7 184 yX6_goTo ∈ lw_tbl := tb_2 (List.mem_of_getElem? (i := 201) rfl)
set_option maxRecDepth 100000 in
theorem in_wsX7_dig_r6 : ∀ w ∈ wsX7_dig_r6, w ∈ lw_tbl := List.forall_mem_cons.mpr ⟨mw_292, List.forall_mem_cons.mpr ⟨mw_152, List.forall_mem_cons.mpr ⟨mw_293, List.forall_mem_cons.mpr ⟨mw_138, List.forall_mem_cons.mpr ⟨mw_139, List.forall_mem_cons.mpr ⟨mw_294, List.forall_mem_cons.mpr ⟨mw_135, List.forall_mem_cons.mpr ⟨mw_136, List.forall_mem_cons.mpr ⟨mw_295, List.forall_mem_cons.mpr ⟨mw_297, List.forall_mem_cons.mpr ⟨mw_5, List.forall_mem_cons.mpr ⟨mw_298, List.forall_mem_cons.mpr ⟨mw_299, List.forall_mem_cons.mpr ⟨mw_301, List.forall_mem_cons.mpr ⟨mw_6, List.forall_mem_cons.mpr ⟨mw_302, List.forall_mem_cons.mpr ⟨mw_472, List.forall_mem_cons.mpr ⟨mw_473, List.forall_mem_cons.mpr ⟨mw_474, List.forall_mem_cons.mpr ⟨mw_475, List.forall_mem_cons.mpr ⟨mw_175, List.forall_mem_cons.mpr ⟨mw_476, List.forall_mem_cons.mpr ⟨mw_477, List.forall_mem_cons.mpr ⟨mw_478, nn_in⟩⟩⟩⟩⟩⟩⟩⟩⟩⟩⟩⟩⟩⟩⟩⟩⟩⟩⟩⟩⟩⟩⟩⟩
theorem mw_484 : Cond.code yX0_fill cX0_fill 5 (some .int) ∈ lw_tbl := tb_2 (List.mem_of_getElem? (i := 213) rfl)
theorem mw_483 : Cond.selects RX0 yX0_fill yX0_fill ∈ lw_tbl := tb_2 (List.mem_of_getElem? (i := 212) rfl)
theorem mw_482 : Cond.instanceMethod yX0_fill ∈ lw_tbl := tb_2 (List.mem_of_getElem? (i := 211) rfl)
theorem mw_481 : Cond.methodLink RX7 190 yX0_fill ∈ lw_tbl := tb_2 (List.mem_of_getElem? (i := 210) rfl)
theorem mw_480 : Cond.methodLink RX4 19 yX4_hoursFor ∈ lw_tbl := tb_2 (List.mem_of_getElem? (i := 209) rfl)
theorem mw_479 : Cond.code yX4_stir cX4_stir 2 none ∈ lw_tbl := tb_2 (List.mem_of_getElem? (i := 208) rfl)
set_option maxRecDepth 100000 in
theorem in_wsX7_dig_r7 : ∀ w ∈ wsX7_dig_r7, w ∈ lw_tbl := List.forall_mem_cons.mpr ⟨mw_479, List.forall_mem_cons.mpr ⟨mw_480, List.forall_mem_cons.mpr ⟨mw_481, List.forall_mem_cons.mpr ⟨mw_482, List.forall_mem_cons.mpr ⟨mw_483, List.forall_mem_cons.mpr ⟨mw_34, List.forall_mem_cons.mpr ⟨mw_484, List.forall_mem_cons.mpr ⟨mw_79, List.forall_mem_cons.mpr ⟨mw_78, List.forall_mem_cons.mpr ⟨mw_77, List.forall_mem_cons.mpr ⟨mw_76, nn_in⟩⟩⟩⟩⟩⟩⟩⟩⟩⟩⟩
set_option maxRecDepth 100000 in
theorem in_wsX7_dig : ∀ w ∈ wsX7_dig, w ∈ lw_tbl := List.forall_mem_cons.mpr ⟨mw_470, List.forall_mem_append.mpr ⟨List.forall_mem_append.mpr ⟨List.forall_mem_append.mpr ⟨List.forall_mem_append.mpr ⟨List.forall_mem_append.mpr ⟨List.forall_mem_append.mpr ⟨List.forall_mem_append.mpr ⟨in_wsX7_dig_r1, List.forall_mem_append.mpr ⟨in_wsX7_dig_r2, List.forall_mem_append.mpr ⟨in_wsX7_dig_r3, List.forall_mem_append.mpr ⟨in_wsX7_dig_r4, List.forall_mem_append.mpr ⟨in_wsX7_dig_r5, List.forall_mem_append.mpr ⟨in_wsX7_dig_r6, in_wsX7_dig_r7⟩⟩⟩⟩⟩⟩, in_wsX70⟩, in_wsX60⟩, in_wsX10⟩, in_wsX40⟩, in_wsX20⟩, in_wsX00⟩⟩
theorem mw_469 : Cond.selects RX7 yX7_dig yX7_dig ∈ lw_tbl := tb_2 (List.mem_of_getElem? (i := 198) rfl)
theorem mw_468 : Cond.instanceMethod yX7_dig ∈ lw_tbl := tb_2 (List.mem_of_getElem? (i := 197) rfl)
theorem mw_467 : Cond.methodLink RL 59 yX7_dig ∈ lw_tbl := tb_2 (List.mem_of_getElem? (i := 196) rfl)
set_option maxRecDepth 100000 in
theorem gt_X7_dig : GoodIn lw_tbl (wsV RL 59 RX7 yX7_dig wsX7_dig) := goodIn_sub (List.forall_mem_append.mpr ⟨List.forall_mem_cons.mpr ⟨mw_467, List.forall_mem_cons.mpr ⟨mw_468, List.forall_mem_cons.mpr ⟨mw_469, List.forall_mem_cons.mpr ⟨mw_32, nn_in⟩⟩⟩⟩, in_wsX7_dig⟩) (by decide +kernel)
theorem mw_885 : Cond.code yX8_dig cX8_dig 6 (some .int) ∈ lw_tbl := tb_4 (List.mem_of_getElem? (i := 134) rfl)
theorem mw_886 : Cond.methodLink RX8 132 yX8_bars ∈ lw_tbl := tb_4 (List.mem_of_getElem? (i := 135) rfl)
theorem mw_718 : Cond.fieldLink RX8 141 "DredgePondModel" "bagged" "I" ∈ lw_tbl := tb_3 (List.mem_of_getElem? (i := 207) rfl)
theorem mw_719 : Cond.fieldLink RX8 138 "DredgePondModel" "lost" "I" ∈ lw_tbl := tb_3 (List.mem_of_getElem? (i := 208) rfl)
set_option maxRecDepth 100000 in
theorem in_wsX8_dig_r1 : ∀ w ∈ wsX8_dig_r1, w ∈ lw_tbl := List.forall_mem_cons.mpr ⟨mw_712, List.forall_mem_cons.mpr ⟨mw_713, List.forall_mem_cons.mpr ⟨mw_714, List.forall_mem_cons.mpr ⟨mw_702, List.forall_mem_cons.mpr ⟨mw_716, List.forall_mem_cons.mpr ⟨mw_706, List.forall_mem_cons.mpr ⟨mw_704, List.forall_mem_cons.mpr ⟨mw_711, List.forall_mem_cons.mpr ⟨mw_717, List.forall_mem_cons.mpr ⟨mw_719, List.forall_mem_cons.mpr ⟨mw_718, List.forall_mem_cons.mpr ⟨mw_721, List.forall_mem_cons.mpr ⟨mw_811, List.forall_mem_cons.mpr ⟨mw_812, List.forall_mem_cons.mpr ⟨mw_41, List.forall_mem_cons.mpr ⟨mw_813, List.forall_mem_cons.mpr ⟨mw_886, List.forall_mem_cons.mpr ⟨mw_864, List.forall_mem_cons.mpr ⟨mw_865, List.forall_mem_cons.mpr ⟨mw_866, List.forall_mem_cons.mpr ⟨mw_701, List.forall_mem_cons.mpr ⟨mw_700, List.forall_mem_cons.mpr ⟨mw_838, List.forall_mem_cons.mpr ⟨mw_419, nn_in⟩⟩⟩⟩⟩⟩⟩⟩⟩⟩⟩⟩⟩⟩⟩⟩⟩⟩⟩⟩⟩⟩⟩⟩
set_option maxRecDepth 100000 in
theorem in_wsX8_dig_r2 : ∀ w ∈ wsX8_dig_r2, w ∈ lw_tbl := List.forall_mem_cons.mpr ⟨mw_37, List.forall_mem_cons.mpr ⟨mw_420, List.forall_mem_cons.mpr ⟨mw_715, List.forall_mem_cons.mpr ⟨mw_867, List.forall_mem_cons.mpr ⟨mw_869, List.forall_mem_cons.mpr ⟨mw_22, List.forall_mem_cons.mpr ⟨mw_870, List.forall_mem_cons.mpr ⟨mw_871, List.forall_mem_cons.mpr ⟨mw_873, List.forall_mem_cons.mpr ⟨mw_23, List.forall_mem_cons.mpr ⟨mw_874, List.forall_mem_cons.mpr ⟨mw_730, List.forall_mem_cons.mpr ⟨mw_875, List.forall_mem_cons.mpr ⟨mw_877, List.forall_mem_cons.mpr ⟨mw_24, List.forall_mem_cons.mpr ⟨mw_878, List.forall_mem_cons.mpr ⟨mw_729, List.forall_mem_cons.mpr ⟨mw_731, List.forall_mem_cons.mpr ⟨mw_879, List.forall_mem_cons.mpr ⟨mw_880, List.forall_mem_cons.mpr ⟨mw_881, List.forall_mem_cons.mpr ⟨mw_822, List.forall_mem_cons.mpr ⟨mw_824, List.forall_mem_cons.mpr ⟨mw_17, nn_in⟩⟩⟩⟩⟩⟩⟩⟩⟩⟩⟩⟩⟩⟩⟩⟩⟩⟩⟩⟩⟩⟩⟩⟩
set_option maxRecDepth 100000 in
theorem in_wsX8_dig_r3 : ∀ w ∈ wsX8_dig_r3, w ∈ lw_tbl := List.forall_mem_cons.mpr ⟨mw_825, List.forall_mem_cons.mpr ⟨mw_703, List.forall_mem_cons.mpr ⟨mw_705, nn_in⟩⟩⟩
set_option maxRecDepth 100000 in
theorem in_wsX8_dig : ∀ w ∈ wsX8_dig, w ∈ lw_tbl := List.forall_mem_cons.mpr ⟨mw_885, List.forall_mem_append.mpr ⟨List.forall_mem_append.mpr ⟨in_wsX8_dig_r1, List.forall_mem_append.mpr ⟨in_wsX8_dig_r2, in_wsX8_dig_r3⟩⟩, in_wsX80⟩⟩
theorem mw_884 : Cond.selects RX8 yX8_dig yX8_dig ∈ lw_tbl := tb_4 (List.mem_of_getElem? (i := 133) rfl)
theorem mw_883 : Cond.instanceMethod yX8_dig ∈ lw_tbl := tb_4 (List.mem_of_getElem? (i := 132) rfl)
theorem mw_882 : Cond.methodLink RL 62 yX8_dig ∈ lw_tbl := tb_4 (List.mem_of_getElem? (i := 131) rfl)
set_option maxRecDepth 100000 in
theorem gt_X8_dig : GoodIn lw_tbl (wsV RL 62 RX8 yX8_dig wsX8_dig) := goodIn_sub (List.forall_mem_append.mpr ⟨List.forall_mem_cons.mpr ⟨mw_882, List.forall_mem_cons.mpr ⟨mw_883, List.forall_mem_cons.mpr ⟨mw_884, List.forall_mem_cons.mpr ⟨mw_41, nn_in⟩⟩⟩⟩, in_wsX8_dig⟩) (by decide +kernel)
theorem mw_489 : Cond.code yX7_jig cX7_jig 2 (some .boolean) ∈ lw_tbl := tb_2 (List.mem_of_getElem? (i := 218) rfl)
theorem mw_493 : Cond.code yX0_run cX0_run 2 none ∈ lw_tbl := tb_2 (List.mem_of_getElem? (i := 222) rfl)
theorem mw_492 : Cond.selects RX0 yX0_run yX0_run ∈ lw_tbl := tb_2 (List.mem_of_getElem? (i := 221) rfl)
theorem mw_491 : Cond.instanceMethod yX0_run ∈ lw_tbl := tb_2 (List.mem_of_getElem? (i := 220) rfl)
theorem mw_490 : Cond.methodLink RX7 193 yX0_run ∈ lw_tbl := tb_2 (List.mem_of_getElem? (i := 219) rfl)
set_option maxRecDepth 100000 in
theorem in_wsX7_jig : ∀ w ∈ wsX7_jig, w ∈ lw_tbl := List.forall_mem_cons.mpr ⟨mw_489, List.forall_mem_append.mpr ⟨List.forall_mem_append.mpr ⟨List.forall_mem_cons.mpr ⟨mw_217, List.forall_mem_cons.mpr ⟨mw_264, List.forall_mem_cons.mpr ⟨mw_257, List.forall_mem_cons.mpr ⟨mw_32, List.forall_mem_cons.mpr ⟨mw_258, List.forall_mem_cons.mpr ⟨mw_490, List.forall_mem_cons.mpr ⟨mw_491, List.forall_mem_cons.mpr ⟨mw_492, List.forall_mem_cons.mpr ⟨mw_34, List.forall_mem_cons.mpr ⟨mw_493, List.forall_mem_cons.mpr ⟨mw_79, nn_in⟩⟩⟩⟩⟩⟩⟩⟩⟩⟩⟩, in_wsX70⟩, in_wsX00⟩⟩
theorem mw_488 : Cond.selects RX7 yX7_jig yX7_jig ∈ lw_tbl := tb_2 (List.mem_of_getElem? (i := 217) rfl)
theorem mw_487 : Cond.instanceMethod yX7_jig ∈ lw_tbl := tb_2 (List.mem_of_getElem? (i := 216) rfl)
theorem mw_486 : Cond.methodLink RL 63 yX7_jig ∈ lw_tbl := tb_2 (List.mem_of_getElem? (i := 215) rfl)
set_option maxRecDepth 100000 in
theorem gt_X7_jig : GoodIn lw_tbl (wsV RL 63 RX7 yX7_jig wsX7_jig) := goodIn_sub (List.forall_mem_append.mpr ⟨List.forall_mem_cons.mpr ⟨mw_486, List.forall_mem_cons.mpr ⟨mw_487, List.forall_mem_cons.mpr ⟨mw_488, List.forall_mem_cons.mpr ⟨mw_32, nn_in⟩⟩⟩⟩, in_wsX7_jig⟩) (by decide +kernel)
theorem mw_890 : Cond.code yX8_jig cX8_jig 2 (some .boolean) ∈ lw_tbl := tb_4 (List.mem_of_getElem? (i := 139) rfl)
set_option maxRecDepth 100000 in
theorem in_wsX8_jig : ∀ w ∈ wsX8_jig, w ∈ lw_tbl := List.forall_mem_cons.mpr ⟨mw_890, List.forall_mem_append.mpr ⟨List.forall_mem_cons.mpr ⟨mw_717, List.forall_mem_cons.mpr ⟨mw_811, List.forall_mem_cons.mpr ⟨mw_812, List.forall_mem_cons.mpr ⟨mw_41, List.forall_mem_cons.mpr ⟨mw_813, nn_in⟩⟩⟩⟩⟩, in_wsX80⟩⟩
theorem mw_889 : Cond.selects RX8 yX8_jig yX8_jig ∈ lw_tbl := tb_4 (List.mem_of_getElem? (i := 138) rfl)
theorem mw_888 : Cond.instanceMethod yX8_jig ∈ lw_tbl := tb_4 (List.mem_of_getElem? (i := 137) rfl)
theorem mw_887 : Cond.methodLink RL 66 yX8_jig ∈ lw_tbl := tb_4 (List.mem_of_getElem? (i := 136) rfl)
set_option maxRecDepth 100000 in
theorem gt_X8_jig : GoodIn lw_tbl (wsV RL 66 RX8 yX8_jig wsX8_jig) := goodIn_sub (List.forall_mem_append.mpr ⟨List.forall_mem_cons.mpr ⟨mw_887, List.forall_mem_cons.mpr ⟨mw_888, List.forall_mem_cons.mpr ⟨mw_889, List.forall_mem_cons.mpr ⟨mw_41, nn_in⟩⟩⟩⟩, in_wsX8_jig⟩) (by decide +kernel)
theorem mw_497 : Cond.code yX7_let cX7_let 2 (some .int) ∈ lw_tbl := tb_2 (List.mem_of_getElem? (i := 226) rfl)
set_option maxRecDepth 100000 in
theorem in_wsX7_let_r1 : ∀ w ∈ wsX7_let_r1, w ∈ lw_tbl := List.forall_mem_cons.mpr ⟨mw_216, List.forall_mem_cons.mpr ⟨mw_221, List.forall_mem_cons.mpr ⟨mw_421, List.forall_mem_cons.mpr ⟨mw_422, List.forall_mem_cons.mpr ⟨mw_423, List.forall_mem_cons.mpr ⟨mw_33, List.forall_mem_cons.mpr ⟨mw_424, List.forall_mem_cons.mpr ⟨mw_60, List.forall_mem_cons.mpr ⟨mw_264, List.forall_mem_cons.mpr ⟨mw_257, List.forall_mem_cons.mpr ⟨mw_32, List.forall_mem_cons.mpr ⟨mw_258, List.forall_mem_cons.mpr ⟨mw_459, List.forall_mem_cons.mpr ⟨mw_461, List.forall_mem_cons.mpr ⟨mw_10, List.forall_mem_cons.mpr ⟨mw_462, List.forall_mem_cons.mpr ⟨mw_463, List.forall_mem_cons.mpr ⟨mw_464, List.forall_mem_cons.mpr ⟨mw_465, List.forall_mem_cons.mpr ⟨mw_466, List.forall_mem_cons.mpr ⟨mw_61, List.forall_mem_cons.mpr ⟨mw_425, List.forall_mem_cons.mpr ⟨mw_427, List.forall_mem_cons.mpr ⟨mw_8, nn_in⟩⟩⟩⟩⟩⟩⟩⟩⟩⟩⟩⟩⟩⟩⟩⟩⟩⟩⟩⟩⟩⟩⟩⟩
theorem mw_501 : Cond.code yX4_drain cX4_drain 2 none ∈ lw_tbl := tb_2 (List.mem_of_getElem? (i := 230) rfl)
theorem mw_500 : Cond.selects RX4 yX4_drain yX4_drain ∈ lw_tbl := tb_2 (List.mem_of_getElem? (i := 229) rfl)
theorem mw_499 : Cond.instanceMethod yX4_drain ∈ lw_tbl := tb_2 (List.mem_of_getElem? (i := 228) rfl)
theorem mw_498 : Cond.methodLink RX7 196 yX4_drain ∈ lw_tbl := tb_2 (List.mem_of_getElem? (i := 227) rfl)
set_option maxRecDepth 100000 in
theorem in_wsX7_let_r2 : ∀ w ∈ wsX7_let_r2, w ∈ lw_tbl := List.forall_mem_cons.mpr ⟨mw_428, List.forall_mem_cons.mpr ⟨mw_218, List.forall_mem_cons.mpr ⟨mw_220, List.forall_mem_cons.mpr ⟨mw_429, List.forall_mem_cons.mpr ⟨mw_430, List.forall_mem_cons.mpr ⟨mw_431, List.forall_mem_cons.mpr ⟨mw_35, List.forall_mem_cons.mpr ⟨mw_432, List.forall_mem_cons.mpr ⟨mw_96, List.forall_mem_cons.mpr ⟨mw_433, List.forall_mem_cons.mpr ⟨mw_434, List.forall_mem_cons.mpr ⟨mw_435, List.forall_mem_cons.mpr ⟨mw_436, List.forall_mem_cons.mpr ⟨mw_98, List.forall_mem_cons.mpr ⟨mw_97, List.forall_mem_cons.mpr ⟨mw_438, List.forall_mem_cons.mpr ⟨mw_439, List.forall_mem_cons.mpr ⟨mw_440, List.forall_mem_cons.mpr ⟨mw_441, List.forall_mem_cons.mpr ⟨mw_498, List.forall_mem_cons.mpr ⟨mw_499, List.forall_mem_cons.mpr ⟨mw_500, List.forall_mem_cons.mpr ⟨mw_501, nn_in⟩⟩⟩⟩⟩⟩⟩⟩⟩⟩⟩⟩⟩⟩⟩⟩⟩⟩⟩⟩⟩⟩⟩
set_option maxRecDepth 100000 in
theorem in_wsX7_let : ∀ w ∈ wsX7_let, w ∈ lw_tbl := List.forall_mem_cons.mpr ⟨mw_497, List.forall_mem_append.mpr ⟨List.forall_mem_append.mpr ⟨List.forall_mem_append.mpr ⟨List.forall_mem_append.mpr ⟨in_wsX7_let_r1, in_wsX7_let_r2⟩, in_wsX70⟩, in_wsX40⟩, in_wsX20⟩⟩
theorem mw_496 : Cond.selects RX7 yX7_let yX7_let ∈ lw_tbl := tb_2 (List.mem_of_getElem? (i := 225) rfl)
theorem mw_495 : Cond.instanceMethod yX7_let ∈ lw_tbl := tb_2 (List.mem_of_getElem? (i := 224) rfl)
theorem mw_494 : Cond.methodLink RL 67 yX7_let ∈ lw_tbl := tb_2 (List.mem_of_getElem? (i := 223) rfl)
set_option maxRecDepth 100000 in
theorem gt_X7_let : GoodIn lw_tbl (wsV RL 67 RX7 yX7_let wsX7_let) := goodIn_sub (List.forall_mem_append.mpr ⟨List.forall_mem_cons.mpr ⟨mw_494, List.forall_mem_cons.mpr ⟨mw_495, List.forall_mem_cons.mpr ⟨mw_496, List.forall_mem_cons.mpr ⟨mw_32, nn_in⟩⟩⟩⟩, in_wsX7_let⟩) (by decide +kernel)
theorem mw_894 : Cond.code yX8_let cX8_let 2 (some .int) ∈ lw_tbl := tb_4 (List.mem_of_getElem? (i := 143) rfl)
theorem mw_720 : Cond.fieldLink RX8 144 "DredgePondModel" "fines" "I" ∈ lw_tbl := tb_3 (List.mem_of_getElem? (i := 209) rfl)
set_option maxRecDepth 100000 in
theorem in_wsX8_let_r1 : ∀ w ∈ wsX8_let_r1, w ∈ lw_tbl := List.forall_mem_cons.mpr ⟨mw_715, List.forall_mem_cons.mpr ⟨mw_716, List.forall_mem_cons.mpr ⟨mw_720, List.forall_mem_cons.mpr ⟨mw_811, List.forall_mem_cons.mpr ⟨mw_812, List.forall_mem_cons.mpr ⟨mw_41, List.forall_mem_cons.mpr ⟨mw_813, List.forall_mem_cons.mpr ⟨mw_867, List.forall_mem_cons.mpr ⟨mw_869, List.forall_mem_cons.mpr ⟨mw_22, List.forall_mem_cons.mpr ⟨mw_870, List.forall_mem_cons.mpr ⟨mw_711, List.forall_mem_cons.mpr ⟨mw_871, List.forall_mem_cons.mpr ⟨mw_873, List.forall_mem_cons.mpr ⟨mw_23, List.forall_mem_cons.mpr ⟨mw_874, List.forall_mem_cons.mpr ⟨mw_730, List.forall_mem_cons.mpr ⟨mw_875, List.forall_mem_cons.mpr ⟨mw_877, List.forall_mem_cons.mpr ⟨mw_24, List.forall_mem_cons.mpr ⟨mw_878, List.forall_mem_cons.mpr ⟨mw_729, List.forall_mem_cons.mpr ⟨mw_731, List.forall_mem_cons.mpr ⟨mw_879, nn_in⟩⟩⟩⟩⟩⟩⟩⟩⟩⟩⟩⟩⟩⟩⟩⟩⟩⟩⟩⟩⟩⟩⟩⟩
set_option maxRecDepth 100000 in
theorem in_wsX8_let_r2 : ∀ w ∈ wsX8_let_r2, w ∈ lw_tbl := List.forall_mem_cons.mpr ⟨mw_880, List.forall_mem_cons.mpr ⟨mw_881, nn_in⟩⟩
set_option maxRecDepth 100000 in
theorem in_wsX8_let : ∀ w ∈ wsX8_let, w ∈ lw_tbl := List.forall_mem_cons.mpr ⟨mw_894, List.forall_mem_append.mpr ⟨List.forall_mem_append.mpr ⟨in_wsX8_let_r1, in_wsX8_let_r2⟩, in_wsX80⟩⟩
theorem mw_893 : Cond.selects RX8 yX8_let yX8_let ∈ lw_tbl := tb_4 (List.mem_of_getElem? (i := 142) rfl)
theorem mw_892 : Cond.instanceMethod yX8_let ∈ lw_tbl := tb_4 (List.mem_of_getElem? (i := 141) rfl)
theorem mw_891 : Cond.methodLink RL 70 yX8_let ∈ lw_tbl := tb_4 (List.mem_of_getElem? (i := 140) rfl)
set_option maxRecDepth 100000 in
theorem gt_X8_let : GoodIn lw_tbl (wsV RL 70 RX8 yX8_let wsX8_let) := goodIn_sub (List.forall_mem_append.mpr ⟨List.forall_mem_cons.mpr ⟨mw_891, List.forall_mem_cons.mpr ⟨mw_892, List.forall_mem_cons.mpr ⟨mw_893, List.forall_mem_cons.mpr ⟨mw_41, nn_in⟩⟩⟩⟩, in_wsX8_let⟩) (by decide +kernel)
theorem mw_505 : Cond.code yX7_day cX7_day 2 (some .int) ∈ lw_tbl := tb_2 (List.mem_of_getElem? (i := 234) rfl)
set_option maxRecDepth 100000 in
theorem in_wsX7_day_r1 : ∀ w ∈ wsX7_day_r1, w ∈ lw_tbl := List.forall_mem_cons.mpr ⟨mw_220, List.forall_mem_cons.mpr ⟨mw_221, List.forall_mem_cons.mpr ⟨mw_214, List.forall_mem_cons.mpr ⟨mw_216, List.forall_mem_cons.mpr ⟨mw_264, List.forall_mem_cons.mpr ⟨mw_257, List.forall_mem_cons.mpr ⟨mw_32, List.forall_mem_cons.mpr ⟨mw_258, List.forall_mem_cons.mpr ⟨mw_425, List.forall_mem_cons.mpr ⟨mw_427, List.forall_mem_cons.mpr ⟨mw_8, List.forall_mem_cons.mpr ⟨mw_428, List.forall_mem_cons.mpr ⟨mw_218, List.forall_mem_cons.mpr ⟨mw_429, List.forall_mem_cons.mpr ⟨mw_430, List.forall_mem_cons.mpr ⟨mw_431, List.forall_mem_cons.mpr ⟨mw_35, List.forall_mem_cons.mpr ⟨mw_432, List.forall_mem_cons.mpr ⟨mw_96, List.forall_mem_cons.mpr ⟨mw_433, List.forall_mem_cons.mpr ⟨mw_434, List.forall_mem_cons.mpr ⟨mw_435, List.forall_mem_cons.mpr ⟨mw_436, List.forall_mem_cons.mpr ⟨mw_98, nn_in⟩⟩⟩⟩⟩⟩⟩⟩⟩⟩⟩⟩⟩⟩⟩⟩⟩⟩⟩⟩⟩⟩⟩⟩
theorem mw_514 : Cond.methodLink RX4 23 Lib.Math.min.name ∈ lw_tbl := tb_3 (List.mem_of_getElem? (i := 3) rfl)
theorem mw_513 : Cond.code yX4_passNight cX4_passNight 2 none ∈ lw_tbl := tb_3 (List.mem_of_getElem? (i := 2) rfl)
theorem mw_512 : Cond.selects RX4 yX4_passNight yX4_passNight ∈ lw_tbl := tb_3 (List.mem_of_getElem? (i := 1) rfl)
theorem mw_511 : Cond.instanceMethod yX4_passNight ∈ lw_tbl := tb_3 (List.mem_of_getElem? (i := 0) rfl)
theorem mw_510 : Cond.methodLink RX7 202 yX4_passNight ∈ lw_tbl := tb_2 (List.mem_of_getElem? (i := 239) rfl)
theorem mw_509 : Cond.code yX6_fineAll cX6_fineAll 4 (some .int) ∈ lw_tbl := tb_2 (List.mem_of_getElem? (i := 238) rfl)
theorem mw_508 : Cond.selects RX6 yX6_fineAll yX6_fineAll ∈ lw_tbl := tb_2 (List.mem_of_getElem? (i := 237) rfl)
theorem mw_507 : Cond.instanceMethod yX6_fineAll ∈ lw_tbl := tb_2 (List.mem_of_getElem? (i := 236) rfl)
theorem mw_506 : Cond.methodLink RX7 199 yX6_fineAll ∈ lw_tbl := tb_2 (List.mem_of_getElem? (i := 235) rfl)
set_option maxRecDepth 100000 in
theorem in_wsX7_day_r2 : ∀ w ∈ wsX7_day_r2, w ∈ lw_tbl := List.forall_mem_cons.mpr ⟨mw_97, List.forall_mem_cons.mpr ⟨mw_438, List.forall_mem_cons.mpr ⟨mw_439, List.forall_mem_cons.mpr ⟨mw_440, List.forall_mem_cons.mpr ⟨mw_441, List.forall_mem_cons.mpr ⟨mw_506, List.forall_mem_cons.mpr ⟨mw_507, List.forall_mem_cons.mpr ⟨mw_508, List.forall_mem_cons.mpr ⟨mw_39, List.forall_mem_cons.mpr ⟨mw_509, List.forall_mem_cons.mpr ⟨mw_178, List.forall_mem_cons.mpr ⟨mw_175, List.forall_mem_cons.mpr ⟨mw_176, List.forall_mem_cons.mpr ⟨mw_177, List.forall_mem_cons.mpr ⟨mw_510, List.forall_mem_cons.mpr ⟨mw_511, List.forall_mem_cons.mpr ⟨mw_512, List.forall_mem_cons.mpr ⟨mw_33, List.forall_mem_cons.mpr ⟨mw_513, List.forall_mem_cons.mpr ⟨mw_60, List.forall_mem_cons.mpr ⟨mw_514, List.forall_mem_cons.mpr ⟨mw_135, List.forall_mem_cons.mpr ⟨mw_37, List.forall_mem_cons.mpr ⟨mw_136, nn_in⟩⟩⟩⟩⟩⟩⟩⟩⟩⟩⟩⟩⟩⟩⟩⟩⟩⟩⟩⟩⟩⟩⟩⟩
theorem mw_515 : Cond.methodLink RX4 29 Lib.Math.max.name ∈ lw_tbl := tb_3 (List.mem_of_getElem? (i := 4) rfl)
set_option maxRecDepth 100000 in
theorem in_wsX7_day_r3 : ∀ w ∈ wsX7_day_r3, w ∈ lw_tbl := List.forall_mem_cons.mpr ⟨mw_515, List.forall_mem_cons.mpr ⟨mw_138, List.forall_mem_cons.mpr ⟨mw_139, List.forall_mem_cons.mpr ⟨mw_61, List.forall_mem_cons.mpr ⟨mw_62, nn_in⟩⟩⟩⟩⟩
set_option maxRecDepth 100000 in
theorem in_wsX7_day : ∀ w ∈ wsX7_day, w ∈ lw_tbl := List.forall_mem_cons.mpr ⟨mw_505, List.forall_mem_append.mpr ⟨List.forall_mem_append.mpr ⟨List.forall_mem_append.mpr ⟨List.forall_mem_append.mpr ⟨List.forall_mem_append.mpr ⟨in_wsX7_day_r1, List.forall_mem_append.mpr ⟨in_wsX7_day_r2, in_wsX7_day_r3⟩⟩, in_wsX70⟩, in_wsX20⟩, in_wsX60⟩, in_wsX40⟩⟩
theorem mw_504 : Cond.selects RX7 yX7_day yX7_day ∈ lw_tbl := tb_2 (List.mem_of_getElem? (i := 233) rfl)
theorem mw_503 : Cond.instanceMethod yX7_day ∈ lw_tbl := tb_2 (List.mem_of_getElem? (i := 232) rfl)
theorem mw_502 : Cond.methodLink RL 71 yX7_day ∈ lw_tbl := tb_2 (List.mem_of_getElem? (i := 231) rfl)
set_option maxRecDepth 100000 in
theorem gt_X7_day : GoodIn lw_tbl (wsV RL 71 RX7 yX7_day wsX7_day) := goodIn_sub (List.forall_mem_append.mpr ⟨List.forall_mem_cons.mpr ⟨mw_502, List.forall_mem_cons.mpr ⟨mw_503, List.forall_mem_cons.mpr ⟨mw_504, List.forall_mem_cons.mpr ⟨mw_32, nn_in⟩⟩⟩⟩, in_wsX7_day⟩) (by decide +kernel)
theorem mw_898 : Cond.code yX8_day cX8_day 3 (some .int) ∈ lw_tbl := tb_4 (List.mem_of_getElem? (i := 147) rfl)
set_option maxRecDepth 100000 in
theorem in_wsX8_day_r1 : ∀ w ∈ wsX8_day_r1, w ∈ lw_tbl := List.forall_mem_cons.mpr ⟨mw_711, List.forall_mem_cons.mpr ⟨mw_715, List.forall_mem_cons.mpr ⟨mw_698, List.forall_mem_cons.mpr ⟨mw_135, List.forall_mem_cons.mpr ⟨mw_37, List.forall_mem_cons.mpr ⟨mw_136, List.forall_mem_cons.mpr ⟨mw_699, List.forall_mem_cons.mpr ⟨mw_138, List.forall_mem_cons.mpr ⟨mw_139, List.forall_mem_cons.mpr ⟨mw_716, List.forall_mem_cons.mpr ⟨mw_706, List.forall_mem_cons.mpr ⟨mw_707, List.forall_mem_cons.mpr ⟨mw_708, List.forall_mem_cons.mpr ⟨mw_704, List.forall_mem_cons.mpr ⟨mw_720, List.forall_mem_cons.mpr ⟨mw_714, List.forall_mem_cons.mpr ⟨mw_811, List.forall_mem_cons.mpr ⟨mw_812, List.forall_mem_cons.mpr ⟨mw_41, List.forall_mem_cons.mpr ⟨mw_813, List.forall_mem_cons.mpr ⟨mw_867, List.forall_mem_cons.mpr ⟨mw_869, List.forall_mem_cons.mpr ⟨mw_22, List.forall_mem_cons.mpr ⟨mw_870, nn_in⟩⟩⟩⟩⟩⟩⟩⟩⟩⟩⟩⟩⟩⟩⟩⟩⟩⟩⟩⟩⟩⟩⟩⟩
set_option maxRecDepth 100000 in
theorem in_wsX8_day_r2 : ∀ w ∈ wsX8_day_r2, w ∈ lw_tbl := List.forall_mem_cons.mpr ⟨mw_871, List.forall_mem_cons.mpr ⟨mw_873, List.forall_mem_cons.mpr ⟨mw_23, List.forall_mem_cons.mpr ⟨mw_874, List.forall_mem_cons.mpr ⟨mw_730, List.forall_mem_cons.mpr ⟨mw_875, List.forall_mem_cons.mpr ⟨mw_877, List.forall_mem_cons.mpr ⟨mw_24, List.forall_mem_cons.mpr ⟨mw_878, List.forall_mem_cons.mpr ⟨mw_729, List.forall_mem_cons.mpr ⟨mw_731, List.forall_mem_cons.mpr ⟨mw_879, List.forall_mem_cons.mpr ⟨mw_880, List.forall_mem_cons.mpr ⟨mw_881, nn_in⟩⟩⟩⟩⟩⟩⟩⟩⟩⟩⟩⟩⟩⟩
set_option maxRecDepth 100000 in
theorem in_wsX8_day : ∀ w ∈ wsX8_day, w ∈ lw_tbl := List.forall_mem_cons.mpr ⟨mw_898, List.forall_mem_append.mpr ⟨List.forall_mem_append.mpr ⟨in_wsX8_day_r1, in_wsX8_day_r2⟩, in_wsX80⟩⟩
theorem mw_897 : Cond.selects RX8 yX8_day yX8_day ∈ lw_tbl := tb_4 (List.mem_of_getElem? (i := 146) rfl)
theorem mw_896 : Cond.instanceMethod yX8_day ∈ lw_tbl := tb_4 (List.mem_of_getElem? (i := 145) rfl)
theorem mw_895 : Cond.methodLink RL 74 yX8_day ∈ lw_tbl := tb_4 (List.mem_of_getElem? (i := 144) rfl)
set_option maxRecDepth 100000 in
theorem gt_X8_day : GoodIn lw_tbl (wsV RL 74 RX8 yX8_day wsX8_day) := goodIn_sub (List.forall_mem_append.mpr ⟨List.forall_mem_cons.mpr ⟨mw_895, List.forall_mem_cons.mpr ⟨mw_896, List.forall_mem_cons.mpr ⟨mw_897, List.forall_mem_cons.mpr ⟨mw_41, nn_in⟩⟩⟩⟩, in_wsX8_day⟩) (by decide +kernel)
theorem mw_519 : Cond.code yX7_back cX7_back 3 (some .boolean) ∈ lw_tbl := tb_3 (List.mem_of_getElem? (i := 8) rfl)
theorem mw_524 : Cond.methodLink RX6 50 yX6_dredgeRow ∈ lw_tbl := tb_3 (List.mem_of_getElem? (i := 13) rfl)
theorem mw_523 : Cond.code yX6_layBack cX6_layBack 3 (some .boolean) ∈ lw_tbl := tb_3 (List.mem_of_getElem? (i := 12) rfl)
theorem mw_522 : Cond.selects RX6 yX6_layBack yX6_layBack ∈ lw_tbl := tb_3 (List.mem_of_getElem? (i := 11) rfl)
theorem mw_521 : Cond.instanceMethod yX6_layBack ∈ lw_tbl := tb_3 (List.mem_of_getElem? (i := 10) rfl)
theorem mw_520 : Cond.methodLink RX7 205 yX6_layBack ∈ lw_tbl := tb_3 (List.mem_of_getElem? (i := 9) rfl)
set_option maxRecDepth 100000 in
theorem in_wsX7_back : ∀ w ∈ wsX7_back, w ∈ lw_tbl := List.forall_mem_cons.mpr ⟨mw_519, List.forall_mem_append.mpr ⟨List.forall_mem_append.mpr ⟨List.forall_mem_cons.mpr ⟨mw_214, List.forall_mem_cons.mpr ⟨mw_520, List.forall_mem_cons.mpr ⟨mw_521, List.forall_mem_cons.mpr ⟨mw_522, List.forall_mem_cons.mpr ⟨mw_39, List.forall_mem_cons.mpr ⟨mw_523, List.forall_mem_cons.mpr ⟨mw_176, List.forall_mem_cons.mpr ⟨mw_179, List.forall_mem_cons.mpr ⟨mw_340, List.forall_mem_cons.mpr ⟨mw_260, List.forall_mem_cons.mpr ⟨mw_261, List.forall_mem_cons.mpr ⟨mw_262, List.forall_mem_cons.mpr ⟨mw_178, List.forall_mem_cons.mpr ⟨mw_174, List.forall_mem_cons.mpr ⟨mw_257, List.forall_mem_cons.mpr ⟨mw_32, List.forall_mem_cons.mpr ⟨mw_258, List.forall_mem_cons.mpr ⟨mw_524, List.forall_mem_cons.mpr ⟨mw_448, List.forall_mem_cons.mpr ⟨mw_449, List.forall_mem_cons.mpr ⟨mw_450, nn_in⟩⟩⟩⟩⟩⟩⟩⟩⟩⟩⟩⟩⟩⟩⟩⟩⟩⟩⟩⟩⟩, in_wsX70⟩, in_wsX60⟩⟩
theorem mw_518 : Cond.selects RX7 yX7_back yX7_back ∈ lw_tbl := tb_3 (List.mem_of_getElem? (i := 7) rfl)
theorem mw_517 : Cond.instanceMethod yX7_back ∈ lw_tbl := tb_3 (List.mem_of_getElem? (i := 6) rfl)
theorem mw_516 : Cond.methodLink RL 75 yX7_back ∈ lw_tbl := tb_3 (List.mem_of_getElem? (i := 5) rfl)
set_option maxRecDepth 100000 in
theorem gt_X7_back : GoodIn lw_tbl (wsV RL 75 RX7 yX7_back wsX7_back) := goodIn_sub (List.forall_mem_append.mpr ⟨List.forall_mem_cons.mpr ⟨mw_516, List.forall_mem_cons.mpr ⟨mw_517, List.forall_mem_cons.mpr ⟨mw_518, List.forall_mem_cons.mpr ⟨mw_32, nn_in⟩⟩⟩⟩, in_wsX7_back⟩) (by decide +kernel)
theorem mw_902 : Cond.code yX8_back cX8_back 3 (some .boolean) ∈ lw_tbl := tb_4 (List.mem_of_getElem? (i := 151) rfl)
set_option maxRecDepth 100000 in
theorem in_wsX8_back : ∀ w ∈ wsX8_back, w ∈ lw_tbl := List.forall_mem_cons.mpr ⟨mw_902, List.forall_mem_append.mpr ⟨List.forall_mem_cons.mpr ⟨mw_706, List.forall_mem_cons.mpr ⟨mw_707, List.forall_mem_cons.mpr ⟨mw_712, List.forall_mem_cons.mpr ⟨mw_807, List.forall_mem_cons.mpr ⟨mw_809, List.forall_mem_cons.mpr ⟨mw_16, List.forall_mem_cons.mpr ⟨mw_41, List.forall_mem_cons.mpr ⟨mw_810, List.forall_mem_cons.mpr ⟨mw_700, List.forall_mem_cons.mpr ⟨mw_701, List.forall_mem_cons.mpr ⟨mw_811, List.forall_mem_cons.mpr ⟨mw_812, List.forall_mem_cons.mpr ⟨mw_813, nn_in⟩⟩⟩⟩⟩⟩⟩⟩⟩⟩⟩⟩⟩, in_wsX80⟩⟩
theorem mw_901 : Cond.selects RX8 yX8_back yX8_back ∈ lw_tbl := tb_4 (List.mem_of_getElem? (i := 150) rfl)
theorem mw_900 : Cond.instanceMethod yX8_back ∈ lw_tbl := tb_4 (List.mem_of_getElem? (i := 149) rfl)
theorem mw_899 : Cond.methodLink RL 79 yX8_back ∈ lw_tbl := tb_4 (List.mem_of_getElem? (i := 148) rfl)
set_option maxRecDepth 100000 in
theorem gt_X8_back : GoodIn lw_tbl (wsV RL 79 RX8 yX8_back wsX8_back) := goodIn_sub (List.forall_mem_append.mpr ⟨List.forall_mem_cons.mpr ⟨mw_899, List.forall_mem_cons.mpr ⟨mw_900, List.forall_mem_cons.mpr ⟨mw_901, List.forall_mem_cons.mpr ⟨mw_41, nn_in⟩⟩⟩⟩, in_wsX8_back⟩) (by decide +kernel)
theorem mw_528 : Cond.code yX7_feed cX7_feed 6 (some .int) ∈ lw_tbl := tb_3 (List.mem_of_getElem? (i := 17) rfl)
theorem mw_540 : Cond.code yX3_size cX3_size 1 (some .int) ∈ lw_tbl := tb_3 (List.mem_of_getElem? (i := 29) rfl)
theorem mw_539 : Cond.selects RX3 yX3_size yX3_size ∈ lw_tbl := tb_3 (List.mem_of_getElem? (i := 28) rfl)
theorem mw_538 : Cond.instanceMethod yX3_size ∈ lw_tbl := tb_3 (List.mem_of_getElem? (i := 27) rfl)
theorem mw_537 : Cond.methodLink RX7 214 yX3_size ∈ lw_tbl := tb_3 (List.mem_of_getElem? (i := 26) rfl)
theorem mw_536 : Cond.code yX3_append cX3_append 3 none ∈ lw_tbl := tb_3 (List.mem_of_getElem? (i := 25) rfl)
theorem mw_535 : Cond.selects RX3 yX3_append yX3_append ∈ lw_tbl := tb_3 (List.mem_of_getElem? (i := 24) rfl)
theorem mw_534 : Cond.instanceMethod yX3_append ∈ lw_tbl := tb_3 (List.mem_of_getElem? (i := 23) rfl)
theorem mw_533 : Cond.methodLink RX7 211 yX3_append ∈ lw_tbl := tb_3 (List.mem_of_getElem? (i := 22) rfl)
theorem mw_532 : Cond.code yX3_hasRoom cX3_hasRoom 1 (some .boolean) ∈ lw_tbl := tb_3 (List.mem_of_getElem? (i := 21) rfl)
theorem mw_531 : Cond.selects RX3 yX3_hasRoom yX3_hasRoom ∈ lw_tbl := tb_3 (List.mem_of_getElem? (i := 20) rfl)
theorem mw_530 : Cond.instanceMethod yX3_hasRoom ∈ lw_tbl := tb_3 (List.mem_of_getElem? (i := 19) rfl)
theorem mw_529 : Cond.methodLink RX7 208 yX3_hasRoom ∈ lw_tbl := tb_3 (List.mem_of_getElem? (i := 18) rfl)
set_option maxRecDepth 100000 in
theorem in_wsX7_feed : ∀ w ∈ wsX7_feed, w ∈ lw_tbl := List.forall_mem_cons.mpr ⟨mw_528, List.forall_mem_append.mpr ⟨List.forall_mem_append.mpr ⟨List.forall_mem_cons.mpr ⟨mw_219, List.forall_mem_cons.mpr ⟨mw_529, List.forall_mem_cons.mpr ⟨mw_530, List.forall_mem_cons.mpr ⟨mw_531, List.forall_mem_cons.mpr ⟨mw_36, List.forall_mem_cons.mpr ⟨mw_532, List.forall_mem_cons.mpr ⟨mw_114, List.forall_mem_cons.mpr ⟨mw_533, List.forall_mem_cons.mpr ⟨mw_534, List.forall_mem_cons.mpr ⟨mw_535, List.forall_mem_cons.mpr ⟨mw_536, List.forall_mem_cons.mpr ⟨mw_112, List.forall_mem_cons.mpr ⟨mw_537, List.forall_mem_cons.mpr ⟨mw_538, List.forall_mem_cons.mpr ⟨mw_539, List.forall_mem_cons.mpr ⟨mw_540, nn_in⟩⟩⟩⟩⟩⟩⟩⟩⟩⟩⟩⟩⟩⟩⟩⟩, in_wsX70⟩, in_wsX30⟩⟩
theorem mw_527 : Cond.selects RX7 yX7_feed yX7_feed ∈ lw_tbl := tb_3 (List.mem_of_getElem? (i := 16) rfl)
theorem mw_526 : Cond.instanceMethod yX7_feed ∈ lw_tbl := tb_3 (List.mem_of_getElem? (i := 15) rfl)
theorem mw_525 : Cond.methodLink RL 80 yX7_feed ∈ lw_tbl := tb_3 (List.mem_of_getElem? (i := 14) rfl)
set_option maxRecDepth 100000 in
theorem gt_X7_feed : GoodIn lw_tbl (wsV RL 80 RX7 yX7_feed wsX7_feed) := goodIn_sub (List.forall_mem_append.mpr ⟨List.forall_mem_cons.mpr ⟨mw_525, List.forall_mem_cons.mpr ⟨mw_526, List.forall_mem_cons.mpr ⟨mw_527, List.forall_mem_cons.mpr ⟨mw_32, nn_in⟩⟩⟩⟩, in_wsX7_feed⟩) (by decide +kernel)
theorem mw_906 : Cond.code yX8_feed cX8_feed 6 (some .int) ∈ lw_tbl := tb_4 (List.mem_of_getElem? (i := 155) rfl)
theorem mw_910 : Cond.code yX8_four cX8_four 3 none ∈ lw_tbl := tb_4 (List.mem_of_getElem? (i := 159) rfl)
theorem mw_25 : Cond.selects RX8 yX8_four yX8_four ∈ lw_tbl := tb_p (List.mem_of_getElem? (i := 25) rfl)
theorem mw_909 : Cond.instanceMethod yX8_four ∈ lw_tbl := tb_4 (List.mem_of_getElem? (i := 158) rfl)
theorem mw_907 : Cond.methodLink RX8 150 yX8_four ∈ lw_tbl := tb_4 (List.mem_of_getElem? (i := 156) rfl)
theorem mw_725 : Cond.fieldLink RX8 147 "DredgePondModel" "taped" "I" ∈ lw_tbl := tb_3 (List.mem_of_getElem? (i := 214) rfl)
set_option maxRecDepth 100000 in
theorem in_wsX8_feed : ∀ w ∈ wsX8_feed, w ∈ lw_tbl := List.forall_mem_cons.mpr ⟨mw_906, List.forall_mem_append.mpr ⟨List.forall_mem_cons.mpr ⟨mw_725, List.forall_mem_cons.mpr ⟨mw_907, List.forall_mem_cons.mpr ⟨mw_909, List.forall_mem_cons.mpr ⟨mw_25, List.forall_mem_cons.mpr ⟨mw_41, List.forall_mem_cons.mpr ⟨mw_910, List.forall_mem_cons.mpr ⟨mw_723, nn_in⟩⟩⟩⟩⟩⟩⟩, in_wsX80⟩⟩
theorem mw_905 : Cond.selects RX8 yX8_feed yX8_feed ∈ lw_tbl := tb_4 (List.mem_of_getElem? (i := 154) rfl)
theorem mw_904 : Cond.instanceMethod yX8_feed ∈ lw_tbl := tb_4 (List.mem_of_getElem? (i := 153) rfl)
theorem mw_903 : Cond.methodLink RL 84 yX8_feed ∈ lw_tbl := tb_4 (List.mem_of_getElem? (i := 152) rfl)
set_option maxRecDepth 100000 in
theorem gt_X8_feed : GoodIn lw_tbl (wsV RL 84 RX8 yX8_feed wsX8_feed) := goodIn_sub (List.forall_mem_append.mpr ⟨List.forall_mem_cons.mpr ⟨mw_903, List.forall_mem_cons.mpr ⟨mw_904, List.forall_mem_cons.mpr ⟨mw_905, List.forall_mem_cons.mpr ⟨mw_41, nn_in⟩⟩⟩⟩, in_wsX8_feed⟩) (by decide +kernel)
theorem mw_544 : Cond.code yX7_law cX7_law 2 (some .int) ∈ lw_tbl := tb_3 (List.mem_of_getElem? (i := 33) rfl)
theorem mw_552 : Cond.code yX3_read cX3_read 3 (some .int) ∈ lw_tbl := tb_3 (List.mem_of_getElem? (i := 41) rfl)
theorem mw_551 : Cond.selects RX3 yX3_read yX3_read ∈ lw_tbl := tb_3 (List.mem_of_getElem? (i := 40) rfl)
theorem mw_550 : Cond.instanceMethod yX3_read ∈ lw_tbl := tb_3 (List.mem_of_getElem? (i := 39) rfl)
theorem mw_549 : Cond.methodLink RX7 220 yX3_read ∈ lw_tbl := tb_3 (List.mem_of_getElem? (i := 38) rfl)
theorem mw_548 : Cond.code yX2_isFull cX2_isFull 1 (some .boolean) ∈ lw_tbl := tb_3 (List.mem_of_getElem? (i := 37) rfl)
theorem mw_547 : Cond.selects RX2 yX2_isFull yX2_isFull ∈ lw_tbl := tb_3 (List.mem_of_getElem? (i := 36) rfl)
theorem mw_546 : Cond.instanceMethod yX2_isFull ∈ lw_tbl := tb_3 (List.mem_of_getElem? (i := 35) rfl)
theorem mw_545 : Cond.methodLink RX7 217 yX2_isFull ∈ lw_tbl := tb_3 (List.mem_of_getElem? (i := 34) rfl)
set_option maxRecDepth 100000 in
theorem in_wsX7_law_r1 : ∀ w ∈ wsX7_law_r1, w ∈ lw_tbl := List.forall_mem_cons.mpr ⟨mw_219, List.forall_mem_cons.mpr ⟨mw_218, List.forall_mem_cons.mpr ⟨mw_222, List.forall_mem_cons.mpr ⟨mw_220, List.forall_mem_cons.mpr ⟨mw_537, List.forall_mem_cons.mpr ⟨mw_538, List.forall_mem_cons.mpr ⟨mw_539, List.forall_mem_cons.mpr ⟨mw_36, List.forall_mem_cons.mpr ⟨mw_540, List.forall_mem_cons.mpr ⟨mw_114, List.forall_mem_cons.mpr ⟨mw_264, List.forall_mem_cons.mpr ⟨mw_257, List.forall_mem_cons.mpr ⟨mw_32, List.forall_mem_cons.mpr ⟨mw_258, List.forall_mem_cons.mpr ⟨mw_545, List.forall_mem_cons.mpr ⟨mw_546, List.forall_mem_cons.mpr ⟨mw_547, List.forall_mem_cons.mpr ⟨mw_35, List.forall_mem_cons.mpr ⟨mw_548, List.forall_mem_cons.mpr ⟨mw_98, List.forall_mem_cons.mpr ⟨mw_549, List.forall_mem_cons.mpr ⟨mw_550, List.forall_mem_cons.mpr ⟨mw_551, List.forall_mem_cons.mpr ⟨mw_552, nn_in⟩⟩⟩⟩⟩⟩⟩⟩⟩⟩⟩⟩⟩⟩⟩⟩⟩⟩⟩⟩⟩⟩⟩⟩
theorem mw_562 : Cond.code yX3_isBlank cX3_isBlank 1 (some .boolean) ∈ lw_tbl := tb_3 (List.mem_of_getElem? (i := 51) rfl)
theorem mw_561 : Cond.static yX3_isBlank ∈ lw_tbl := tb_3 (List.mem_of_getElem? (i := 50) rfl)
theorem mw_560 : Cond.methodLink RX3 94 yX3_isBlank ∈ lw_tbl := tb_3 (List.mem_of_getElem? (i := 49) rfl)
theorem mw_559 : Cond.code yX3_scan cX3_scan 1 none ∈ lw_tbl := tb_3 (List.mem_of_getElem? (i := 48) rfl)
theorem mw_11 : Cond.selects RX3 yX3_scan yX3_scan ∈ lw_tbl := tb_p (List.mem_of_getElem? (i := 11) rfl)
theorem mw_558 : Cond.instanceMethod yX3_scan ∈ lw_tbl := tb_3 (List.mem_of_getElem? (i := 47) rfl)
theorem mw_556 : Cond.methodLink RX3 53 yX3_scan ∈ lw_tbl := tb_3 (List.mem_of_getElem? (i := 45) rfl)
theorem mw_555 : Cond.methodLink RX3 49 yX2_usual ∈ lw_tbl := tb_3 (List.mem_of_getElem? (i := 44) rfl)
theorem mw_554 : Cond.methodLink RX3 46 Lib.Math.max.name ∈ lw_tbl := tb_3 (List.mem_of_getElem? (i := 43) rfl)
theorem mw_553 : Cond.methodLink RX3 40 Lib.Math.min.name ∈ lw_tbl := tb_3 (List.mem_of_getElem? (i := 42) rfl)
set_option maxRecDepth 100000 in
theorem in_wsX7_law_r2 : ∀ w ∈ wsX7_law_r2, w ∈ lw_tbl := List.forall_mem_cons.mpr ⟨mw_553, List.forall_mem_cons.mpr ⟨mw_135, List.forall_mem_cons.mpr ⟨mw_37, List.forall_mem_cons.mpr ⟨mw_136, List.forall_mem_cons.mpr ⟨mw_554, List.forall_mem_cons.mpr ⟨mw_138, List.forall_mem_cons.mpr ⟨mw_139, List.forall_mem_cons.mpr ⟨mw_115, List.forall_mem_cons.mpr ⟨mw_118, List.forall_mem_cons.mpr ⟨mw_113, List.forall_mem_cons.mpr ⟨mw_116, List.forall_mem_cons.mpr ⟨mw_117, List.forall_mem_cons.mpr ⟨mw_555, List.forall_mem_cons.mpr ⟨mw_439, List.forall_mem_cons.mpr ⟨mw_440, List.forall_mem_cons.mpr ⟨mw_441, List.forall_mem_cons.mpr ⟨mw_556, List.forall_mem_cons.mpr ⟨mw_558, List.forall_mem_cons.mpr ⟨mw_11, List.forall_mem_cons.mpr ⟨mw_559, List.forall_mem_cons.mpr ⟨mw_112, List.forall_mem_cons.mpr ⟨mw_560, List.forall_mem_cons.mpr ⟨mw_561, List.forall_mem_cons.mpr ⟨mw_562, nn_in⟩⟩⟩⟩⟩⟩⟩⟩⟩⟩⟩⟩⟩⟩⟩⟩⟩⟩⟩⟩⟩⟩⟩⟩
theorem mw_586 : Cond.selects RJ0 yJ0_coder_7d493 yJ0_coder_7d493 ∈ lw_tbl := tb_3 (List.mem_of_getElem? (i := 75) rfl)
theorem mw_585 : Cond.instanceMethod yJ0_coder_7d493 ∈ lw_tbl := tb_3 (List.mem_of_getElem? (i := 74) rfl)
theorem mw_584 : Cond.methodLink RJ0 335 yJ0_coder_7d493 ∈ lw_tbl := tb_3 (List.mem_of_getElem? (i := 73) rfl)
theorem mw_959 : Cond.fieldLink RJ0 9 "java/lang/String" "value" "[B" ∈ lw_tbl := tb_4 (List.mem_of_getElem? (i := 208) rfl)
theorem mw_583 : Cond.code yJ0_length_8abf5 cJ0_length_8abf5 1 (some .int) ∈ lw_tbl := tb_3 (List.mem_of_getElem? (i := 72) rfl)
theorem mw_42 : Cond.initialized RJ0 ∈ lw_tbl := tb_1 (List.mem_of_getElem? (i := 11) rfl)
theorem mw_582 : Cond.selects RJ0 yJ0_length_8abf5 yJ0_length_8abf5 ∈ lw_tbl := tb_3 (List.mem_of_getElem? (i := 71) rfl)
theorem mw_581 : Cond.instanceMethod yJ0_length_8abf5 ∈ lw_tbl := tb_3 (List.mem_of_getElem? (i := 70) rfl)
theorem mw_580 : Cond.methodLink RX3 86 yJ0_length_8abf5 ∈ lw_tbl := tb_3 (List.mem_of_getElem? (i := 69) rfl)
theorem mw_579 : Cond.code yX3_isWord cX3_isWord 3 (some .boolean) ∈ lw_tbl := tb_3 (List.mem_of_getElem? (i := 68) rfl)
theorem mw_14 : Cond.selects RX3 yX3_isWord yX3_isWord ∈ lw_tbl := tb_p (List.mem_of_getElem? (i := 14) rfl)
theorem mw_578 : Cond.instanceMethod yX3_isWord ∈ lw_tbl := tb_3 (List.mem_of_getElem? (i := 67) rfl)
theorem mw_576 : Cond.methodLink RX3 70 yX3_isWord ∈ lw_tbl := tb_3 (List.mem_of_getElem? (i := 65) rfl)
theorem mw_574 : Cond.code yX3_keyword cX3_keyword 1 (some .int) ∈ lw_tbl := tb_3 (List.mem_of_getElem? (i := 63) rfl)
theorem mw_13 : Cond.selects RX3 yX3_keyword yX3_keyword ∈ lw_tbl := tb_p (List.mem_of_getElem? (i := 13) rfl)
theorem mw_573 : Cond.instanceMethod yX3_keyword ∈ lw_tbl := tb_3 (List.mem_of_getElem? (i := 62) rfl)
theorem mw_571 : Cond.methodLink RX3 60 yX3_keyword ∈ lw_tbl := tb_3 (List.mem_of_getElem? (i := 60) rfl)
theorem mw_570 : Cond.code yX3_readStatement cX3_readStatement 2 (some .boolean) ∈ lw_tbl := tb_3 (List.mem_of_getElem? (i := 59) rfl)
theorem mw_12 : Cond.selects RX3 yX3_readStatement yX3_readStatement ∈ lw_tbl := tb_p (List.mem_of_getElem? (i := 12) rfl)
theorem mw_569 : Cond.instanceMethod yX3_readStatement ∈ lw_tbl := tb_3 (List.mem_of_getElem? (i := 58) rfl)
theorem mw_567 : Cond.methodLink RX3 56 yX3_readStatement ∈ lw_tbl := tb_3 (List.mem_of_getElem? (i := 56) rfl)
theorem mw_565 : Cond.code yX3_kindOf cX3_kindOf 1 (some .int) ∈ lw_tbl := tb_3 (List.mem_of_getElem? (i := 54) rfl)
theorem mw_564 : Cond.static yX3_kindOf ∈ lw_tbl := tb_3 (List.mem_of_getElem? (i := 53) rfl)
theorem mw_563 : Cond.methodLink RX3 97 yX3_kindOf ∈ lw_tbl := tb_3 (List.mem_of_getElem? (i := 52) rfl)
set_option maxRecDepth 100000 in
theorem in_wsX7_law_r3 : ∀ w ∈ wsX7_law_r3, w ∈ lw_tbl := List.forall_mem_cons.mpr ⟨mw_563, List.forall_mem_cons.mpr ⟨mw_564, List.forall_mem_cons.mpr ⟨mw_565, List.forall_mem_cons.mpr ⟨mw_567, List.forall_mem_cons.mpr ⟨mw_569, List.forall_mem_cons.mpr ⟨mw_12, List.forall_mem_cons.mpr ⟨mw_570, List.forall_mem_cons.mpr ⟨mw_571, List.forall_mem_cons.mpr ⟨mw_573, List.forall_mem_cons.mpr ⟨mw_13, List.forall_mem_cons.mpr ⟨mw_574, List.forall_mem_cons.mpr ⟨mw_576, List.forall_mem_cons.mpr ⟨mw_578, List.forall_mem_cons.mpr ⟨mw_14, List.forall_mem_cons.mpr ⟨mw_579, List.forall_mem_cons.mpr ⟨mw_580, List.forall_mem_cons.mpr ⟨mw_581, List.forall_mem_cons.mpr ⟨mw_582, List.forall_mem_cons.mpr ⟨mw_42, List.forall_mem_cons.mpr ⟨mw_583, List.forall_mem_cons.mpr ⟨mw_959, List.forall_mem_cons.mpr ⟨mw_584, List.forall_mem_cons.mpr ⟨mw_585, List.forall_mem_cons.mpr ⟨mw_586, nn_in⟩⟩⟩⟩⟩⟩⟩⟩⟩⟩⟩⟩⟩⟩⟩⟩⟩⟩⟩⟩⟩⟩⟩⟩
theorem mw_609 : Cond.methodLink RJ0 498 yJ2_charAt_3b067 ∈ lw_tbl := tb_3 (List.mem_of_getElem? (i := 98) rfl)
theorem mw_608 : Cond.code yJ3_checkIndex_8e157 cJ3_checkIndex_8e157 3 (some .int) ∈ lw_tbl := tb_3 (List.mem_of_getElem? (i := 97) rfl)
theorem mw_44 : Cond.initialized RJ3 ∈ lw_tbl := tb_1 (List.mem_of_getElem? (i := 13) rfl)
theorem mw_607 : Cond.static yJ3_checkIndex_8e157 ∈ lw_tbl := tb_3 (List.mem_of_getElem? (i := 96) rfl)
theorem mw_606 : Cond.methodLink RJ0 1059 yJ3_checkIndex_8e157 ∈ lw_tbl := tb_3 (List.mem_of_getElem? (i := 95) rfl)
theorem mw_604 : Cond.fieldLink RJ0 1053 "jdk/internal/util/Preconditions" "SIOOBE_FORMATTER" "Ljava/util/function/BiFunction;" ∈ lw_tbl := tb_3 (List.mem_of_getElem? (i := 93) rfl)
theorem mw_603 : Cond.code yJ0_checkIndex_df160 cJ0_checkIndex_df160 2 none ∈ lw_tbl := tb_3 (List.mem_of_getElem? (i := 92) rfl)
theorem mw_602 : Cond.static yJ0_checkIndex_df160 ∈ lw_tbl := tb_3 (List.mem_of_getElem? (i := 91) rfl)
theorem mw_601 : Cond.methodLink RJ1 9 yJ0_checkIndex_df160 ∈ lw_tbl := tb_3 (List.mem_of_getElem? (i := 90) rfl)
theorem mw_600 : Cond.code yJ1_charAt_3b067 cJ1_charAt_3b067 2 (some .char) ∈ lw_tbl := tb_3 (List.mem_of_getElem? (i := 89) rfl)
theorem mw_43 : Cond.initialized RJ1 ∈ lw_tbl := tb_1 (List.mem_of_getElem? (i := 12) rfl)
theorem mw_599 : Cond.static yJ1_charAt_3b067 ∈ lw_tbl := tb_3 (List.mem_of_getElem? (i := 88) rfl)
theorem mw_598 : Cond.methodLink RJ0 495 yJ1_charAt_3b067 ∈ lw_tbl := tb_3 (List.mem_of_getElem? (i := 87) rfl)
theorem mw_597 : Cond.code yJ0_isLatin1_aae02 cJ0_isLatin1_aae02 1 (some .boolean) ∈ lw_tbl := tb_3 (List.mem_of_getElem? (i := 86) rfl)
theorem mw_596 : Cond.selects RJ0 yJ0_isLatin1_aae02 yJ0_isLatin1_aae02 ∈ lw_tbl := tb_3 (List.mem_of_getElem? (i := 85) rfl)
theorem mw_595 : Cond.instanceMethod yJ0_isLatin1_aae02 ∈ lw_tbl := tb_3 (List.mem_of_getElem? (i := 84) rfl)
theorem mw_594 : Cond.methodLink RJ0 492 yJ0_isLatin1_aae02 ∈ lw_tbl := tb_3 (List.mem_of_getElem? (i := 83) rfl)
theorem mw_593 : Cond.code yJ0_charAt_5068e cJ0_charAt_5068e 2 (some .char) ∈ lw_tbl := tb_3 (List.mem_of_getElem? (i := 82) rfl)
theorem mw_592 : Cond.selects RJ0 yJ0_charAt_5068e yJ0_charAt_5068e ∈ lw_tbl := tb_3 (List.mem_of_getElem? (i := 81) rfl)
theorem mw_591 : Cond.instanceMethod yJ0_charAt_5068e ∈ lw_tbl := tb_3 (List.mem_of_getElem? (i := 80) rfl)
theorem mw_590 : Cond.methodLink RX3 90 yJ0_charAt_5068e ∈ lw_tbl := tb_3 (List.mem_of_getElem? (i := 79) rfl)
theorem mw_960 : Cond.fieldLink RJ0 15 "java/lang/String" "coder" "B" ∈ lw_tbl := tb_4 (List.mem_of_getElem? (i := 209) rfl)
theorem mw_588 : Cond.fieldLink RJ0 38 "java/lang/String" "COMPACT_STRINGS" "Z" ∈ lw_tbl := tb_3 (List.mem_of_getElem? (i := 77) rfl)
theorem mw_587 : Cond.code yJ0_coder_7d493 cJ0_coder_7d493 1 (some .byte) ∈ lw_tbl := tb_3 (List.mem_of_getElem? (i := 76) rfl)
set_option maxRecDepth 100000 in
theorem in_wsX7_law_r4 : ∀ w ∈ wsX7_law_r4, w ∈ lw_tbl := List.forall_mem_cons.mpr ⟨mw_587, List.forall_mem_cons.mpr ⟨mw_588, List.forall_mem_cons.mpr ⟨mw_960, List.forall_mem_cons.mpr ⟨mw_590, List.forall_mem_cons.mpr ⟨mw_591, List.forall_mem_cons.mpr ⟨mw_592, List.forall_mem_cons.mpr ⟨mw_593, List.forall_mem_cons.mpr ⟨mw_594, List.forall_mem_cons.mpr ⟨mw_595, List.forall_mem_cons.mpr ⟨mw_596, List.forall_mem_cons.mpr ⟨mw_597, List.forall_mem_cons.mpr ⟨mw_598, List.forall_mem_cons.mpr ⟨mw_599, List.forall_mem_cons.mpr ⟨mw_43, List.forall_mem_cons.mpr ⟨mw_600, List.forall_mem_cons.mpr ⟨mw_601, List.forall_mem_cons.mpr ⟨mw_602, List.forall_mem_cons.mpr ⟨mw_603, List.forall_mem_cons.mpr ⟨mw_604, List.forall_mem_cons.mpr ⟨mw_606, List.forall_mem_cons.mpr ⟨mw_607, List.forall_mem_cons.mpr ⟨mw_44, List.forall_mem_cons.mpr ⟨mw_608, List.forall_mem_cons.mpr ⟨mw_609, nn_in⟩⟩⟩⟩⟩⟩⟩⟩⟩⟩⟩⟩⟩⟩⟩⟩⟩⟩⟩⟩⟩⟩⟩⟩
theorem mw_641 : Cond.code yX2_take cX2_take 5 (some .int) ∈ lw_tbl := tb_3 (List.mem_of_getElem? (i := 130) rfl)
theorem mw_640 : Cond.selects RX2 yX2_take yX2_take ∈ lw_tbl := tb_3 (List.mem_of_getElem? (i := 129) rfl)
theorem mw_639 : Cond.instanceMethod yX2_take ∈ lw_tbl := tb_3 (List.mem_of_getElem? (i := 128) rfl)
theorem mw_638 : Cond.methodLink RX7 223 yX2_take ∈ lw_tbl := tb_3 (List.mem_of_getElem? (i := 127) rfl)
theorem mw_636 : Cond.code yX3_readNumber cX3_readNumber 4 (some .boolean) ∈ lw_tbl := tb_3 (List.mem_of_getElem? (i := 125) rfl)
theorem mw_15 : Cond.selects RX3 yX3_readNumber yX3_readNumber ∈ lw_tbl := tb_p (List.mem_of_getElem? (i := 15) rfl)
theorem mw_635 : Cond.instanceMethod yX3_readNumber ∈ lw_tbl := tb_3 (List.mem_of_getElem? (i := 124) rfl)
theorem mw_633 : Cond.methodLink RX3 64 yX3_readNumber ∈ lw_tbl := tb_3 (List.mem_of_getElem? (i := 122) rfl)
theorem mw_626 : Cond.fieldLink RJ2 63 "java/lang/StringUTF16" "LO_BYTE_SHIFT" "I" ∈ lw_tbl := tb_3 (List.mem_of_getElem? (i := 115) rfl)
theorem mw_624 : Cond.fieldLink RJ2 59 "java/lang/StringUTF16" "HI_BYTE_SHIFT" "I" ∈ lw_tbl := tb_3 (List.mem_of_getElem? (i := 113) rfl)
theorem mw_622 : Cond.fieldLink RJ2 44 "java/lang/StringUTF16" "$assertionsDisabled" "Z" ∈ lw_tbl := tb_3 (List.mem_of_getElem? (i := 111) rfl)
theorem mw_621 : Cond.code yJ2_getChar_3b067 cJ2_getChar_3b067 2 (some .char) ∈ lw_tbl := tb_3 (List.mem_of_getElem? (i := 110) rfl)
theorem mw_620 : Cond.static yJ2_getChar_3b067 ∈ lw_tbl := tb_3 (List.mem_of_getElem? (i := 109) rfl)
theorem mw_619 : Cond.methodLink RJ2 71 yJ2_getChar_3b067 ∈ lw_tbl := tb_3 (List.mem_of_getElem? (i := 108) rfl)
theorem mw_618 : Cond.methodLink RJ2 414 yJ0_checkIndex_df160 ∈ lw_tbl := tb_3 (List.mem_of_getElem? (i := 107) rfl)
theorem mw_617 : Cond.code yJ2_length_9d52b cJ2_length_9d52b 1 (some .int) ∈ lw_tbl := tb_3 (List.mem_of_getElem? (i := 106) rfl)
theorem mw_616 : Cond.static yJ2_length_9d52b ∈ lw_tbl := tb_3 (List.mem_of_getElem? (i := 105) rfl)
theorem mw_615 : Cond.methodLink RJ2 48 yJ2_length_9d52b ∈ lw_tbl := tb_3 (List.mem_of_getElem? (i := 104) rfl)
theorem mw_614 : Cond.code yJ2_checkIndex_2214a cJ2_checkIndex_2214a 2 none ∈ lw_tbl := tb_3 (List.mem_of_getElem? (i := 103) rfl)
theorem mw_613 : Cond.static yJ2_checkIndex_2214a ∈ lw_tbl := tb_3 (List.mem_of_getElem? (i := 102) rfl)
theorem mw_612 : Cond.methodLink RJ2 67 yJ2_checkIndex_2214a ∈ lw_tbl := tb_3 (List.mem_of_getElem? (i := 101) rfl)
theorem mw_611 : Cond.code yJ2_charAt_3b067 cJ2_charAt_3b067 2 (some .char) ∈ lw_tbl := tb_3 (List.mem_of_getElem? (i := 100) rfl)
theorem mw_45 : Cond.initialized RJ2 ∈ lw_tbl := tb_1 (List.mem_of_getElem? (i := 14) rfl)
theorem mw_610 : Cond.static yJ2_charAt_3b067 ∈ lw_tbl := tb_3 (List.mem_of_getElem? (i := 99) rfl)
set_option maxRecDepth 100000 in
theorem in_wsX7_law_r5 : ∀ w ∈ wsX7_law_r5, w ∈ lw_tbl := List.forall_mem_cons.mpr ⟨mw_610, List.forall_mem_cons.mpr ⟨mw_45, List.forall_mem_cons.mpr ⟨mw_611, List.forall_mem_cons.mpr ⟨mw_612, List.forall_mem_cons.mpr ⟨mw_613, List.forall_mem_cons.mpr ⟨mw_614, List.forall_mem_cons.mpr ⟨mw_615, List.forall_mem_cons.mpr ⟨mw_616, List.forall_mem_cons.mpr ⟨mw_617, List.forall_mem_cons.mpr ⟨mw_618, List.forall_mem_cons.mpr ⟨mw_619, List.forall_mem_cons.mpr ⟨mw_620, List.forall_mem_cons.mpr ⟨mw_621, List.forall_mem_cons.mpr ⟨mw_622, List.forall_mem_cons.mpr ⟨mw_624, List.forall_mem_cons.mpr ⟨mw_626, List.forall_mem_cons.mpr ⟨mw_633, List.forall_mem_cons.mpr ⟨mw_635, List.forall_mem_cons.mpr ⟨mw_15, List.forall_mem_cons.mpr ⟨mw_636, List.forall_mem_cons.mpr ⟨mw_638, List.forall_mem_cons.mpr ⟨mw_639, List.forall_mem_cons.mpr ⟨mw_640, List.forall_mem_cons.mpr ⟨mw_641, nn_in⟩⟩⟩⟩⟩⟩⟩⟩⟩⟩⟩⟩⟩⟩⟩⟩⟩⟩⟩⟩⟩⟩⟩⟩
theorem mw_646 : Cond.code yX3_termRead cX3_termRead 2 (some .int) ∈ lw_tbl := tb_3 (List.mem_of_getElem? (i := 135) rfl)
theorem mw_645 : Cond.selects RX3 yX3_termRead yX3_termRead ∈ lw_tbl := tb_3 (List.mem_of_getElem? (i := 134) rfl)
theorem mw_644 : Cond.instanceMethod yX3_termRead ∈ lw_tbl := tb_3 (List.mem_of_getElem? (i := 133) rfl)
theorem mw_643 : Cond.methodLink RX2 33 yX3_termRead ∈ lw_tbl := tb_3 (List.mem_of_getElem? (i := 132) rfl)
theorem mw_642 : Cond.methodLink RX2 29 yX2_isFull ∈ lw_tbl := tb_3 (List.mem_of_getElem? (i := 131) rfl)
set_option maxRecDepth 100000 in
theorem in_wsX7_law_r6 : ∀ w ∈ wsX7_law_r6, w ∈ lw_tbl := List.forall_mem_cons.mpr ⟨mw_96, List.forall_mem_cons.mpr ⟨mw_97, List.forall_mem_cons.mpr ⟨mw_642, List.forall_mem_cons.mpr ⟨mw_643, List.forall_mem_cons.mpr ⟨mw_644, List.forall_mem_cons.mpr ⟨mw_645, List.forall_mem_cons.mpr ⟨mw_646, nn_in⟩⟩⟩⟩⟩⟩⟩
set_option maxRecDepth 100000 in
theorem in_wsX7_law : ∀ w ∈ wsX7_law, w ∈ lw_tbl := List.forall_mem_cons.mpr ⟨mw_544, List.forall_mem_append.mpr ⟨List.forall_mem_append.mpr ⟨List.forall_mem_append.mpr ⟨List.forall_mem_append.mpr ⟨in_wsX7_law_r1, List.forall_mem_append.mpr ⟨in_wsX7_law_r2, List.forall_mem_append.mpr ⟨in_wsX7_law_r3, List.forall_mem_append.mpr ⟨in_wsX7_law_r4, List.forall_mem_append.mpr ⟨in_wsX7_law_r5, in_wsX7_law_r6⟩⟩⟩⟩⟩, in_wsX70⟩, in_wsX30⟩, in_wsX20⟩⟩
theorem mw_543 : Cond.selects RX7 yX7_law yX7_law ∈ lw_tbl := tb_3 (List.mem_of_getElem? (i := 32) rfl)
theorem mw_542 : Cond.instanceMethod yX7_law ∈ lw_tbl := tb_3 (List.mem_of_getElem? (i := 31) rfl)
theorem mw_541 : Cond.methodLink RL 85 yX7_law ∈ lw_tbl := tb_3 (List.mem_of_getElem? (i := 30) rfl)
set_option maxRecDepth 100000 in
theorem gt_X7_law : GoodIn lw_tbl (wsV RL 85 RX7 yX7_law wsX7_law) := goodIn_sub (List.forall_mem_append.mpr ⟨List.forall_mem_cons.mpr ⟨mw_541, List.forall_mem_cons.mpr ⟨mw_542, List.forall_mem_cons.mpr ⟨mw_543, List.forall_mem_cons.mpr ⟨mw_32, nn_in⟩⟩⟩⟩, in_wsX7_law⟩) (by decide +kernel)
theorem mw_914 : Cond.code yX8_law cX8_law 4 (some .int) ∈ lw_tbl := tb_4 (List.mem_of_getElem? (i := 163) rfl)
theorem mw_27 : Cond.selects RX8 yX8_statement yX8_statement ∈ lw_tbl := tb_p (List.mem_of_getElem? (i := 27) rfl)
theorem mw_921 : Cond.instanceMethod yX8_statement ∈ lw_tbl := tb_4 (List.mem_of_getElem? (i := 170) rfl)
theorem mw_919 : Cond.methodLink RX8 201 yX8_statement ∈ lw_tbl := tb_4 (List.mem_of_getElem? (i := 168) rfl)
theorem mw_918 : Cond.code yX8_blanks cX8_blanks 1 none ∈ lw_tbl := tb_4 (List.mem_of_getElem? (i := 167) rfl)
theorem mw_26 : Cond.selects RX8 yX8_blanks yX8_blanks ∈ lw_tbl := tb_p (List.mem_of_getElem? (i := 26) rfl)
theorem mw_917 : Cond.instanceMethod yX8_blanks ∈ lw_tbl := tb_4 (List.mem_of_getElem? (i := 166) rfl)
theorem mw_915 : Cond.methodLink RX8 160 yX8_blanks ∈ lw_tbl := tb_4 (List.mem_of_getElem? (i := 164) rfl)
theorem mw_727 : Cond.fieldLink RX8 154 "DredgePondModel" "at" "I" ∈ lw_tbl := tb_3 (List.mem_of_getElem? (i := 216) rfl)
theorem mw_726 : Cond.fieldLink RX8 157 "DredgePondModel" "size" "I" ∈ lw_tbl := tb_3 (List.mem_of_getElem? (i := 215) rfl)
set_option maxRecDepth 100000 in
theorem in_wsX8_law_r1 : ∀ w ∈ wsX8_law_r1, w ∈ lw_tbl := List.forall_mem_cons.mpr ⟨mw_725, List.forall_mem_cons.mpr ⟨mw_729, List.forall_mem_cons.mpr ⟨mw_724, List.forall_mem_cons.mpr ⟨mw_723, List.forall_mem_cons.mpr ⟨mw_726, List.forall_mem_cons.mpr ⟨mw_727, List.forall_mem_cons.mpr ⟨mw_730, List.forall_mem_cons.mpr ⟨mw_728, List.forall_mem_cons.mpr ⟨mw_731, List.forall_mem_cons.mpr ⟨mw_711, List.forall_mem_cons.mpr ⟨mw_811, List.forall_mem_cons.mpr ⟨mw_812, List.forall_mem_cons.mpr ⟨mw_41, List.forall_mem_cons.mpr ⟨mw_813, List.forall_mem_cons.mpr ⟨mw_879, List.forall_mem_cons.mpr ⟨mw_880, List.forall_mem_cons.mpr ⟨mw_881, List.forall_mem_cons.mpr ⟨mw_915, List.forall_mem_cons.mpr ⟨mw_917, List.forall_mem_cons.mpr ⟨mw_26, List.forall_mem_cons.mpr ⟨mw_918, List.forall_mem_cons.mpr ⟨mw_919, List.forall_mem_cons.mpr ⟨mw_921, List.forall_mem_cons.mpr ⟨mw_27, nn_in⟩⟩⟩⟩⟩⟩⟩⟩⟩⟩⟩⟩⟩⟩⟩⟩⟩⟩⟩⟩⟩⟩⟩⟩
theorem mw_940 : Cond.code yX8_takesNumber cX8_takesNumber 2 (some .boolean) ∈ lw_tbl := tb_4 (List.mem_of_getElem? (i := 189) rfl)
theorem mw_30 : Cond.selects RX8 yX8_takesNumber yX8_takesNumber ∈ lw_tbl := tb_p (List.mem_of_getElem? (i := 30) rfl)
theorem mw_939 : Cond.instanceMethod yX8_takesNumber ∈ lw_tbl := tb_4 (List.mem_of_getElem? (i := 188) rfl)
theorem mw_937 : Cond.methodLink RX8 189 yX8_takesNumber ∈ lw_tbl := tb_4 (List.mem_of_getElem? (i := 186) rfl)
theorem mw_931 : Cond.code yX8_word cX8_word 3 (some .long) ∈ lw_tbl := tb_4 (List.mem_of_getElem? (i := 180) rfl)
theorem mw_29 : Cond.selects RX8 yX8_word yX8_word ∈ lw_tbl := tb_p (List.mem_of_getElem? (i := 29) rfl)
theorem mw_930 : Cond.instanceMethod yX8_word ∈ lw_tbl := tb_4 (List.mem_of_getElem? (i := 179) rfl)
theorem mw_928 : Cond.methodLink RX8 166 yX8_word ∈ lw_tbl := tb_4 (List.mem_of_getElem? (i := 177) rfl)
theorem mw_732 : Cond.fieldLink RX8 163 "DredgePondModel" "wordEnd" "I" ∈ lw_tbl := tb_3 (List.mem_of_getElem? (i := 221) rfl)
theorem mw_927 : Cond.code yX8_takes cX8_takes 3 (some .boolean) ∈ lw_tbl := tb_4 (List.mem_of_getElem? (i := 176) rfl)
theorem mw_28 : Cond.selects RX8 yX8_takes yX8_takes ∈ lw_tbl := tb_p (List.mem_of_getElem? (i := 28) rfl)
theorem mw_926 : Cond.instanceMethod yX8_takes ∈ lw_tbl := tb_4 (List.mem_of_getElem? (i := 175) rfl)
theorem mw_924 : Cond.methodLink RX8 175 yX8_takes ∈ lw_tbl := tb_4 (List.mem_of_getElem? (i := 173) rfl)
theorem mw_941 : Cond.constantLong RX8 193 (29807) ∈ lw_tbl := tb_4 (List.mem_of_getElem? (i := 190) rfl)
theorem mw_733 : Cond.fieldLink RX8 170 "DredgePondModel" "number" "I" ∈ lw_tbl := tb_3 (List.mem_of_getElem? (i := 222) rfl)
theorem mw_936 : Cond.constantLong RX8 187 (1718185573) ∈ lw_tbl := tb_4 (List.mem_of_getElem? (i := 185) rfl)
theorem mw_935 : Cond.constantLong RX8 185 (32210714461238393) ∈ lw_tbl := tb_4 (List.mem_of_getElem? (i := 184) rfl)
theorem mw_934 : Cond.constantLong RX8 183 (1650549611) ∈ lw_tbl := tb_4 (List.mem_of_getElem? (i := 183) rfl)
theorem mw_933 : Cond.constantLong RX8 181 (427020345714) ∈ lw_tbl := tb_4 (List.mem_of_getElem? (i := 182) rfl)
theorem mw_932 : Cond.constantLong RX8 179 (1650552427) ∈ lw_tbl := tb_4 (List.mem_of_getElem? (i := 181) rfl)
theorem mw_923 : Cond.constantLong RX8 173 (465558725996) ∈ lw_tbl := tb_4 (List.mem_of_getElem? (i := 172) rfl)
theorem mw_922 : Cond.code yX8_statement cX8_statement 3 (some .boolean) ∈ lw_tbl := tb_4 (List.mem_of_getElem? (i := 171) rfl)
set_option maxRecDepth 100000 in
theorem in_wsX8_law_r2 : ∀ w ∈ wsX8_law_r2, w ∈ lw_tbl := List.forall_mem_cons.mpr ⟨mw_922, List.forall_mem_cons.mpr ⟨mw_923, List.forall_mem_cons.mpr ⟨mw_932, List.forall_mem_cons.mpr ⟨mw_933, List.forall_mem_cons.mpr ⟨mw_934, List.forall_mem_cons.mpr ⟨mw_935, List.forall_mem_cons.mpr ⟨mw_936, List.forall_mem_cons.mpr ⟨mw_733, List.forall_mem_cons.mpr ⟨mw_941, List.forall_mem_cons.mpr ⟨mw_924, List.forall_mem_cons.mpr ⟨mw_926, List.forall_mem_cons.mpr ⟨mw_28, List.forall_mem_cons.mpr ⟨mw_927, List.forall_mem_cons.mpr ⟨mw_732, List.forall_mem_cons.mpr ⟨mw_928, List.forall_mem_cons.mpr ⟨mw_930, List.forall_mem_cons.mpr ⟨mw_29, List.forall_mem_cons.mpr ⟨mw_931, List.forall_mem_cons.mpr ⟨mw_937, List.forall_mem_cons.mpr ⟨mw_939, List.forall_mem_cons.mpr ⟨mw_30, List.forall_mem_cons.mpr ⟨mw_940, nn_in⟩⟩⟩⟩⟩⟩⟩⟩⟩⟩⟩⟩⟩⟩⟩⟩⟩⟩⟩⟩⟩⟩
set_option maxRecDepth 100000 in
theorem in_wsX8_law : ∀ w ∈ wsX8_law, w ∈ lw_tbl := List.forall_mem_cons.mpr ⟨mw_914, List.forall_mem_append.mpr ⟨List.forall_mem_append.mpr ⟨in_wsX8_law_r1, in_wsX8_law_r2⟩, in_wsX80⟩⟩
theorem mw_913 : Cond.selects RX8 yX8_law yX8_law ∈ lw_tbl := tb_4 (List.mem_of_getElem? (i := 162) rfl)
theorem mw_912 : Cond.instanceMethod yX8_law ∈ lw_tbl := tb_4 (List.mem_of_getElem? (i := 161) rfl)
theorem mw_911 : Cond.methodLink RL 88 yX8_law ∈ lw_tbl := tb_4 (List.mem_of_getElem? (i := 160) rfl)
set_option maxRecDepth 100000 in
theorem gt_X8_law : GoodIn lw_tbl (wsV RL 88 RX8 yX8_law wsX8_law) := goodIn_sub (List.forall_mem_append.mpr ⟨List.forall_mem_cons.mpr ⟨mw_911, List.forall_mem_cons.mpr ⟨mw_912, List.forall_mem_cons.mpr ⟨mw_913, List.forall_mem_cons.mpr ⟨mw_41, nn_in⟩⟩⟩⟩, in_wsX8_law⟩) (by decide +kernel)
theorem mw_651 : Cond.code yX7_fault cX7_fault 1 (some .int) ∈ lw_tbl := tb_3 (List.mem_of_getElem? (i := 140) rfl)
set_option maxRecDepth 100000 in
theorem in_wsX7_fault : ∀ w ∈ wsX7_fault, w ∈ lw_tbl := List.forall_mem_cons.mpr ⟨mw_651, List.forall_mem_append.mpr ⟨List.forall_mem_cons.mpr ⟨mw_222, nn_in⟩, in_wsX70⟩⟩
theorem mw_650 : Cond.selects RX7 yX7_fault yX7_fault ∈ lw_tbl := tb_3 (List.mem_of_getElem? (i := 139) rfl)
theorem mw_649 : Cond.instanceMethod yX7_fault ∈ lw_tbl := tb_3 (List.mem_of_getElem? (i := 138) rfl)
theorem mw_648 : Cond.methodLink RL 89 yX7_fault ∈ lw_tbl := tb_3 (List.mem_of_getElem? (i := 137) rfl)
set_option maxRecDepth 100000 in
theorem gt_X7_fault : GoodIn lw_tbl (wsV RL 89 RX7 yX7_fault wsX7_fault) := goodIn_sub (List.forall_mem_append.mpr ⟨List.forall_mem_cons.mpr ⟨mw_648, List.forall_mem_cons.mpr ⟨mw_649, List.forall_mem_cons.mpr ⟨mw_650, List.forall_mem_cons.mpr ⟨mw_32, nn_in⟩⟩⟩⟩, in_wsX7_fault⟩) (by decide +kernel)
theorem mw_945 : Cond.code yX8_fault cX8_fault 1 (some .int) ∈ lw_tbl := tb_4 (List.mem_of_getElem? (i := 194) rfl)
set_option maxRecDepth 100000 in
theorem in_wsX8_fault : ∀ w ∈ wsX8_fault, w ∈ lw_tbl := List.forall_mem_cons.mpr ⟨mw_945, List.forall_mem_append.mpr ⟨List.forall_mem_cons.mpr ⟨mw_728, nn_in⟩, in_wsX80⟩⟩
theorem mw_944 : Cond.selects RX8 yX8_fault yX8_fault ∈ lw_tbl := tb_4 (List.mem_of_getElem? (i := 193) rfl)
theorem mw_943 : Cond.instanceMethod yX8_fault ∈ lw_tbl := tb_4 (List.mem_of_getElem? (i := 192) rfl)
theorem mw_942 : Cond.methodLink RL 92 yX8_fault ∈ lw_tbl := tb_4 (List.mem_of_getElem? (i := 191) rfl)
set_option maxRecDepth 100000 in
theorem gt_X8_fault : GoodIn lw_tbl (wsV RL 92 RX8 yX8_fault wsX8_fault) := goodIn_sub (List.forall_mem_append.mpr ⟨List.forall_mem_cons.mpr ⟨mw_942, List.forall_mem_cons.mpr ⟨mw_943, List.forall_mem_cons.mpr ⟨mw_944, List.forall_mem_cons.mpr ⟨mw_41, nn_in⟩⟩⟩⟩, in_wsX8_fault⟩) (by decide +kernel)
theorem mw_655 : Cond.code yX7_tells cX7_tells 3 (some .int) ∈ lw_tbl := tb_3 (List.mem_of_getElem? (i := 144) rfl)
theorem mw_656 : Cond.methodLink RX7 227 yX2_inForce ∈ lw_tbl := tb_3 (List.mem_of_getElem? (i := 145) rfl)
set_option maxRecDepth 100000 in
theorem in_wsX7_tells : ∀ w ∈ wsX7_tells, w ∈ lw_tbl := List.forall_mem_cons.mpr ⟨mw_655, List.forall_mem_append.mpr ⟨List.forall_mem_append.mpr ⟨List.forall_mem_cons.mpr ⟨mw_218, List.forall_mem_cons.mpr ⟨mw_264, List.forall_mem_cons.mpr ⟨mw_257, List.forall_mem_cons.mpr ⟨mw_32, List.forall_mem_cons.mpr ⟨mw_258, List.forall_mem_cons.mpr ⟨mw_656, List.forall_mem_cons.mpr ⟨mw_434, List.forall_mem_cons.mpr ⟨mw_435, List.forall_mem_cons.mpr ⟨mw_35, List.forall_mem_cons.mpr ⟨mw_436, List.forall_mem_cons.mpr ⟨mw_98, List.forall_mem_cons.mpr ⟨mw_97, List.forall_mem_cons.mpr ⟨mw_429, List.forall_mem_cons.mpr ⟨mw_430, List.forall_mem_cons.mpr ⟨mw_431, List.forall_mem_cons.mpr ⟨mw_432, List.forall_mem_cons.mpr ⟨mw_96, List.forall_mem_cons.mpr ⟨mw_433, List.forall_mem_cons.mpr ⟨mw_438, List.forall_mem_cons.mpr ⟨mw_439, List.forall_mem_cons.mpr ⟨mw_440, List.forall_mem_cons.mpr ⟨mw_441, nn_in⟩⟩⟩⟩⟩⟩⟩⟩⟩⟩⟩⟩⟩⟩⟩⟩⟩⟩⟩⟩⟩⟩, in_wsX70⟩, in_wsX20⟩⟩
theorem mw_654 : Cond.selects RX7 yX7_tells yX7_tells ∈ lw_tbl := tb_3 (List.mem_of_getElem? (i := 143) rfl)
theorem mw_653 : Cond.instanceMethod yX7_tells ∈ lw_tbl := tb_3 (List.mem_of_getElem? (i := 142) rfl)
theorem mw_652 : Cond.methodLink RL 93 yX7_tells ∈ lw_tbl := tb_3 (List.mem_of_getElem? (i := 141) rfl)
set_option maxRecDepth 100000 in
theorem gt_X7_tells : GoodIn lw_tbl (wsV RL 93 RX7 yX7_tells wsX7_tells) := goodIn_sub (List.forall_mem_append.mpr ⟨List.forall_mem_cons.mpr ⟨mw_652, List.forall_mem_cons.mpr ⟨mw_653, List.forall_mem_cons.mpr ⟨mw_654, List.forall_mem_cons.mpr ⟨mw_32, nn_in⟩⟩⟩⟩, in_wsX7_tells⟩) (by decide +kernel)
theorem mw_949 : Cond.code yX8_tells cX8_tells 3 (some .int) ∈ lw_tbl := tb_4 (List.mem_of_getElem? (i := 198) rfl)
set_option maxRecDepth 100000 in
theorem in_wsX8_tells : ∀ w ∈ wsX8_tells, w ∈ lw_tbl := List.forall_mem_cons.mpr ⟨mw_949, List.forall_mem_append.mpr ⟨List.forall_mem_cons.mpr ⟨mw_811, List.forall_mem_cons.mpr ⟨mw_812, List.forall_mem_cons.mpr ⟨mw_41, List.forall_mem_cons.mpr ⟨mw_813, List.forall_mem_cons.mpr ⟨mw_875, List.forall_mem_cons.mpr ⟨mw_877, List.forall_mem_cons.mpr ⟨mw_24, List.forall_mem_cons.mpr ⟨mw_878, List.forall_mem_cons.mpr ⟨mw_729, List.forall_mem_cons.mpr ⟨mw_731, List.forall_mem_cons.mpr ⟨mw_871, List.forall_mem_cons.mpr ⟨mw_873, List.forall_mem_cons.mpr ⟨mw_23, List.forall_mem_cons.mpr ⟨mw_874, List.forall_mem_cons.mpr ⟨mw_730, List.forall_mem_cons.mpr ⟨mw_879, List.forall_mem_cons.mpr ⟨mw_880, List.forall_mem_cons.mpr ⟨mw_881, nn_in⟩⟩⟩⟩⟩⟩⟩⟩⟩⟩⟩⟩⟩⟩⟩⟩⟩⟩, in_wsX80⟩⟩
theorem mw_948 : Cond.selects RX8 yX8_tells yX8_tells ∈ lw_tbl := tb_4 (List.mem_of_getElem? (i := 197) rfl)
theorem mw_947 : Cond.instanceMethod yX8_tells ∈ lw_tbl := tb_4 (List.mem_of_getElem? (i := 196) rfl)
theorem mw_946 : Cond.methodLink RL 96 yX8_tells ∈ lw_tbl := tb_4 (List.mem_of_getElem? (i := 195) rfl)
set_option maxRecDepth 100000 in
theorem gt_X8_tells : GoodIn lw_tbl (wsV RL 96 RX8 yX8_tells wsX8_tells) := goodIn_sub (List.forall_mem_append.mpr ⟨List.forall_mem_cons.mpr ⟨mw_946, List.forall_mem_cons.mpr ⟨mw_947, List.forall_mem_cons.mpr ⟨mw_948, List.forall_mem_cons.mpr ⟨mw_41, nn_in⟩⟩⟩⟩, in_wsX8_tells⟩) (by decide +kernel)
theorem mw_660 : Cond.code yX7_month cX7_month 4 (some .int) ∈ lw_tbl := tb_3 (List.mem_of_getElem? (i := 149) rfl)
theorem mw_664 : Cond.code yX0_inMonth cX0_inMonth 2 (some .int) ∈ lw_tbl := tb_3 (List.mem_of_getElem? (i := 153) rfl)
theorem mw_663 : Cond.selects RX0 yX0_inMonth yX0_inMonth ∈ lw_tbl := tb_3 (List.mem_of_getElem? (i := 152) rfl)
theorem mw_662 : Cond.instanceMethod yX0_inMonth ∈ lw_tbl := tb_3 (List.mem_of_getElem? (i := 151) rfl)
theorem mw_661 : Cond.methodLink RX7 233 yX0_inMonth ∈ lw_tbl := tb_3 (List.mem_of_getElem? (i := 150) rfl)
set_option maxRecDepth 100000 in
theorem in_wsX7_month_r1 : ∀ w ∈ wsX7_month_r1, w ∈ lw_tbl := List.forall_mem_cons.mpr ⟨mw_217, List.forall_mem_cons.mpr ⟨mw_218, List.forall_mem_cons.mpr ⟨mw_264, List.forall_mem_cons.mpr ⟨mw_257, List.forall_mem_cons.mpr ⟨mw_32, List.forall_mem_cons.mpr ⟨mw_258, List.forall_mem_cons.mpr ⟨mw_661, List.forall_mem_cons.mpr ⟨mw_662, List.forall_mem_cons.mpr ⟨mw_663, List.forall_mem_cons.mpr ⟨mw_34, List.forall_mem_cons.mpr ⟨mw_664, List.forall_mem_cons.mpr ⟨mw_76, List.forall_mem_cons.mpr ⟨mw_429, List.forall_mem_cons.mpr ⟨mw_430, List.forall_mem_cons.mpr ⟨mw_431, List.forall_mem_cons.mpr ⟨mw_35, List.forall_mem_cons.mpr ⟨mw_432, List.forall_mem_cons.mpr ⟨mw_96, List.forall_mem_cons.mpr ⟨mw_433, List.forall_mem_cons.mpr ⟨mw_434, List.forall_mem_cons.mpr ⟨mw_435, List.forall_mem_cons.mpr ⟨mw_436, List.forall_mem_cons.mpr ⟨mw_98, List.forall_mem_cons.mpr ⟨mw_97, nn_in⟩⟩⟩⟩⟩⟩⟩⟩⟩⟩⟩⟩⟩⟩⟩⟩⟩⟩⟩⟩⟩⟩⟩⟩
set_option maxRecDepth 100000 in
theorem in_wsX7_month_r2 : ∀ w ∈ wsX7_month_r2, w ∈ lw_tbl := List.forall_mem_cons.mpr ⟨mw_438, List.forall_mem_cons.mpr ⟨mw_439, List.forall_mem_cons.mpr ⟨mw_440, List.forall_mem_cons.mpr ⟨mw_441, nn_in⟩⟩⟩⟩
set_option maxRecDepth 100000 in
theorem in_wsX7_month : ∀ w ∈ wsX7_month, w ∈ lw_tbl := List.forall_mem_cons.mpr ⟨mw_660, List.forall_mem_append.mpr ⟨List.forall_mem_append.mpr ⟨List.forall_mem_append.mpr ⟨List.forall_mem_append.mpr ⟨in_wsX7_month_r1, in_wsX7_month_r2⟩, in_wsX70⟩, in_wsX00⟩, in_wsX20⟩⟩
theorem mw_659 : Cond.selects RX7 yX7_month yX7_month ∈ lw_tbl := tb_3 (List.mem_of_getElem? (i := 148) rfl)
theorem mw_658 : Cond.instanceMethod yX7_month ∈ lw_tbl := tb_3 (List.mem_of_getElem? (i := 147) rfl)
theorem mw_657 : Cond.methodLink RL 97 yX7_month ∈ lw_tbl := tb_3 (List.mem_of_getElem? (i := 146) rfl)
set_option maxRecDepth 100000 in
theorem gt_X7_month : GoodIn lw_tbl (wsV RL 97 RX7 yX7_month wsX7_month) := goodIn_sub (List.forall_mem_append.mpr ⟨List.forall_mem_cons.mpr ⟨mw_657, List.forall_mem_cons.mpr ⟨mw_658, List.forall_mem_cons.mpr ⟨mw_659, List.forall_mem_cons.mpr ⟨mw_32, nn_in⟩⟩⟩⟩, in_wsX7_month⟩) (by decide +kernel)
theorem mw_953 : Cond.code yX8_month cX8_month 3 (some .int) ∈ lw_tbl := tb_4 (List.mem_of_getElem? (i := 202) rfl)
theorem mw_954 : Cond.constantLong RX8 211 (1000) ∈ lw_tbl := tb_4 (List.mem_of_getElem? (i := 203) rfl)
set_option maxRecDepth 100000 in
theorem in_wsX8_month : ∀ w ∈ wsX8_month, w ∈ lw_tbl := List.forall_mem_cons.mpr ⟨mw_953, List.forall_mem_append.mpr ⟨List.forall_mem_cons.mpr ⟨mw_721, List.forall_mem_cons.mpr ⟨mw_954, List.forall_mem_cons.mpr ⟨mw_811, List.forall_mem_cons.mpr ⟨mw_812, List.forall_mem_cons.mpr ⟨mw_41, List.forall_mem_cons.mpr ⟨mw_813, List.forall_mem_cons.mpr ⟨mw_871, List.forall_mem_cons.mpr ⟨mw_873, List.forall_mem_cons.mpr ⟨mw_23, List.forall_mem_cons.mpr ⟨mw_874, List.forall_mem_cons.mpr ⟨mw_730, List.forall_mem_cons.mpr ⟨mw_875, List.forall_mem_cons.mpr ⟨mw_877, List.forall_mem_cons.mpr ⟨mw_24, List.forall_mem_cons.mpr ⟨mw_878, List.forall_mem_cons.mpr ⟨mw_729, List.forall_mem_cons.mpr ⟨mw_731, List.forall_mem_cons.mpr ⟨mw_879, List.forall_mem_cons.mpr ⟨mw_880, List.forall_mem_cons.mpr ⟨mw_881, nn_in⟩⟩⟩⟩⟩⟩⟩⟩⟩⟩⟩⟩⟩⟩⟩⟩⟩⟩⟩⟩, in_wsX80⟩⟩
theorem mw_952 : Cond.selects RX8 yX8_month yX8_month ∈ lw_tbl := tb_4 (List.mem_of_getElem? (i := 201) rfl)
theorem mw_951 : Cond.instanceMethod yX8_month ∈ lw_tbl := tb_4 (List.mem_of_getElem? (i := 200) rfl)
theorem mw_950 : Cond.methodLink RL 100 yX8_month ∈ lw_tbl := tb_4 (List.mem_of_getElem? (i := 199) rfl)
set_option maxRecDepth 100000 in
theorem gt_X8_month : GoodIn lw_tbl (wsV RL 100 RX8 yX8_month wsX8_month) := goodIn_sub (List.forall_mem_append.mpr ⟨List.forall_mem_cons.mpr ⟨mw_950, List.forall_mem_cons.mpr ⟨mw_951, List.forall_mem_cons.mpr ⟨mw_952, List.forall_mem_cons.mpr ⟨mw_41, nn_in⟩⟩⟩⟩, in_wsX8_month⟩) (by decide +kernel)
theorem mw_668 : Cond.code yX7_count cX7_count 2 (some .int) ∈ lw_tbl := tb_3 (List.mem_of_getElem? (i := 157) rfl)
set_option maxRecDepth 100000 in
theorem in_wsX7_count_r1 : ∀ w ∈ wsX7_count_r1, w ∈ lw_tbl := List.forall_mem_cons.mpr ⟨mw_220, List.forall_mem_cons.mpr ⟨mw_214, List.forall_mem_cons.mpr ⟨mw_216, List.forall_mem_cons.mpr ⟨mw_217, List.forall_mem_cons.mpr ⟨mw_221, List.forall_mem_cons.mpr ⟨mw_213, List.forall_mem_cons.mpr ⟨mw_218, List.forall_mem_cons.mpr ⟨mw_219, List.forall_mem_cons.mpr ⟨mw_447, List.forall_mem_cons.mpr ⟨mw_448, List.forall_mem_cons.mpr ⟨mw_449, List.forall_mem_cons.mpr ⟨mw_39, List.forall_mem_cons.mpr ⟨mw_450, List.forall_mem_cons.mpr ⟨mw_178, List.forall_mem_cons.mpr ⟨mw_390, List.forall_mem_cons.mpr ⟨mw_391, List.forall_mem_cons.mpr ⟨mw_392, List.forall_mem_cons.mpr ⟨mw_393, List.forall_mem_cons.mpr ⟨mw_174, List.forall_mem_cons.mpr ⟨mw_452, List.forall_mem_cons.mpr ⟨mw_453, List.forall_mem_cons.mpr ⟨mw_454, List.forall_mem_cons.mpr ⟨mw_33, List.forall_mem_cons.mpr ⟨mw_455, nn_in⟩⟩⟩⟩⟩⟩⟩⟩⟩⟩⟩⟩⟩⟩⟩⟩⟩⟩⟩⟩⟩⟩⟩⟩
theorem mw_678 : Cond.instanceMethod yX6_laidBackCount ∈ lw_tbl := tb_3 (List.mem_of_getElem? (i := 167) rfl)
theorem mw_677 : Cond.methodLink RX7 248 yX6_laidBackCount ∈ lw_tbl := tb_3 (List.mem_of_getElem? (i := 166) rfl)
theorem mw_676 : Cond.code yX0_lost cX0_lost 1 (some .int) ∈ lw_tbl := tb_3 (List.mem_of_getElem? (i := 165) rfl)
theorem mw_675 : Cond.selects RX0 yX0_lost yX0_lost ∈ lw_tbl := tb_3 (List.mem_of_getElem? (i := 164) rfl)
theorem mw_674 : Cond.instanceMethod yX0_lost ∈ lw_tbl := tb_3 (List.mem_of_getElem? (i := 163) rfl)
theorem mw_673 : Cond.methodLink RX7 245 yX0_lost ∈ lw_tbl := tb_3 (List.mem_of_getElem? (i := 162) rfl)
theorem mw_672 : Cond.code yX0_inAll cX0_inAll 1 (some .int) ∈ lw_tbl := tb_3 (List.mem_of_getElem? (i := 161) rfl)
theorem mw_671 : Cond.selects RX0 yX0_inAll yX0_inAll ∈ lw_tbl := tb_3 (List.mem_of_getElem? (i := 160) rfl)
theorem mw_670 : Cond.instanceMethod yX0_inAll ∈ lw_tbl := tb_3 (List.mem_of_getElem? (i := 159) rfl)
theorem mw_669 : Cond.methodLink RX7 242 yX0_inAll ∈ lw_tbl := tb_3 (List.mem_of_getElem? (i := 158) rfl)
set_option maxRecDepth 100000 in
theorem in_wsX7_count_r2 : ∀ w ∈ wsX7_count_r2, w ∈ lw_tbl := List.forall_mem_cons.mpr ⟨mw_62, List.forall_mem_cons.mpr ⟨mw_421, List.forall_mem_cons.mpr ⟨mw_422, List.forall_mem_cons.mpr ⟨mw_423, List.forall_mem_cons.mpr ⟨mw_424, List.forall_mem_cons.mpr ⟨mw_60, List.forall_mem_cons.mpr ⟨mw_463, List.forall_mem_cons.mpr ⟨mw_464, List.forall_mem_cons.mpr ⟨mw_465, List.forall_mem_cons.mpr ⟨mw_466, List.forall_mem_cons.mpr ⟨mw_61, List.forall_mem_cons.mpr ⟨mw_669, List.forall_mem_cons.mpr ⟨mw_670, List.forall_mem_cons.mpr ⟨mw_671, List.forall_mem_cons.mpr ⟨mw_34, List.forall_mem_cons.mpr ⟨mw_672, List.forall_mem_cons.mpr ⟨mw_77, List.forall_mem_cons.mpr ⟨mw_673, List.forall_mem_cons.mpr ⟨mw_674, List.forall_mem_cons.mpr ⟨mw_675, List.forall_mem_cons.mpr ⟨mw_676, List.forall_mem_cons.mpr ⟨mw_78, List.forall_mem_cons.mpr ⟨mw_677, List.forall_mem_cons.mpr ⟨mw_678, nn_in⟩⟩⟩⟩⟩⟩⟩⟩⟩⟩⟩⟩⟩⟩⟩⟩⟩⟩⟩⟩⟩⟩⟩⟩
theorem mw_688 : Cond.code yX2_size cX2_size 1 (some .int) ∈ lw_tbl := tb_3 (List.mem_of_getElem? (i := 177) rfl)
theorem mw_687 : Cond.selects RX2 yX2_size yX2_size ∈ lw_tbl := tb_3 (List.mem_of_getElem? (i := 176) rfl)
theorem mw_686 : Cond.instanceMethod yX2_size ∈ lw_tbl := tb_3 (List.mem_of_getElem? (i := 175) rfl)
theorem mw_685 : Cond.methodLink RX7 254 yX2_size ∈ lw_tbl := tb_3 (List.mem_of_getElem? (i := 174) rfl)
theorem mw_684 : Cond.code yX1_quarrels cX1_quarrels 3 (some .int) ∈ lw_tbl := tb_3 (List.mem_of_getElem? (i := 173) rfl)
theorem mw_683 : Cond.selects RX1 yX1_quarrels yX1_quarrels ∈ lw_tbl := tb_3 (List.mem_of_getElem? (i := 172) rfl)
theorem mw_682 : Cond.instanceMethod yX1_quarrels ∈ lw_tbl := tb_3 (List.mem_of_getElem? (i := 171) rfl)
theorem mw_681 : Cond.methodLink RX7 251 yX1_quarrels ∈ lw_tbl := tb_3 (List.mem_of_getElem? (i := 170) rfl)
theorem mw_680 : Cond.code yX6_laidBackCount cX6_laidBackCount 1 (some .int) ∈ lw_tbl := tb_3 (List.mem_of_getElem? (i := 169) rfl)
theorem mw_679 : Cond.selects RX6 yX6_laidBackCount yX6_laidBackCount ∈ lw_tbl := tb_3 (List.mem_of_getElem? (i := 168) rfl)
set_option maxRecDepth 100000 in
theorem in_wsX7_count_r3 : ∀ w ∈ wsX7_count_r3, w ∈ lw_tbl := List.forall_mem_cons.mpr ⟨mw_679, List.forall_mem_cons.mpr ⟨mw_680, List.forall_mem_cons.mpr ⟨mw_179, List.forall_mem_cons.mpr ⟨mw_681, List.forall_mem_cons.mpr ⟨mw_682, List.forall_mem_cons.mpr ⟨mw_683, List.forall_mem_cons.mpr ⟨mw_38, List.forall_mem_cons.mpr ⟨mw_684, List.forall_mem_cons.mpr ⟨mw_150, List.forall_mem_cons.mpr ⟨mw_151, List.forall_mem_cons.mpr ⟨mw_685, List.forall_mem_cons.mpr ⟨mw_686, List.forall_mem_cons.mpr ⟨mw_687, List.forall_mem_cons.mpr ⟨mw_35, List.forall_mem_cons.mpr ⟨mw_688, List.forall_mem_cons.mpr ⟨mw_98, List.forall_mem_cons.mpr ⟨mw_537, List.forall_mem_cons.mpr ⟨mw_538, List.forall_mem_cons.mpr ⟨mw_539, List.forall_mem_cons.mpr ⟨mw_36, List.forall_mem_cons.mpr ⟨mw_540, List.forall_mem_cons.mpr ⟨mw_114, nn_in⟩⟩⟩⟩⟩⟩⟩⟩⟩⟩⟩⟩⟩⟩⟩⟩⟩⟩⟩⟩⟩⟩
set_option maxRecDepth 100000 in
theorem in_wsX7_count : ∀ w ∈ wsX7_count, w ∈ lw_tbl := List.forall_mem_cons.mpr ⟨mw_668, List.forall_mem_append.mpr ⟨List.forall_mem_append.mpr ⟨List.forall_mem_append.mpr ⟨List.forall_mem_append.mpr ⟨List.forall_mem_append.mpr ⟨List.forall_mem_append.mpr ⟨List.forall_mem_append.mpr ⟨List.forall_mem_append.mpr ⟨in_wsX7_count_r1, List.forall_mem_append.mpr ⟨in_wsX7_count_r2, in_wsX7_count_r3⟩⟩, in_wsX70⟩, in_wsX60⟩, in_wsX40⟩, in_wsX00⟩, in_wsX10⟩, in_wsX20⟩, in_wsX30⟩⟩
theorem mw_667 : Cond.selects RX7 yX7_count yX7_count ∈ lw_tbl := tb_3 (List.mem_of_getElem? (i := 156) rfl)
theorem mw_666 : Cond.instanceMethod yX7_count ∈ lw_tbl := tb_3 (List.mem_of_getElem? (i := 155) rfl)
theorem mw_665 : Cond.methodLink RL 101 yX7_count ∈ lw_tbl := tb_3 (List.mem_of_getElem? (i := 154) rfl)
set_option maxRecDepth 100000 in
theorem gt_X7_count : GoodIn lw_tbl (wsV RL 101 RX7 yX7_count wsX7_count) := goodIn_sub (List.forall_mem_append.mpr ⟨List.forall_mem_cons.mpr ⟨mw_665, List.forall_mem_cons.mpr ⟨mw_666, List.forall_mem_cons.mpr ⟨mw_667, List.forall_mem_cons.mpr ⟨mw_32, nn_in⟩⟩⟩⟩, in_wsX7_count⟩) (by decide +kernel)
theorem mw_958 : Cond.code yX8_count cX8_count 5 (some .int) ∈ lw_tbl := tb_4 (List.mem_of_getElem? (i := 207) rfl)
set_option maxRecDepth 100000 in
theorem in_wsX8_count_r1 : ∀ w ∈ wsX8_count_r1, w ∈ lw_tbl := List.forall_mem_cons.mpr ⟨mw_711, List.forall_mem_cons.mpr ⟨mw_712, List.forall_mem_cons.mpr ⟨mw_713, List.forall_mem_cons.mpr ⟨mw_714, List.forall_mem_cons.mpr ⟨mw_715, List.forall_mem_cons.mpr ⟨mw_716, List.forall_mem_cons.mpr ⟨mw_718, List.forall_mem_cons.mpr ⟨mw_719, List.forall_mem_cons.mpr ⟨mw_720, List.forall_mem_cons.mpr ⟨mw_707, List.forall_mem_cons.mpr ⟨mw_700, List.forall_mem_cons.mpr ⟨mw_701, List.forall_mem_cons.mpr ⟨mw_729, List.forall_mem_cons.mpr ⟨mw_725, List.forall_mem_cons.mpr ⟨mw_843, List.forall_mem_cons.mpr ⟨mw_844, List.forall_mem_cons.mpr ⟨mw_41, List.forall_mem_cons.mpr ⟨mw_845, List.forall_mem_cons.mpr ⟨mw_839, List.forall_mem_cons.mpr ⟨mw_841, List.forall_mem_cons.mpr ⟨mw_19, List.forall_mem_cons.mpr ⟨mw_842, List.forall_mem_cons.mpr ⟨mw_834, List.forall_mem_cons.mpr ⟨mw_836, nn_in⟩⟩⟩⟩⟩⟩⟩⟩⟩⟩⟩⟩⟩⟩⟩⟩⟩⟩⟩⟩⟩⟩⟩⟩
set_option maxRecDepth 100000 in
theorem in_wsX8_count_r2 : ∀ w ∈ wsX8_count_r2, w ∈ lw_tbl := List.forall_mem_cons.mpr ⟨mw_18, List.forall_mem_cons.mpr ⟨mw_837, List.forall_mem_cons.mpr ⟨mw_705, List.forall_mem_cons.mpr ⟨mw_703, List.forall_mem_cons.mpr ⟨mw_709, List.forall_mem_cons.mpr ⟨mw_838, List.forall_mem_cons.mpr ⟨mw_419, List.forall_mem_cons.mpr ⟨mw_37, List.forall_mem_cons.mpr ⟨mw_420, List.forall_mem_cons.mpr ⟨mw_698, List.forall_mem_cons.mpr ⟨mw_135, List.forall_mem_cons.mpr ⟨mw_136, List.forall_mem_cons.mpr ⟨mw_699, List.forall_mem_cons.mpr ⟨mw_138, List.forall_mem_cons.mpr ⟨mw_139, nn_in⟩⟩⟩⟩⟩⟩⟩⟩⟩⟩⟩⟩⟩⟩⟩
set_option maxRecDepth 100000 in
theorem in_wsX8_count : ∀ w ∈ wsX8_count, w ∈ lw_tbl := List.forall_mem_cons.mpr ⟨mw_958, List.forall_mem_append.mpr ⟨List.forall_mem_append.mpr ⟨in_wsX8_count_r1, in_wsX8_count_r2⟩, in_wsX80⟩⟩
theorem mw_957 : Cond.selects RX8 yX8_count yX8_count ∈ lw_tbl := tb_4 (List.mem_of_getElem? (i := 206) rfl)
theorem mw_956 : Cond.instanceMethod yX8_count ∈ lw_tbl := tb_4 (List.mem_of_getElem? (i := 205) rfl)
theorem mw_955 : Cond.methodLink RL 104 yX8_count ∈ lw_tbl := tb_4 (List.mem_of_getElem? (i := 204) rfl)
set_option maxRecDepth 100000 in
theorem gt_X8_count : GoodIn lw_tbl (wsV RL 104 RX8 yX8_count wsX8_count) := goodIn_sub (List.forall_mem_append.mpr ⟨List.forall_mem_cons.mpr ⟨mw_955, List.forall_mem_cons.mpr ⟨mw_956, List.forall_mem_cons.mpr ⟨mw_957, List.forall_mem_cons.mpr ⟨mw_41, nn_in⟩⟩⟩⟩, in_wsX8_count⟩) (by decide +kernel)
theorem mw_46 : Cond.classLink RL 7 RX7 ∈ lw_tbl := tb_1 (List.mem_of_getElem? (i := 15) rfl)
theorem mw_47 : Cond.instantiable RX7 10 ∈ lw_tbl := tb_1 (List.mem_of_getElem? (i := 16) rfl)
theorem mw_692 : Cond.classLink RL 18 RX8 ∈ lw_tbl := tb_3 (List.mem_of_getElem? (i := 181) rfl)
theorem mw_693 : Cond.instantiable RX8 34 ∈ lw_tbl := tb_3 (List.mem_of_getElem? (i := 182) rfl)
theorem mw_48 : Cond.methodLink RL 15 yX7_init ∈ lw_tbl := tb_1 (List.mem_of_getElem? (i := 17) rfl)
theorem mw_49 : Cond.instanceMethod yX7_init ∈ lw_tbl := tb_1 (List.mem_of_getElem? (i := 18) rfl)
theorem mw_694 : Cond.methodLink RL 20 yX8_init ∈ lw_tbl := tb_3 (List.mem_of_getElem? (i := 183) rfl)
theorem mw_695 : Cond.instanceMethod yX8_init ∈ lw_tbl := tb_3 (List.mem_of_getElem? (i := 184) rfl)
