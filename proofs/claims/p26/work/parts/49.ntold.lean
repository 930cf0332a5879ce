theorem dL_cell_0 : decode cL_cell 0 = .ok (.iload_n 1, 1) := by decide +kernel
theorem dL_cell_1 : decode cL_cell 1 = .ok (.aload_n 0, 1) := by decide +kernel
theorem dL_cell_2 : decode cL_cell 2 = .ok (.arraylength, 1) := by decide +kernel
theorem dL_cell_3 : decode cL_cell 3 = .ok (.if_icmp .ge 9, 3) := by decide +kernel
theorem dL_cell_6 : decode cL_cell 6 = .ok (.aload_n 0, 1) := by decide +kernel
theorem dL_cell_7 : decode cL_cell 7 = .ok (.iload_n 1, 1) := by decide +kernel
theorem dL_cell_8 : decode cL_cell 8 = .ok (.iaload, 1) := by decide +kernel
theorem dL_cell_9 : decode cL_cell 9 = .ok (.goto 11, 3) := by decide +kernel
theorem dL_cell_12 : decode cL_cell 12 = .ok (.ldc 7, 2) := by decide +kernel
theorem dL_cell_14 : decode cL_cell 14 = .ok (.iload_n 1, 1) := by decide +kernel
theorem dL_cell_15 : decode cL_cell 15 = .ok (.imul, 1) := by decide +kernel
theorem dL_cell_16 : decode cL_cell 16 = .ok (.sipush 14207, 3) := by decide +kernel
theorem dL_cell_19 : decode cL_cell 19 = .ok (.iadd, 1) := by decide +kernel
theorem dL_cell_20 : decode cL_cell 20 = .ok (.ireturn, 1) := by decide +kernel
theorem dL_low_0 : decode cL_low 0 = .ok (.iload_n 0, 1) := by decide +kernel
theorem dL_low_1 : decode cL_low 1 = .ok (.ldc 8, 2) := by decide +kernel
theorem dL_low_3 : decode cL_low 3 = .ok (.iand, 1) := by decide +kernel
theorem dL_low_4 : decode cL_low 4 = .ok (.iload_n 1, 1) := by decide +kernel
theorem dL_low_5 : decode cL_low 5 = .ok (.irem, 1) := by decide +kernel
theorem dL_low_6 : decode cL_low 6 = .ok (.ireturn, 1) := by decide +kernel
theorem dL_bits_0 : decode cL_bits 0 = .ok (.iload_n 0, 1) := by decide +kernel
theorem dL_bits_1 : decode cL_bits 1 = .ok (.tableswitch 64 0 6 #[43, 46, 49, 52, 55, 58, 61], 43) := by decide +kernel
theorem dL_bits_44 : decode cL_bits 44 = .ok (.ldc 9, 2) := by decide +kernel
theorem dL_bits_46 : decode cL_bits 46 = .ok (.ireturn, 1) := by decide +kernel
theorem dL_bits_47 : decode cL_bits 47 = .ok (.ldc 10, 2) := by decide +kernel
theorem dL_bits_49 : decode cL_bits 49 = .ok (.ireturn, 1) := by decide +kernel
theorem dL_bits_50 : decode cL_bits 50 = .ok (.ldc 11, 2) := by decide +kernel
theorem dL_bits_52 : decode cL_bits 52 = .ok (.ireturn, 1) := by decide +kernel
theorem dL_bits_53 : decode cL_bits 53 = .ok (.ldc 12, 2) := by decide +kernel
theorem dL_bits_55 : decode cL_bits 55 = .ok (.ireturn, 1) := by decide +kernel
theorem dL_bits_56 : decode cL_bits 56 = .ok (.ldc 13, 2) := by decide +kernel
theorem dL_bits_58 : decode cL_bits 58 = .ok (.ireturn, 1) := by decide +kernel
theorem dL_bits_59 : decode cL_bits 59 = .ok (.ldc 14, 2) := by decide +kernel
theorem dL_bits_61 : decode cL_bits 61 = .ok (.ireturn, 1) := by decide +kernel
theorem dL_bits_62 : decode cL_bits 62 = .ok (.ldc 15, 2) := by decide +kernel
theorem dL_bits_64 : decode cL_bits 64 = .ok (.ireturn, 1) := by decide +kernel
theorem dL_bits_65 : decode cL_bits 65 = .ok (.ldc 16, 2) := by decide +kernel
theorem dL_bits_67 : decode cL_bits 67 = .ok (.ireturn, 1) := by decide +kernel
theorem dL_value_0 : decode cL_value 0 = .ok (.iload_n 0, 1) := by decide +kernel
theorem dL_value_1 : decode cL_value 1 = .ok (.tableswitch 49 0 4 #[35, 38, 40, 43, 46], 35) := by decide +kernel
theorem dL_value_36 : decode cL_value 36 = .ok (.ldc 17, 2) := by decide +kernel
theorem dL_value_38 : decode cL_value 38 = .ok (.freturn, 1) := by decide +kernel
theorem dL_value_39 : decode cL_value 39 = .ok (.fconst 1, 1) := by decide +kernel
theorem dL_value_40 : decode cL_value 40 = .ok (.freturn, 1) := by decide +kernel
theorem dL_value_41 : decode cL_value 41 = .ok (.ldc 18, 2) := by decide +kernel
theorem dL_value_43 : decode cL_value 43 = .ok (.freturn, 1) := by decide +kernel
theorem dL_value_44 : decode cL_value 44 = .ok (.ldc 19, 2) := by decide +kernel
theorem dL_value_46 : decode cL_value 46 = .ok (.freturn, 1) := by decide +kernel
theorem dL_value_47 : decode cL_value 47 = .ok (.ldc 20, 2) := by decide +kernel
theorem dL_value_49 : decode cL_value 49 = .ok (.freturn, 1) := by decide +kernel
theorem dL_value_50 : decode cL_value 50 = .ok (.ldc 21, 2) := by decide +kernel
theorem dL_value_52 : decode cL_value 52 = .ok (.freturn, 1) := by decide +kernel
theorem dL_isNone_0 : decode cL_isNone 0 = .ok (.fload_n 0, 1) := by decide +kernel
theorem dL_isNone_1 : decode cL_isNone 1 = .ok (.fload_n 0, 1) := by decide +kernel
theorem dL_isNone_2 : decode cL_isNone 2 = .ok (.fcmp .l, 1) := by decide +kernel
theorem dL_isNone_3 : decode cL_isNone 3 = .ok (.ifCond .eq 7, 3) := by decide +kernel
theorem dL_isNone_6 : decode cL_isNone 6 = .ok (.iconst 1, 1) := by decide +kernel
theorem dL_isNone_7 : decode cL_isNone 7 = .ok (.goto 4, 3) := by decide +kernel
theorem dL_isNone_10 : decode cL_isNone 10 = .ok (.iconst 0, 1) := by decide +kernel
theorem dL_isNone_11 : decode cL_isNone 11 = .ok (.ireturn, 1) := by decide +kernel
set_option maxRecDepth 20000 in
theorem ggL_told_X8_door : GoodIn wsL_told wsX8_door := goodIn_r _ [6, 7, 8, 9, 10, 11, 12, 13, 14, 15, 16, 5, 17, 141, 142, 143, 144, 145, 146, 147, 148, 149, 150, 151, 152, 153, 154, 155, 156, 157, 158] (by decide +kernel) (by decide +kernel)
set_option maxRecDepth 20000 in
theorem gL_told_X8_door : GoodIn wsL_told (wsV RL 22 RX8 yX8_door wsX8_door) := goodIn_app (goodIn_of _ (by decide +kernel)) ggL_told_X8_door
set_option maxRecDepth 20000 in
theorem ggL_told_X8_place : GoodIn wsL_told wsX8_place := goodIn_r _ [21, 7, 8, 14, 141, 142, 143, 144, 145, 146, 147, 148, 149, 150, 151, 152, 153, 154, 155, 156, 157, 158] (by decide +kernel) (by decide +kernel)
set_option maxRecDepth 20000 in
theorem gL_told_X8_place : GoodIn wsL_told (wsV RL 28 RX8 yX8_place wsX8_place) := goodIn_app (goodIn_of _ (by decide +kernel)) ggL_told_X8_place
set_option maxRecDepth 20000 in
theorem ggL_told_X8_number : GoodIn wsL_told wsX8_number := goodIn_r _ [25, 7, 26, 27, 28, 29, 30, 31, 32, 141, 142, 143, 144, 145, 146, 147, 148, 149, 150, 151, 152, 159, 160, 161] (by decide +kernel) (by decide +kernel)
set_option maxRecDepth 20000 in
theorem gL_told_X8_number : GoodIn wsL_told (wsV RL 33 RX8 yX8_number wsX8_number) := goodIn_app (goodIn_of _ (by decide +kernel)) ggL_told_X8_number
set_option maxRecDepth 20000 in
theorem ggL_told_X8_speed : GoodIn wsL_told wsX8_speed := goodIn_r _ [36, 7, 26, 37, 38, 39, 40, 41, 42, 43, 44, 45, 28, 29, 30, 31, 32, 46, 47, 48, 49, 50, 51, 5, 52, 53, 141, 142, 143, 144, 145, 146, 147, 148, 149, 150, 151, 152, 153, 154, 155, 156, 157, 158, 159, 160, 161] (by decide +kernel) (by decide +kernel)
set_option maxRecDepth 20000 in
theorem gL_told_X8_speed : GoodIn wsL_told (wsV RL 36 RX8 yX8_speed wsX8_speed) := goodIn_app (goodIn_of _ (by decide +kernel)) ggL_told_X8_speed
set_option maxRecDepth 20000 in
theorem ggL_told_L_isNone : GoodIn wsL_told wsL_isNone := goodIn_r _ [57] (by decide +kernel) (by decide +kernel)
set_option maxRecDepth 20000 in
theorem gL_told_L_isNone : GoodIn wsL_told (va_wsS RL 40 yL_isNone wsL_isNone) := goodIn_app (goodIn_of _ (by decide +kernel)) ggL_told_L_isNone
set_option maxRecDepth 20000 in
theorem ggL_told_X8_weight : GoodIn wsL_told wsX8_weight := goodIn_r _ [61, 7, 26, 62, 63, 64, 30, 65, 66, 51, 5, 52, 53, 141, 142, 143, 144, 145, 146, 147, 148, 149, 150, 151, 152, 159, 160, 161] (by decide +kernel) (by decide +kernel)
set_option maxRecDepth 20000 in
theorem gL_told_X8_weight : GoodIn wsL_told (wsV RL 46 RX8 yX8_weight wsX8_weight) := goodIn_app (goodIn_of _ (by decide +kernel)) ggL_told_X8_weight
set_option maxRecDepth 20000 in
theorem ggL_told_X8_score : GoodIn wsL_told wsX8_score := goodIn_r _ [70, 7, 71, 72, 26, 73, 51, 5, 52, 53, 62, 63, 64, 30, 65, 66, 74, 75, 76, 77, 78, 79, 80, 81, 82, 83, 84, 85, 86, 87, 88, 141, 142, 143, 144, 145, 146, 147, 148, 149, 150, 151, 152, 162, 163, 164, 165, 166, 167, 168, 169, 159, 160, 161] (by decide +kernel) (by decide +kernel)
set_option maxRecDepth 20000 in
theorem gL_told_X8_score : GoodIn wsL_told (wsV RL 49 RX8 yX8_score wsX8_score) := goodIn_app (goodIn_of _ (by decide +kernel)) ggL_told_X8_score
set_option maxRecDepth 20000 in
theorem ggL_told_X8_count : GoodIn wsL_told wsX8_count := goodIn_r _ [92, 7, 93, 94, 95, 96, 97, 98, 99, 100, 101, 102, 103, 104, 105, 106, 141, 142, 143, 144, 145, 146, 147, 148, 149, 150, 151, 152, 170, 171, 172, 173, 174, 175, 176, 177, 178, 179, 180, 181, 182, 183, 184] (by decide +kernel) (by decide +kernel)
set_option maxRecDepth 20000 in
theorem gL_told_X8_count : GoodIn wsL_told (wsV RL 52 RX8 yX8_count wsX8_count) := goodIn_app (goodIn_of _ (by decide +kernel)) ggL_told_X8_count
set_option maxRecDepth 20000 in
theorem ggL_told_X8_judged : GoodIn wsL_told wsX8_judged := goodIn_r _ [110, 7, 111, 112, 113, 114, 115, 116, 117, 118, 141, 142, 143, 144, 145, 146, 147, 148, 149, 150, 151, 152, 185, 186] (by decide +kernel) (by decide +kernel)
set_option maxRecDepth 20000 in
theorem gL_told_X8_judged : GoodIn wsL_told (wsV RL 55 RX8 yX8_judged wsX8_judged) := goodIn_app (goodIn_of _ (by decide +kernel)) ggL_told_X8_judged
set_option maxRecDepth 20000 in
theorem ggL_told_L_thing : GoodIn wsL_told wsL_thing := goodIn_r _ [121, 122, 123, 124, 125, 126, 5, 127, 7, 71, 72, 128, 129, 130, 131, 132, 133, 134, 26, 15, 16, 17, 135, 136, 137, 77, 138, 139, 63, 64, 30, 65, 66, 51, 52, 53, 140, 75, 76, 78, 79, 80, 81, 82, 83, 84, 85, 86, 87, 88, 67, 68, 69, 70, 73, 62, 74, 54, 55, 56, 57, 58, 59, 60, 61, 89, 90, 91, 92, 93, 94, 95, 96, 97, 98, 99, 100, 101, 102, 103, 104, 105, 106, 141, 142, 143, 144, 145, 146, 147, 148, 149, 150, 151, 152, 162, 163, 164, 165, 166, 167, 168, 169, 159, 160, 161, 170, 171, 172, 173, 174, 175, 176, 177, 178, 179, 180, 181, 182, 183, 184] (by decide +kernel) (by decide +kernel)
set_option maxRecDepth 20000 in
theorem gL_told_L_thing : GoodIn wsL_told (va_wsS RL 59 yL_thing wsL_thing) := goodIn_app (goodIn_of _ (by decide +kernel)) ggL_told_L_thing
theorem dL_told_0 : decode cL_told 0 = .ok (.aload_n 0, 1) := by decide +kernel
theorem dL_told_1 : decode cL_told 1 = .ok (.iconst 0, 1) := by decide +kernel
theorem dL_told_2 : decode cL_told 2 = .ok (.invokevirtual 22, 3) := by decide +kernel
theorem dL_told_5 : decode cL_told 5 = .ok (.istore_n 1, 1) := by decide +kernel
theorem dL_told_6 : decode cL_told 6 = .ok (.aload_n 0, 1) := by decide +kernel
theorem dL_told_7 : decode cL_told 7 = .ok (.invokevirtual 28, 3) := by decide +kernel
theorem dL_told_10 : decode cL_told 10 = .ok (.fstore_n 2, 1) := by decide +kernel
theorem dL_told_11 : decode cL_told 11 = .ok (.fload_n 2, 1) := by decide +kernel
theorem dL_told_12 : decode cL_told 12 = .ok (.fconst 0, 1) := by decide +kernel
theorem dL_told_13 : decode cL_told 13 = .ok (.fcmp .l, 1) := by decide +kernel
theorem dL_told_14 : decode cL_told 14 = .ok (.ifCond .lt 57, 3) := by decide +kernel
theorem dL_told_17 : decode cL_told 17 = .ok (.fload_n 2, 1) := by decide +kernel
theorem dL_told_18 : decode cL_told 18 = .ok (.ldc 32, 2) := by decide +kernel
theorem dL_told_20 : decode cL_told 20 = .ok (.fcmp .g, 1) := by decide +kernel
theorem dL_told_21 : decode cL_told 21 = .ok (.ifCond .gt 50, 3) := by decide +kernel
theorem dL_told_24 : decode cL_told 24 = .ok (.iload_n 1, 1) := by decide +kernel
theorem dL_told_25 : decode cL_told 25 = .ok (.ifCond .ne 9, 3) := by decide +kernel
theorem dL_told_28 : decode cL_told 28 = .ok (.fload_n 2, 1) := by decide +kernel
theorem dL_told_29 : decode cL_told 29 = .ok (.fconst 0, 1) := by decide +kernel
theorem dL_told_30 : decode cL_told 30 = .ok (.fcmp .l, 1) := by decide +kernel
theorem dL_told_31 : decode cL_told 31 = .ok (.ifCond .ne 40, 3) := by decide +kernel
theorem dL_told_34 : decode cL_told 34 = .ok (.iload_n 1, 1) := by decide +kernel
theorem dL_told_35 : decode cL_told 35 = .ok (.iconst 2, 1) := by decide +kernel
theorem dL_told_36 : decode cL_told 36 = .ok (.if_icmp .ne 10, 3) := by decide +kernel
theorem dL_told_39 : decode cL_told 39 = .ok (.fload_n 2, 1) := by decide +kernel
theorem dL_told_40 : decode cL_told 40 = .ok (.ldc 32, 2) := by decide +kernel
theorem dL_told_42 : decode cL_told 42 = .ok (.fcmp .l, 1) := by decide +kernel
theorem dL_told_43 : decode cL_told 43 = .ok (.ifCond .ne 28, 3) := by decide +kernel
theorem dL_told_46 : decode cL_told 46 = .ok (.aload_n 0, 1) := by decide +kernel
theorem dL_told_47 : decode cL_told 47 = .ok (.iconst 5, 1) := by decide +kernel
theorem dL_told_48 : decode cL_told 48 = .ok (.invokevirtual 22, 3) := by decide +kernel
theorem dL_told_51 : decode cL_told 51 = .ok (.fload_n 2, 1) := by decide +kernel
theorem dL_told_52 : decode cL_told 52 = .ok (.f2i, 1) := by decide +kernel
theorem dL_told_53 : decode cL_told 53 = .ok (.if_icmp .ne 18, 3) := by decide +kernel
theorem dL_told_56 : decode cL_told 56 = .ok (.aload_n 0, 1) := by decide +kernel
theorem dL_told_57 : decode cL_told 57 = .ok (.bipush 6, 2) := by decide +kernel
theorem dL_told_59 : decode cL_told 59 = .ok (.invokevirtual 22, 3) := by decide +kernel
theorem dL_told_62 : decode cL_told 62 = .ok (.bipush (-2), 2) := by decide +kernel
theorem dL_told_64 : decode cL_told 64 = .ok (.if_icmp .ne 7, 3) := by decide +kernel
theorem dL_told_67 : decode cL_told 67 = .ok (.iconst 1, 1) := by decide +kernel
theorem dL_told_68 : decode cL_told 68 = .ok (.goto 4, 3) := by decide +kernel
theorem dL_told_71 : decode cL_told 71 = .ok (.iconst 0, 1) := by decide +kernel
theorem dL_told_72 : decode cL_told 72 = .ok (.istore_n 3, 1) := by decide +kernel
theorem dL_told_73 : decode cL_told 73 = .ok (.iload_n 1, 1) := by decide +kernel
theorem dL_told_74 : decode cL_told 74 = .ok (.iconst 2, 1) := by decide +kernel
theorem dL_told_75 : decode cL_told 75 = .ok (.if_icmp .eq 11, 3) := by decide +kernel
theorem dL_told_78 : decode cL_told 78 = .ok (.aload_n 0, 1) := by decide +kernel
theorem dL_told_79 : decode cL_told 79 = .ok (.iconst 3, 1) := by decide +kernel
theorem dL_told_80 : decode cL_told 80 = .ok (.invokevirtual 22, 3) := by decide +kernel
theorem dL_told_83 : decode cL_told 83 = .ok (.ifCond .ne 34, 3) := by decide +kernel
theorem dL_told_86 : decode cL_told 86 = .ok (.iload_n 1, 1) := by decide +kernel
theorem dL_told_87 : decode cL_told 87 = .ok (.iconst 3, 1) := by decide +kernel
theorem dL_told_88 : decode cL_told 88 = .ok (.if_icmp .eq 11, 3) := by decide +kernel
theorem dL_told_91 : decode cL_told 91 = .ok (.aload_n 0, 1) := by decide +kernel
theorem dL_told_92 : decode cL_told 92 = .ok (.iconst 4, 1) := by decide +kernel
theorem dL_told_93 : decode cL_told 93 = .ok (.invokevirtual 22, 3) := by decide +kernel
theorem dL_told_96 : decode cL_told 96 = .ok (.ifCond .ne 21, 3) := by decide +kernel
theorem dL_told_99 : decode cL_told 99 = .ok (.iload_n 1, 1) := by decide +kernel
theorem dL_told_100 : decode cL_told 100 = .ok (.iconst 3, 1) := by decide +kernel
theorem dL_told_101 : decode cL_told 101 = .ok (.if_icmp .ne 12, 3) := by decide +kernel
theorem dL_told_104 : decode cL_told 104 = .ok (.aload_n 0, 1) := by decide +kernel
theorem dL_told_105 : decode cL_told 105 = .ok (.iconst 4, 1) := by decide +kernel
theorem dL_told_106 : decode cL_told 106 = .ok (.invokevirtual 22, 3) := by decide +kernel
theorem dL_told_109 : decode cL_told 109 = .ok (.iconst 5, 1) := by decide +kernel
theorem dL_told_110 : decode cL_told 110 = .ok (.if_icmp .gt 7, 3) := by decide +kernel
theorem dL_told_113 : decode cL_told 113 = .ok (.iconst 1, 1) := by decide +kernel
theorem dL_told_114 : decode cL_told 114 = .ok (.goto 4, 3) := by decide +kernel
theorem dL_told_117 : decode cL_told 117 = .ok (.iconst 0, 1) := by decide +kernel
theorem dL_told_118 : decode cL_told 118 = .ok (.istore 4, 2) := by decide +kernel
theorem dL_told_120 : decode cL_told 120 = .ok (.aload_n 0, 1) := by decide +kernel
theorem dL_told_121 : decode cL_told 121 = .ok (.iconst 1, 1) := by decide +kernel
theorem dL_told_122 : decode cL_told 122 = .ok (.invokevirtual 22, 3) := by decide +kernel
theorem dL_told_125 : decode cL_told 125 = .ok (.aload_n 0, 1) := by decide +kernel
theorem dL_told_126 : decode cL_told 126 = .ok (.iconst 2, 1) := by decide +kernel
theorem dL_told_127 : decode cL_told 127 = .ok (.invokevirtual 33, 3) := by decide +kernel
theorem dL_told_130 : decode cL_told 130 = .ok (.if_icmp .le 7, 3) := by decide +kernel
theorem dL_told_133 : decode cL_told 133 = .ok (.iconst 1, 1) := by decide +kernel
theorem dL_told_134 : decode cL_told 134 = .ok (.goto 4, 3) := by decide +kernel
theorem dL_told_137 : decode cL_told 137 = .ok (.iconst 0, 1) := by decide +kernel
theorem dL_told_138 : decode cL_told 138 = .ok (.istore 5, 2) := by decide +kernel
theorem dL_told_140 : decode cL_told 140 = .ok (.aload_n 0, 1) := by decide +kernel
theorem dL_told_141 : decode cL_told 141 = .ok (.iconst 3, 1) := by decide +kernel
theorem dL_told_142 : decode cL_told 142 = .ok (.invokevirtual 36, 3) := by decide +kernel
theorem dL_told_145 : decode cL_told 145 = .ok (.iload 5, 2) := by decide +kernel
theorem dL_told_147 : decode cL_told 147 = .ok (.ifCond .eq 11, 3) := by decide +kernel
theorem dL_told_150 : decode cL_told 150 = .ok (.aload_n 0, 1) := by decide +kernel
theorem dL_told_151 : decode cL_told 151 = .ok (.iconst 2, 1) := by decide +kernel
theorem dL_told_152 : decode cL_told 152 = .ok (.invokevirtual 36, 3) := by decide +kernel
theorem dL_told_155 : decode cL_told 155 = .ok (.goto 8, 3) := by decide +kernel
theorem dL_told_158 : decode cL_told 158 = .ok (.aload_n 0, 1) := by decide +kernel
theorem dL_told_159 : decode cL_told 159 = .ok (.iconst 1, 1) := by decide +kernel
theorem dL_told_160 : decode cL_told 160 = .ok (.invokevirtual 36, 3) := by decide +kernel
theorem dL_told_163 : decode cL_told 163 = .ok (.fcmp .l, 1) := by decide +kernel
theorem dL_told_164 : decode cL_told 164 = .ok (.ifCond .ne 49, 3) := by decide +kernel
theorem dL_told_167 : decode cL_told 167 = .ok (.aload_n 0, 1) := by decide +kernel
theorem dL_told_168 : decode cL_told 168 = .ok (.iconst 4, 1) := by decide +kernel
theorem dL_told_169 : decode cL_told 169 = .ok (.invokevirtual 36, 3) := by decide +kernel
theorem dL_told_172 : decode cL_told 172 = .ok (.invokestatic 40, 3) := by decide +kernel
theorem dL_told_175 : decode cL_told 175 = .ok (.ifCond .eq 38, 3) := by decide +kernel
theorem dL_told_178 : decode cL_told 178 = .ok (.aload_n 0, 1) := by decide +kernel
theorem dL_told_179 : decode cL_told 179 = .ok (.iconst 4, 1) := by decide +kernel
theorem dL_told_180 : decode cL_told 180 = .ok (.invokevirtual 46, 3) := by decide +kernel
theorem dL_told_183 : decode cL_told 183 = .ok (.invokestatic 40, 3) := by decide +kernel
theorem dL_told_186 : decode cL_told 186 = .ok (.ifCond .eq 27, 3) := by decide +kernel
theorem dL_told_189 : decode cL_told 189 = .ok (.aload_n 0, 1) := by decide +kernel
theorem dL_told_190 : decode cL_told 190 = .ok (.iconst (-1), 1) := by decide +kernel
theorem dL_told_191 : decode cL_told 191 = .ok (.invokevirtual 49, 3) := by decide +kernel
theorem dL_told_194 : decode cL_told 194 = .ok (.invokestatic 40, 3) := by decide +kernel
theorem dL_told_197 : decode cL_told 197 = .ok (.ifCond .eq 16, 3) := by decide +kernel
theorem dL_told_200 : decode cL_told 200 = .ok (.aload_n 0, 1) := by decide +kernel
theorem dL_told_201 : decode cL_told 201 = .ok (.iconst 5, 1) := by decide +kernel
theorem dL_told_202 : decode cL_told 202 = .ok (.invokevirtual 33, 3) := by decide +kernel
theorem dL_told_205 : decode cL_told 205 = .ok (.iconst (-1), 1) := by decide +kernel
theorem dL_told_206 : decode cL_told 206 = .ok (.if_icmp .ne 7, 3) := by decide +kernel
theorem dL_told_209 : decode cL_told 209 = .ok (.iconst 1, 1) := by decide +kernel
theorem dL_told_210 : decode cL_told 210 = .ok (.goto 4, 3) := by decide +kernel
theorem dL_told_213 : decode cL_told 213 = .ok (.iconst 0, 1) := by decide +kernel
theorem dL_told_214 : decode cL_told 214 = .ok (.istore 6, 2) := by decide +kernel
theorem dL_told_216 : decode cL_told 216 = .ok (.aload_n 0, 1) := by decide +kernel
theorem dL_told_217 : decode cL_told 217 = .ok (.iconst 1, 1) := by decide +kernel
theorem dL_told_218 : decode cL_told 218 = .ok (.invokevirtual 52, 3) := by decide +kernel
theorem dL_told_221 : decode cL_told 221 = .ok (.aload_n 0, 1) := by decide +kernel
theorem dL_told_222 : decode cL_told 222 = .ok (.iconst 2, 1) := by decide +kernel
theorem dL_told_223 : decode cL_told 223 = .ok (.invokevirtual 52, 3) := by decide +kernel
theorem dL_told_226 : decode cL_told 226 = .ok (.iadd, 1) := by decide +kernel
theorem dL_told_227 : decode cL_told 227 = .ok (.aload_n 0, 1) := by decide +kernel
theorem dL_told_228 : decode cL_told 228 = .ok (.iconst 3, 1) := by decide +kernel
theorem dL_told_229 : decode cL_told 229 = .ok (.invokevirtual 52, 3) := by decide +kernel
theorem dL_told_232 : decode cL_told 232 = .ok (.iadd, 1) := by decide +kernel
theorem dL_told_233 : decode cL_told 233 = .ok (.aload_n 0, 1) := by decide +kernel
theorem dL_told_234 : decode cL_told 234 = .ok (.iconst 4, 1) := by decide +kernel
theorem dL_told_235 : decode cL_told 235 = .ok (.invokevirtual 52, 3) := by decide +kernel
theorem dL_told_238 : decode cL_told 238 = .ok (.iadd, 1) := by decide +kernel
theorem dL_told_239 : decode cL_told 239 = .ok (.istore 7, 2) := by decide +kernel
theorem dL_told_241 : decode cL_told 241 = .ok (.iload 7, 2) := by decide +kernel
theorem dL_told_243 : decode cL_told 243 = .ok (.bipush 10, 2) := by decide +kernel
theorem dL_told_245 : decode cL_told 245 = .ok (.if_icmp .ge 8, 3) := by decide +kernel
theorem dL_told_248 : decode cL_told 248 = .ok (.iload 7, 2) := by decide +kernel
theorem dL_told_250 : decode cL_told 250 = .ok (.goto 5, 3) := by decide +kernel
theorem dL_told_253 : decode cL_told 253 = .ok (.bipush 10, 2) := by decide +kernel
theorem dL_told_255 : decode cL_told 255 = .ok (.istore 8, 2) := by decide +kernel
theorem dL_told_257 : decode cL_told 257 = .ok (.iconst 0, 1) := by decide +kernel
theorem dL_told_258 : decode cL_told 258 = .ok (.istore 9, 2) := by decide +kernel
theorem dL_told_260 : decode cL_told 260 = .ok (.iload 9, 2) := by decide +kernel
theorem dL_told_262 : decode cL_told 262 = .ok (.iload 8, 2) := by decide +kernel
theorem dL_told_264 : decode cL_told 264 = .ok (.if_icmp .ge 139, 3) := by decide +kernel
theorem dL_told_267 : decode cL_told 267 = .ok (.aload_n 0, 1) := by decide +kernel
theorem dL_told_268 : decode cL_told 268 = .ok (.iload 9, 2) := by decide +kernel
theorem dL_told_270 : decode cL_told 270 = .ok (.iconst 0, 1) := by decide +kernel
theorem dL_told_271 : decode cL_told 271 = .ok (.invokevirtual 55, 3) := by decide +kernel
theorem dL_told_274 : decode cL_told 274 = .ok (.ifCond .lt 52, 3) := by decide +kernel
theorem dL_told_277 : decode cL_told 277 = .ok (.aload_n 0, 1) := by decide +kernel
theorem dL_told_278 : decode cL_told 278 = .ok (.iload 9, 2) := by decide +kernel
theorem dL_told_280 : decode cL_told 280 = .ok (.iconst 0, 1) := by decide +kernel
theorem dL_told_281 : decode cL_told 281 = .ok (.invokevirtual 55, 3) := by decide +kernel
theorem dL_told_284 : decode cL_told 284 = .ok (.iconst 3, 1) := by decide +kernel
theorem dL_told_285 : decode cL_told 285 = .ok (.if_icmp .gt 41, 3) := by decide +kernel
theorem dL_told_288 : decode cL_told 288 = .ok (.aload_n 0, 1) := by decide +kernel
theorem dL_told_289 : decode cL_told 289 = .ok (.iload 9, 2) := by decide +kernel
theorem dL_told_291 : decode cL_told 291 = .ok (.iconst 2, 1) := by decide +kernel
theorem dL_told_292 : decode cL_told 292 = .ok (.invokevirtual 55, 3) := by decide +kernel
theorem dL_told_295 : decode cL_told 295 = .ok (.iconst 1, 1) := by decide +kernel
theorem dL_told_296 : decode cL_told 296 = .ok (.if_icmp .lt 30, 3) := by decide +kernel
theorem dL_told_299 : decode cL_told 299 = .ok (.aload_n 0, 1) := by decide +kernel
theorem dL_told_300 : decode cL_told 300 = .ok (.iload 9, 2) := by decide +kernel
theorem dL_told_302 : decode cL_told 302 = .ok (.iconst 3, 1) := by decide +kernel
theorem dL_told_303 : decode cL_told 303 = .ok (.invokevirtual 55, 3) := by decide +kernel
theorem dL_told_306 : decode cL_told 306 = .ok (.iconst 1, 1) := by decide +kernel
theorem dL_told_307 : decode cL_told 307 = .ok (.if_icmp .lt 19, 3) := by decide +kernel
theorem dL_told_310 : decode cL_told 310 = .ok (.aload_n 0, 1) := by decide +kernel
theorem dL_told_311 : decode cL_told 311 = .ok (.iload 9, 2) := by decide +kernel
theorem dL_told_313 : decode cL_told 313 = .ok (.iconst 3, 1) := by decide +kernel
theorem dL_told_314 : decode cL_told 314 = .ok (.invokevirtual 55, 3) := by decide +kernel
theorem dL_told_317 : decode cL_told 317 = .ok (.bipush 7, 2) := by decide +kernel
theorem dL_told_319 : decode cL_told 319 = .ok (.if_icmp .gt 7, 3) := by decide +kernel
theorem dL_told_322 : decode cL_told 322 = .ok (.iconst 1, 1) := by decide +kernel
theorem dL_told_323 : decode cL_told 323 = .ok (.goto 4, 3) := by decide +kernel
theorem dL_told_326 : decode cL_told 326 = .ok (.iconst 0, 1) := by decide +kernel
theorem dL_told_327 : decode cL_told 327 = .ok (.istore 10, 2) := by decide +kernel
theorem dL_told_329 : decode cL_told 329 = .ok (.aload_n 0, 1) := by decide +kernel
theorem dL_told_330 : decode cL_told 330 = .ok (.iload 9, 2) := by decide +kernel
theorem dL_told_332 : decode cL_told 332 = .ok (.iconst 4, 1) := by decide +kernel
theorem dL_told_333 : decode cL_told 333 = .ok (.invokevirtual 55, 3) := by decide +kernel
theorem dL_told_336 : decode cL_told 336 = .ok (.aload_n 0, 1) := by decide +kernel
theorem dL_told_337 : decode cL_told 337 = .ok (.iload 9, 2) := by decide +kernel
theorem dL_told_339 : decode cL_told 339 = .ok (.iconst 1, 1) := by decide +kernel
theorem dL_told_340 : decode cL_told 340 = .ok (.invokevirtual 55, 3) := by decide +kernel
theorem dL_told_343 : decode cL_told 343 = .ok (.aload_n 0, 1) := by decide +kernel
theorem dL_told_344 : decode cL_told 344 = .ok (.iload 9, 2) := by decide +kernel
theorem dL_told_346 : decode cL_told 346 = .ok (.iconst 2, 1) := by decide +kernel
theorem dL_told_347 : decode cL_told 347 = .ok (.invokevirtual 55, 3) := by decide +kernel
theorem dL_told_350 : decode cL_told 350 = .ok (.iadd, 1) := by decide +kernel
theorem dL_told_351 : decode cL_told 351 = .ok (.if_icmp .lt 31, 3) := by decide +kernel
theorem dL_told_354 : decode cL_told 354 = .ok (.iload 9, 2) := by decide +kernel
theorem dL_told_356 : decode cL_told 356 = .ok (.ifCond .eq 22, 3) := by decide +kernel
theorem dL_told_359 : decode cL_told 359 = .ok (.aload_n 0, 1) := by decide +kernel
theorem dL_told_360 : decode cL_told 360 = .ok (.iload 9, 2) := by decide +kernel
theorem dL_told_362 : decode cL_told 362 = .ok (.iconst 4, 1) := by decide +kernel
theorem dL_told_363 : decode cL_told 363 = .ok (.invokevirtual 55, 3) := by decide +kernel
theorem dL_told_366 : decode cL_told 366 = .ok (.aload_n 0, 1) := by decide +kernel
theorem dL_told_367 : decode cL_told 367 = .ok (.iload 9, 2) := by decide +kernel
theorem dL_told_369 : decode cL_told 369 = .ok (.iconst 1, 1) := by decide +kernel
theorem dL_told_370 : decode cL_told 370 = .ok (.isub, 1) := by decide +kernel
theorem dL_told_371 : decode cL_told 371 = .ok (.iconst 1, 1) := by decide +kernel
theorem dL_told_372 : decode cL_told 372 = .ok (.invokevirtual 55, 3) := by decide +kernel
theorem dL_told_375 : decode cL_told 375 = .ok (.if_icmp .ge 7, 3) := by decide +kernel
theorem dL_told_378 : decode cL_told 378 = .ok (.iconst 1, 1) := by decide +kernel
theorem dL_told_379 : decode cL_told 379 = .ok (.goto 4, 3) := by decide +kernel
theorem dL_told_382 : decode cL_told 382 = .ok (.iconst 0, 1) := by decide +kernel
theorem dL_told_383 : decode cL_told 383 = .ok (.istore 11, 2) := by decide +kernel
theorem dL_told_385 : decode cL_told 385 = .ok (.iload 10, 2) := by decide +kernel
theorem dL_told_387 : decode cL_told 387 = .ok (.ifCond .eq 8, 3) := by decide +kernel
theorem dL_told_390 : decode cL_told 390 = .ok (.iload 11, 2) := by decide +kernel
theorem dL_told_392 : decode cL_told 392 = .ok (.ifCond .ne 5, 3) := by decide +kernel
theorem dL_told_395 : decode cL_told 395 = .ok (.iconst 0, 1) := by decide +kernel
theorem dL_told_396 : decode cL_told 396 = .ok (.ireturn, 1) := by decide +kernel
theorem dL_told_397 : decode cL_told 397 = .ok (.iinc 9 1, 3) := by decide +kernel
theorem dL_told_400 : decode cL_told 400 = .ok (.goto (-140), 3) := by decide +kernel
theorem dL_told_403 : decode cL_told 403 = .ok (.iload_n 3, 1) := by decide +kernel
theorem dL_told_404 : decode cL_told 404 = .ok (.ifCond .eq 58, 3) := by decide +kernel
theorem dL_told_407 : decode cL_told 407 = .ok (.iload 4, 2) := by decide +kernel
theorem dL_told_409 : decode cL_told 409 = .ok (.ifCond .eq 53, 3) := by decide +kernel
theorem dL_told_412 : decode cL_told 412 = .ok (.iload 6, 2) := by decide +kernel
theorem dL_told_414 : decode cL_told 414 = .ok (.ifCond .eq 48, 3) := by decide +kernel
theorem dL_told_417 : decode cL_told 417 = .ok (.aload_n 0, 1) := by decide +kernel
theorem dL_told_418 : decode cL_told 418 = .ok (.iload 8, 2) := by decide +kernel
theorem dL_told_420 : decode cL_told 420 = .ok (.iconst 0, 1) := by decide +kernel
theorem dL_told_421 : decode cL_told 421 = .ok (.invokevirtual 55, 3) := by decide +kernel
theorem dL_told_424 : decode cL_told 424 = .ok (.bipush (-5), 2) := by decide +kernel
theorem dL_told_426 : decode cL_told 426 = .ok (.if_icmp .ne 36, 3) := by decide +kernel
theorem dL_told_429 : decode cL_told 429 = .ok (.aload_n 0, 1) := by decide +kernel
theorem dL_told_430 : decode cL_told 430 = .ok (.iconst (-1), 1) := by decide +kernel
theorem dL_told_431 : decode cL_told 431 = .ok (.iconst 0, 1) := by decide +kernel
theorem dL_told_432 : decode cL_told 432 = .ok (.invokevirtual 55, 3) := by decide +kernel
theorem dL_told_435 : decode cL_told 435 = .ok (.bipush (-2), 2) := by decide +kernel
theorem dL_told_437 : decode cL_told 437 = .ok (.if_icmp .ne 25, 3) := by decide +kernel
theorem dL_told_440 : decode cL_told 440 = .ok (.aload_n 0, 1) := by decide +kernel
theorem dL_told_441 : decode cL_told 441 = .ok (.iconst 0, 1) := by decide +kernel
theorem dL_told_442 : decode cL_told 442 = .ok (.iconst 5, 1) := by decide +kernel
theorem dL_told_443 : decode cL_told 443 = .ok (.invokevirtual 55, 3) := by decide +kernel
theorem dL_told_446 : decode cL_told 446 = .ok (.bipush (-2), 2) := by decide +kernel
theorem dL_told_448 : decode cL_told 448 = .ok (.if_icmp .ne 14, 3) := by decide +kernel
theorem dL_told_451 : decode cL_told 451 = .ok (.aload_n 0, 1) := by decide +kernel
theorem dL_told_452 : decode cL_told 452 = .ok (.invokestatic 59, 3) := by decide +kernel
theorem dL_told_455 : decode cL_told 455 = .ok (.ifCond .eq 7, 3) := by decide +kernel
theorem dL_told_458 : decode cL_told 458 = .ok (.iconst 1, 1) := by decide +kernel
theorem dL_told_459 : decode cL_told 459 = .ok (.goto 4, 3) := by decide +kernel
theorem dL_told_462 : decode cL_told 462 = .ok (.iconst 0, 1) := by decide +kernel
theorem dL_told_463 : decode cL_told 463 = .ok (.ireturn, 1) := by decide +kernel
