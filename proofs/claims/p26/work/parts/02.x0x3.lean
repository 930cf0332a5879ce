theorem dX0_init_0 : decode cX0_init 0 = .ok (.aload_n 0, 1) := by decide +kernel
theorem dX0_init_1 : decode cX0_init 1 = .ok (.invokespecial 1, 3) := by decide +kernel
theorem dX0_init_4 : decode cX0_init 4 = .ok (.aload_n 0, 1) := by decide +kernel
theorem dX0_init_5 : decode cX0_init 5 = .ok (.bipush 60, 2) := by decide +kernel
theorem dX0_init_7 : decode cX0_init 7 = .ok (.newarray .char, 2) := by decide +kernel
theorem dX0_init_9 : decode cX0_init 9 = .ok (.putfield 9, 3) := by decide +kernel
theorem dX0_init_12 : decode cX0_init 12 = .ok (.aload_n 0, 1) := by decide +kernel
theorem dX0_init_13 : decode cX0_init 13 = .ok (.bipush 60, 2) := by decide +kernel
theorem dX0_init_15 : decode cX0_init 15 = .ok (.newarray .int, 2) := by decide +kernel
theorem dX0_init_17 : decode cX0_init 17 = .ok (.putfield 13, 3) := by decide +kernel
theorem dX0_init_20 : decode cX0_init 20 = .ok (.aload_n 0, 1) := by decide +kernel
theorem dX0_init_21 : decode cX0_init 21 = .ok (.bipush 60, 2) := by decide +kernel
theorem dX0_init_23 : decode cX0_init 23 = .ok (.newarray .int, 2) := by decide +kernel
theorem dX0_init_25 : decode cX0_init 25 = .ok (.putfield 17, 3) := by decide +kernel
theorem dX0_init_28 : decode cX0_init 28 = .ok (.return_, 1) := by decide +kernel
theorem dX0_append_0 : decode cX0_append 0 = .ok (.aload_n 0, 1) := by decide +kernel
theorem dX0_append_1 : decode cX0_append 1 = .ok (.getfield 20, 3) := by decide +kernel
theorem dX0_append_4 : decode cX0_append 4 = .ok (.ifCond .lt 15, 3) := by decide +kernel
theorem dX0_append_7 : decode cX0_append 7 = .ok (.aload_n 0, 1) := by decide +kernel
theorem dX0_append_8 : decode cX0_append 8 = .ok (.getfield 20, 3) := by decide +kernel
theorem dX0_append_11 : decode cX0_append 11 = .ok (.aload_n 0, 1) := by decide +kernel
theorem dX0_append_12 : decode cX0_append 12 = .ok (.getfield 9, 3) := by decide +kernel
theorem dX0_append_15 : decode cX0_append 15 = .ok (.arraylength, 1) := by decide +kernel
theorem dX0_append_16 : decode cX0_append 16 = .ok (.if_icmp .lt 5, 3) := by decide +kernel
theorem dX0_append_19 : decode cX0_append 19 = .ok (.iconst 0, 1) := by decide +kernel
theorem dX0_append_20 : decode cX0_append 20 = .ok (.ireturn, 1) := by decide +kernel
theorem dX0_append_21 : decode cX0_append 21 = .ok (.aload_n 0, 1) := by decide +kernel
theorem dX0_append_22 : decode cX0_append 22 = .ok (.getfield 9, 3) := by decide +kernel
theorem dX0_append_25 : decode cX0_append 25 = .ok (.aload_n 0, 1) := by decide +kernel
theorem dX0_append_26 : decode cX0_append 26 = .ok (.getfield 20, 3) := by decide +kernel
theorem dX0_append_29 : decode cX0_append 29 = .ok (.iload_n 1, 1) := by decide +kernel
theorem dX0_append_30 : decode cX0_append 30 = .ok (.castore, 1) := by decide +kernel
theorem dX0_append_31 : decode cX0_append 31 = .ok (.aload_n 0, 1) := by decide +kernel
theorem dX0_append_32 : decode cX0_append 32 = .ok (.dup, 1) := by decide +kernel
theorem dX0_append_33 : decode cX0_append 33 = .ok (.getfield 20, 3) := by decide +kernel
theorem dX0_append_36 : decode cX0_append 36 = .ok (.iconst 1, 1) := by decide +kernel
theorem dX0_append_37 : decode cX0_append 37 = .ok (.iadd, 1) := by decide +kernel
theorem dX0_append_38 : decode cX0_append 38 = .ok (.putfield 20, 3) := by decide +kernel
theorem dX0_append_41 : decode cX0_append 41 = .ok (.iconst 1, 1) := by decide +kernel
theorem dX0_append_42 : decode cX0_append 42 = .ok (.ireturn, 1) := by decide +kernel
set_option maxRecDepth 20000 in
theorem ggX0_parse_X0_standBehind : GoodIn wsX0_parse wsX0_standBehind := goodIn_r _ [7, 8, 9, 6, 10, 11, 12, 13] (by decide +kernel) (by decide +kernel)
set_option maxRecDepth 20000 in
theorem gX0_parse_X0_standBehind : GoodIn wsX0_parse (va_wsS RX0 27 yX0_standBehind wsX0_standBehind) := goodIn_app (goodIn_of _ (by decide +kernel)) ggX0_parse_X0_standBehind
set_option maxRecDepth 20000 in
theorem ggX0_parse_X0_take : GoodIn wsX0_parse wsX0_take := goodIn_r _ [17, 1, 18, 19, 20, 6, 21, 22, 23, 24, 25, 26, 27, 28, 29, 30, 31, 32, 33, 34, 35, 36] (by decide +kernel) (by decide +kernel)
set_option maxRecDepth 20000 in
theorem gX0_parse_X0_take : GoodIn wsX0_parse (wsV RX0 31 RX0 yX0_take wsX0_take) := goodIn_app (goodIn_of _ (by decide +kernel)) ggX0_parse_X0_take
theorem dX0_parse_0 : decode cX0_parse 0 = .ok (.aload_n 0, 1) := by decide +kernel
theorem dX0_parse_1 : decode cX0_parse 1 = .ok (.iconst 0, 1) := by decide +kernel
theorem dX0_parse_2 : decode cX0_parse 2 = .ok (.putfield 24, 3) := by decide +kernel
theorem dX0_parse_5 : decode cX0_parse 5 = .ok (.iconst 0, 1) := by decide +kernel
theorem dX0_parse_6 : decode cX0_parse 6 = .ok (.istore_n 1, 1) := by decide +kernel
theorem dX0_parse_7 : decode cX0_parse 7 = .ok (.iconst 0, 1) := by decide +kernel
theorem dX0_parse_8 : decode cX0_parse 8 = .ok (.istore_n 2, 1) := by decide +kernel
theorem dX0_parse_9 : decode cX0_parse 9 = .ok (.iload_n 2, 1) := by decide +kernel
theorem dX0_parse_10 : decode cX0_parse 10 = .ok (.aload_n 0, 1) := by decide +kernel
theorem dX0_parse_11 : decode cX0_parse 11 = .ok (.getfield 20, 3) := by decide +kernel
theorem dX0_parse_14 : decode cX0_parse 14 = .ok (.if_icmp .ge 50, 3) := by decide +kernel
theorem dX0_parse_17 : decode cX0_parse 17 = .ok (.iload_n 2, 1) := by decide +kernel
theorem dX0_parse_18 : decode cX0_parse 18 = .ok (.aload_n 0, 1) := by decide +kernel
theorem dX0_parse_19 : decode cX0_parse 19 = .ok (.getfield 9, 3) := by decide +kernel
theorem dX0_parse_22 : decode cX0_parse 22 = .ok (.arraylength, 1) := by decide +kernel
theorem dX0_parse_23 : decode cX0_parse 23 = .ok (.if_icmp .ge 41, 3) := by decide +kernel
theorem dX0_parse_26 : decode cX0_parse 26 = .ok (.aload_n 0, 1) := by decide +kernel
theorem dX0_parse_27 : decode cX0_parse 27 = .ok (.getfield 9, 3) := by decide +kernel
theorem dX0_parse_30 : decode cX0_parse 30 = .ok (.iload_n 2, 1) := by decide +kernel
theorem dX0_parse_31 : decode cX0_parse 31 = .ok (.caload, 1) := by decide +kernel
theorem dX0_parse_32 : decode cX0_parse 32 = .ok (.iload_n 1, 1) := by decide +kernel
theorem dX0_parse_33 : decode cX0_parse 33 = .ok (.invokestatic 27, 3) := by decide +kernel
theorem dX0_parse_36 : decode cX0_parse 36 = .ok (.istore_n 1, 1) := by decide +kernel
theorem dX0_parse_37 : decode cX0_parse 37 = .ok (.iload_n 1, 1) := by decide +kernel
theorem dX0_parse_38 : decode cX0_parse 38 = .ok (.iconst 5, 1) := by decide +kernel
theorem dX0_parse_39 : decode cX0_parse 39 = .ok (.if_icmp .ne 5, 3) := by decide +kernel
theorem dX0_parse_42 : decode cX0_parse 42 = .ok (.iload_n 2, 1) := by decide +kernel
theorem dX0_parse_43 : decode cX0_parse 43 = .ok (.ireturn, 1) := by decide +kernel
theorem dX0_parse_44 : decode cX0_parse 44 = .ok (.aload_n 0, 1) := by decide +kernel
theorem dX0_parse_45 : decode cX0_parse 45 = .ok (.aload_n 0, 1) := by decide +kernel
theorem dX0_parse_46 : decode cX0_parse 46 = .ok (.getfield 9, 3) := by decide +kernel
theorem dX0_parse_49 : decode cX0_parse 49 = .ok (.iload_n 2, 1) := by decide +kernel
theorem dX0_parse_50 : decode cX0_parse 50 = .ok (.caload, 1) := by decide +kernel
theorem dX0_parse_51 : decode cX0_parse 51 = .ok (.bipush 48, 2) := by decide +kernel
theorem dX0_parse_53 : decode cX0_parse 53 = .ok (.isub, 1) := by decide +kernel
theorem dX0_parse_54 : decode cX0_parse 54 = .ok (.iload_n 1, 1) := by decide +kernel
theorem dX0_parse_55 : decode cX0_parse 55 = .ok (.invokevirtual 31, 3) := by decide +kernel
theorem dX0_parse_58 : decode cX0_parse 58 = .ok (.iinc 2 1, 3) := by decide +kernel
theorem dX0_parse_61 : decode cX0_parse 61 = .ok (.goto (-52), 3) := by decide +kernel
theorem dX0_parse_64 : decode cX0_parse 64 = .ok (.iload_n 1, 1) := by decide +kernel
theorem dX0_parse_65 : decode cX0_parse 65 = .ok (.ifCond .eq 8, 3) := by decide +kernel
theorem dX0_parse_68 : decode cX0_parse 68 = .ok (.iload_n 1, 1) := by decide +kernel
theorem dX0_parse_69 : decode cX0_parse 69 = .ok (.iconst 2, 1) := by decide +kernel
theorem dX0_parse_70 : decode cX0_parse 70 = .ok (.if_icmp .ne 10, 3) := by decide +kernel
theorem dX0_parse_73 : decode cX0_parse 73 = .ok (.aload_n 0, 1) := by decide +kernel
theorem dX0_parse_74 : decode cX0_parse 74 = .ok (.getfield 20, 3) := by decide +kernel
theorem dX0_parse_77 : decode cX0_parse 77 = .ok (.goto 4, 3) := by decide +kernel
theorem dX0_parse_80 : decode cX0_parse 80 = .ok (.iconst (-1), 1) := by decide +kernel
theorem dX0_parse_81 : decode cX0_parse 81 = .ok (.ireturn, 1) := by decide +kernel
theorem dX0_beamsOf_0 : decode cX0_beamsOf 0 = .ok (.iload_n 1, 1) := by decide +kernel
theorem dX0_beamsOf_1 : decode cX0_beamsOf 1 = .ok (.ifCond .lt 12, 3) := by decide +kernel
theorem dX0_beamsOf_4 : decode cX0_beamsOf 4 = .ok (.iload_n 1, 1) := by decide +kernel
theorem dX0_beamsOf_5 : decode cX0_beamsOf 5 = .ok (.aload_n 0, 1) := by decide +kernel
theorem dX0_beamsOf_6 : decode cX0_beamsOf 6 = .ok (.getfield 13, 3) := by decide +kernel
theorem dX0_beamsOf_9 : decode cX0_beamsOf 9 = .ok (.arraylength, 1) := by decide +kernel
theorem dX0_beamsOf_10 : decode cX0_beamsOf 10 = .ok (.if_icmp .lt 7, 3) := by decide +kernel
theorem dX0_beamsOf_13 : decode cX0_beamsOf 13 = .ok (.iconst 0, 1) := by decide +kernel
theorem dX0_beamsOf_14 : decode cX0_beamsOf 14 = .ok (.goto 9, 3) := by decide +kernel
theorem dX0_beamsOf_17 : decode cX0_beamsOf 17 = .ok (.aload_n 0, 1) := by decide +kernel
theorem dX0_beamsOf_18 : decode cX0_beamsOf 18 = .ok (.getfield 13, 3) := by decide +kernel
theorem dX0_beamsOf_21 : decode cX0_beamsOf 21 = .ok (.iload_n 1, 1) := by decide +kernel
theorem dX0_beamsOf_22 : decode cX0_beamsOf 22 = .ok (.iaload, 1) := by decide +kernel
theorem dX0_beamsOf_23 : decode cX0_beamsOf 23 = .ok (.ireturn, 1) := by decide +kernel
theorem dX0_ticksOf_0 : decode cX0_ticksOf 0 = .ok (.iload_n 1, 1) := by decide +kernel
theorem dX0_ticksOf_1 : decode cX0_ticksOf 1 = .ok (.ifCond .lt 12, 3) := by decide +kernel
theorem dX0_ticksOf_4 : decode cX0_ticksOf 4 = .ok (.iload_n 1, 1) := by decide +kernel
theorem dX0_ticksOf_5 : decode cX0_ticksOf 5 = .ok (.aload_n 0, 1) := by decide +kernel
theorem dX0_ticksOf_6 : decode cX0_ticksOf 6 = .ok (.getfield 17, 3) := by decide +kernel
theorem dX0_ticksOf_9 : decode cX0_ticksOf 9 = .ok (.arraylength, 1) := by decide +kernel
theorem dX0_ticksOf_10 : decode cX0_ticksOf 10 = .ok (.if_icmp .lt 7, 3) := by decide +kernel
theorem dX0_ticksOf_13 : decode cX0_ticksOf 13 = .ok (.iconst 0, 1) := by decide +kernel
theorem dX0_ticksOf_14 : decode cX0_ticksOf 14 = .ok (.goto 9, 3) := by decide +kernel
theorem dX0_ticksOf_17 : decode cX0_ticksOf 17 = .ok (.aload_n 0, 1) := by decide +kernel
theorem dX0_ticksOf_18 : decode cX0_ticksOf 18 = .ok (.getfield 17, 3) := by decide +kernel
theorem dX0_ticksOf_21 : decode cX0_ticksOf 21 = .ok (.iload_n 1, 1) := by decide +kernel
theorem dX0_ticksOf_22 : decode cX0_ticksOf 22 = .ok (.iaload, 1) := by decide +kernel
theorem dX0_ticksOf_23 : decode cX0_ticksOf 23 = .ok (.ireturn, 1) := by decide +kernel
set_option maxRecDepth 20000 in
theorem ggX0_ticksOfAllParts_X0_ticksOf : GoodIn wsX0_ticksOfAllParts wsX0_ticksOf := goodIn_r _ [6, 7, 8, 9, 10, 11, 12] (by decide +kernel) (by decide +kernel)
set_option maxRecDepth 20000 in
theorem gX0_ticksOfAllParts_X0_ticksOf : GoodIn wsX0_ticksOfAllParts (wsV RX0 35 RX0 yX0_ticksOf wsX0_ticksOf) := goodIn_app (goodIn_of _ (by decide +kernel)) ggX0_ticksOfAllParts_X0_ticksOf
theorem dX0_ticksOfAllParts_0 : decode cX0_ticksOfAllParts 0 = .ok (.iconst 0, 1) := by decide +kernel
theorem dX0_ticksOfAllParts_1 : decode cX0_ticksOfAllParts 1 = .ok (.istore_n 1, 1) := by decide +kernel
theorem dX0_ticksOfAllParts_2 : decode cX0_ticksOfAllParts 2 = .ok (.iconst 0, 1) := by decide +kernel
theorem dX0_ticksOfAllParts_3 : decode cX0_ticksOfAllParts 3 = .ok (.istore_n 2, 1) := by decide +kernel
theorem dX0_ticksOfAllParts_4 : decode cX0_ticksOfAllParts 4 = .ok (.iload_n 2, 1) := by decide +kernel
theorem dX0_ticksOfAllParts_5 : decode cX0_ticksOfAllParts 5 = .ok (.aload_n 0, 1) := by decide +kernel
theorem dX0_ticksOfAllParts_6 : decode cX0_ticksOfAllParts 6 = .ok (.getfield 24, 3) := by decide +kernel
theorem dX0_ticksOfAllParts_9 : decode cX0_ticksOfAllParts 9 = .ok (.if_icmp .ge 17, 3) := by decide +kernel
theorem dX0_ticksOfAllParts_12 : decode cX0_ticksOfAllParts 12 = .ok (.iload_n 1, 1) := by decide +kernel
theorem dX0_ticksOfAllParts_13 : decode cX0_ticksOfAllParts 13 = .ok (.aload_n 0, 1) := by decide +kernel
theorem dX0_ticksOfAllParts_14 : decode cX0_ticksOfAllParts 14 = .ok (.iload_n 2, 1) := by decide +kernel
theorem dX0_ticksOfAllParts_15 : decode cX0_ticksOfAllParts 15 = .ok (.invokevirtual 35, 3) := by decide +kernel
theorem dX0_ticksOfAllParts_18 : decode cX0_ticksOfAllParts 18 = .ok (.iadd, 1) := by decide +kernel
theorem dX0_ticksOfAllParts_19 : decode cX0_ticksOfAllParts 19 = .ok (.istore_n 1, 1) := by decide +kernel
theorem dX0_ticksOfAllParts_20 : decode cX0_ticksOfAllParts 20 = .ok (.iinc 2 1, 3) := by decide +kernel
theorem dX0_ticksOfAllParts_23 : decode cX0_ticksOfAllParts 23 = .ok (.goto (-19), 3) := by decide +kernel
theorem dX0_ticksOfAllParts_26 : decode cX0_ticksOfAllParts 26 = .ok (.iload_n 1, 1) := by decide +kernel
theorem dX0_ticksOfAllParts_27 : decode cX0_ticksOfAllParts 27 = .ok (.ireturn, 1) := by decide +kernel
set_option maxRecDepth 20000 in
theorem ggX0_standBehind_X0_isFrom : GoodIn wsX0_standBehind wsX0_isFrom := goodIn_r _ [4] (by decide +kernel) (by decide +kernel)
set_option maxRecDepth 20000 in
theorem gX0_standBehind_X0_isFrom : GoodIn wsX0_standBehind (va_wsS RX0 39 yX0_isFrom wsX0_isFrom) := goodIn_app (goodIn_of _ (by decide +kernel)) ggX0_standBehind_X0_isFrom
set_option maxRecDepth 20000 in
theorem ggX0_standBehind_X0_standBehindPart : GoodIn wsX0_standBehind wsX0_standBehindPart := goodIn_r _ [7] (by decide +kernel) (by decide +kernel)
set_option maxRecDepth 20000 in
theorem gX0_standBehind_X0_standBehindPart : GoodIn wsX0_standBehind (va_wsS RX0 43 yX0_standBehindPart wsX0_standBehindPart) := goodIn_app (goodIn_of _ (by decide +kernel)) ggX0_standBehind_X0_standBehindPart
theorem dX0_standBehind_0 : decode cX0_standBehind 0 = .ok (.iload_n 1, 1) := by decide +kernel
theorem dX0_standBehind_1 : decode cX0_standBehind 1 = .ok (.tableswitch 100 0 3 #[31, 48, 63, 80], 31) := by decide +kernel
theorem dX0_standBehind_32 : decode cX0_standBehind 32 = .ok (.bipush 48, 2) := by decide +kernel
theorem dX0_standBehind_34 : decode cX0_standBehind 34 = .ok (.bipush 55, 2) := by decide +kernel
theorem dX0_standBehind_36 : decode cX0_standBehind 36 = .ok (.iload_n 0, 1) := by decide +kernel
theorem dX0_standBehind_37 : decode cX0_standBehind 37 = .ok (.invokestatic 39, 3) := by decide +kernel
theorem dX0_standBehind_40 : decode cX0_standBehind 40 = .ok (.ifCond .eq 7, 3) := by decide +kernel
theorem dX0_standBehind_43 : decode cX0_standBehind 43 = .ok (.iconst 1, 1) := by decide +kernel
theorem dX0_standBehind_44 : decode cX0_standBehind 44 = .ok (.goto 4, 3) := by decide +kernel
theorem dX0_standBehind_47 : decode cX0_standBehind 47 = .ok (.iconst 5, 1) := by decide +kernel
theorem dX0_standBehind_48 : decode cX0_standBehind 48 = .ok (.ireturn, 1) := by decide +kernel
theorem dX0_standBehind_49 : decode cX0_standBehind 49 = .ok (.iload_n 0, 1) := by decide +kernel
theorem dX0_standBehind_50 : decode cX0_standBehind 50 = .ok (.bipush 42, 2) := by decide +kernel
theorem dX0_standBehind_52 : decode cX0_standBehind 52 = .ok (.if_icmp .ne 7, 3) := by decide +kernel
theorem dX0_standBehind_55 : decode cX0_standBehind 55 = .ok (.iconst 2, 1) := by decide +kernel
theorem dX0_standBehind_56 : decode cX0_standBehind 56 = .ok (.goto 7, 3) := by decide +kernel
theorem dX0_standBehind_59 : decode cX0_standBehind 59 = .ok (.iload_n 0, 1) := by decide +kernel
theorem dX0_standBehind_60 : decode cX0_standBehind 60 = .ok (.invokestatic 43, 3) := by decide +kernel
theorem dX0_standBehind_63 : decode cX0_standBehind 63 = .ok (.ireturn, 1) := by decide +kernel
theorem dX0_standBehind_64 : decode cX0_standBehind 64 = .ok (.bipush 49, 2) := by decide +kernel
theorem dX0_standBehind_66 : decode cX0_standBehind 66 = .ok (.bipush 57, 2) := by decide +kernel
theorem dX0_standBehind_68 : decode cX0_standBehind 68 = .ok (.iload_n 0, 1) := by decide +kernel
theorem dX0_standBehind_69 : decode cX0_standBehind 69 = .ok (.invokestatic 39, 3) := by decide +kernel
theorem dX0_standBehind_72 : decode cX0_standBehind 72 = .ok (.ifCond .eq 7, 3) := by decide +kernel
theorem dX0_standBehind_75 : decode cX0_standBehind 75 = .ok (.iconst 3, 1) := by decide +kernel
theorem dX0_standBehind_76 : decode cX0_standBehind 76 = .ok (.goto 4, 3) := by decide +kernel
theorem dX0_standBehind_79 : decode cX0_standBehind 79 = .ok (.iconst 5, 1) := by decide +kernel
theorem dX0_standBehind_80 : decode cX0_standBehind 80 = .ok (.ireturn, 1) := by decide +kernel
theorem dX0_standBehind_81 : decode cX0_standBehind 81 = .ok (.bipush 48, 2) := by decide +kernel
theorem dX0_standBehind_83 : decode cX0_standBehind 83 = .ok (.bipush 57, 2) := by decide +kernel
theorem dX0_standBehind_85 : decode cX0_standBehind 85 = .ok (.iload_n 0, 1) := by decide +kernel
theorem dX0_standBehind_86 : decode cX0_standBehind 86 = .ok (.invokestatic 39, 3) := by decide +kernel
theorem dX0_standBehind_89 : decode cX0_standBehind 89 = .ok (.ifCond .eq 7, 3) := by decide +kernel
theorem dX0_standBehind_92 : decode cX0_standBehind 92 = .ok (.iconst 4, 1) := by decide +kernel
theorem dX0_standBehind_93 : decode cX0_standBehind 93 = .ok (.goto 7, 3) := by decide +kernel
theorem dX0_standBehind_96 : decode cX0_standBehind 96 = .ok (.iload_n 0, 1) := by decide +kernel
theorem dX0_standBehind_97 : decode cX0_standBehind 97 = .ok (.invokestatic 43, 3) := by decide +kernel
theorem dX0_standBehind_100 : decode cX0_standBehind 100 = .ok (.ireturn, 1) := by decide +kernel
theorem dX0_standBehind_101 : decode cX0_standBehind 101 = .ok (.iload_n 0, 1) := by decide +kernel
theorem dX0_standBehind_102 : decode cX0_standBehind 102 = .ok (.invokestatic 43, 3) := by decide +kernel
theorem dX0_standBehind_105 : decode cX0_standBehind 105 = .ok (.ireturn, 1) := by decide +kernel
theorem dX0_standBehindPart_0 : decode cX0_standBehindPart 0 = .ok (.iload_n 0, 1) := by decide +kernel
theorem dX0_standBehindPart_1 : decode cX0_standBehindPart 1 = .ok (.bipush 44, 2) := by decide +kernel
theorem dX0_standBehindPart_3 : decode cX0_standBehindPart 3 = .ok (.if_icmp .ne 7, 3) := by decide +kernel
theorem dX0_standBehindPart_6 : decode cX0_standBehindPart 6 = .ok (.iconst 0, 1) := by decide +kernel
theorem dX0_standBehindPart_7 : decode cX0_standBehindPart 7 = .ok (.goto 4, 3) := by decide +kernel
theorem dX0_standBehindPart_10 : decode cX0_standBehindPart 10 = .ok (.iconst 5, 1) := by decide +kernel
theorem dX0_standBehindPart_11 : decode cX0_standBehindPart 11 = .ok (.ireturn, 1) := by decide +kernel
theorem dX0_isFrom_0 : decode cX0_isFrom 0 = .ok (.iload_n 2, 1) := by decide +kernel
theorem dX0_isFrom_1 : decode cX0_isFrom 1 = .ok (.iload_n 0, 1) := by decide +kernel
theorem dX0_isFrom_2 : decode cX0_isFrom 2 = .ok (.if_icmp .lt 12, 3) := by decide +kernel
theorem dX0_isFrom_5 : decode cX0_isFrom 5 = .ok (.iload_n 2, 1) := by decide +kernel
theorem dX0_isFrom_6 : decode cX0_isFrom 6 = .ok (.iload_n 1, 1) := by decide +kernel
theorem dX0_isFrom_7 : decode cX0_isFrom 7 = .ok (.if_icmp .gt 7, 3) := by decide +kernel
theorem dX0_isFrom_10 : decode cX0_isFrom 10 = .ok (.iconst 1, 1) := by decide +kernel
theorem dX0_isFrom_11 : decode cX0_isFrom 11 = .ok (.goto 4, 3) := by decide +kernel
theorem dX0_isFrom_14 : decode cX0_isFrom 14 = .ok (.iconst 0, 1) := by decide +kernel
theorem dX0_isFrom_15 : decode cX0_isFrom 15 = .ok (.ireturn, 1) := by decide +kernel
set_option maxRecDepth 20000 in
theorem ggX0_take_X0_addPart : GoodIn wsX0_take wsX0_addPart := goodIn_r _ [6, 1, 7, 8, 17, 18, 19, 20, 21] (by decide +kernel) (by decide +kernel)
set_option maxRecDepth 20000 in
theorem gX0_take_X0_addPart : GoodIn wsX0_take (wsV RX0 47 RX0 yX0_addPart wsX0_addPart) := goodIn_app (goodIn_of _ (by decide +kernel)) ggX0_take_X0_addPart
set_option maxRecDepth 20000 in
theorem ggX0_take_X0_changeTicksOfLastPart : GoodIn wsX0_take wsX0_changeTicksOfLastPart := goodIn_r _ [12, 1, 8, 17, 18, 19, 20, 21] (by decide +kernel) (by decide +kernel)
set_option maxRecDepth 20000 in
theorem gX0_take_X0_changeTicksOfLastPart : GoodIn wsX0_take (wsV RX0 51 RX0 yX0_changeTicksOfLastPart wsX0_changeTicksOfLastPart) := goodIn_app (goodIn_of _ (by decide +kernel)) ggX0_take_X0_changeTicksOfLastPart
set_option maxRecDepth 20000 in
theorem ggX0_take_X0_ticksOf : GoodIn wsX0_take wsX0_ticksOf := goodIn_r _ [16, 8, 17, 18, 19, 20, 21] (by decide +kernel) (by decide +kernel)
set_option maxRecDepth 20000 in
theorem gX0_take_X0_ticksOf : GoodIn wsX0_take (wsV RX0 35 RX0 yX0_ticksOf wsX0_ticksOf) := goodIn_app (goodIn_of _ (by decide +kernel)) ggX0_take_X0_ticksOf
theorem dX0_take_0 : decode cX0_take 0 = .ok (.iload_n 2, 1) := by decide +kernel
theorem dX0_take_1 : decode cX0_take 1 = .ok (.iconst 1, 1) := by decide +kernel
theorem dX0_take_2 : decode cX0_take 2 = .ok (.if_icmp .ne 11, 3) := by decide +kernel
theorem dX0_take_5 : decode cX0_take 5 = .ok (.aload_n 0, 1) := by decide +kernel
theorem dX0_take_6 : decode cX0_take 6 = .ok (.iload_n 1, 1) := by decide +kernel
theorem dX0_take_7 : decode cX0_take 7 = .ok (.invokevirtual 47, 3) := by decide +kernel
theorem dX0_take_10 : decode cX0_take 10 = .ok (.goto 40, 3) := by decide +kernel
theorem dX0_take_13 : decode cX0_take 13 = .ok (.iload_n 2, 1) := by decide +kernel
theorem dX0_take_14 : decode cX0_take 14 = .ok (.iconst 3, 1) := by decide +kernel
theorem dX0_take_15 : decode cX0_take 15 = .ok (.if_icmp .ne 11, 3) := by decide +kernel
theorem dX0_take_18 : decode cX0_take 18 = .ok (.aload_n 0, 1) := by decide +kernel
theorem dX0_take_19 : decode cX0_take 19 = .ok (.iload_n 1, 1) := by decide +kernel
theorem dX0_take_20 : decode cX0_take 20 = .ok (.invokevirtual 51, 3) := by decide +kernel
theorem dX0_take_23 : decode cX0_take 23 = .ok (.goto 27, 3) := by decide +kernel
theorem dX0_take_26 : decode cX0_take 26 = .ok (.iload_n 2, 1) := by decide +kernel
theorem dX0_take_27 : decode cX0_take 27 = .ok (.iconst 4, 1) := by decide +kernel
theorem dX0_take_28 : decode cX0_take 28 = .ok (.if_icmp .ne 22, 3) := by decide +kernel
theorem dX0_take_31 : decode cX0_take 31 = .ok (.aload_n 0, 1) := by decide +kernel
theorem dX0_take_32 : decode cX0_take 32 = .ok (.aload_n 0, 1) := by decide +kernel
theorem dX0_take_33 : decode cX0_take 33 = .ok (.aload_n 0, 1) := by decide +kernel
theorem dX0_take_34 : decode cX0_take 34 = .ok (.getfield 24, 3) := by decide +kernel
theorem dX0_take_37 : decode cX0_take 37 = .ok (.iconst 1, 1) := by decide +kernel
theorem dX0_take_38 : decode cX0_take 38 = .ok (.isub, 1) := by decide +kernel
theorem dX0_take_39 : decode cX0_take 39 = .ok (.invokevirtual 35, 3) := by decide +kernel
theorem dX0_take_42 : decode cX0_take 42 = .ok (.bipush 10, 2) := by decide +kernel
theorem dX0_take_44 : decode cX0_take 44 = .ok (.imul, 1) := by decide +kernel
theorem dX0_take_45 : decode cX0_take 45 = .ok (.iload_n 1, 1) := by decide +kernel
theorem dX0_take_46 : decode cX0_take 46 = .ok (.iadd, 1) := by decide +kernel
theorem dX0_take_47 : decode cX0_take 47 = .ok (.invokevirtual 51, 3) := by decide +kernel
theorem dX0_take_50 : decode cX0_take 50 = .ok (.return_, 1) := by decide +kernel
theorem dX0_addPart_0 : decode cX0_addPart 0 = .ok (.aload_n 0, 1) := by decide +kernel
theorem dX0_addPart_1 : decode cX0_addPart 1 = .ok (.getfield 24, 3) := by decide +kernel
theorem dX0_addPart_4 : decode cX0_addPart 4 = .ok (.ifCond .lt 57, 3) := by decide +kernel
theorem dX0_addPart_7 : decode cX0_addPart 7 = .ok (.aload_n 0, 1) := by decide +kernel
theorem dX0_addPart_8 : decode cX0_addPart 8 = .ok (.getfield 24, 3) := by decide +kernel
theorem dX0_addPart_11 : decode cX0_addPart 11 = .ok (.aload_n 0, 1) := by decide +kernel
theorem dX0_addPart_12 : decode cX0_addPart 12 = .ok (.getfield 13, 3) := by decide +kernel
theorem dX0_addPart_15 : decode cX0_addPart 15 = .ok (.arraylength, 1) := by decide +kernel
theorem dX0_addPart_16 : decode cX0_addPart 16 = .ok (.if_icmp .ge 45, 3) := by decide +kernel
theorem dX0_addPart_19 : decode cX0_addPart 19 = .ok (.aload_n 0, 1) := by decide +kernel
theorem dX0_addPart_20 : decode cX0_addPart 20 = .ok (.getfield 24, 3) := by decide +kernel
theorem dX0_addPart_23 : decode cX0_addPart 23 = .ok (.aload_n 0, 1) := by decide +kernel
theorem dX0_addPart_24 : decode cX0_addPart 24 = .ok (.getfield 17, 3) := by decide +kernel
theorem dX0_addPart_27 : decode cX0_addPart 27 = .ok (.arraylength, 1) := by decide +kernel
theorem dX0_addPart_28 : decode cX0_addPart 28 = .ok (.if_icmp .ge 33, 3) := by decide +kernel
theorem dX0_addPart_31 : decode cX0_addPart 31 = .ok (.aload_n 0, 1) := by decide +kernel
theorem dX0_addPart_32 : decode cX0_addPart 32 = .ok (.getfield 13, 3) := by decide +kernel
theorem dX0_addPart_35 : decode cX0_addPart 35 = .ok (.aload_n 0, 1) := by decide +kernel
theorem dX0_addPart_36 : decode cX0_addPart 36 = .ok (.getfield 24, 3) := by decide +kernel
theorem dX0_addPart_39 : decode cX0_addPart 39 = .ok (.iload_n 1, 1) := by decide +kernel
theorem dX0_addPart_40 : decode cX0_addPart 40 = .ok (.iastore, 1) := by decide +kernel
theorem dX0_addPart_41 : decode cX0_addPart 41 = .ok (.aload_n 0, 1) := by decide +kernel
theorem dX0_addPart_42 : decode cX0_addPart 42 = .ok (.getfield 17, 3) := by decide +kernel
theorem dX0_addPart_45 : decode cX0_addPart 45 = .ok (.aload_n 0, 1) := by decide +kernel
theorem dX0_addPart_46 : decode cX0_addPart 46 = .ok (.getfield 24, 3) := by decide +kernel
theorem dX0_addPart_49 : decode cX0_addPart 49 = .ok (.iconst 1, 1) := by decide +kernel
theorem dX0_addPart_50 : decode cX0_addPart 50 = .ok (.iastore, 1) := by decide +kernel
theorem dX0_addPart_51 : decode cX0_addPart 51 = .ok (.aload_n 0, 1) := by decide +kernel
theorem dX0_addPart_52 : decode cX0_addPart 52 = .ok (.dup, 1) := by decide +kernel
theorem dX0_addPart_53 : decode cX0_addPart 53 = .ok (.getfield 24, 3) := by decide +kernel
theorem dX0_addPart_56 : decode cX0_addPart 56 = .ok (.iconst 1, 1) := by decide +kernel
theorem dX0_addPart_57 : decode cX0_addPart 57 = .ok (.iadd, 1) := by decide +kernel
theorem dX0_addPart_58 : decode cX0_addPart 58 = .ok (.putfield 24, 3) := by decide +kernel
theorem dX0_addPart_61 : decode cX0_addPart 61 = .ok (.return_, 1) := by decide +kernel
theorem dX0_changeTicksOfLastPart_0 : decode cX0_changeTicksOfLastPart 0 = .ok (.aload_n 0, 1) := by decide +kernel
theorem dX0_changeTicksOfLastPart_1 : decode cX0_changeTicksOfLastPart 1 = .ok (.getfield 24, 3) := by decide +kernel
theorem dX0_changeTicksOfLastPart_4 : decode cX0_changeTicksOfLastPart 4 = .ok (.ifCond .le 27, 3) := by decide +kernel
theorem dX0_changeTicksOfLastPart_7 : decode cX0_changeTicksOfLastPart 7 = .ok (.aload_n 0, 1) := by decide +kernel
theorem dX0_changeTicksOfLastPart_8 : decode cX0_changeTicksOfLastPart 8 = .ok (.getfield 24, 3) := by decide +kernel
theorem dX0_changeTicksOfLastPart_11 : decode cX0_changeTicksOfLastPart 11 = .ok (.aload_n 0, 1) := by decide +kernel
theorem dX0_changeTicksOfLastPart_12 : decode cX0_changeTicksOfLastPart 12 = .ok (.getfield 17, 3) := by decide +kernel
theorem dX0_changeTicksOfLastPart_15 : decode cX0_changeTicksOfLastPart 15 = .ok (.arraylength, 1) := by decide +kernel
theorem dX0_changeTicksOfLastPart_16 : decode cX0_changeTicksOfLastPart 16 = .ok (.if_icmp .gt 15, 3) := by decide +kernel
theorem dX0_changeTicksOfLastPart_19 : decode cX0_changeTicksOfLastPart 19 = .ok (.aload_n 0, 1) := by decide +kernel
theorem dX0_changeTicksOfLastPart_20 : decode cX0_changeTicksOfLastPart 20 = .ok (.getfield 17, 3) := by decide +kernel
theorem dX0_changeTicksOfLastPart_23 : decode cX0_changeTicksOfLastPart 23 = .ok (.aload_n 0, 1) := by decide +kernel
theorem dX0_changeTicksOfLastPart_24 : decode cX0_changeTicksOfLastPart 24 = .ok (.getfield 24, 3) := by decide +kernel
theorem dX0_changeTicksOfLastPart_27 : decode cX0_changeTicksOfLastPart 27 = .ok (.iconst 1, 1) := by decide +kernel
theorem dX0_changeTicksOfLastPart_28 : decode cX0_changeTicksOfLastPart 28 = .ok (.isub, 1) := by decide +kernel
theorem dX0_changeTicksOfLastPart_29 : decode cX0_changeTicksOfLastPart 29 = .ok (.iload_n 1, 1) := by decide +kernel
theorem dX0_changeTicksOfLastPart_30 : decode cX0_changeTicksOfLastPart 30 = .ok (.iastore, 1) := by decide +kernel
theorem dX0_changeTicksOfLastPart_31 : decode cX0_changeTicksOfLastPart 31 = .ok (.return_, 1) := by decide +kernel
theorem dX1_init_0 : decode cX1_init 0 = .ok (.aload_n 0, 1) := by decide +kernel
theorem dX1_init_1 : decode cX1_init 1 = .ok (.invokespecial 3, 3) := by decide +kernel
theorem dX1_init_4 : decode cX1_init 4 = .ok (.aload_n 0, 1) := by decide +kernel
theorem dX1_init_5 : decode cX1_init 5 = .ok (.iconst 0, 1) := by decide +kernel
theorem dX1_init_6 : decode cX1_init 6 = .ok (.putfield 9, 3) := by decide +kernel
theorem dX1_init_9 : decode cX1_init 9 = .ok (.return_, 1) := by decide +kernel
theorem dX1_copyFrom_0 : decode cX1_copyFrom 0 = .ok (.aload_n 0, 1) := by decide +kernel
theorem dX1_copyFrom_1 : decode cX1_copyFrom 1 = .ok (.aload_n 1, 1) := by decide +kernel
theorem dX1_copyFrom_2 : decode cX1_copyFrom 2 = .ok (.getfield 15, 3) := by decide +kernel
theorem dX1_copyFrom_5 : decode cX1_copyFrom 5 = .ok (.putfield 15, 3) := by decide +kernel
theorem dX1_copyFrom_8 : decode cX1_copyFrom 8 = .ok (.aload_n 0, 1) := by decide +kernel
theorem dX1_copyFrom_9 : decode cX1_copyFrom 9 = .ok (.aload_n 1, 1) := by decide +kernel
theorem dX1_copyFrom_10 : decode cX1_copyFrom 10 = .ok (.getfield 9, 3) := by decide +kernel
theorem dX1_copyFrom_13 : decode cX1_copyFrom 13 = .ok (.putfield 9, 3) := by decide +kernel
theorem dX1_copyFrom_16 : decode cX1_copyFrom 16 = .ok (.aload_n 0, 1) := by decide +kernel
theorem dX1_copyFrom_17 : decode cX1_copyFrom 17 = .ok (.aload_n 1, 1) := by decide +kernel
theorem dX1_copyFrom_18 : decode cX1_copyFrom 18 = .ok (.getfield 19, 3) := by decide +kernel
theorem dX1_copyFrom_21 : decode cX1_copyFrom 21 = .ok (.putfield 19, 3) := by decide +kernel
theorem dX1_copyFrom_24 : decode cX1_copyFrom 24 = .ok (.aload_n 0, 1) := by decide +kernel
theorem dX1_copyFrom_25 : decode cX1_copyFrom 25 = .ok (.aload_n 1, 1) := by decide +kernel
theorem dX1_copyFrom_26 : decode cX1_copyFrom 26 = .ok (.getfield 22, 3) := by decide +kernel
theorem dX1_copyFrom_29 : decode cX1_copyFrom 29 = .ok (.putfield 22, 3) := by decide +kernel
theorem dX1_copyFrom_32 : decode cX1_copyFrom 32 = .ok (.aload_n 0, 1) := by decide +kernel
theorem dX1_copyFrom_33 : decode cX1_copyFrom 33 = .ok (.aload_n 1, 1) := by decide +kernel
theorem dX1_copyFrom_34 : decode cX1_copyFrom 34 = .ok (.getfield 25, 3) := by decide +kernel
theorem dX1_copyFrom_37 : decode cX1_copyFrom 37 = .ok (.putfield 25, 3) := by decide +kernel
theorem dX1_copyFrom_40 : decode cX1_copyFrom 40 = .ok (.aload_n 0, 1) := by decide +kernel
theorem dX1_copyFrom_41 : decode cX1_copyFrom 41 = .ok (.aload_n 1, 1) := by decide +kernel
theorem dX1_copyFrom_42 : decode cX1_copyFrom 42 = .ok (.getfield 28, 3) := by decide +kernel
theorem dX1_copyFrom_45 : decode cX1_copyFrom 45 = .ok (.putfield 28, 3) := by decide +kernel
theorem dX1_copyFrom_48 : decode cX1_copyFrom 48 = .ok (.return_, 1) := by decide +kernel
theorem dX1_obeyCall_0 : decode cX1_obeyCall 0 = .ok (.aload_n 0, 1) := by decide +kernel
theorem dX1_obeyCall_1 : decode cX1_obeyCall 1 = .ok (.getfield 9, 3) := by decide +kernel
theorem dX1_obeyCall_4 : decode cX1_obeyCall 4 = .ok (.iconst 2, 1) := by decide +kernel
theorem dX1_obeyCall_5 : decode cX1_obeyCall 5 = .ok (.if_icmp .ne 11, 3) := by decide +kernel
theorem dX1_obeyCall_8 : decode cX1_obeyCall 8 = .ok (.aload_n 0, 1) := by decide +kernel
theorem dX1_obeyCall_9 : decode cX1_obeyCall 9 = .ok (.iconst 0, 1) := by decide +kernel
theorem dX1_obeyCall_10 : decode cX1_obeyCall 10 = .ok (.putfield 19, 3) := by decide +kernel
theorem dX1_obeyCall_13 : decode cX1_obeyCall 13 = .ok (.goto 8, 3) := by decide +kernel
theorem dX1_obeyCall_16 : decode cX1_obeyCall 16 = .ok (.aload_n 0, 1) := by decide +kernel
theorem dX1_obeyCall_17 : decode cX1_obeyCall 17 = .ok (.iconst 1, 1) := by decide +kernel
theorem dX1_obeyCall_18 : decode cX1_obeyCall 18 = .ok (.putfield 9, 3) := by decide +kernel
theorem dX1_obeyCall_21 : decode cX1_obeyCall 21 = .ok (.return_, 1) := by decide +kernel
theorem dX1_openFurther_0 : decode cX1_openFurther 0 = .ok (.aload_n 0, 1) := by decide +kernel
theorem dX1_openFurther_1 : decode cX1_openFurther 1 = .ok (.aload_n 0, 1) := by decide +kernel
theorem dX1_openFurther_2 : decode cX1_openFurther 2 = .ok (.getfield 15, 3) := by decide +kernel
theorem dX1_openFurther_5 : decode cX1_openFurther 5 = .ok (.fload_n 1, 1) := by decide +kernel
theorem dX1_openFurther_6 : decode cX1_openFurther 6 = .ok (.fadd, 1) := by decide +kernel
theorem dX1_openFurther_7 : decode cX1_openFurther 7 = .ok (.putfield 15, 3) := by decide +kernel
theorem dX1_openFurther_10 : decode cX1_openFurther 10 = .ok (.aload_n 0, 1) := by decide +kernel
theorem dX1_openFurther_11 : decode cX1_openFurther 11 = .ok (.getfield 15, 3) := by decide +kernel
theorem dX1_openFurther_14 : decode cX1_openFurther 14 = .ok (.ldc 32, 2) := by decide +kernel
theorem dX1_openFurther_16 : decode cX1_openFurther 16 = .ok (.fcmp .l, 1) := by decide +kernel
theorem dX1_openFurther_17 : decode cX1_openFurther 17 = .ok (.ifCond .lt 19, 3) := by decide +kernel
theorem dX1_openFurther_20 : decode cX1_openFurther 20 = .ok (.aload_n 0, 1) := by decide +kernel
theorem dX1_openFurther_21 : decode cX1_openFurther 21 = .ok (.ldc 32, 2) := by decide +kernel
theorem dX1_openFurther_23 : decode cX1_openFurther 23 = .ok (.putfield 15, 3) := by decide +kernel
theorem dX1_openFurther_26 : decode cX1_openFurther 26 = .ok (.aload_n 0, 1) := by decide +kernel
theorem dX1_openFurther_27 : decode cX1_openFurther 27 = .ok (.iconst 2, 1) := by decide +kernel
theorem dX1_openFurther_28 : decode cX1_openFurther 28 = .ok (.putfield 9, 3) := by decide +kernel
theorem dX1_openFurther_31 : decode cX1_openFurther 31 = .ok (.aload_n 0, 1) := by decide +kernel
theorem dX1_openFurther_32 : decode cX1_openFurther 32 = .ok (.iconst 0, 1) := by decide +kernel
theorem dX1_openFurther_33 : decode cX1_openFurther 33 = .ok (.putfield 19, 3) := by decide +kernel
theorem dX1_openFurther_36 : decode cX1_openFurther 36 = .ok (.return_, 1) := by decide +kernel
theorem dX1_waitOpen_0 : decode cX1_waitOpen 0 = .ok (.iload_n 1, 1) := by decide +kernel
theorem dX1_waitOpen_1 : decode cX1_waitOpen 1 = .ok (.ifCond .eq 9, 3) := by decide +kernel
theorem dX1_waitOpen_4 : decode cX1_waitOpen 4 = .ok (.aload_n 0, 1) := by decide +kernel
theorem dX1_waitOpen_5 : decode cX1_waitOpen 5 = .ok (.iconst 0, 1) := by decide +kernel
theorem dX1_waitOpen_6 : decode cX1_waitOpen 6 = .ok (.putfield 19, 3) := by decide +kernel
theorem dX1_waitOpen_9 : decode cX1_waitOpen 9 = .ok (.return_, 1) := by decide +kernel
theorem dX1_waitOpen_10 : decode cX1_waitOpen 10 = .ok (.aload_n 0, 1) := by decide +kernel
theorem dX1_waitOpen_11 : decode cX1_waitOpen 11 = .ok (.dup, 1) := by decide +kernel
theorem dX1_waitOpen_12 : decode cX1_waitOpen 12 = .ok (.getfield 19, 3) := by decide +kernel
theorem dX1_waitOpen_15 : decode cX1_waitOpen 15 = .ok (.iconst 1, 1) := by decide +kernel
theorem dX1_waitOpen_16 : decode cX1_waitOpen 16 = .ok (.iadd, 1) := by decide +kernel
theorem dX1_waitOpen_17 : decode cX1_waitOpen 17 = .ok (.putfield 19, 3) := by decide +kernel
theorem dX1_waitOpen_20 : decode cX1_waitOpen 20 = .ok (.aload_n 0, 1) := by decide +kernel
theorem dX1_waitOpen_21 : decode cX1_waitOpen 21 = .ok (.getfield 19, 3) := by decide +kernel
theorem dX1_waitOpen_24 : decode cX1_waitOpen 24 = .ok (.iload_n 2, 1) := by decide +kernel
theorem dX1_waitOpen_25 : decode cX1_waitOpen 25 = .ok (.if_icmp .lt 20, 3) := by decide +kernel
theorem dX1_waitOpen_28 : decode cX1_waitOpen 28 = .ok (.aload_n 0, 1) := by decide +kernel
theorem dX1_waitOpen_29 : decode cX1_waitOpen 29 = .ok (.getfield 28, 3) := by decide +kernel
theorem dX1_waitOpen_32 : decode cX1_waitOpen 32 = .ok (.ifCond .ne 13, 3) := by decide +kernel
theorem dX1_waitOpen_35 : decode cX1_waitOpen 35 = .ok (.aload_n 0, 1) := by decide +kernel
theorem dX1_waitOpen_36 : decode cX1_waitOpen 36 = .ok (.iconst 3, 1) := by decide +kernel
theorem dX1_waitOpen_37 : decode cX1_waitOpen 37 = .ok (.putfield 9, 3) := by decide +kernel
theorem dX1_waitOpen_40 : decode cX1_waitOpen 40 = .ok (.aload_n 0, 1) := by decide +kernel
theorem dX1_waitOpen_41 : decode cX1_waitOpen 41 = .ok (.iconst 0, 1) := by decide +kernel
theorem dX1_waitOpen_42 : decode cX1_waitOpen 42 = .ok (.putfield 22, 3) := by decide +kernel
theorem dX1_waitOpen_45 : decode cX1_waitOpen 45 = .ok (.return_, 1) := by decide +kernel
theorem dX1_standsTooLong_0 : decode cX1_standsTooLong 0 = .ok (.aload_n 0, 1) := by decide +kernel
theorem dX1_standsTooLong_1 : decode cX1_standsTooLong 1 = .ok (.dup, 1) := by decide +kernel
theorem dX1_standsTooLong_2 : decode cX1_standsTooLong 2 = .ok (.getfield 22, 3) := by decide +kernel
theorem dX1_standsTooLong_5 : decode cX1_standsTooLong 5 = .ok (.iconst 1, 1) := by decide +kernel
theorem dX1_standsTooLong_6 : decode cX1_standsTooLong 6 = .ok (.iadd, 1) := by decide +kernel
theorem dX1_standsTooLong_7 : decode cX1_standsTooLong 7 = .ok (.putfield 22, 3) := by decide +kernel
theorem dX1_standsTooLong_10 : decode cX1_standsTooLong 10 = .ok (.aload_n 0, 1) := by decide +kernel
theorem dX1_standsTooLong_11 : decode cX1_standsTooLong 11 = .ok (.getfield 22, 3) := by decide +kernel
theorem dX1_standsTooLong_14 : decode cX1_standsTooLong 14 = .ok (.iload_n 1, 1) := by decide +kernel
theorem dX1_standsTooLong_15 : decode cX1_standsTooLong 15 = .ok (.if_icmp .le 7, 3) := by decide +kernel
theorem dX1_standsTooLong_18 : decode cX1_standsTooLong 18 = .ok (.iconst 1, 1) := by decide +kernel
theorem dX1_standsTooLong_19 : decode cX1_standsTooLong 19 = .ok (.goto 4, 3) := by decide +kernel
theorem dX1_standsTooLong_22 : decode cX1_standsTooLong 22 = .ok (.iconst 0, 1) := by decide +kernel
theorem dX1_standsTooLong_23 : decode cX1_standsTooLong 23 = .ok (.ireturn, 1) := by decide +kernel
theorem dX1_closeFurther_0 : decode cX1_closeFurther 0 = .ok (.aload_n 0, 1) := by decide +kernel
theorem dX1_closeFurther_1 : decode cX1_closeFurther 1 = .ok (.iconst 0, 1) := by decide +kernel
theorem dX1_closeFurther_2 : decode cX1_closeFurther 2 = .ok (.putfield 22, 3) := by decide +kernel
theorem dX1_closeFurther_5 : decode cX1_closeFurther 5 = .ok (.aload_n 0, 1) := by decide +kernel
theorem dX1_closeFurther_6 : decode cX1_closeFurther 6 = .ok (.aload_n 0, 1) := by decide +kernel
theorem dX1_closeFurther_7 : decode cX1_closeFurther 7 = .ok (.getfield 15, 3) := by decide +kernel
theorem dX1_closeFurther_10 : decode cX1_closeFurther 10 = .ok (.fload_n 1, 1) := by decide +kernel
theorem dX1_closeFurther_11 : decode cX1_closeFurther 11 = .ok (.fsub, 1) := by decide +kernel
theorem dX1_closeFurther_12 : decode cX1_closeFurther 12 = .ok (.putfield 15, 3) := by decide +kernel
theorem dX1_closeFurther_15 : decode cX1_closeFurther 15 = .ok (.aload_n 0, 1) := by decide +kernel
theorem dX1_closeFurther_16 : decode cX1_closeFurther 16 = .ok (.getfield 15, 3) := by decide +kernel
theorem dX1_closeFurther_19 : decode cX1_closeFurther 19 = .ok (.fconst 0, 1) := by decide +kernel
theorem dX1_closeFurther_20 : decode cX1_closeFurther 20 = .ok (.fcmp .l, 1) := by decide +kernel
theorem dX1_closeFurther_21 : decode cX1_closeFurther 21 = .ok (.ifCond .le 5, 3) := by decide +kernel
theorem dX1_closeFurther_24 : decode cX1_closeFurther 24 = .ok (.iconst 0, 1) := by decide +kernel
theorem dX1_closeFurther_25 : decode cX1_closeFurther 25 = .ok (.ireturn, 1) := by decide +kernel
theorem dX1_closeFurther_26 : decode cX1_closeFurther 26 = .ok (.aload_n 0, 1) := by decide +kernel
theorem dX1_closeFurther_27 : decode cX1_closeFurther 27 = .ok (.fconst 0, 1) := by decide +kernel
theorem dX1_closeFurther_28 : decode cX1_closeFurther 28 = .ok (.putfield 15, 3) := by decide +kernel
theorem dX1_closeFurther_31 : decode cX1_closeFurther 31 = .ok (.aload_n 0, 1) := by decide +kernel
theorem dX1_closeFurther_32 : decode cX1_closeFurther 32 = .ok (.iconst 0, 1) := by decide +kernel
theorem dX1_closeFurther_33 : decode cX1_closeFurther 33 = .ok (.putfield 9, 3) := by decide +kernel
theorem dX1_closeFurther_36 : decode cX1_closeFurther 36 = .ok (.aload_n 0, 1) := by decide +kernel
theorem dX1_closeFurther_37 : decode cX1_closeFurther 37 = .ok (.iconst 0, 1) := by decide +kernel
theorem dX1_closeFurther_38 : decode cX1_closeFurther 38 = .ok (.putfield 25, 3) := by decide +kernel
theorem dX1_closeFurther_41 : decode cX1_closeFurther 41 = .ok (.iconst 1, 1) := by decide +kernel
theorem dX1_closeFurther_42 : decode cX1_closeFurther 42 = .ok (.ireturn, 1) := by decide +kernel
set_option maxRecDepth 20000 in
theorem ggX2_init_X5_init : GoodIn wsX2_init wsX5_init := goodIn_r _ [9, 10, 2, 3, 11, 12, 13, 14, 15, 16, 17, 18, 19, 20, 21, 22, 23, 24, 25, 26, 27, 28, 29, 30, 31, 32, 33, 34, 35, 36, 37, 38, 39, 40, 41, 42, 43, 44, 45, 46, 47, 48, 49, 50, 51, 52, 53, 54, 63, 64, 65, 57, 58, 59, 60, 61, 62, 66, 67, 68, 69, 70, 71, 72, 73, 74, 75, 76, 77, 78, 79, 80, 81, 82, 83, 84, 85, 86, 87, 88, 89] (by decide +kernel) (by decide +kernel)
set_option maxRecDepth 20000 in
theorem gX2_init_X5_init_n15 : GoodIn wsX2_init (wsX5_init) := ggX2_init_X5_init
theorem dX2_init_0 : decode cX2_init 0 = .ok (.aload_n 0, 1) := by decide +kernel
theorem dX2_init_1 : decode cX2_init 1 = .ok (.invokespecial 1, 3) := by decide +kernel
theorem dX2_init_4 : decode cX2_init 4 = .ok (.aload_n 0, 1) := by decide +kernel
theorem dX2_init_5 : decode cX2_init 5 = .ok (.iconst 4, 1) := by decide +kernel
theorem dX2_init_6 : decode cX2_init 6 = .ok (.anewarray 9, 3) := by decide +kernel
theorem dX2_init_9 : decode cX2_init 9 = .ok (.putfield 11, 3) := by decide +kernel
theorem dX2_init_12 : decode cX2_init 12 = .ok (.iconst 0, 1) := by decide +kernel
theorem dX2_init_13 : decode cX2_init 13 = .ok (.istore_n 1, 1) := by decide +kernel
theorem dX2_init_14 : decode cX2_init 14 = .ok (.iload_n 1, 1) := by decide +kernel
theorem dX2_init_15 : decode cX2_init 15 = .ok (.aload_n 0, 1) := by decide +kernel
theorem dX2_init_16 : decode cX2_init 16 = .ok (.getfield 11, 3) := by decide +kernel
theorem dX2_init_19 : decode cX2_init 19 = .ok (.arraylength, 1) := by decide +kernel
theorem dX2_init_20 : decode cX2_init 20 = .ok (.if_icmp .ge 22, 3) := by decide +kernel
theorem dX2_init_23 : decode cX2_init 23 = .ok (.aload_n 0, 1) := by decide +kernel
theorem dX2_init_24 : decode cX2_init 24 = .ok (.getfield 11, 3) := by decide +kernel
theorem dX2_init_27 : decode cX2_init 27 = .ok (.iload_n 1, 1) := by decide +kernel
theorem dX2_init_28 : decode cX2_init 28 = .ok (.new 9, 3) := by decide +kernel
theorem dX2_init_31 : decode cX2_init 31 = .ok (.dup, 1) := by decide +kernel
theorem dX2_init_32 : decode cX2_init 32 = .ok (.invokespecial 15, 3) := by decide +kernel
theorem dX2_init_35 : decode cX2_init 35 = .ok (.aastore, 1) := by decide +kernel
theorem dX2_init_36 : decode cX2_init 36 = .ok (.iinc 1 1, 3) := by decide +kernel
theorem dX2_init_39 : decode cX2_init 39 = .ok (.goto (-25), 3) := by decide +kernel
theorem dX2_init_42 : decode cX2_init 42 = .ok (.return_, 1) := by decide +kernel
set_option maxRecDepth 20000 in
theorem ggX2_record_X2_dropOldest : GoodIn wsX2_record wsX2_dropOldest := goodIn_r _ [7, 2, 1, 71, 72] (by decide +kernel) (by decide +kernel)
set_option maxRecDepth 20000 in
theorem gX2_record_X2_dropOldest : GoodIn wsX2_record (wsV RX2 20 RX2 yX2_dropOldest wsX2_dropOldest) := goodIn_app (goodIn_of _ (by decide +kernel)) ggX2_record_X2_dropOldest
set_option maxRecDepth 20000 in
theorem ggX2_record_X5_copyFrom : GoodIn wsX2_record wsX5_copyFrom := goodIn_r _ [12, 13, 14, 15, 16, 17, 18, 19, 20, 21, 22, 23, 24, 25, 26, 27, 28, 29, 30, 31, 32, 33, 34, 35, 36, 37, 38, 39, 40, 41, 42, 43, 44, 45, 46, 47, 48, 49, 50, 51, 52, 53, 54, 55, 56, 57, 58, 59, 60, 61, 62, 63, 64, 65, 66, 67, 68, 69, 70, 73, 74, 75, 76, 77, 78, 79, 80, 81, 82, 83, 84, 85, 86, 87, 88, 89, 90, 91, 92, 93, 94, 95, 96, 97, 98, 99, 100, 101, 102, 103, 104, 105] (by decide +kernel) (by decide +kernel)
set_option maxRecDepth 20000 in
theorem gX2_record_X5_copyFrom : GoodIn wsX2_record (wsV RX2 23 RX5 yX5_copyFrom wsX5_copyFrom) := goodIn_app (goodIn_of _ (by decide +kernel)) ggX2_record_X5_copyFrom
theorem dX2_record_0 : decode cX2_record 0 = .ok (.aload_n 0, 1) := by decide +kernel
theorem dX2_record_1 : decode cX2_record 1 = .ok (.getfield 16, 3) := by decide +kernel
theorem dX2_record_4 : decode cX2_record 4 = .ok (.aload_n 0, 1) := by decide +kernel
theorem dX2_record_5 : decode cX2_record 5 = .ok (.getfield 11, 3) := by decide +kernel
theorem dX2_record_8 : decode cX2_record 8 = .ok (.arraylength, 1) := by decide +kernel
theorem dX2_record_9 : decode cX2_record 9 = .ok (.if_icmp .lt 7, 3) := by decide +kernel
theorem dX2_record_12 : decode cX2_record 12 = .ok (.aload_n 0, 1) := by decide +kernel
theorem dX2_record_13 : decode cX2_record 13 = .ok (.invokevirtual 20, 3) := by decide +kernel
theorem dX2_record_16 : decode cX2_record 16 = .ok (.aload_n 0, 1) := by decide +kernel
theorem dX2_record_17 : decode cX2_record 17 = .ok (.getfield 16, 3) := by decide +kernel
theorem dX2_record_20 : decode cX2_record 20 = .ok (.ifCond .lt 38, 3) := by decide +kernel
theorem dX2_record_23 : decode cX2_record 23 = .ok (.aload_n 0, 1) := by decide +kernel
theorem dX2_record_24 : decode cX2_record 24 = .ok (.getfield 16, 3) := by decide +kernel
theorem dX2_record_27 : decode cX2_record 27 = .ok (.aload_n 0, 1) := by decide +kernel
theorem dX2_record_28 : decode cX2_record 28 = .ok (.getfield 11, 3) := by decide +kernel
theorem dX2_record_31 : decode cX2_record 31 = .ok (.arraylength, 1) := by decide +kernel
theorem dX2_record_32 : decode cX2_record 32 = .ok (.if_icmp .ge 26, 3) := by decide +kernel
theorem dX2_record_35 : decode cX2_record 35 = .ok (.aload_n 0, 1) := by decide +kernel
theorem dX2_record_36 : decode cX2_record 36 = .ok (.getfield 11, 3) := by decide +kernel
theorem dX2_record_39 : decode cX2_record 39 = .ok (.aload_n 0, 1) := by decide +kernel
theorem dX2_record_40 : decode cX2_record 40 = .ok (.getfield 16, 3) := by decide +kernel
theorem dX2_record_43 : decode cX2_record 43 = .ok (.aaload, 1) := by decide +kernel
theorem dX2_record_44 : decode cX2_record 44 = .ok (.aload_n 1, 1) := by decide +kernel
theorem dX2_record_45 : decode cX2_record 45 = .ok (.invokevirtual 23, 3) := by decide +kernel
theorem dX2_record_48 : decode cX2_record 48 = .ok (.aload_n 0, 1) := by decide +kernel
theorem dX2_record_49 : decode cX2_record 49 = .ok (.dup, 1) := by decide +kernel
theorem dX2_record_50 : decode cX2_record 50 = .ok (.getfield 16, 3) := by decide +kernel
theorem dX2_record_53 : decode cX2_record 53 = .ok (.iconst 1, 1) := by decide +kernel
theorem dX2_record_54 : decode cX2_record 54 = .ok (.iadd, 1) := by decide +kernel
theorem dX2_record_55 : decode cX2_record 55 = .ok (.putfield 16, 3) := by decide +kernel
theorem dX2_record_58 : decode cX2_record 58 = .ok (.return_, 1) := by decide +kernel
set_option maxRecDepth 20000 in
theorem ggX2_takeBack_X5_copyFrom : GoodIn wsX2_takeBack wsX5_copyFrom := goodIn_r _ [7, 8, 9, 10, 11, 12, 13, 14, 15, 16, 17, 18, 19, 20, 21, 22, 23, 24, 25, 26, 27, 28, 29, 30, 31, 32, 33, 34, 35, 36, 37, 38, 39, 40, 41, 42, 43, 44, 45, 46, 47, 48, 49, 50, 51, 52, 53, 54, 55, 56, 57, 58, 59, 60, 61, 62, 63, 64, 65, 68, 69, 70, 71, 72, 73, 74, 75, 76, 77, 78, 79, 80, 81, 82, 83, 84, 85, 86, 87, 88, 89, 90, 91, 92, 93, 94, 95, 96, 97, 98, 99, 100] (by decide +kernel) (by decide +kernel)
set_option maxRecDepth 20000 in
theorem gX2_takeBack_X5_copyFrom : GoodIn wsX2_takeBack (wsV RX2 23 RX5 yX5_copyFrom wsX5_copyFrom) := goodIn_app (goodIn_of _ (by decide +kernel)) ggX2_takeBack_X5_copyFrom
theorem dX2_takeBack_0 : decode cX2_takeBack 0 = .ok (.aload_n 0, 1) := by decide +kernel
theorem dX2_takeBack_1 : decode cX2_takeBack 1 = .ok (.getfield 16, 3) := by decide +kernel
theorem dX2_takeBack_4 : decode cX2_takeBack 4 = .ok (.ifCond .le 15, 3) := by decide +kernel
theorem dX2_takeBack_7 : decode cX2_takeBack 7 = .ok (.aload_n 0, 1) := by decide +kernel
theorem dX2_takeBack_8 : decode cX2_takeBack 8 = .ok (.getfield 16, 3) := by decide +kernel
theorem dX2_takeBack_11 : decode cX2_takeBack 11 = .ok (.aload_n 0, 1) := by decide +kernel
theorem dX2_takeBack_12 : decode cX2_takeBack 12 = .ok (.getfield 11, 3) := by decide +kernel
theorem dX2_takeBack_15 : decode cX2_takeBack 15 = .ok (.arraylength, 1) := by decide +kernel
theorem dX2_takeBack_16 : decode cX2_takeBack 16 = .ok (.if_icmp .le 5, 3) := by decide +kernel
theorem dX2_takeBack_19 : decode cX2_takeBack 19 = .ok (.iconst 0, 1) := by decide +kernel
theorem dX2_takeBack_20 : decode cX2_takeBack 20 = .ok (.ireturn, 1) := by decide +kernel
theorem dX2_takeBack_21 : decode cX2_takeBack 21 = .ok (.aload_n 0, 1) := by decide +kernel
theorem dX2_takeBack_22 : decode cX2_takeBack 22 = .ok (.dup, 1) := by decide +kernel
theorem dX2_takeBack_23 : decode cX2_takeBack 23 = .ok (.getfield 16, 3) := by decide +kernel
theorem dX2_takeBack_26 : decode cX2_takeBack 26 = .ok (.iconst 1, 1) := by decide +kernel
theorem dX2_takeBack_27 : decode cX2_takeBack 27 = .ok (.isub, 1) := by decide +kernel
theorem dX2_takeBack_28 : decode cX2_takeBack 28 = .ok (.putfield 16, 3) := by decide +kernel
theorem dX2_takeBack_31 : decode cX2_takeBack 31 = .ok (.aload_n 1, 1) := by decide +kernel
theorem dX2_takeBack_32 : decode cX2_takeBack 32 = .ok (.aload_n 0, 1) := by decide +kernel
theorem dX2_takeBack_33 : decode cX2_takeBack 33 = .ok (.getfield 11, 3) := by decide +kernel
theorem dX2_takeBack_36 : decode cX2_takeBack 36 = .ok (.aload_n 0, 1) := by decide +kernel
theorem dX2_takeBack_37 : decode cX2_takeBack 37 = .ok (.getfield 16, 3) := by decide +kernel
theorem dX2_takeBack_40 : decode cX2_takeBack 40 = .ok (.aaload, 1) := by decide +kernel
theorem dX2_takeBack_41 : decode cX2_takeBack 41 = .ok (.invokevirtual 23, 3) := by decide +kernel
theorem dX2_takeBack_44 : decode cX2_takeBack 44 = .ok (.iconst 1, 1) := by decide +kernel
theorem dX2_takeBack_45 : decode cX2_takeBack 45 = .ok (.ireturn, 1) := by decide +kernel
theorem dX2_dropOldest_0 : decode cX2_dropOldest 0 = .ok (.aload_n 0, 1) := by decide +kernel
theorem dX2_dropOldest_1 : decode cX2_dropOldest 1 = .ok (.getfield 11, 3) := by decide +kernel
theorem dX2_dropOldest_4 : decode cX2_dropOldest 4 = .ok (.iconst 0, 1) := by decide +kernel
theorem dX2_dropOldest_5 : decode cX2_dropOldest 5 = .ok (.aaload, 1) := by decide +kernel
theorem dX2_dropOldest_6 : decode cX2_dropOldest 6 = .ok (.astore_n 1, 1) := by decide +kernel
theorem dX2_dropOldest_7 : decode cX2_dropOldest 7 = .ok (.iconst 1, 1) := by decide +kernel
theorem dX2_dropOldest_8 : decode cX2_dropOldest 8 = .ok (.istore_n 2, 1) := by decide +kernel
theorem dX2_dropOldest_9 : decode cX2_dropOldest 9 = .ok (.iload_n 2, 1) := by decide +kernel
theorem dX2_dropOldest_10 : decode cX2_dropOldest 10 = .ok (.aload_n 0, 1) := by decide +kernel
theorem dX2_dropOldest_11 : decode cX2_dropOldest 11 = .ok (.getfield 11, 3) := by decide +kernel
theorem dX2_dropOldest_14 : decode cX2_dropOldest 14 = .ok (.arraylength, 1) := by decide +kernel
theorem dX2_dropOldest_15 : decode cX2_dropOldest 15 = .ok (.if_icmp .ge 23, 3) := by decide +kernel
theorem dX2_dropOldest_18 : decode cX2_dropOldest 18 = .ok (.aload_n 0, 1) := by decide +kernel
theorem dX2_dropOldest_19 : decode cX2_dropOldest 19 = .ok (.getfield 11, 3) := by decide +kernel
theorem dX2_dropOldest_22 : decode cX2_dropOldest 22 = .ok (.iload_n 2, 1) := by decide +kernel
theorem dX2_dropOldest_23 : decode cX2_dropOldest 23 = .ok (.iconst 1, 1) := by decide +kernel
theorem dX2_dropOldest_24 : decode cX2_dropOldest 24 = .ok (.isub, 1) := by decide +kernel
theorem dX2_dropOldest_25 : decode cX2_dropOldest 25 = .ok (.aload_n 0, 1) := by decide +kernel
theorem dX2_dropOldest_26 : decode cX2_dropOldest 26 = .ok (.getfield 11, 3) := by decide +kernel
theorem dX2_dropOldest_29 : decode cX2_dropOldest 29 = .ok (.iload_n 2, 1) := by decide +kernel
theorem dX2_dropOldest_30 : decode cX2_dropOldest 30 = .ok (.aaload, 1) := by decide +kernel
theorem dX2_dropOldest_31 : decode cX2_dropOldest 31 = .ok (.aastore, 1) := by decide +kernel
theorem dX2_dropOldest_32 : decode cX2_dropOldest 32 = .ok (.iinc 2 1, 3) := by decide +kernel
theorem dX2_dropOldest_35 : decode cX2_dropOldest 35 = .ok (.goto (-26), 3) := by decide +kernel
theorem dX2_dropOldest_38 : decode cX2_dropOldest 38 = .ok (.aload_n 0, 1) := by decide +kernel
theorem dX2_dropOldest_39 : decode cX2_dropOldest 39 = .ok (.getfield 11, 3) := by decide +kernel
theorem dX2_dropOldest_42 : decode cX2_dropOldest 42 = .ok (.aload_n 0, 1) := by decide +kernel
theorem dX2_dropOldest_43 : decode cX2_dropOldest 43 = .ok (.getfield 11, 3) := by decide +kernel
theorem dX2_dropOldest_46 : decode cX2_dropOldest 46 = .ok (.arraylength, 1) := by decide +kernel
theorem dX2_dropOldest_47 : decode cX2_dropOldest 47 = .ok (.iconst 1, 1) := by decide +kernel
theorem dX2_dropOldest_48 : decode cX2_dropOldest 48 = .ok (.isub, 1) := by decide +kernel
theorem dX2_dropOldest_49 : decode cX2_dropOldest 49 = .ok (.aload_n 1, 1) := by decide +kernel
theorem dX2_dropOldest_50 : decode cX2_dropOldest 50 = .ok (.aastore, 1) := by decide +kernel
theorem dX2_dropOldest_51 : decode cX2_dropOldest 51 = .ok (.aload_n 0, 1) := by decide +kernel
theorem dX2_dropOldest_52 : decode cX2_dropOldest 52 = .ok (.aload_n 0, 1) := by decide +kernel
theorem dX2_dropOldest_53 : decode cX2_dropOldest 53 = .ok (.getfield 11, 3) := by decide +kernel
theorem dX2_dropOldest_56 : decode cX2_dropOldest 56 = .ok (.arraylength, 1) := by decide +kernel
theorem dX2_dropOldest_57 : decode cX2_dropOldest 57 = .ok (.iconst 1, 1) := by decide +kernel
theorem dX2_dropOldest_58 : decode cX2_dropOldest 58 = .ok (.isub, 1) := by decide +kernel
theorem dX2_dropOldest_59 : decode cX2_dropOldest 59 = .ok (.putfield 16, 3) := by decide +kernel
theorem dX2_dropOldest_62 : decode cX2_dropOldest 62 = .ok (.return_, 1) := by decide +kernel
theorem dX3_init_0 : decode cX3_init 0 = .ok (.aload_n 0, 1) := by decide +kernel
theorem dX3_init_1 : decode cX3_init 1 = .ok (.invokespecial 3, 3) := by decide +kernel
theorem dX3_init_4 : decode cX3_init 4 = .ok (.aload_n 0, 1) := by decide +kernel
theorem dX3_init_5 : decode cX3_init 5 = .ok (.bipush 50, 2) := by decide +kernel
theorem dX3_init_7 : decode cX3_init 7 = .ok (.newarray .int, 2) := by decide +kernel
theorem dX3_init_9 : decode cX3_init 9 = .ok (.putfield 11, 3) := by decide +kernel
theorem dX3_init_12 : decode cX3_init 12 = .ok (.return_, 1) := by decide +kernel
theorem dX3_copyFrom_0 : decode cX3_copyFrom 0 = .ok (.iconst 0, 1) := by decide +kernel
theorem dX3_copyFrom_1 : decode cX3_copyFrom 1 = .ok (.istore_n 2, 1) := by decide +kernel
theorem dX3_copyFrom_2 : decode cX3_copyFrom 2 = .ok (.iload_n 2, 1) := by decide +kernel
theorem dX3_copyFrom_3 : decode cX3_copyFrom 3 = .ok (.aload_n 0, 1) := by decide +kernel
theorem dX3_copyFrom_4 : decode cX3_copyFrom 4 = .ok (.getfield 11, 3) := by decide +kernel
theorem dX3_copyFrom_7 : decode cX3_copyFrom 7 = .ok (.arraylength, 1) := by decide +kernel
theorem dX3_copyFrom_8 : decode cX3_copyFrom 8 = .ok (.if_icmp .ge 30, 3) := by decide +kernel
theorem dX3_copyFrom_11 : decode cX3_copyFrom 11 = .ok (.iload_n 2, 1) := by decide +kernel
theorem dX3_copyFrom_12 : decode cX3_copyFrom 12 = .ok (.aload_n 1, 1) := by decide +kernel
theorem dX3_copyFrom_13 : decode cX3_copyFrom 13 = .ok (.getfield 11, 3) := by decide +kernel
theorem dX3_copyFrom_16 : decode cX3_copyFrom 16 = .ok (.arraylength, 1) := by decide +kernel
theorem dX3_copyFrom_17 : decode cX3_copyFrom 17 = .ok (.if_icmp .ge 21, 3) := by decide +kernel
theorem dX3_copyFrom_20 : decode cX3_copyFrom 20 = .ok (.aload_n 0, 1) := by decide +kernel
theorem dX3_copyFrom_21 : decode cX3_copyFrom 21 = .ok (.getfield 11, 3) := by decide +kernel
theorem dX3_copyFrom_24 : decode cX3_copyFrom 24 = .ok (.iload_n 2, 1) := by decide +kernel
theorem dX3_copyFrom_25 : decode cX3_copyFrom 25 = .ok (.aload_n 1, 1) := by decide +kernel
theorem dX3_copyFrom_26 : decode cX3_copyFrom 26 = .ok (.getfield 11, 3) := by decide +kernel
theorem dX3_copyFrom_29 : decode cX3_copyFrom 29 = .ok (.iload_n 2, 1) := by decide +kernel
theorem dX3_copyFrom_30 : decode cX3_copyFrom 30 = .ok (.iaload, 1) := by decide +kernel
theorem dX3_copyFrom_31 : decode cX3_copyFrom 31 = .ok (.iastore, 1) := by decide +kernel
theorem dX3_copyFrom_32 : decode cX3_copyFrom 32 = .ok (.iinc 2 1, 3) := by decide +kernel
theorem dX3_copyFrom_35 : decode cX3_copyFrom 35 = .ok (.goto (-33), 3) := by decide +kernel
theorem dX3_copyFrom_38 : decode cX3_copyFrom 38 = .ok (.aload_n 0, 1) := by decide +kernel
theorem dX3_copyFrom_39 : decode cX3_copyFrom 39 = .ok (.aload_n 1, 1) := by decide +kernel
theorem dX3_copyFrom_40 : decode cX3_copyFrom 40 = .ok (.getfield 15, 3) := by decide +kernel
theorem dX3_copyFrom_43 : decode cX3_copyFrom 43 = .ok (.putfield 15, 3) := by decide +kernel
theorem dX3_copyFrom_46 : decode cX3_copyFrom 46 = .ok (.return_, 1) := by decide +kernel
set_option maxRecDepth 20000 in
theorem ggX3_enter_X7_beamsBroken : GoodIn wsX3_enter wsX7_beamsBroken := goodIn_r _ [9, 10, 11, 12, 13, 14, 15, 18, 19, 20, 21, 22, 23, 24, 25] (by decide +kernel) (by decide +kernel)
set_option maxRecDepth 20000 in
theorem gX3_enter_X7_beamsBroken : GoodIn wsX3_enter (wsV RX3 27 RX7 yX7_beamsBroken wsX7_beamsBroken) := goodIn_app (goodIn_of _ (by decide +kernel)) ggX3_enter_X7_beamsBroken
theorem dX3_enter_0 : decode cX3_enter 0 = .ok (.aload_n 0, 1) := by decide +kernel
theorem dX3_enter_1 : decode cX3_enter 1 = .ok (.getfield 11, 3) := by decide +kernel
theorem dX3_enter_4 : decode cX3_enter 4 = .ok (.arraylength, 1) := by decide +kernel
theorem dX3_enter_5 : decode cX3_enter 5 = .ok (.iconst 1, 1) := by decide +kernel
theorem dX3_enter_6 : decode cX3_enter 6 = .ok (.isub, 1) := by decide +kernel
theorem dX3_enter_7 : decode cX3_enter 7 = .ok (.istore 4, 2) := by decide +kernel
theorem dX3_enter_9 : decode cX3_enter 9 = .ok (.iload 4, 2) := by decide +kernel
theorem dX3_enter_11 : decode cX3_enter 11 = .ok (.iconst 5, 1) := by decide +kernel
theorem dX3_enter_12 : decode cX3_enter 12 = .ok (.if_icmp .lt 25, 3) := by decide +kernel
theorem dX3_enter_15 : decode cX3_enter 15 = .ok (.aload_n 0, 1) := by decide +kernel
theorem dX3_enter_16 : decode cX3_enter 16 = .ok (.getfield 11, 3) := by decide +kernel
theorem dX3_enter_19 : decode cX3_enter 19 = .ok (.iload 4, 2) := by decide +kernel
theorem dX3_enter_21 : decode cX3_enter 21 = .ok (.aload_n 0, 1) := by decide +kernel
theorem dX3_enter_22 : decode cX3_enter 22 = .ok (.getfield 11, 3) := by decide +kernel
theorem dX3_enter_25 : decode cX3_enter 25 = .ok (.iload 4, 2) := by decide +kernel
theorem dX3_enter_27 : decode cX3_enter 27 = .ok (.iconst 5, 1) := by decide +kernel
theorem dX3_enter_28 : decode cX3_enter 28 = .ok (.isub, 1) := by decide +kernel
theorem dX3_enter_29 : decode cX3_enter 29 = .ok (.iaload, 1) := by decide +kernel
theorem dX3_enter_30 : decode cX3_enter 30 = .ok (.iastore, 1) := by decide +kernel
theorem dX3_enter_31 : decode cX3_enter 31 = .ok (.iinc 4 (-1), 3) := by decide +kernel
theorem dX3_enter_34 : decode cX3_enter 34 = .ok (.goto (-25), 3) := by decide +kernel
theorem dX3_enter_37 : decode cX3_enter 37 = .ok (.aload_n 0, 1) := by decide +kernel
theorem dX3_enter_38 : decode cX3_enter 38 = .ok (.getfield 11, 3) := by decide +kernel
theorem dX3_enter_41 : decode cX3_enter 41 = .ok (.iconst 0, 1) := by decide +kernel
theorem dX3_enter_42 : decode cX3_enter 42 = .ok (.iload_n 1, 1) := by decide +kernel
theorem dX3_enter_43 : decode cX3_enter 43 = .ok (.iastore, 1) := by decide +kernel
theorem dX3_enter_44 : decode cX3_enter 44 = .ok (.aload_n 0, 1) := by decide +kernel
theorem dX3_enter_45 : decode cX3_enter 45 = .ok (.getfield 11, 3) := by decide +kernel
theorem dX3_enter_48 : decode cX3_enter 48 = .ok (.iconst 1, 1) := by decide +kernel
theorem dX3_enter_49 : decode cX3_enter 49 = .ok (.aload_n 2, 1) := by decide +kernel
theorem dX3_enter_50 : decode cX3_enter 50 = .ok (.getfield 19, 3) := by decide +kernel
theorem dX3_enter_53 : decode cX3_enter 53 = .ok (.iastore, 1) := by decide +kernel
theorem dX3_enter_54 : decode cX3_enter 54 = .ok (.aload_n 0, 1) := by decide +kernel
theorem dX3_enter_55 : decode cX3_enter 55 = .ok (.getfield 11, 3) := by decide +kernel
theorem dX3_enter_58 : decode cX3_enter 58 = .ok (.iconst 2, 1) := by decide +kernel
theorem dX3_enter_59 : decode cX3_enter 59 = .ok (.aload_n 2, 1) := by decide +kernel
theorem dX3_enter_60 : decode cX3_enter 60 = .ok (.getfield 24, 3) := by decide +kernel
theorem dX3_enter_63 : decode cX3_enter 63 = .ok (.iastore, 1) := by decide +kernel
theorem dX3_enter_64 : decode cX3_enter 64 = .ok (.aload_n 0, 1) := by decide +kernel
theorem dX3_enter_65 : decode cX3_enter 65 = .ok (.getfield 11, 3) := by decide +kernel
theorem dX3_enter_68 : decode cX3_enter 68 = .ok (.iconst 3, 1) := by decide +kernel
theorem dX3_enter_69 : decode cX3_enter 69 = .ok (.aload_n 2, 1) := by decide +kernel
theorem dX3_enter_70 : decode cX3_enter 70 = .ok (.invokevirtual 27, 3) := by decide +kernel
theorem dX3_enter_73 : decode cX3_enter 73 = .ok (.iastore, 1) := by decide +kernel
theorem dX3_enter_74 : decode cX3_enter 74 = .ok (.aload_n 0, 1) := by decide +kernel
theorem dX3_enter_75 : decode cX3_enter 75 = .ok (.getfield 11, 3) := by decide +kernel
theorem dX3_enter_78 : decode cX3_enter 78 = .ok (.iconst 4, 1) := by decide +kernel
theorem dX3_enter_79 : decode cX3_enter 79 = .ok (.iload_n 3, 1) := by decide +kernel
theorem dX3_enter_80 : decode cX3_enter 80 = .ok (.iastore, 1) := by decide +kernel
theorem dX3_enter_81 : decode cX3_enter 81 = .ok (.aload_n 0, 1) := by decide +kernel
theorem dX3_enter_82 : decode cX3_enter 82 = .ok (.getfield 15, 3) := by decide +kernel
theorem dX3_enter_85 : decode cX3_enter 85 = .ok (.bipush 10, 2) := by decide +kernel
theorem dX3_enter_87 : decode cX3_enter 87 = .ok (.if_icmp .ge 13, 3) := by decide +kernel
theorem dX3_enter_90 : decode cX3_enter 90 = .ok (.aload_n 0, 1) := by decide +kernel
theorem dX3_enter_91 : decode cX3_enter 91 = .ok (.dup, 1) := by decide +kernel
theorem dX3_enter_92 : decode cX3_enter 92 = .ok (.getfield 15, 3) := by decide +kernel
theorem dX3_enter_95 : decode cX3_enter 95 = .ok (.iconst 1, 1) := by decide +kernel
theorem dX3_enter_96 : decode cX3_enter 96 = .ok (.iadd, 1) := by decide +kernel
theorem dX3_enter_97 : decode cX3_enter 97 = .ok (.putfield 15, 3) := by decide +kernel
theorem dX3_enter_100 : decode cX3_enter 100 = .ok (.return_, 1) := by decide +kernel
theorem dX3_entry_0 : decode cX3_entry 0 = .ok (.iload_n 1, 1) := by decide +kernel
theorem dX3_entry_1 : decode cX3_entry 1 = .ok (.ifCond .lt 30, 3) := by decide +kernel
theorem dX3_entry_4 : decode cX3_entry 4 = .ok (.iload_n 1, 1) := by decide +kernel
theorem dX3_entry_5 : decode cX3_entry 5 = .ok (.aload_n 0, 1) := by decide +kernel
theorem dX3_entry_6 : decode cX3_entry 6 = .ok (.getfield 15, 3) := by decide +kernel
theorem dX3_entry_9 : decode cX3_entry 9 = .ok (.if_icmp .ge 22, 3) := by decide +kernel
theorem dX3_entry_12 : decode cX3_entry 12 = .ok (.iload_n 1, 1) := by decide +kernel
theorem dX3_entry_13 : decode cX3_entry 13 = .ok (.bipush 10, 2) := by decide +kernel
theorem dX3_entry_15 : decode cX3_entry 15 = .ok (.if_icmp .ge 16, 3) := by decide +kernel
theorem dX3_entry_18 : decode cX3_entry 18 = .ok (.iload_n 2, 1) := by decide +kernel
theorem dX3_entry_19 : decode cX3_entry 19 = .ok (.ifCond .lt 12, 3) := by decide +kernel
theorem dX3_entry_22 : decode cX3_entry 22 = .ok (.iload_n 2, 1) := by decide +kernel
theorem dX3_entry_23 : decode cX3_entry 23 = .ok (.iconst 5, 1) := by decide +kernel
theorem dX3_entry_24 : decode cX3_entry 24 = .ok (.if_icmp .ge 7, 3) := by decide +kernel
theorem dX3_entry_27 : decode cX3_entry 27 = .ok (.iconst 1, 1) := by decide +kernel
theorem dX3_entry_28 : decode cX3_entry 28 = .ok (.goto 4, 3) := by decide +kernel
theorem dX3_entry_31 : decode cX3_entry 31 = .ok (.iconst 0, 1) := by decide +kernel
theorem dX3_entry_32 : decode cX3_entry 32 = .ok (.istore_n 3, 1) := by decide +kernel
theorem dX3_entry_33 : decode cX3_entry 33 = .ok (.iload_n 3, 1) := by decide +kernel
theorem dX3_entry_34 : decode cX3_entry 34 = .ok (.ifCond .eq 16, 3) := by decide +kernel
theorem dX3_entry_37 : decode cX3_entry 37 = .ok (.aload_n 0, 1) := by decide +kernel
theorem dX3_entry_38 : decode cX3_entry 38 = .ok (.getfield 11, 3) := by decide +kernel
theorem dX3_entry_41 : decode cX3_entry 41 = .ok (.iload_n 1, 1) := by decide +kernel
theorem dX3_entry_42 : decode cX3_entry 42 = .ok (.iconst 5, 1) := by decide +kernel
theorem dX3_entry_43 : decode cX3_entry 43 = .ok (.imul, 1) := by decide +kernel
theorem dX3_entry_44 : decode cX3_entry 44 = .ok (.iload_n 2, 1) := by decide +kernel
theorem dX3_entry_45 : decode cX3_entry 45 = .ok (.iadd, 1) := by decide +kernel
theorem dX3_entry_46 : decode cX3_entry 46 = .ok (.iaload, 1) := by decide +kernel
theorem dX3_entry_47 : decode cX3_entry 47 = .ok (.goto 5, 3) := by decide +kernel
theorem dX3_entry_50 : decode cX3_entry 50 = .ok (.bipush (-5), 2) := by decide +kernel
theorem dX3_entry_52 : decode cX3_entry 52 = .ok (.ireturn, 1) := by decide +kernel
