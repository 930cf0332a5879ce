theorem dX4_init_0 : decode cX4_init 0 = .ok (.aload_n 0, 1) := by decide +kernel
theorem dX4_init_1 : decode cX4_init 1 = .ok (.invokespecial 3, 3) := by decide +kernel
theorem dX4_init_4 : decode cX4_init 4 = .ok (.aload_n 0, 1) := by decide +kernel
theorem dX4_init_5 : decode cX4_init 5 = .ok (.iconst 3, 1) := by decide +kernel
theorem dX4_init_6 : decode cX4_init 6 = .ok (.newarray .float, 2) := by decide +kernel
theorem dX4_init_8 : decode cX4_init 8 = .ok (.dup, 1) := by decide +kernel
theorem dX4_init_9 : decode cX4_init 9 = .ok (.iconst 0, 1) := by decide +kernel
theorem dX4_init_10 : decode cX4_init 10 = .ok (.ldc 9, 2) := by decide +kernel
theorem dX4_init_12 : decode cX4_init 12 = .ok (.fastore, 1) := by decide +kernel
theorem dX4_init_13 : decode cX4_init 13 = .ok (.dup, 1) := by decide +kernel
theorem dX4_init_14 : decode cX4_init 14 = .ok (.iconst 1, 1) := by decide +kernel
theorem dX4_init_15 : decode cX4_init 15 = .ok (.ldc 10, 2) := by decide +kernel
theorem dX4_init_17 : decode cX4_init 17 = .ok (.fastore, 1) := by decide +kernel
theorem dX4_init_18 : decode cX4_init 18 = .ok (.dup, 1) := by decide +kernel
theorem dX4_init_19 : decode cX4_init 19 = .ok (.iconst 2, 1) := by decide +kernel
theorem dX4_init_20 : decode cX4_init 20 = .ok (.fconst 2, 1) := by decide +kernel
theorem dX4_init_21 : decode cX4_init 21 = .ok (.fastore, 1) := by decide +kernel
theorem dX4_init_22 : decode cX4_init 22 = .ok (.putfield 11, 3) := by decide +kernel
theorem dX4_init_25 : decode cX4_init 25 = .ok (.aload_n 0, 1) := by decide +kernel
theorem dX4_init_26 : decode cX4_init 26 = .ok (.iconst 4, 1) := by decide +kernel
theorem dX4_init_27 : decode cX4_init 27 = .ok (.newarray .float, 2) := by decide +kernel
theorem dX4_init_29 : decode cX4_init 29 = .ok (.dup, 1) := by decide +kernel
theorem dX4_init_30 : decode cX4_init 30 = .ok (.iconst 0, 1) := by decide +kernel
theorem dX4_init_31 : decode cX4_init 31 = .ok (.fconst 1, 1) := by decide +kernel
theorem dX4_init_32 : decode cX4_init 32 = .ok (.fastore, 1) := by decide +kernel
theorem dX4_init_33 : decode cX4_init 33 = .ok (.dup, 1) := by decide +kernel
theorem dX4_init_34 : decode cX4_init 34 = .ok (.iconst 1, 1) := by decide +kernel
theorem dX4_init_35 : decode cX4_init 35 = .ok (.fconst 1, 1) := by decide +kernel
theorem dX4_init_36 : decode cX4_init 36 = .ok (.fastore, 1) := by decide +kernel
theorem dX4_init_37 : decode cX4_init 37 = .ok (.dup, 1) := by decide +kernel
theorem dX4_init_38 : decode cX4_init 38 = .ok (.iconst 2, 1) := by decide +kernel
theorem dX4_init_39 : decode cX4_init 39 = .ok (.fconst 1, 1) := by decide +kernel
theorem dX4_init_40 : decode cX4_init 40 = .ok (.fastore, 1) := by decide +kernel
theorem dX4_init_41 : decode cX4_init 41 = .ok (.dup, 1) := by decide +kernel
theorem dX4_init_42 : decode cX4_init 42 = .ok (.iconst 3, 1) := by decide +kernel
theorem dX4_init_43 : decode cX4_init 43 = .ok (.fconst 1, 1) := by decide +kernel
theorem dX4_init_44 : decode cX4_init 44 = .ok (.fastore, 1) := by decide +kernel
theorem dX4_init_45 : decode cX4_init 45 = .ok (.putfield 17, 3) := by decide +kernel
theorem dX4_init_48 : decode cX4_init 48 = .ok (.aload_n 0, 1) := by decide +kernel
theorem dX4_init_49 : decode cX4_init 49 = .ok (.iconst 5, 1) := by decide +kernel
theorem dX4_init_50 : decode cX4_init 50 = .ok (.newarray .int, 2) := by decide +kernel
theorem dX4_init_52 : decode cX4_init 52 = .ok (.dup, 1) := by decide +kernel
theorem dX4_init_53 : decode cX4_init 53 = .ok (.iconst 0, 1) := by decide +kernel
theorem dX4_init_54 : decode cX4_init 54 = .ok (.iconst 5, 1) := by decide +kernel
theorem dX4_init_55 : decode cX4_init 55 = .ok (.iastore, 1) := by decide +kernel
theorem dX4_init_56 : decode cX4_init 56 = .ok (.dup, 1) := by decide +kernel
theorem dX4_init_57 : decode cX4_init 57 = .ok (.iconst 1, 1) := by decide +kernel
theorem dX4_init_58 : decode cX4_init 58 = .ok (.iconst 1, 1) := by decide +kernel
theorem dX4_init_59 : decode cX4_init 59 = .ok (.iastore, 1) := by decide +kernel
theorem dX4_init_60 : decode cX4_init 60 = .ok (.dup, 1) := by decide +kernel
theorem dX4_init_61 : decode cX4_init 61 = .ok (.iconst 2, 1) := by decide +kernel
theorem dX4_init_62 : decode cX4_init 62 = .ok (.iconst 2, 1) := by decide +kernel
theorem dX4_init_63 : decode cX4_init 63 = .ok (.iastore, 1) := by decide +kernel
theorem dX4_init_64 : decode cX4_init 64 = .ok (.dup, 1) := by decide +kernel
theorem dX4_init_65 : decode cX4_init 65 = .ok (.iconst 3, 1) := by decide +kernel
theorem dX4_init_66 : decode cX4_init 66 = .ok (.iconst 2, 1) := by decide +kernel
theorem dX4_init_67 : decode cX4_init 67 = .ok (.iastore, 1) := by decide +kernel
theorem dX4_init_68 : decode cX4_init 68 = .ok (.dup, 1) := by decide +kernel
theorem dX4_init_69 : decode cX4_init 69 = .ok (.iconst 4, 1) := by decide +kernel
theorem dX4_init_70 : decode cX4_init 70 = .ok (.iconst 3, 1) := by decide +kernel
theorem dX4_init_71 : decode cX4_init 71 = .ok (.iastore, 1) := by decide +kernel
theorem dX4_init_72 : decode cX4_init 72 = .ok (.putfield 20, 3) := by decide +kernel
theorem dX4_init_75 : decode cX4_init 75 = .ok (.return_, 1) := by decide +kernel
theorem dX4_copyFrom_0 : decode cX4_copyFrom 0 = .ok (.iconst 0, 1) := by decide +kernel
theorem dX4_copyFrom_1 : decode cX4_copyFrom 1 = .ok (.istore_n 2, 1) := by decide +kernel
theorem dX4_copyFrom_2 : decode cX4_copyFrom 2 = .ok (.iload_n 2, 1) := by decide +kernel
theorem dX4_copyFrom_3 : decode cX4_copyFrom 3 = .ok (.aload_n 0, 1) := by decide +kernel
theorem dX4_copyFrom_4 : decode cX4_copyFrom 4 = .ok (.getfield 11, 3) := by decide +kernel
theorem dX4_copyFrom_7 : decode cX4_copyFrom 7 = .ok (.arraylength, 1) := by decide +kernel
theorem dX4_copyFrom_8 : decode cX4_copyFrom 8 = .ok (.if_icmp .ge 30, 3) := by decide +kernel
theorem dX4_copyFrom_11 : decode cX4_copyFrom 11 = .ok (.iload_n 2, 1) := by decide +kernel
theorem dX4_copyFrom_12 : decode cX4_copyFrom 12 = .ok (.aload_n 1, 1) := by decide +kernel
theorem dX4_copyFrom_13 : decode cX4_copyFrom 13 = .ok (.getfield 11, 3) := by decide +kernel
theorem dX4_copyFrom_16 : decode cX4_copyFrom 16 = .ok (.arraylength, 1) := by decide +kernel
theorem dX4_copyFrom_17 : decode cX4_copyFrom 17 = .ok (.if_icmp .ge 21, 3) := by decide +kernel
theorem dX4_copyFrom_20 : decode cX4_copyFrom 20 = .ok (.aload_n 0, 1) := by decide +kernel
theorem dX4_copyFrom_21 : decode cX4_copyFrom 21 = .ok (.getfield 11, 3) := by decide +kernel
theorem dX4_copyFrom_24 : decode cX4_copyFrom 24 = .ok (.iload_n 2, 1) := by decide +kernel
theorem dX4_copyFrom_25 : decode cX4_copyFrom 25 = .ok (.aload_n 1, 1) := by decide +kernel
theorem dX4_copyFrom_26 : decode cX4_copyFrom 26 = .ok (.getfield 11, 3) := by decide +kernel
theorem dX4_copyFrom_29 : decode cX4_copyFrom 29 = .ok (.iload_n 2, 1) := by decide +kernel
theorem dX4_copyFrom_30 : decode cX4_copyFrom 30 = .ok (.faload, 1) := by decide +kernel
theorem dX4_copyFrom_31 : decode cX4_copyFrom 31 = .ok (.fastore, 1) := by decide +kernel
theorem dX4_copyFrom_32 : decode cX4_copyFrom 32 = .ok (.iinc 2 1, 3) := by decide +kernel
theorem dX4_copyFrom_35 : decode cX4_copyFrom 35 = .ok (.goto (-33), 3) := by decide +kernel
theorem dX4_copyFrom_38 : decode cX4_copyFrom 38 = .ok (.iconst 0, 1) := by decide +kernel
theorem dX4_copyFrom_39 : decode cX4_copyFrom 39 = .ok (.istore_n 2, 1) := by decide +kernel
theorem dX4_copyFrom_40 : decode cX4_copyFrom 40 = .ok (.iload_n 2, 1) := by decide +kernel
theorem dX4_copyFrom_41 : decode cX4_copyFrom 41 = .ok (.aload_n 0, 1) := by decide +kernel
theorem dX4_copyFrom_42 : decode cX4_copyFrom 42 = .ok (.getfield 17, 3) := by decide +kernel
theorem dX4_copyFrom_45 : decode cX4_copyFrom 45 = .ok (.arraylength, 1) := by decide +kernel
theorem dX4_copyFrom_46 : decode cX4_copyFrom 46 = .ok (.if_icmp .ge 30, 3) := by decide +kernel
theorem dX4_copyFrom_49 : decode cX4_copyFrom 49 = .ok (.iload_n 2, 1) := by decide +kernel
theorem dX4_copyFrom_50 : decode cX4_copyFrom 50 = .ok (.aload_n 1, 1) := by decide +kernel
theorem dX4_copyFrom_51 : decode cX4_copyFrom 51 = .ok (.getfield 17, 3) := by decide +kernel
theorem dX4_copyFrom_54 : decode cX4_copyFrom 54 = .ok (.arraylength, 1) := by decide +kernel
theorem dX4_copyFrom_55 : decode cX4_copyFrom 55 = .ok (.if_icmp .ge 21, 3) := by decide +kernel
theorem dX4_copyFrom_58 : decode cX4_copyFrom 58 = .ok (.aload_n 0, 1) := by decide +kernel
theorem dX4_copyFrom_59 : decode cX4_copyFrom 59 = .ok (.getfield 17, 3) := by decide +kernel
theorem dX4_copyFrom_62 : decode cX4_copyFrom 62 = .ok (.iload_n 2, 1) := by decide +kernel
theorem dX4_copyFrom_63 : decode cX4_copyFrom 63 = .ok (.aload_n 1, 1) := by decide +kernel
theorem dX4_copyFrom_64 : decode cX4_copyFrom 64 = .ok (.getfield 17, 3) := by decide +kernel
theorem dX4_copyFrom_67 : decode cX4_copyFrom 67 = .ok (.iload_n 2, 1) := by decide +kernel
theorem dX4_copyFrom_68 : decode cX4_copyFrom 68 = .ok (.faload, 1) := by decide +kernel
theorem dX4_copyFrom_69 : decode cX4_copyFrom 69 = .ok (.fastore, 1) := by decide +kernel
theorem dX4_copyFrom_70 : decode cX4_copyFrom 70 = .ok (.iinc 2 1, 3) := by decide +kernel
theorem dX4_copyFrom_73 : decode cX4_copyFrom 73 = .ok (.goto (-33), 3) := by decide +kernel
theorem dX4_copyFrom_76 : decode cX4_copyFrom 76 = .ok (.iconst 0, 1) := by decide +kernel
theorem dX4_copyFrom_77 : decode cX4_copyFrom 77 = .ok (.istore_n 2, 1) := by decide +kernel
theorem dX4_copyFrom_78 : decode cX4_copyFrom 78 = .ok (.iload_n 2, 1) := by decide +kernel
theorem dX4_copyFrom_79 : decode cX4_copyFrom 79 = .ok (.aload_n 0, 1) := by decide +kernel
theorem dX4_copyFrom_80 : decode cX4_copyFrom 80 = .ok (.getfield 20, 3) := by decide +kernel
theorem dX4_copyFrom_83 : decode cX4_copyFrom 83 = .ok (.arraylength, 1) := by decide +kernel
theorem dX4_copyFrom_84 : decode cX4_copyFrom 84 = .ok (.if_icmp .ge 30, 3) := by decide +kernel
theorem dX4_copyFrom_87 : decode cX4_copyFrom 87 = .ok (.iload_n 2, 1) := by decide +kernel
theorem dX4_copyFrom_88 : decode cX4_copyFrom 88 = .ok (.aload_n 1, 1) := by decide +kernel
theorem dX4_copyFrom_89 : decode cX4_copyFrom 89 = .ok (.getfield 20, 3) := by decide +kernel
theorem dX4_copyFrom_92 : decode cX4_copyFrom 92 = .ok (.arraylength, 1) := by decide +kernel
theorem dX4_copyFrom_93 : decode cX4_copyFrom 93 = .ok (.if_icmp .ge 21, 3) := by decide +kernel
theorem dX4_copyFrom_96 : decode cX4_copyFrom 96 = .ok (.aload_n 0, 1) := by decide +kernel
theorem dX4_copyFrom_97 : decode cX4_copyFrom 97 = .ok (.getfield 20, 3) := by decide +kernel
theorem dX4_copyFrom_100 : decode cX4_copyFrom 100 = .ok (.iload_n 2, 1) := by decide +kernel
theorem dX4_copyFrom_101 : decode cX4_copyFrom 101 = .ok (.aload_n 1, 1) := by decide +kernel
theorem dX4_copyFrom_102 : decode cX4_copyFrom 102 = .ok (.getfield 20, 3) := by decide +kernel
theorem dX4_copyFrom_105 : decode cX4_copyFrom 105 = .ok (.iload_n 2, 1) := by decide +kernel
theorem dX4_copyFrom_106 : decode cX4_copyFrom 106 = .ok (.iaload, 1) := by decide +kernel
theorem dX4_copyFrom_107 : decode cX4_copyFrom 107 = .ok (.iastore, 1) := by decide +kernel
theorem dX4_copyFrom_108 : decode cX4_copyFrom 108 = .ok (.iinc 2 1, 3) := by decide +kernel
theorem dX4_copyFrom_111 : decode cX4_copyFrom 111 = .ok (.goto (-33), 3) := by decide +kernel
theorem dX4_copyFrom_114 : decode cX4_copyFrom 114 = .ok (.return_, 1) := by decide +kernel
set_option maxRecDepth 20000 in
theorem ggX4_speedFor_X8_notANumber : GoodIn wsX4_speedFor wsX8_notANumber := goodIn_r _ [4, 5] (by decide +kernel) (by decide +kernel)
set_option maxRecDepth 20000 in
theorem gX4_speedFor_X8_notANumber_n24 : GoodIn wsX4_speedFor (wsX8_notANumber) := ggX4_speedFor_X8_notANumber
theorem dX4_speedFor_0 : decode cX4_speedFor 0 = .ok (.iload_n 1, 1) := by decide +kernel
theorem dX4_speedFor_1 : decode cX4_speedFor 1 = .ok (.ifCond .lt 12, 3) := by decide +kernel
theorem dX4_speedFor_4 : decode cX4_speedFor 4 = .ok (.iload_n 1, 1) := by decide +kernel
theorem dX4_speedFor_5 : decode cX4_speedFor 5 = .ok (.aload_n 0, 1) := by decide +kernel
theorem dX4_speedFor_6 : decode cX4_speedFor 6 = .ok (.getfield 11, 3) := by decide +kernel
theorem dX4_speedFor_9 : decode cX4_speedFor 9 = .ok (.arraylength, 1) := by decide +kernel
theorem dX4_speedFor_10 : decode cX4_speedFor 10 = .ok (.if_icmp .lt 9, 3) := by decide +kernel
theorem dX4_speedFor_13 : decode cX4_speedFor 13 = .ok (.invokestatic 24, 3) := by decide +kernel
theorem dX4_speedFor_16 : decode cX4_speedFor 16 = .ok (.goto 9, 3) := by decide +kernel
theorem dX4_speedFor_19 : decode cX4_speedFor 19 = .ok (.aload_n 0, 1) := by decide +kernel
theorem dX4_speedFor_20 : decode cX4_speedFor 20 = .ok (.getfield 11, 3) := by decide +kernel
theorem dX4_speedFor_23 : decode cX4_speedFor 23 = .ok (.iload_n 1, 1) := by decide +kernel
theorem dX4_speedFor_24 : decode cX4_speedFor 24 = .ok (.faload, 1) := by decide +kernel
theorem dX4_speedFor_25 : decode cX4_speedFor 25 = .ok (.freturn, 1) := by decide +kernel
theorem dX4_changeSpeed_0 : decode cX4_changeSpeed 0 = .ok (.iload_n 1, 1) := by decide +kernel
theorem dX4_changeSpeed_1 : decode cX4_changeSpeed 1 = .ok (.ifCond .lt 19, 3) := by decide +kernel
theorem dX4_changeSpeed_4 : decode cX4_changeSpeed 4 = .ok (.iload_n 1, 1) := by decide +kernel
theorem dX4_changeSpeed_5 : decode cX4_changeSpeed 5 = .ok (.aload_n 0, 1) := by decide +kernel
theorem dX4_changeSpeed_6 : decode cX4_changeSpeed 6 = .ok (.getfield 11, 3) := by decide +kernel
theorem dX4_changeSpeed_9 : decode cX4_changeSpeed 9 = .ok (.arraylength, 1) := by decide +kernel
theorem dX4_changeSpeed_10 : decode cX4_changeSpeed 10 = .ok (.if_icmp .ge 10, 3) := by decide +kernel
theorem dX4_changeSpeed_13 : decode cX4_changeSpeed 13 = .ok (.aload_n 0, 1) := by decide +kernel
theorem dX4_changeSpeed_14 : decode cX4_changeSpeed 14 = .ok (.getfield 11, 3) := by decide +kernel
theorem dX4_changeSpeed_17 : decode cX4_changeSpeed 17 = .ok (.iload_n 1, 1) := by decide +kernel
theorem dX4_changeSpeed_18 : decode cX4_changeSpeed 18 = .ok (.fload_n 2, 1) := by decide +kernel
theorem dX4_changeSpeed_19 : decode cX4_changeSpeed 19 = .ok (.fastore, 1) := by decide +kernel
theorem dX4_changeSpeed_20 : decode cX4_changeSpeed 20 = .ok (.return_, 1) := by decide +kernel
set_option maxRecDepth 20000 in
theorem ggX4_weightOf_X8_notANumber : GoodIn wsX4_weightOf wsX8_notANumber := goodIn_r _ [4, 5] (by decide +kernel) (by decide +kernel)
set_option maxRecDepth 20000 in
theorem gX4_weightOf_X8_notANumber_n24 : GoodIn wsX4_weightOf (wsX8_notANumber) := ggX4_weightOf_X8_notANumber
theorem dX4_weightOf_0 : decode cX4_weightOf 0 = .ok (.iload_n 1, 1) := by decide +kernel
theorem dX4_weightOf_1 : decode cX4_weightOf 1 = .ok (.ifCond .lt 12, 3) := by decide +kernel
theorem dX4_weightOf_4 : decode cX4_weightOf 4 = .ok (.iload_n 1, 1) := by decide +kernel
theorem dX4_weightOf_5 : decode cX4_weightOf 5 = .ok (.aload_n 0, 1) := by decide +kernel
theorem dX4_weightOf_6 : decode cX4_weightOf 6 = .ok (.getfield 17, 3) := by decide +kernel
theorem dX4_weightOf_9 : decode cX4_weightOf 9 = .ok (.arraylength, 1) := by decide +kernel
theorem dX4_weightOf_10 : decode cX4_weightOf 10 = .ok (.if_icmp .lt 9, 3) := by decide +kernel
theorem dX4_weightOf_13 : decode cX4_weightOf 13 = .ok (.invokestatic 24, 3) := by decide +kernel
theorem dX4_weightOf_16 : decode cX4_weightOf 16 = .ok (.goto 9, 3) := by decide +kernel
theorem dX4_weightOf_19 : decode cX4_weightOf 19 = .ok (.aload_n 0, 1) := by decide +kernel
theorem dX4_weightOf_20 : decode cX4_weightOf 20 = .ok (.getfield 17, 3) := by decide +kernel
theorem dX4_weightOf_23 : decode cX4_weightOf 23 = .ok (.iload_n 1, 1) := by decide +kernel
theorem dX4_weightOf_24 : decode cX4_weightOf 24 = .ok (.faload, 1) := by decide +kernel
theorem dX4_weightOf_25 : decode cX4_weightOf 25 = .ok (.freturn, 1) := by decide +kernel
theorem dX4_changeWeight_0 : decode cX4_changeWeight 0 = .ok (.iload_n 1, 1) := by decide +kernel
theorem dX4_changeWeight_1 : decode cX4_changeWeight 1 = .ok (.ifCond .lt 19, 3) := by decide +kernel
theorem dX4_changeWeight_4 : decode cX4_changeWeight 4 = .ok (.iload_n 1, 1) := by decide +kernel
theorem dX4_changeWeight_5 : decode cX4_changeWeight 5 = .ok (.aload_n 0, 1) := by decide +kernel
theorem dX4_changeWeight_6 : decode cX4_changeWeight 6 = .ok (.getfield 17, 3) := by decide +kernel
theorem dX4_changeWeight_9 : decode cX4_changeWeight 9 = .ok (.arraylength, 1) := by decide +kernel
theorem dX4_changeWeight_10 : decode cX4_changeWeight 10 = .ok (.if_icmp .ge 10, 3) := by decide +kernel
theorem dX4_changeWeight_13 : decode cX4_changeWeight 13 = .ok (.aload_n 0, 1) := by decide +kernel
theorem dX4_changeWeight_14 : decode cX4_changeWeight 14 = .ok (.getfield 17, 3) := by decide +kernel
theorem dX4_changeWeight_17 : decode cX4_changeWeight 17 = .ok (.iload_n 1, 1) := by decide +kernel
theorem dX4_changeWeight_18 : decode cX4_changeWeight 18 = .ok (.fload_n 2, 1) := by decide +kernel
theorem dX4_changeWeight_19 : decode cX4_changeWeight 19 = .ok (.fastore, 1) := by decide +kernel
theorem dX4_changeWeight_20 : decode cX4_changeWeight 20 = .ok (.return_, 1) := by decide +kernel
theorem dX4_numberOf_0 : decode cX4_numberOf 0 = .ok (.iload_n 1, 1) := by decide +kernel
theorem dX4_numberOf_1 : decode cX4_numberOf 1 = .ok (.ifCond .lt 12, 3) := by decide +kernel
theorem dX4_numberOf_4 : decode cX4_numberOf 4 = .ok (.iload_n 1, 1) := by decide +kernel
theorem dX4_numberOf_5 : decode cX4_numberOf 5 = .ok (.aload_n 0, 1) := by decide +kernel
theorem dX4_numberOf_6 : decode cX4_numberOf 6 = .ok (.getfield 20, 3) := by decide +kernel
theorem dX4_numberOf_9 : decode cX4_numberOf 9 = .ok (.arraylength, 1) := by decide +kernel
theorem dX4_numberOf_10 : decode cX4_numberOf 10 = .ok (.if_icmp .lt 7, 3) := by decide +kernel
theorem dX4_numberOf_13 : decode cX4_numberOf 13 = .ok (.iconst (-1), 1) := by decide +kernel
theorem dX4_numberOf_14 : decode cX4_numberOf 14 = .ok (.goto 9, 3) := by decide +kernel
theorem dX4_numberOf_17 : decode cX4_numberOf 17 = .ok (.aload_n 0, 1) := by decide +kernel
theorem dX4_numberOf_18 : decode cX4_numberOf 18 = .ok (.getfield 20, 3) := by decide +kernel
theorem dX4_numberOf_21 : decode cX4_numberOf 21 = .ok (.iload_n 1, 1) := by decide +kernel
theorem dX4_numberOf_22 : decode cX4_numberOf 22 = .ok (.iaload, 1) := by decide +kernel
theorem dX4_numberOf_23 : decode cX4_numberOf 23 = .ok (.ireturn, 1) := by decide +kernel
theorem dX4_changeNumber_0 : decode cX4_changeNumber 0 = .ok (.iload_n 1, 1) := by decide +kernel
theorem dX4_changeNumber_1 : decode cX4_changeNumber 1 = .ok (.ifCond .lt 19, 3) := by decide +kernel
theorem dX4_changeNumber_4 : decode cX4_changeNumber 4 = .ok (.iload_n 1, 1) := by decide +kernel
theorem dX4_changeNumber_5 : decode cX4_changeNumber 5 = .ok (.aload_n 0, 1) := by decide +kernel
theorem dX4_changeNumber_6 : decode cX4_changeNumber 6 = .ok (.getfield 20, 3) := by decide +kernel
theorem dX4_changeNumber_9 : decode cX4_changeNumber 9 = .ok (.arraylength, 1) := by decide +kernel
theorem dX4_changeNumber_10 : decode cX4_changeNumber 10 = .ok (.if_icmp .ge 10, 3) := by decide +kernel
theorem dX4_changeNumber_13 : decode cX4_changeNumber 13 = .ok (.aload_n 0, 1) := by decide +kernel
theorem dX4_changeNumber_14 : decode cX4_changeNumber 14 = .ok (.getfield 20, 3) := by decide +kernel
theorem dX4_changeNumber_17 : decode cX4_changeNumber 17 = .ok (.iload_n 1, 1) := by decide +kernel
theorem dX4_changeNumber_18 : decode cX4_changeNumber 18 = .ok (.iload_n 2, 1) := by decide +kernel
theorem dX4_changeNumber_19 : decode cX4_changeNumber 19 = .ok (.iastore, 1) := by decide +kernel
theorem dX4_changeNumber_20 : decode cX4_changeNumber 20 = .ok (.return_, 1) := by decide +kernel
set_option maxRecDepth 20000 in
theorem ggX5_init_X4_init : GoodIn wsX5_init wsX4_init := goodIn_r _ [25, 26, 2, 3, 27, 28, 29, 30, 31, 32, 33, 48, 49, 50] (by decide +kernel) (by decide +kernel)
set_option maxRecDepth 20000 in
theorem gX5_init_X4_init_n11 : GoodIn wsX5_init (wsX4_init) := ggX5_init_X4_init
set_option maxRecDepth 20000 in
theorem ggX5_init_X7_init : GoodIn wsX5_init wsX7_init := goodIn_r _ [35, 36, 2, 3] (by decide +kernel) (by decide +kernel)
set_option maxRecDepth 20000 in
theorem gX5_init_X7_init_n20 : GoodIn wsX5_init (wsX7_init) := ggX5_init_X7_init
set_option maxRecDepth 20000 in
theorem ggX5_init_X1_init : GoodIn wsX5_init wsX1_init := goodIn_r _ [38, 39, 2, 3, 40, 65, 66, 67, 68, 69, 70] (by decide +kernel) (by decide +kernel)
set_option maxRecDepth 20000 in
theorem gX5_init_X1_init_n27 : GoodIn wsX5_init (wsX1_init) := ggX5_init_X1_init
set_option maxRecDepth 20000 in
theorem ggX5_init_X3_init : GoodIn wsX5_init wsX3_init := goodIn_r _ [42, 43, 2, 3, 32, 44, 71, 72] (by decide +kernel) (by decide +kernel)
set_option maxRecDepth 20000 in
theorem gX5_init_X3_init_n34 : GoodIn wsX5_init (wsX3_init) := ggX5_init_X3_init
set_option maxRecDepth 20000 in
theorem ggX5_init_X6_init : GoodIn wsX5_init wsX6_init := goodIn_r _ [46, 47, 2, 3] (by decide +kernel) (by decide +kernel)
set_option maxRecDepth 20000 in
theorem gX5_init_X6_init_n41 : GoodIn wsX5_init (wsX6_init) := ggX5_init_X6_init
theorem dX5_init_0 : decode cX5_init 0 = .ok (.aload_n 0, 1) := by decide +kernel
theorem dX5_init_1 : decode cX5_init 1 = .ok (.invokespecial 3, 3) := by decide +kernel
theorem dX5_init_4 : decode cX5_init 4 = .ok (.aload_n 0, 1) := by decide +kernel
theorem dX5_init_5 : decode cX5_init 5 = .ok (.new 9, 3) := by decide +kernel
theorem dX5_init_8 : decode cX5_init 8 = .ok (.dup, 1) := by decide +kernel
theorem dX5_init_9 : decode cX5_init 9 = .ok (.invokespecial 11, 3) := by decide +kernel
theorem dX5_init_12 : decode cX5_init 12 = .ok (.putfield 12, 3) := by decide +kernel
theorem dX5_init_15 : decode cX5_init 15 = .ok (.aload_n 0, 1) := by decide +kernel
theorem dX5_init_16 : decode cX5_init 16 = .ok (.new 18, 3) := by decide +kernel
theorem dX5_init_19 : decode cX5_init 19 = .ok (.dup, 1) := by decide +kernel
theorem dX5_init_20 : decode cX5_init 20 = .ok (.invokespecial 20, 3) := by decide +kernel
theorem dX5_init_23 : decode cX5_init 23 = .ok (.putfield 21, 3) := by decide +kernel
theorem dX5_init_26 : decode cX5_init 26 = .ok (.aload_n 0, 1) := by decide +kernel
theorem dX5_init_27 : decode cX5_init 27 = .ok (.new 25, 3) := by decide +kernel
theorem dX5_init_30 : decode cX5_init 30 = .ok (.dup, 1) := by decide +kernel
theorem dX5_init_31 : decode cX5_init 31 = .ok (.invokespecial 27, 3) := by decide +kernel
theorem dX5_init_34 : decode cX5_init 34 = .ok (.putfield 28, 3) := by decide +kernel
theorem dX5_init_37 : decode cX5_init 37 = .ok (.aload_n 0, 1) := by decide +kernel
theorem dX5_init_38 : decode cX5_init 38 = .ok (.new 32, 3) := by decide +kernel
theorem dX5_init_41 : decode cX5_init 41 = .ok (.dup, 1) := by decide +kernel
theorem dX5_init_42 : decode cX5_init 42 = .ok (.invokespecial 34, 3) := by decide +kernel
theorem dX5_init_45 : decode cX5_init 45 = .ok (.putfield 35, 3) := by decide +kernel
theorem dX5_init_48 : decode cX5_init 48 = .ok (.aload_n 0, 1) := by decide +kernel
theorem dX5_init_49 : decode cX5_init 49 = .ok (.new 39, 3) := by decide +kernel
theorem dX5_init_52 : decode cX5_init 52 = .ok (.dup, 1) := by decide +kernel
theorem dX5_init_53 : decode cX5_init 53 = .ok (.invokespecial 41, 3) := by decide +kernel
theorem dX5_init_56 : decode cX5_init 56 = .ok (.putfield 42, 3) := by decide +kernel
theorem dX5_init_59 : decode cX5_init 59 = .ok (.return_, 1) := by decide +kernel
set_option maxRecDepth 20000 in
theorem ggX5_copyFrom_X4_copyFrom : GoodIn wsX5_copyFrom wsX4_copyFrom := goodIn_r _ [11, 12, 13, 14, 65, 66, 67] (by decide +kernel) (by decide +kernel)
set_option maxRecDepth 20000 in
theorem gX5_copyFrom_X4_copyFrom : GoodIn wsX5_copyFrom (wsV RX5 46 RX4 yX4_copyFrom wsX4_copyFrom) := goodIn_app (goodIn_of _ (by decide +kernel)) ggX5_copyFrom_X4_copyFrom
set_option maxRecDepth 20000 in
theorem ggX5_copyFrom_X7_copyFrom : GoodIn wsX5_copyFrom wsX7_copyFrom := goodIn_r _ [19, 20, 21, 22, 23, 24, 25, 26, 27, 68, 69, 70, 71, 72, 73, 74, 75] (by decide +kernel) (by decide +kernel)
set_option maxRecDepth 20000 in
theorem gX5_copyFrom_X7_copyFrom : GoodIn wsX5_copyFrom (wsV RX5 50 RX7 yX7_copyFrom wsX7_copyFrom) := goodIn_app (goodIn_of _ (by decide +kernel)) ggX5_copyFrom_X7_copyFrom
set_option maxRecDepth 20000 in
theorem ggX5_copyFrom_X1_copyFrom : GoodIn wsX5_copyFrom wsX1_copyFrom := goodIn_r _ [32, 33, 34, 35, 36, 37, 38, 76, 77, 78, 79, 80, 81] (by decide +kernel) (by decide +kernel)
set_option maxRecDepth 20000 in
theorem gX5_copyFrom_X1_copyFrom : GoodIn wsX5_copyFrom (wsV RX5 53 RX1 yX1_copyFrom wsX1_copyFrom) := goodIn_app (goodIn_of _ (by decide +kernel)) ggX5_copyFrom_X1_copyFrom
set_option maxRecDepth 20000 in
theorem ggX5_copyFrom_X3_copyFrom : GoodIn wsX5_copyFrom wsX3_copyFrom := goodIn_r _ [43, 44, 45, 82, 83] (by decide +kernel) (by decide +kernel)
set_option maxRecDepth 20000 in
theorem gX5_copyFrom_X3_copyFrom : GoodIn wsX5_copyFrom (wsV RX5 56 RX3 yX3_copyFrom wsX3_copyFrom) := goodIn_app (goodIn_of _ (by decide +kernel)) ggX5_copyFrom_X3_copyFrom
set_option maxRecDepth 20000 in
theorem ggX5_copyFrom_X6_copyFrom : GoodIn wsX5_copyFrom wsX6_copyFrom := goodIn_r _ [50, 51, 52, 53, 54, 55, 56, 57, 58, 84, 85, 86, 87, 88, 89, 90, 91] (by decide +kernel) (by decide +kernel)
set_option maxRecDepth 20000 in
theorem gX5_copyFrom_X6_copyFrom : GoodIn wsX5_copyFrom (wsV RX5 59 RX6 yX6_copyFrom wsX6_copyFrom) := goodIn_app (goodIn_of _ (by decide +kernel)) ggX5_copyFrom_X6_copyFrom
theorem dX5_copyFrom_0 : decode cX5_copyFrom 0 = .ok (.aload_n 0, 1) := by decide +kernel
theorem dX5_copyFrom_1 : decode cX5_copyFrom 1 = .ok (.getfield 12, 3) := by decide +kernel
theorem dX5_copyFrom_4 : decode cX5_copyFrom 4 = .ok (.aload_n 1, 1) := by decide +kernel
theorem dX5_copyFrom_5 : decode cX5_copyFrom 5 = .ok (.getfield 12, 3) := by decide +kernel
theorem dX5_copyFrom_8 : decode cX5_copyFrom 8 = .ok (.invokevirtual 46, 3) := by decide +kernel
theorem dX5_copyFrom_11 : decode cX5_copyFrom 11 = .ok (.aload_n 0, 1) := by decide +kernel
theorem dX5_copyFrom_12 : decode cX5_copyFrom 12 = .ok (.getfield 21, 3) := by decide +kernel
theorem dX5_copyFrom_15 : decode cX5_copyFrom 15 = .ok (.aload_n 1, 1) := by decide +kernel
theorem dX5_copyFrom_16 : decode cX5_copyFrom 16 = .ok (.getfield 21, 3) := by decide +kernel
theorem dX5_copyFrom_19 : decode cX5_copyFrom 19 = .ok (.invokevirtual 50, 3) := by decide +kernel
theorem dX5_copyFrom_22 : decode cX5_copyFrom 22 = .ok (.aload_n 0, 1) := by decide +kernel
theorem dX5_copyFrom_23 : decode cX5_copyFrom 23 = .ok (.getfield 28, 3) := by decide +kernel
theorem dX5_copyFrom_26 : decode cX5_copyFrom 26 = .ok (.aload_n 1, 1) := by decide +kernel
theorem dX5_copyFrom_27 : decode cX5_copyFrom 27 = .ok (.getfield 28, 3) := by decide +kernel
theorem dX5_copyFrom_30 : decode cX5_copyFrom 30 = .ok (.invokevirtual 53, 3) := by decide +kernel
theorem dX5_copyFrom_33 : decode cX5_copyFrom 33 = .ok (.aload_n 0, 1) := by decide +kernel
theorem dX5_copyFrom_34 : decode cX5_copyFrom 34 = .ok (.getfield 35, 3) := by decide +kernel
theorem dX5_copyFrom_37 : decode cX5_copyFrom 37 = .ok (.aload_n 1, 1) := by decide +kernel
theorem dX5_copyFrom_38 : decode cX5_copyFrom 38 = .ok (.getfield 35, 3) := by decide +kernel
theorem dX5_copyFrom_41 : decode cX5_copyFrom 41 = .ok (.invokevirtual 56, 3) := by decide +kernel
theorem dX5_copyFrom_44 : decode cX5_copyFrom 44 = .ok (.aload_n 0, 1) := by decide +kernel
theorem dX5_copyFrom_45 : decode cX5_copyFrom 45 = .ok (.getfield 42, 3) := by decide +kernel
theorem dX5_copyFrom_48 : decode cX5_copyFrom 48 = .ok (.aload_n 1, 1) := by decide +kernel
theorem dX5_copyFrom_49 : decode cX5_copyFrom 49 = .ok (.getfield 42, 3) := by decide +kernel
theorem dX5_copyFrom_52 : decode cX5_copyFrom 52 = .ok (.invokevirtual 59, 3) := by decide +kernel
theorem dX5_copyFrom_55 : decode cX5_copyFrom 55 = .ok (.aload_n 0, 1) := by decide +kernel
theorem dX5_copyFrom_56 : decode cX5_copyFrom 56 = .ok (.aload_n 1, 1) := by decide +kernel
theorem dX5_copyFrom_57 : decode cX5_copyFrom 57 = .ok (.getfield 62, 3) := by decide +kernel
theorem dX5_copyFrom_60 : decode cX5_copyFrom 60 = .ok (.putfield 62, 3) := by decide +kernel
theorem dX5_copyFrom_63 : decode cX5_copyFrom 63 = .ok (.return_, 1) := by decide +kernel
set_option maxRecDepth 20000 in
theorem ggX5_goThrough_X5_goOn : GoodIn wsX5_goThrough wsX5_goOn := goodIn_r _ [5, 6, 7, 8, 9, 10, 11, 12, 13, 14, 15, 16, 17, 18, 19, 20, 21, 22, 23, 24, 25, 26, 27, 28, 29, 30, 31, 32, 33, 34, 35, 36, 37, 38, 39, 40, 4, 41, 42, 43, 44, 45, 46, 47, 48, 49, 50, 51, 52, 53, 54, 55, 56, 57, 58, 59, 60, 61, 62, 63, 64, 65, 66, 67, 68, 69, 70, 71, 72, 73, 74, 75, 76, 77, 78, 79, 80, 81, 82, 83, 84, 85, 86, 87, 88, 89, 90, 91, 92, 93, 94, 95, 96, 97, 98, 99, 100, 101, 102, 103, 104, 105, 106, 107, 108, 109, 110, 111, 112, 113, 114, 115, 116, 117, 118, 119, 120, 121, 122, 123, 124, 125, 126, 127, 128, 129, 130, 131, 132, 133, 134, 135, 136, 137, 138, 139, 140, 141, 142, 143, 144, 145, 146, 147, 148, 149, 150, 151, 152, 153, 154, 155, 156, 157, 158, 159, 160, 161, 162, 163, 164, 165, 166, 167, 168, 169, 170, 171, 172, 173, 174, 175, 176] (by decide +kernel) (by decide +kernel)
set_option maxRecDepth 20000 in
theorem gX5_goThrough_X5_goOn : GoodIn wsX5_goThrough (wsV RX5 66 RX5 yX5_goOn wsX5_goOn) := goodIn_app (goodIn_of _ (by decide +kernel)) ggX5_goThrough_X5_goOn
theorem dX5_goThrough_0 : decode cX5_goThrough 0 = .ok (.iconst 0, 1) := by decide +kernel
theorem dX5_goThrough_1 : decode cX5_goThrough 1 = .ok (.istore_n 3, 1) := by decide +kernel
theorem dX5_goThrough_2 : decode cX5_goThrough 2 = .ok (.iload_n 3, 1) := by decide +kernel
theorem dX5_goThrough_3 : decode cX5_goThrough 3 = .ok (.iload_n 2, 1) := by decide +kernel
theorem dX5_goThrough_4 : decode cX5_goThrough 4 = .ok (.if_icmp .ge 14, 3) := by decide +kernel
theorem dX5_goThrough_7 : decode cX5_goThrough 7 = .ok (.aload_n 0, 1) := by decide +kernel
theorem dX5_goThrough_8 : decode cX5_goThrough 8 = .ok (.iload_n 1, 1) := by decide +kernel
theorem dX5_goThrough_9 : decode cX5_goThrough 9 = .ok (.invokevirtual 66, 3) := by decide +kernel
theorem dX5_goThrough_12 : decode cX5_goThrough 12 = .ok (.iinc 3 1, 3) := by decide +kernel
theorem dX5_goThrough_15 : decode cX5_goThrough 15 = .ok (.goto (-13), 3) := by decide +kernel
theorem dX5_goThrough_18 : decode cX5_goThrough 18 = .ok (.return_, 1) := by decide +kernel
set_option maxRecDepth 20000 in
theorem ggX5_goOn_X7_breakBeams : GoodIn wsX5_goOn wsX7_breakBeams := goodIn_r _ [10, 11, 12, 13, 14, 15, 16, 17, 18, 19, 9, 20, 21, 22, 154, 155, 156, 157, 158, 159, 160, 161] (by decide +kernel) (by decide +kernel)
set_option maxRecDepth 20000 in
theorem gX5_goOn_X7_breakBeams : GoodIn wsX5_goOn (wsV RX5 73 RX7 yX7_breakBeams wsX7_breakBeams) := goodIn_app (goodIn_of _ (by decide +kernel)) ggX5_goOn_X7_breakBeams
set_option maxRecDepth 20000 in
theorem ggX5_goOn_X4_numberOf : GoodIn wsX5_goOn wsX4_numberOf := goodIn_r _ [27, 28, 162, 163, 164] (by decide +kernel) (by decide +kernel)
set_option maxRecDepth 20000 in
theorem gX5_goOn_X4_numberOf : GoodIn wsX5_goOn (wsV RX5 77 RX4 yX4_numberOf wsX4_numberOf) := goodIn_app (goodIn_of _ (by decide +kernel)) ggX5_goOn_X4_numberOf
set_option maxRecDepth 20000 in
theorem ggX5_goOn_X7_endsInClearTick : GoodIn wsX5_goOn wsX7_endsInClearTick := goodIn_r _ [32, 11, 16, 154, 155, 156, 157, 158, 159, 160, 161] (by decide +kernel) (by decide +kernel)
set_option maxRecDepth 20000 in
theorem gX5_goOn_X7_endsInClearTick : GoodIn wsX5_goOn (wsV RX5 81 RX7 yX7_endsInClearTick wsX7_endsInClearTick) := goodIn_app (goodIn_of _ (by decide +kernel)) ggX5_goOn_X7_endsInClearTick
set_option maxRecDepth 20000 in
theorem ggX5_goOn_X5_judgeThing : GoodIn wsX5_goOn wsX5_judgeThing := goodIn_r _ [37, 3, 5, 38, 4, 1, 39, 40, 41, 42, 43, 44, 45, 9, 46, 47, 48, 49, 26, 50, 51, 52, 53, 54, 55, 56, 57, 58, 59, 60, 61, 62, 63, 13, 14, 15, 12, 64, 65, 66, 67, 68, 69, 70, 71, 72, 73, 74, 75, 76, 77, 78, 79, 80, 81, 82, 83, 84, 85, 86, 87, 88, 89, 140, 141, 142, 143, 144, 145, 154, 155, 156, 157, 158, 159, 160, 161, 165, 166, 167, 168, 169, 170, 162, 163, 164, 171, 172, 146, 147, 148, 149, 150, 151, 152, 153] (by decide +kernel) (by decide +kernel)
set_option maxRecDepth 20000 in
theorem gX5_goOn_X5_judgeThing : GoodIn wsX5_goOn (wsV RX5 85 RX5 yX5_judgeThing wsX5_judgeThing) := goodIn_app (goodIn_of _ (by decide +kernel)) ggX5_goOn_X5_judgeThing
set_option maxRecDepth 20000 in
theorem ggX5_goOn_X5_moveDoor : GoodIn wsX5_goOn wsX5_moveDoor := goodIn_r _ [93, 40, 94, 5, 95, 96, 97, 26, 98, 99, 52, 53, 54, 55, 100, 101, 102, 103, 104, 105, 106, 107, 108, 23, 24, 25, 27, 28, 109, 110, 111, 112, 113, 114, 115, 116, 117, 36, 118, 1, 119, 120, 121, 122, 123, 41, 124, 125, 126, 127, 128, 129, 130, 131, 132, 133, 134, 135, 136, 137, 3, 39, 138, 139, 140, 141, 142, 143, 144, 145, 165, 166, 167, 168, 169, 170, 162, 163, 164, 146, 147, 148, 149, 150, 151, 152, 153, 154, 155, 156, 157, 158, 159, 160, 161] (by decide +kernel) (by decide +kernel)
set_option maxRecDepth 20000 in
theorem gX5_goOn_X5_moveDoor : GoodIn wsX5_goOn (wsV RX5 88 RX5 yX5_moveDoor wsX5_moveDoor) := goodIn_app (goodIn_of _ (by decide +kernel)) ggX5_goOn_X5_moveDoor
theorem dX5_goOn_0 : decode cX5_goOn 0 = .ok (.iload_n 1, 1) := by decide +kernel
theorem dX5_goOn_1 : decode cX5_goOn 1 = .ok (.ifCond .eq 31, 3) := by decide +kernel
theorem dX5_goOn_4 : decode cX5_goOn 4 = .ok (.aload_n 0, 1) := by decide +kernel
theorem dX5_goOn_5 : decode cX5_goOn 5 = .ok (.getfield 42, 3) := by decide +kernel
theorem dX5_goOn_8 : decode cX5_goOn 8 = .ok (.dup, 1) := by decide +kernel
theorem dX5_goOn_9 : decode cX5_goOn 9 = .ok (.getfield 70, 3) := by decide +kernel
theorem dX5_goOn_12 : decode cX5_goOn 12 = .ok (.iconst 1, 1) := by decide +kernel
theorem dX5_goOn_13 : decode cX5_goOn 13 = .ok (.iadd, 1) := by decide +kernel
theorem dX5_goOn_14 : decode cX5_goOn 14 = .ok (.putfield 70, 3) := by decide +kernel
theorem dX5_goOn_17 : decode cX5_goOn 17 = .ok (.aload_n 0, 1) := by decide +kernel
theorem dX5_goOn_18 : decode cX5_goOn 18 = .ok (.getfield 21, 3) := by decide +kernel
theorem dX5_goOn_21 : decode cX5_goOn 21 = .ok (.iload_n 1, 1) := by decide +kernel
theorem dX5_goOn_22 : decode cX5_goOn 22 = .ok (.aload_n 0, 1) := by decide +kernel
theorem dX5_goOn_23 : decode cX5_goOn 23 = .ok (.getfield 62, 3) := by decide +kernel
theorem dX5_goOn_26 : decode cX5_goOn 26 = .ok (.invokevirtual 73, 3) := by decide +kernel
theorem dX5_goOn_29 : decode cX5_goOn 29 = .ok (.goto 25, 3) := by decide +kernel
theorem dX5_goOn_32 : decode cX5_goOn 32 = .ok (.aload_n 0, 1) := by decide +kernel
theorem dX5_goOn_33 : decode cX5_goOn 33 = .ok (.getfield 21, 3) := by decide +kernel
theorem dX5_goOn_36 : decode cX5_goOn 36 = .ok (.aload_n 0, 1) := by decide +kernel
theorem dX5_goOn_37 : decode cX5_goOn 37 = .ok (.getfield 12, 3) := by decide +kernel
theorem dX5_goOn_40 : decode cX5_goOn 40 = .ok (.iconst 4, 1) := by decide +kernel
theorem dX5_goOn_41 : decode cX5_goOn 41 = .ok (.invokevirtual 77, 3) := by decide +kernel
theorem dX5_goOn_44 : decode cX5_goOn 44 = .ok (.invokevirtual 81, 3) := by decide +kernel
theorem dX5_goOn_47 : decode cX5_goOn 47 = .ok (.ifCond .eq 7, 3) := by decide +kernel
theorem dX5_goOn_50 : decode cX5_goOn 50 = .ok (.aload_n 0, 1) := by decide +kernel
theorem dX5_goOn_51 : decode cX5_goOn 51 = .ok (.invokevirtual 85, 3) := by decide +kernel
theorem dX5_goOn_54 : decode cX5_goOn 54 = .ok (.aload_n 0, 1) := by decide +kernel
theorem dX5_goOn_55 : decode cX5_goOn 55 = .ok (.iload_n 1, 1) := by decide +kernel
theorem dX5_goOn_56 : decode cX5_goOn 56 = .ok (.ifCond .eq 7, 3) := by decide +kernel
theorem dX5_goOn_59 : decode cX5_goOn 59 = .ok (.iconst 1, 1) := by decide +kernel
theorem dX5_goOn_60 : decode cX5_goOn 60 = .ok (.goto 4, 3) := by decide +kernel
theorem dX5_goOn_63 : decode cX5_goOn 63 = .ok (.iconst 0, 1) := by decide +kernel
theorem dX5_goOn_64 : decode cX5_goOn 64 = .ok (.invokevirtual 88, 3) := by decide +kernel
theorem dX5_goOn_67 : decode cX5_goOn 67 = .ok (.aload_n 0, 1) := by decide +kernel
theorem dX5_goOn_68 : decode cX5_goOn 68 = .ok (.dup, 1) := by decide +kernel
theorem dX5_goOn_69 : decode cX5_goOn 69 = .ok (.getfield 62, 3) := by decide +kernel
theorem dX5_goOn_72 : decode cX5_goOn 72 = .ok (.iconst 1, 1) := by decide +kernel
theorem dX5_goOn_73 : decode cX5_goOn 73 = .ok (.iadd, 1) := by decide +kernel
theorem dX5_goOn_74 : decode cX5_goOn 74 = .ok (.putfield 62, 3) := by decide +kernel
theorem dX5_goOn_77 : decode cX5_goOn 77 = .ok (.return_, 1) := by decide +kernel
set_option maxRecDepth 20000 in
theorem ggX5_speedOfClosing_X4_numberOf : GoodIn wsX5_speedOfClosing wsX4_numberOf := goodIn_r _ [8, 9, 22, 23, 24] (by decide +kernel) (by decide +kernel)
set_option maxRecDepth 20000 in
theorem gX5_speedOfClosing_X4_numberOf : GoodIn wsX5_speedOfClosing (wsV RX5 77 RX4 yX4_numberOf wsX4_numberOf) := goodIn_app (goodIn_of _ (by decide +kernel)) ggX5_speedOfClosing_X4_numberOf
theorem dX5_speedOfClosing_0 : decode cX5_speedOfClosing 0 = .ok (.aload_n 0, 1) := by decide +kernel
theorem dX5_speedOfClosing_1 : decode cX5_speedOfClosing 1 = .ok (.getfield 28, 3) := by decide +kernel
theorem dX5_speedOfClosing_4 : decode cX5_speedOfClosing 4 = .ok (.getfield 92, 3) := by decide +kernel
theorem dX5_speedOfClosing_7 : decode cX5_speedOfClosing 7 = .ok (.aload_n 0, 1) := by decide +kernel
theorem dX5_speedOfClosing_8 : decode cX5_speedOfClosing 8 = .ok (.getfield 12, 3) := by decide +kernel
theorem dX5_speedOfClosing_11 : decode cX5_speedOfClosing 11 = .ok (.iconst 2, 1) := by decide +kernel
theorem dX5_speedOfClosing_12 : decode cX5_speedOfClosing 12 = .ok (.invokevirtual 77, 3) := by decide +kernel
theorem dX5_speedOfClosing_15 : decode cX5_speedOfClosing 15 = .ok (.if_icmp .le 7, 3) := by decide +kernel
theorem dX5_speedOfClosing_18 : decode cX5_speedOfClosing 18 = .ok (.iconst 2, 1) := by decide +kernel
theorem dX5_speedOfClosing_19 : decode cX5_speedOfClosing 19 = .ok (.goto 4, 3) := by decide +kernel
theorem dX5_speedOfClosing_22 : decode cX5_speedOfClosing 22 = .ok (.iconst 1, 1) := by decide +kernel
theorem dX5_speedOfClosing_23 : decode cX5_speedOfClosing 23 = .ok (.ireturn, 1) := by decide +kernel
set_option maxRecDepth 20000 in
theorem ggX5_judgeThing_X7_likeliestKind : GoodIn wsX5_judgeThing wsX7_likeliestKind := goodIn_r _ [14, 15, 16, 17, 18, 19, 20, 21, 22, 23, 24, 25, 26, 27, 13, 28, 29, 30, 31, 32, 33, 34, 35, 36, 37, 38, 83, 84, 85, 69, 70, 71, 72, 73, 74, 75, 76] (by decide +kernel) (by decide +kernel)
set_option maxRecDepth 20000 in
theorem gX5_judgeThing_X7_likeliestKind : GoodIn wsX5_judgeThing (wsV RX5 95 RX7 yX7_likeliestKind wsX7_likeliestKind) := goodIn_app (goodIn_of _ (by decide +kernel)) ggX5_judgeThing_X7_likeliestKind
set_option maxRecDepth 20000 in
theorem ggX5_judgeThing_X3_enter : GoodIn wsX5_judgeThing wsX3_enter := goodIn_r _ [43, 44, 45, 46, 47, 48, 49, 50, 13, 51, 33, 34, 35, 52, 22, 53, 86, 87, 69, 70, 71, 72, 73, 74, 75, 76] (by decide +kernel) (by decide +kernel)
set_option maxRecDepth 20000 in
theorem gX5_judgeThing_X3_enter : GoodIn wsX5_judgeThing (wsV RX5 99 RX3 yX3_enter wsX3_enter) := goodIn_app (goodIn_of _ (by decide +kernel)) ggX5_judgeThing_X3_enter
set_option maxRecDepth 20000 in
theorem ggX5_judgeThing_X6_addJudged : GoodIn wsX5_judgeThing wsX6_addJudged := goodIn_r _ [58, 59, 60, 61, 62, 88, 89, 90, 91, 92, 93, 94, 95] (by decide +kernel) (by decide +kernel)
set_option maxRecDepth 20000 in
theorem gX5_judgeThing_X6_addJudged : GoodIn wsX5_judgeThing (wsV RX5 103 RX6 yX6_addJudged wsX6_addJudged) := goodIn_app (goodIn_of _ (by decide +kernel)) ggX5_judgeThing_X6_addJudged
theorem dX5_judgeThing_0 : decode cX5_judgeThing 0 = .ok (.aload_n 0, 1) := by decide +kernel
theorem dX5_judgeThing_1 : decode cX5_judgeThing 1 = .ok (.getfield 21, 3) := by decide +kernel
theorem dX5_judgeThing_4 : decode cX5_judgeThing 4 = .ok (.aload_n 0, 1) := by decide +kernel
theorem dX5_judgeThing_5 : decode cX5_judgeThing 5 = .ok (.getfield 12, 3) := by decide +kernel
theorem dX5_judgeThing_8 : decode cX5_judgeThing 8 = .ok (.invokevirtual 95, 3) := by decide +kernel
theorem dX5_judgeThing_11 : decode cX5_judgeThing 11 = .ok (.istore_n 1, 1) := by decide +kernel
theorem dX5_judgeThing_12 : decode cX5_judgeThing 12 = .ok (.aload_n 0, 1) := by decide +kernel
theorem dX5_judgeThing_13 : decode cX5_judgeThing 13 = .ok (.getfield 35, 3) := by decide +kernel
theorem dX5_judgeThing_16 : decode cX5_judgeThing 16 = .ok (.iload_n 1, 1) := by decide +kernel
theorem dX5_judgeThing_17 : decode cX5_judgeThing 17 = .ok (.aload_n 0, 1) := by decide +kernel
theorem dX5_judgeThing_18 : decode cX5_judgeThing 18 = .ok (.getfield 21, 3) := by decide +kernel
theorem dX5_judgeThing_21 : decode cX5_judgeThing 21 = .ok (.aload_n 0, 1) := by decide +kernel
theorem dX5_judgeThing_22 : decode cX5_judgeThing 22 = .ok (.getfield 62, 3) := by decide +kernel
theorem dX5_judgeThing_25 : decode cX5_judgeThing 25 = .ok (.invokevirtual 99, 3) := by decide +kernel
theorem dX5_judgeThing_28 : decode cX5_judgeThing 28 = .ok (.aload_n 0, 1) := by decide +kernel
theorem dX5_judgeThing_29 : decode cX5_judgeThing 29 = .ok (.getfield 42, 3) := by decide +kernel
theorem dX5_judgeThing_32 : decode cX5_judgeThing 32 = .ok (.iload_n 1, 1) := by decide +kernel
theorem dX5_judgeThing_33 : decode cX5_judgeThing 33 = .ok (.invokevirtual 103, 3) := by decide +kernel
theorem dX5_judgeThing_36 : decode cX5_judgeThing 36 = .ok (.iload_n 1, 1) := by decide +kernel
theorem dX5_judgeThing_37 : decode cX5_judgeThing 37 = .ok (.ifCond .ne 36, 3) := by decide +kernel
theorem dX5_judgeThing_40 : decode cX5_judgeThing 40 = .ok (.aload_n 0, 1) := by decide +kernel
theorem dX5_judgeThing_41 : decode cX5_judgeThing 41 = .ok (.getfield 21, 3) := by decide +kernel
theorem dX5_judgeThing_44 : decode cX5_judgeThing 44 = .ok (.getfield 106, 3) := by decide +kernel
theorem dX5_judgeThing_47 : decode cX5_judgeThing 47 = .ok (.ifCond .eq 26, 3) := by decide +kernel
theorem dX5_judgeThing_50 : decode cX5_judgeThing 50 = .ok (.aload_n 0, 1) := by decide +kernel
theorem dX5_judgeThing_51 : decode cX5_judgeThing 51 = .ok (.getfield 28, 3) := by decide +kernel
theorem dX5_judgeThing_54 : decode cX5_judgeThing 54 = .ok (.getfield 92, 3) := by decide +kernel
theorem dX5_judgeThing_57 : decode cX5_judgeThing 57 = .ok (.ifCond .le 16, 3) := by decide +kernel
theorem dX5_judgeThing_60 : decode cX5_judgeThing 60 = .ok (.aload_n 0, 1) := by decide +kernel
theorem dX5_judgeThing_61 : decode cX5_judgeThing 61 = .ok (.getfield 28, 3) := by decide +kernel
theorem dX5_judgeThing_64 : decode cX5_judgeThing 64 = .ok (.dup, 1) := by decide +kernel
theorem dX5_judgeThing_65 : decode cX5_judgeThing 65 = .ok (.getfield 92, 3) := by decide +kernel
theorem dX5_judgeThing_68 : decode cX5_judgeThing 68 = .ok (.iconst 1, 1) := by decide +kernel
theorem dX5_judgeThing_69 : decode cX5_judgeThing 69 = .ok (.isub, 1) := by decide +kernel
theorem dX5_judgeThing_70 : decode cX5_judgeThing 70 = .ok (.putfield 92, 3) := by decide +kernel
theorem dX5_judgeThing_73 : decode cX5_judgeThing 73 = .ok (.aload_n 0, 1) := by decide +kernel
theorem dX5_judgeThing_74 : decode cX5_judgeThing 74 = .ok (.getfield 21, 3) := by decide +kernel
theorem dX5_judgeThing_77 : decode cX5_judgeThing 77 = .ok (.iconst 0, 1) := by decide +kernel
theorem dX5_judgeThing_78 : decode cX5_judgeThing 78 = .ok (.putfield 110, 3) := by decide +kernel
theorem dX5_judgeThing_81 : decode cX5_judgeThing 81 = .ok (.return_, 1) := by decide +kernel
set_option maxRecDepth 20000 in
theorem ggX5_moveDoor_X4_speedFor : GoodIn wsX5_moveDoor wsX4_speedFor := goodIn_r _ [8, 9, 10, 11, 12, 13, 76, 77, 78] (by decide +kernel) (by decide +kernel)
set_option maxRecDepth 20000 in
theorem gX5_moveDoor_X4_speedFor : GoodIn wsX5_moveDoor (wsV RX5 116 RX4 yX4_speedFor wsX4_speedFor) := goodIn_app (goodIn_of _ (by decide +kernel)) ggX5_moveDoor_X4_speedFor
set_option maxRecDepth 20000 in
theorem ggX5_moveDoor_X1_openFurther : GoodIn wsX5_moveDoor wsX1_openFurther := goodIn_r _ [18, 19, 20, 21, 22, 70, 71, 72, 73, 74, 75] (by decide +kernel) (by decide +kernel)
set_option maxRecDepth 20000 in
theorem gX5_moveDoor_X1_openFurther : GoodIn wsX5_moveDoor (wsV RX5 120 RX1 yX1_openFurther wsX1_openFurther) := goodIn_app (goodIn_of _ (by decide +kernel)) ggX5_moveDoor_X1_openFurther
set_option maxRecDepth 20000 in
theorem ggX5_moveDoor_X4_numberOf : GoodIn wsX5_moveDoor wsX4_numberOf := goodIn_r _ [26, 27, 76, 77, 78] (by decide +kernel) (by decide +kernel)
set_option maxRecDepth 20000 in
theorem gX5_moveDoor_X4_numberOf : GoodIn wsX5_moveDoor (wsV RX5 77 RX4 yX4_numberOf wsX4_numberOf) := goodIn_app (goodIn_of _ (by decide +kernel)) ggX5_moveDoor_X4_numberOf
set_option maxRecDepth 20000 in
theorem ggX5_moveDoor_X1_waitOpen : GoodIn wsX5_moveDoor wsX1_waitOpen := goodIn_r _ [31, 22, 32, 21, 33, 70, 71, 72, 73, 74, 75] (by decide +kernel) (by decide +kernel)
set_option maxRecDepth 20000 in
theorem gX5_moveDoor_X1_waitOpen : GoodIn wsX5_moveDoor (wsV RX5 124 RX1 yX1_waitOpen wsX1_waitOpen) := goodIn_app (goodIn_of _ (by decide +kernel)) ggX5_moveDoor_X1_waitOpen
set_option maxRecDepth 20000 in
theorem ggX5_moveDoor_X5_closeOrStand : GoodIn wsX5_moveDoor wsX5_closeOrStand := goodIn_r _ [38, 1, 3, 39, 40, 41, 42, 43, 37, 44, 45, 23, 24, 25, 7, 26, 27, 4, 5, 6, 8, 9, 10, 11, 12, 13, 46, 47, 48, 17, 49, 33, 19, 21, 50, 51, 52, 53, 54, 55, 56, 57, 58, 2, 59, 60, 61, 62, 63, 64, 65, 66, 67, 68, 69, 79, 80, 81, 82, 83, 84, 85, 86, 70, 71, 72, 73, 74, 75, 76, 77, 78, 87, 88, 89, 90, 91, 92, 93, 94] (by decide +kernel) (by decide +kernel)
set_option maxRecDepth 20000 in
theorem gX5_moveDoor_X5_closeOrStand : GoodIn wsX5_moveDoor (wsV RX5 128 RX5 yX5_closeOrStand wsX5_closeOrStand) := goodIn_app (goodIn_of _ (by decide +kernel)) ggX5_moveDoor_X5_closeOrStand
theorem dX5_moveDoor_0 : decode cX5_moveDoor 0 = .ok (.aload_n 0, 1) := by decide +kernel
theorem dX5_moveDoor_1 : decode cX5_moveDoor 1 = .ok (.getfield 28, 3) := by decide +kernel
theorem dX5_moveDoor_4 : decode cX5_moveDoor 4 = .ok (.getfield 113, 3) := by decide +kernel
theorem dX5_moveDoor_7 : decode cX5_moveDoor 7 = .ok (.tableswitch 70 1 3 #[25, 43, 62], 25) := by decide +kernel
theorem dX5_moveDoor_32 : decode cX5_moveDoor 32 = .ok (.aload_n 0, 1) := by decide +kernel
theorem dX5_moveDoor_33 : decode cX5_moveDoor 33 = .ok (.getfield 28, 3) := by decide +kernel
theorem dX5_moveDoor_36 : decode cX5_moveDoor 36 = .ok (.aload_n 0, 1) := by decide +kernel
theorem dX5_moveDoor_37 : decode cX5_moveDoor 37 = .ok (.getfield 12, 3) := by decide +kernel
theorem dX5_moveDoor_40 : decode cX5_moveDoor 40 = .ok (.iconst 0, 1) := by decide +kernel
theorem dX5_moveDoor_41 : decode cX5_moveDoor 41 = .ok (.invokevirtual 116, 3) := by decide +kernel
theorem dX5_moveDoor_44 : decode cX5_moveDoor 44 = .ok (.invokevirtual 120, 3) := by decide +kernel
theorem dX5_moveDoor_47 : decode cX5_moveDoor 47 = .ok (.goto 30, 3) := by decide +kernel
theorem dX5_moveDoor_50 : decode cX5_moveDoor 50 = .ok (.aload_n 0, 1) := by decide +kernel
theorem dX5_moveDoor_51 : decode cX5_moveDoor 51 = .ok (.getfield 28, 3) := by decide +kernel
theorem dX5_moveDoor_54 : decode cX5_moveDoor 54 = .ok (.iload_n 1, 1) := by decide +kernel
theorem dX5_moveDoor_55 : decode cX5_moveDoor 55 = .ok (.aload_n 0, 1) := by decide +kernel
theorem dX5_moveDoor_56 : decode cX5_moveDoor 56 = .ok (.getfield 12, 3) := by decide +kernel
theorem dX5_moveDoor_59 : decode cX5_moveDoor 59 = .ok (.iconst 0, 1) := by decide +kernel
theorem dX5_moveDoor_60 : decode cX5_moveDoor 60 = .ok (.invokevirtual 77, 3) := by decide +kernel
theorem dX5_moveDoor_63 : decode cX5_moveDoor 63 = .ok (.invokevirtual 124, 3) := by decide +kernel
theorem dX5_moveDoor_66 : decode cX5_moveDoor 66 = .ok (.goto 11, 3) := by decide +kernel
theorem dX5_moveDoor_69 : decode cX5_moveDoor 69 = .ok (.aload_n 0, 1) := by decide +kernel
theorem dX5_moveDoor_70 : decode cX5_moveDoor 70 = .ok (.iload_n 1, 1) := by decide +kernel
theorem dX5_moveDoor_71 : decode cX5_moveDoor 71 = .ok (.invokevirtual 128, 3) := by decide +kernel
theorem dX5_moveDoor_74 : decode cX5_moveDoor 74 = .ok (.goto 3, 3) := by decide +kernel
theorem dX5_moveDoor_77 : decode cX5_moveDoor 77 = .ok (.return_, 1) := by decide +kernel
set_option maxRecDepth 20000 in
theorem ggX5_closeOrStand_X5_speedOfClosing : GoodIn wsX5_closeOrStand wsX5_speedOfClosing := goodIn_r _ [9, 1, 10, 2, 11, 12, 13, 14, 15, 16, 49, 50, 51, 52, 53, 54, 63, 64, 65, 66, 67, 68, 69, 70, 71] (by decide +kernel) (by decide +kernel)
set_option maxRecDepth 20000 in
theorem gX5_closeOrStand_X5_speedOfClosing : GoodIn wsX5_closeOrStand (wsV RX5 131 RX5 yX5_speedOfClosing wsX5_speedOfClosing) := goodIn_app (goodIn_of _ (by decide +kernel)) ggX5_closeOrStand_X5_speedOfClosing
set_option maxRecDepth 20000 in
theorem ggX5_closeOrStand_X4_speedFor : GoodIn wsX5_closeOrStand wsX4_speedFor := goodIn_r _ [20, 21, 22, 23, 24, 25, 69, 70, 71] (by decide +kernel) (by decide +kernel)
set_option maxRecDepth 20000 in
theorem gX5_closeOrStand_X4_speedFor : GoodIn wsX5_closeOrStand (wsV RX5 116 RX4 yX4_speedFor wsX4_speedFor) := goodIn_app (goodIn_of _ (by decide +kernel)) ggX5_closeOrStand_X4_speedFor
set_option maxRecDepth 20000 in
theorem ggX5_closeOrStand_X1_closeFurther : GoodIn wsX5_closeOrStand wsX1_closeFurther := goodIn_r _ [30, 31, 32, 33, 34, 63, 64, 65, 66, 67, 68] (by decide +kernel) (by decide +kernel)
set_option maxRecDepth 20000 in
theorem gX5_closeOrStand_X1_closeFurther : GoodIn wsX5_closeOrStand (wsV RX5 135 RX1 yX1_closeFurther wsX1_closeFurther) := goodIn_app (goodIn_of _ (by decide +kernel)) ggX5_closeOrStand_X1_closeFurther
set_option maxRecDepth 20000 in
theorem ggX5_closeOrStand_X4_numberOf : GoodIn wsX5_closeOrStand wsX4_numberOf := goodIn_r _ [15, 16, 69, 70, 71] (by decide +kernel) (by decide +kernel)
set_option maxRecDepth 20000 in
theorem gX5_closeOrStand_X4_numberOf : GoodIn wsX5_closeOrStand (wsV RX5 77 RX4 yX4_numberOf wsX4_numberOf) := goodIn_app (goodIn_of _ (by decide +kernel)) ggX5_closeOrStand_X4_numberOf
set_option maxRecDepth 20000 in
theorem ggX5_closeOrStand_X1_standsTooLong : GoodIn wsX5_closeOrStand wsX1_standsTooLong := goodIn_r _ [38, 31, 63, 64, 65, 66, 67, 68] (by decide +kernel) (by decide +kernel)
set_option maxRecDepth 20000 in
theorem gX5_closeOrStand_X1_standsTooLong : GoodIn wsX5_closeOrStand (wsV RX5 142 RX1 yX1_standsTooLong wsX1_standsTooLong) := goodIn_app (goodIn_of _ (by decide +kernel)) ggX5_closeOrStand_X1_standsTooLong
set_option maxRecDepth 20000 in
theorem ggX5_closeOrStand_X5_openAgain : GoodIn wsX5_closeOrStand wsX5_openAgain := goodIn_r _ [42, 1, 43, 10, 3, 44, 45, 46, 2, 47, 48, 11, 12, 13, 14, 15, 16, 49, 50, 51, 52, 53, 54, 63, 64, 65, 66, 67, 68, 55, 56, 57, 58, 59, 60, 61, 62, 72, 73, 74, 75, 76, 77, 78, 79, 69, 70, 71] (by decide +kernel) (by decide +kernel)
set_option maxRecDepth 20000 in
theorem gX5_closeOrStand_X5_openAgain : GoodIn wsX5_closeOrStand (wsV RX5 145 RX5 yX5_openAgain wsX5_openAgain) := goodIn_app (goodIn_of _ (by decide +kernel)) ggX5_closeOrStand_X5_openAgain
theorem dX5_closeOrStand_0 : decode cX5_closeOrStand 0 = .ok (.iload_n 1, 1) := by decide +kernel
theorem dX5_closeOrStand_1 : decode cX5_closeOrStand 1 = .ok (.ifCond .ne 40, 3) := by decide +kernel
theorem dX5_closeOrStand_4 : decode cX5_closeOrStand 4 = .ok (.aload_n 0, 1) := by decide +kernel
theorem dX5_closeOrStand_5 : decode cX5_closeOrStand 5 = .ok (.getfield 28, 3) := by decide +kernel
theorem dX5_closeOrStand_8 : decode cX5_closeOrStand 8 = .ok (.aload_n 0, 1) := by decide +kernel
theorem dX5_closeOrStand_9 : decode cX5_closeOrStand 9 = .ok (.getfield 12, 3) := by decide +kernel
theorem dX5_closeOrStand_12 : decode cX5_closeOrStand 12 = .ok (.aload_n 0, 1) := by decide +kernel
theorem dX5_closeOrStand_13 : decode cX5_closeOrStand 13 = .ok (.invokevirtual 131, 3) := by decide +kernel
theorem dX5_closeOrStand_16 : decode cX5_closeOrStand 16 = .ok (.invokevirtual 116, 3) := by decide +kernel
theorem dX5_closeOrStand_19 : decode cX5_closeOrStand 19 = .ok (.invokevirtual 135, 3) := by decide +kernel
theorem dX5_closeOrStand_22 : decode cX5_closeOrStand 22 = .ok (.ifCond .eq 41, 3) := by decide +kernel
theorem dX5_closeOrStand_25 : decode cX5_closeOrStand 25 = .ok (.aload_n 0, 1) := by decide +kernel
theorem dX5_closeOrStand_26 : decode cX5_closeOrStand 26 = .ok (.getfield 42, 3) := by decide +kernel
theorem dX5_closeOrStand_29 : decode cX5_closeOrStand 29 = .ok (.dup, 1) := by decide +kernel
theorem dX5_closeOrStand_30 : decode cX5_closeOrStand 30 = .ok (.getfield 139, 3) := by decide +kernel
theorem dX5_closeOrStand_33 : decode cX5_closeOrStand 33 = .ok (.iconst 1, 1) := by decide +kernel
theorem dX5_closeOrStand_34 : decode cX5_closeOrStand 34 = .ok (.iadd, 1) := by decide +kernel
theorem dX5_closeOrStand_35 : decode cX5_closeOrStand 35 = .ok (.putfield 139, 3) := by decide +kernel
theorem dX5_closeOrStand_38 : decode cX5_closeOrStand 38 = .ok (.goto 25, 3) := by decide +kernel
theorem dX5_closeOrStand_41 : decode cX5_closeOrStand 41 = .ok (.aload_n 0, 1) := by decide +kernel
theorem dX5_closeOrStand_42 : decode cX5_closeOrStand 42 = .ok (.getfield 28, 3) := by decide +kernel
theorem dX5_closeOrStand_45 : decode cX5_closeOrStand 45 = .ok (.aload_n 0, 1) := by decide +kernel
theorem dX5_closeOrStand_46 : decode cX5_closeOrStand 46 = .ok (.getfield 12, 3) := by decide +kernel
theorem dX5_closeOrStand_49 : decode cX5_closeOrStand 49 = .ok (.iconst 1, 1) := by decide +kernel
theorem dX5_closeOrStand_50 : decode cX5_closeOrStand 50 = .ok (.invokevirtual 77, 3) := by decide +kernel
theorem dX5_closeOrStand_53 : decode cX5_closeOrStand 53 = .ok (.invokevirtual 142, 3) := by decide +kernel
theorem dX5_closeOrStand_56 : decode cX5_closeOrStand 56 = .ok (.ifCond .eq 7, 3) := by decide +kernel
theorem dX5_closeOrStand_59 : decode cX5_closeOrStand 59 = .ok (.aload_n 0, 1) := by decide +kernel
theorem dX5_closeOrStand_60 : decode cX5_closeOrStand 60 = .ok (.invokevirtual 145, 3) := by decide +kernel
theorem dX5_closeOrStand_63 : decode cX5_closeOrStand 63 = .ok (.return_, 1) := by decide +kernel
set_option maxRecDepth 20000 in
theorem ggX5_openAgain_X4_numberOf : GoodIn wsX5_openAgain wsX4_numberOf := goodIn_r _ [15, 16, 45, 46, 47] (by decide +kernel) (by decide +kernel)
set_option maxRecDepth 20000 in
theorem gX5_openAgain_X4_numberOf : GoodIn wsX5_openAgain (wsV RX5 77 RX4 yX4_numberOf wsX4_numberOf) := goodIn_app (goodIn_of _ (by decide +kernel)) ggX5_openAgain_X4_numberOf
theorem dX5_openAgain_0 : decode cX5_openAgain 0 = .ok (.aload_n 0, 1) := by decide +kernel
theorem dX5_openAgain_1 : decode cX5_openAgain 1 = .ok (.getfield 28, 3) := by decide +kernel
theorem dX5_openAgain_4 : decode cX5_openAgain 4 = .ok (.iconst 1, 1) := by decide +kernel
theorem dX5_openAgain_5 : decode cX5_openAgain 5 = .ok (.putfield 113, 3) := by decide +kernel
theorem dX5_openAgain_8 : decode cX5_openAgain 8 = .ok (.aload_n 0, 1) := by decide +kernel
theorem dX5_openAgain_9 : decode cX5_openAgain 9 = .ok (.getfield 28, 3) := by decide +kernel
theorem dX5_openAgain_12 : decode cX5_openAgain 12 = .ok (.dup, 1) := by decide +kernel
theorem dX5_openAgain_13 : decode cX5_openAgain 13 = .ok (.getfield 92, 3) := by decide +kernel
theorem dX5_openAgain_16 : decode cX5_openAgain 16 = .ok (.iconst 1, 1) := by decide +kernel
theorem dX5_openAgain_17 : decode cX5_openAgain 17 = .ok (.iadd, 1) := by decide +kernel
theorem dX5_openAgain_18 : decode cX5_openAgain 18 = .ok (.putfield 92, 3) := by decide +kernel
theorem dX5_openAgain_21 : decode cX5_openAgain 21 = .ok (.aload_n 0, 1) := by decide +kernel
theorem dX5_openAgain_22 : decode cX5_openAgain 22 = .ok (.getfield 42, 3) := by decide +kernel
theorem dX5_openAgain_25 : decode cX5_openAgain 25 = .ok (.dup, 1) := by decide +kernel
theorem dX5_openAgain_26 : decode cX5_openAgain 26 = .ok (.getfield 148, 3) := by decide +kernel
theorem dX5_openAgain_29 : decode cX5_openAgain 29 = .ok (.iconst 1, 1) := by decide +kernel
theorem dX5_openAgain_30 : decode cX5_openAgain 30 = .ok (.iadd, 1) := by decide +kernel
theorem dX5_openAgain_31 : decode cX5_openAgain 31 = .ok (.putfield 148, 3) := by decide +kernel
theorem dX5_openAgain_34 : decode cX5_openAgain 34 = .ok (.aload_n 0, 1) := by decide +kernel
theorem dX5_openAgain_35 : decode cX5_openAgain 35 = .ok (.getfield 21, 3) := by decide +kernel
theorem dX5_openAgain_38 : decode cX5_openAgain 38 = .ok (.iconst 1, 1) := by decide +kernel
theorem dX5_openAgain_39 : decode cX5_openAgain 39 = .ok (.putfield 106, 3) := by decide +kernel
theorem dX5_openAgain_42 : decode cX5_openAgain 42 = .ok (.aload_n 0, 1) := by decide +kernel
theorem dX5_openAgain_43 : decode cX5_openAgain 43 = .ok (.getfield 28, 3) := by decide +kernel
theorem dX5_openAgain_46 : decode cX5_openAgain 46 = .ok (.getfield 92, 3) := by decide +kernel
theorem dX5_openAgain_49 : decode cX5_openAgain 49 = .ok (.aload_n 0, 1) := by decide +kernel
theorem dX5_openAgain_50 : decode cX5_openAgain 50 = .ok (.getfield 12, 3) := by decide +kernel
theorem dX5_openAgain_53 : decode cX5_openAgain 53 = .ok (.iconst 2, 1) := by decide +kernel
theorem dX5_openAgain_54 : decode cX5_openAgain 54 = .ok (.invokevirtual 77, 3) := by decide +kernel
theorem dX5_openAgain_57 : decode cX5_openAgain 57 = .ok (.aload_n 0, 1) := by decide +kernel
theorem dX5_openAgain_58 : decode cX5_openAgain 58 = .ok (.getfield 12, 3) := by decide +kernel
theorem dX5_openAgain_61 : decode cX5_openAgain 61 = .ok (.iconst 3, 1) := by decide +kernel
theorem dX5_openAgain_62 : decode cX5_openAgain 62 = .ok (.invokevirtual 77, 3) := by decide +kernel
theorem dX5_openAgain_65 : decode cX5_openAgain 65 = .ok (.iadd, 1) := by decide +kernel
theorem dX5_openAgain_66 : decode cX5_openAgain 66 = .ok (.if_icmp .le 24, 3) := by decide +kernel
theorem dX5_openAgain_69 : decode cX5_openAgain 69 = .ok (.aload_n 0, 1) := by decide +kernel
theorem dX5_openAgain_70 : decode cX5_openAgain 70 = .ok (.getfield 28, 3) := by decide +kernel
theorem dX5_openAgain_73 : decode cX5_openAgain 73 = .ok (.iconst 1, 1) := by decide +kernel
theorem dX5_openAgain_74 : decode cX5_openAgain 74 = .ok (.putfield 151, 3) := by decide +kernel
theorem dX5_openAgain_77 : decode cX5_openAgain 77 = .ok (.aload_n 0, 1) := by decide +kernel
theorem dX5_openAgain_78 : decode cX5_openAgain 78 = .ok (.getfield 42, 3) := by decide +kernel
theorem dX5_openAgain_81 : decode cX5_openAgain 81 = .ok (.dup, 1) := by decide +kernel
theorem dX5_openAgain_82 : decode cX5_openAgain 82 = .ok (.getfield 154, 3) := by decide +kernel
theorem dX5_openAgain_85 : decode cX5_openAgain 85 = .ok (.iconst 1, 1) := by decide +kernel
theorem dX5_openAgain_86 : decode cX5_openAgain 86 = .ok (.iadd, 1) := by decide +kernel
theorem dX5_openAgain_87 : decode cX5_openAgain 87 = .ok (.putfield 154, 3) := by decide +kernel
theorem dX5_openAgain_90 : decode cX5_openAgain 90 = .ok (.return_, 1) := by decide +kernel
theorem dX6_init_0 : decode cX6_init 0 = .ok (.aload_n 0, 1) := by decide +kernel
theorem dX6_init_1 : decode cX6_init 1 = .ok (.invokespecial 3, 3) := by decide +kernel
theorem dX6_init_4 : decode cX6_init 4 = .ok (.return_, 1) := by decide +kernel
theorem dX6_copyFrom_0 : decode cX6_copyFrom 0 = .ok (.aload_n 0, 1) := by decide +kernel
theorem dX6_copyFrom_1 : decode cX6_copyFrom 1 = .ok (.aload_n 1, 1) := by decide +kernel
theorem dX6_copyFrom_2 : decode cX6_copyFrom 2 = .ok (.getfield 9, 3) := by decide +kernel
theorem dX6_copyFrom_5 : decode cX6_copyFrom 5 = .ok (.putfield 9, 3) := by decide +kernel
theorem dX6_copyFrom_8 : decode cX6_copyFrom 8 = .ok (.aload_n 0, 1) := by decide +kernel
theorem dX6_copyFrom_9 : decode cX6_copyFrom 9 = .ok (.aload_n 1, 1) := by decide +kernel
theorem dX6_copyFrom_10 : decode cX6_copyFrom 10 = .ok (.getfield 15, 3) := by decide +kernel
theorem dX6_copyFrom_13 : decode cX6_copyFrom 13 = .ok (.putfield 15, 3) := by decide +kernel
theorem dX6_copyFrom_16 : decode cX6_copyFrom 16 = .ok (.aload_n 0, 1) := by decide +kernel
theorem dX6_copyFrom_17 : decode cX6_copyFrom 17 = .ok (.aload_n 1, 1) := by decide +kernel
theorem dX6_copyFrom_18 : decode cX6_copyFrom 18 = .ok (.getfield 18, 3) := by decide +kernel
theorem dX6_copyFrom_21 : decode cX6_copyFrom 21 = .ok (.putfield 18, 3) := by decide +kernel
theorem dX6_copyFrom_24 : decode cX6_copyFrom 24 = .ok (.aload_n 0, 1) := by decide +kernel
theorem dX6_copyFrom_25 : decode cX6_copyFrom 25 = .ok (.aload_n 1, 1) := by decide +kernel
theorem dX6_copyFrom_26 : decode cX6_copyFrom 26 = .ok (.getfield 21, 3) := by decide +kernel
theorem dX6_copyFrom_29 : decode cX6_copyFrom 29 = .ok (.putfield 21, 3) := by decide +kernel
theorem dX6_copyFrom_32 : decode cX6_copyFrom 32 = .ok (.aload_n 0, 1) := by decide +kernel
theorem dX6_copyFrom_33 : decode cX6_copyFrom 33 = .ok (.aload_n 1, 1) := by decide +kernel
theorem dX6_copyFrom_34 : decode cX6_copyFrom 34 = .ok (.getfield 24, 3) := by decide +kernel
theorem dX6_copyFrom_37 : decode cX6_copyFrom 37 = .ok (.putfield 24, 3) := by decide +kernel
theorem dX6_copyFrom_40 : decode cX6_copyFrom 40 = .ok (.aload_n 0, 1) := by decide +kernel
theorem dX6_copyFrom_41 : decode cX6_copyFrom 41 = .ok (.aload_n 1, 1) := by decide +kernel
theorem dX6_copyFrom_42 : decode cX6_copyFrom 42 = .ok (.getfield 27, 3) := by decide +kernel
theorem dX6_copyFrom_45 : decode cX6_copyFrom 45 = .ok (.putfield 27, 3) := by decide +kernel
theorem dX6_copyFrom_48 : decode cX6_copyFrom 48 = .ok (.aload_n 0, 1) := by decide +kernel
theorem dX6_copyFrom_49 : decode cX6_copyFrom 49 = .ok (.aload_n 1, 1) := by decide +kernel
theorem dX6_copyFrom_50 : decode cX6_copyFrom 50 = .ok (.getfield 30, 3) := by decide +kernel
theorem dX6_copyFrom_53 : decode cX6_copyFrom 53 = .ok (.putfield 30, 3) := by decide +kernel
theorem dX6_copyFrom_56 : decode cX6_copyFrom 56 = .ok (.aload_n 0, 1) := by decide +kernel
theorem dX6_copyFrom_57 : decode cX6_copyFrom 57 = .ok (.aload_n 1, 1) := by decide +kernel
theorem dX6_copyFrom_58 : decode cX6_copyFrom 58 = .ok (.getfield 33, 3) := by decide +kernel
theorem dX6_copyFrom_61 : decode cX6_copyFrom 61 = .ok (.putfield 33, 3) := by decide +kernel
theorem dX6_copyFrom_64 : decode cX6_copyFrom 64 = .ok (.return_, 1) := by decide +kernel
theorem dX6_addJudged_0 : decode cX6_addJudged 0 = .ok (.iload_n 1, 1) := by decide +kernel
theorem dX6_addJudged_1 : decode cX6_addJudged 1 = .ok (.tableswitch 83 0 3 #[31, 44, 57, 70], 31) := by decide +kernel
theorem dX6_addJudged_32 : decode cX6_addJudged 32 = .ok (.aload_n 0, 1) := by decide +kernel
theorem dX6_addJudged_33 : decode cX6_addJudged 33 = .ok (.dup, 1) := by decide +kernel
theorem dX6_addJudged_34 : decode cX6_addJudged 34 = .ok (.getfield 9, 3) := by decide +kernel
theorem dX6_addJudged_37 : decode cX6_addJudged 37 = .ok (.iconst 1, 1) := by decide +kernel
theorem dX6_addJudged_38 : decode cX6_addJudged 38 = .ok (.iadd, 1) := by decide +kernel
theorem dX6_addJudged_39 : decode cX6_addJudged 39 = .ok (.putfield 9, 3) := by decide +kernel
theorem dX6_addJudged_42 : decode cX6_addJudged 42 = .ok (.goto 42, 3) := by decide +kernel
theorem dX6_addJudged_45 : decode cX6_addJudged 45 = .ok (.aload_n 0, 1) := by decide +kernel
theorem dX6_addJudged_46 : decode cX6_addJudged 46 = .ok (.dup, 1) := by decide +kernel
theorem dX6_addJudged_47 : decode cX6_addJudged 47 = .ok (.getfield 15, 3) := by decide +kernel
theorem dX6_addJudged_50 : decode cX6_addJudged 50 = .ok (.iconst 1, 1) := by decide +kernel
theorem dX6_addJudged_51 : decode cX6_addJudged 51 = .ok (.iadd, 1) := by decide +kernel
theorem dX6_addJudged_52 : decode cX6_addJudged 52 = .ok (.putfield 15, 3) := by decide +kernel
theorem dX6_addJudged_55 : decode cX6_addJudged 55 = .ok (.goto 29, 3) := by decide +kernel
theorem dX6_addJudged_58 : decode cX6_addJudged 58 = .ok (.aload_n 0, 1) := by decide +kernel
theorem dX6_addJudged_59 : decode cX6_addJudged 59 = .ok (.dup, 1) := by decide +kernel
theorem dX6_addJudged_60 : decode cX6_addJudged 60 = .ok (.getfield 18, 3) := by decide +kernel
theorem dX6_addJudged_63 : decode cX6_addJudged 63 = .ok (.iconst 1, 1) := by decide +kernel
theorem dX6_addJudged_64 : decode cX6_addJudged 64 = .ok (.iadd, 1) := by decide +kernel
theorem dX6_addJudged_65 : decode cX6_addJudged 65 = .ok (.putfield 18, 3) := by decide +kernel
theorem dX6_addJudged_68 : decode cX6_addJudged 68 = .ok (.goto 16, 3) := by decide +kernel
theorem dX6_addJudged_71 : decode cX6_addJudged 71 = .ok (.aload_n 0, 1) := by decide +kernel
theorem dX6_addJudged_72 : decode cX6_addJudged 72 = .ok (.dup, 1) := by decide +kernel
theorem dX6_addJudged_73 : decode cX6_addJudged 73 = .ok (.getfield 21, 3) := by decide +kernel
theorem dX6_addJudged_76 : decode cX6_addJudged 76 = .ok (.iconst 1, 1) := by decide +kernel
theorem dX6_addJudged_77 : decode cX6_addJudged 77 = .ok (.iadd, 1) := by decide +kernel
theorem dX6_addJudged_78 : decode cX6_addJudged 78 = .ok (.putfield 21, 3) := by decide +kernel
theorem dX6_addJudged_81 : decode cX6_addJudged 81 = .ok (.goto 3, 3) := by decide +kernel
theorem dX6_addJudged_84 : decode cX6_addJudged 84 = .ok (.return_, 1) := by decide +kernel
theorem dX7_init_0 : decode cX7_init 0 = .ok (.aload_n 0, 1) := by decide +kernel
theorem dX7_init_1 : decode cX7_init 1 = .ok (.invokespecial 3, 3) := by decide +kernel
theorem dX7_init_4 : decode cX7_init 4 = .ok (.return_, 1) := by decide +kernel
theorem dX7_copyFrom_0 : decode cX7_copyFrom 0 = .ok (.aload_n 0, 1) := by decide +kernel
theorem dX7_copyFrom_1 : decode cX7_copyFrom 1 = .ok (.aload_n 1, 1) := by decide +kernel
theorem dX7_copyFrom_2 : decode cX7_copyFrom 2 = .ok (.getfield 9, 3) := by decide +kernel
theorem dX7_copyFrom_5 : decode cX7_copyFrom 5 = .ok (.putfield 9, 3) := by decide +kernel
theorem dX7_copyFrom_8 : decode cX7_copyFrom 8 = .ok (.aload_n 0, 1) := by decide +kernel
theorem dX7_copyFrom_9 : decode cX7_copyFrom 9 = .ok (.aload_n 1, 1) := by decide +kernel
theorem dX7_copyFrom_10 : decode cX7_copyFrom 10 = .ok (.getfield 15, 3) := by decide +kernel
theorem dX7_copyFrom_13 : decode cX7_copyFrom 13 = .ok (.putfield 15, 3) := by decide +kernel
theorem dX7_copyFrom_16 : decode cX7_copyFrom 16 = .ok (.aload_n 0, 1) := by decide +kernel
theorem dX7_copyFrom_17 : decode cX7_copyFrom 17 = .ok (.aload_n 1, 1) := by decide +kernel
theorem dX7_copyFrom_18 : decode cX7_copyFrom 18 = .ok (.getfield 19, 3) := by decide +kernel
theorem dX7_copyFrom_21 : decode cX7_copyFrom 21 = .ok (.putfield 19, 3) := by decide +kernel
theorem dX7_copyFrom_24 : decode cX7_copyFrom 24 = .ok (.aload_n 0, 1) := by decide +kernel
theorem dX7_copyFrom_25 : decode cX7_copyFrom 25 = .ok (.aload_n 1, 1) := by decide +kernel
theorem dX7_copyFrom_26 : decode cX7_copyFrom 26 = .ok (.getfield 22, 3) := by decide +kernel
theorem dX7_copyFrom_29 : decode cX7_copyFrom 29 = .ok (.putfield 22, 3) := by decide +kernel
theorem dX7_copyFrom_32 : decode cX7_copyFrom 32 = .ok (.aload_n 0, 1) := by decide +kernel
theorem dX7_copyFrom_33 : decode cX7_copyFrom 33 = .ok (.aload_n 1, 1) := by decide +kernel
theorem dX7_copyFrom_34 : decode cX7_copyFrom 34 = .ok (.getfield 25, 3) := by decide +kernel
theorem dX7_copyFrom_37 : decode cX7_copyFrom 37 = .ok (.putfield 25, 3) := by decide +kernel
theorem dX7_copyFrom_40 : decode cX7_copyFrom 40 = .ok (.aload_n 0, 1) := by decide +kernel
theorem dX7_copyFrom_41 : decode cX7_copyFrom 41 = .ok (.aload_n 1, 1) := by decide +kernel
theorem dX7_copyFrom_42 : decode cX7_copyFrom 42 = .ok (.getfield 28, 3) := by decide +kernel
theorem dX7_copyFrom_45 : decode cX7_copyFrom 45 = .ok (.putfield 28, 3) := by decide +kernel
theorem dX7_copyFrom_48 : decode cX7_copyFrom 48 = .ok (.aload_n 0, 1) := by decide +kernel
theorem dX7_copyFrom_49 : decode cX7_copyFrom 49 = .ok (.aload_n 1, 1) := by decide +kernel
theorem dX7_copyFrom_50 : decode cX7_copyFrom 50 = .ok (.getfield 31, 3) := by decide +kernel
theorem dX7_copyFrom_53 : decode cX7_copyFrom 53 = .ok (.putfield 31, 3) := by decide +kernel
theorem dX7_copyFrom_56 : decode cX7_copyFrom 56 = .ok (.aload_n 0, 1) := by decide +kernel
theorem dX7_copyFrom_57 : decode cX7_copyFrom 57 = .ok (.aload_n 1, 1) := by decide +kernel
theorem dX7_copyFrom_58 : decode cX7_copyFrom 58 = .ok (.getfield 34, 3) := by decide +kernel
theorem dX7_copyFrom_61 : decode cX7_copyFrom 61 = .ok (.putfield 34, 3) := by decide +kernel
theorem dX7_copyFrom_64 : decode cX7_copyFrom 64 = .ok (.return_, 1) := by decide +kernel
set_option maxRecDepth 20000 in
theorem ggX7_breakBeams_X7_begin : GoodIn wsX7_breakBeams wsX7_begin := goodIn_r _ [11, 1, 12, 2, 3, 4, 5, 13, 14, 15, 16, 17, 18, 19, 20, 21] (by decide +kernel) (by decide +kernel)
set_option maxRecDepth 20000 in
theorem gX7_breakBeams_X7_begin : GoodIn wsX7_breakBeams (wsV RX7 37 RX7 yX7_begin wsX7_begin) := goodIn_app (goodIn_of _ (by decide +kernel)) ggX7_breakBeams_X7_begin
theorem dX7_breakBeams_0 : decode cX7_breakBeams 0 = .ok (.aload_n 0, 1) := by decide +kernel
theorem dX7_breakBeams_1 : decode cX7_breakBeams 1 = .ok (.getfield 9, 3) := by decide +kernel
theorem dX7_breakBeams_4 : decode cX7_breakBeams 4 = .ok (.ifCond .ne 8, 3) := by decide +kernel
theorem dX7_breakBeams_7 : decode cX7_breakBeams 7 = .ok (.aload_n 0, 1) := by decide +kernel
theorem dX7_breakBeams_8 : decode cX7_breakBeams 8 = .ok (.iload_n 2, 1) := by decide +kernel
theorem dX7_breakBeams_9 : decode cX7_breakBeams 9 = .ok (.invokevirtual 37, 3) := by decide +kernel
theorem dX7_breakBeams_12 : decode cX7_breakBeams 12 = .ok (.aload_n 0, 1) := by decide +kernel
theorem dX7_breakBeams_13 : decode cX7_breakBeams 13 = .ok (.dup, 1) := by decide +kernel
theorem dX7_breakBeams_14 : decode cX7_breakBeams 14 = .ok (.getfield 19, 3) := by decide +kernel
theorem dX7_breakBeams_17 : decode cX7_breakBeams 17 = .ok (.iconst 1, 1) := by decide +kernel
theorem dX7_breakBeams_18 : decode cX7_breakBeams 18 = .ok (.iadd, 1) := by decide +kernel
theorem dX7_breakBeams_19 : decode cX7_breakBeams 19 = .ok (.putfield 19, 3) := by decide +kernel
theorem dX7_breakBeams_22 : decode cX7_breakBeams 22 = .ok (.aload_n 0, 1) := by decide +kernel
theorem dX7_breakBeams_23 : decode cX7_breakBeams 23 = .ok (.dup, 1) := by decide +kernel
theorem dX7_breakBeams_24 : decode cX7_breakBeams 24 = .ok (.getfield 22, 3) := by decide +kernel
theorem dX7_breakBeams_27 : decode cX7_breakBeams 27 = .ok (.iload_n 1, 1) := by decide +kernel
theorem dX7_breakBeams_28 : decode cX7_breakBeams 28 = .ok (.iconst 1, 1) := by decide +kernel
theorem dX7_breakBeams_29 : decode cX7_breakBeams 29 = .ok (.iand, 1) := by decide +kernel
theorem dX7_breakBeams_30 : decode cX7_breakBeams 30 = .ok (.iadd, 1) := by decide +kernel
theorem dX7_breakBeams_31 : decode cX7_breakBeams 31 = .ok (.putfield 22, 3) := by decide +kernel
theorem dX7_breakBeams_34 : decode cX7_breakBeams 34 = .ok (.aload_n 0, 1) := by decide +kernel
theorem dX7_breakBeams_35 : decode cX7_breakBeams 35 = .ok (.dup, 1) := by decide +kernel
theorem dX7_breakBeams_36 : decode cX7_breakBeams 36 = .ok (.getfield 25, 3) := by decide +kernel
theorem dX7_breakBeams_39 : decode cX7_breakBeams 39 = .ok (.iload_n 1, 1) := by decide +kernel
theorem dX7_breakBeams_40 : decode cX7_breakBeams 40 = .ok (.iconst 1, 1) := by decide +kernel
theorem dX7_breakBeams_41 : decode cX7_breakBeams 41 = .ok (.ishr, 1) := by decide +kernel
theorem dX7_breakBeams_42 : decode cX7_breakBeams 42 = .ok (.iconst 1, 1) := by decide +kernel
theorem dX7_breakBeams_43 : decode cX7_breakBeams 43 = .ok (.iand, 1) := by decide +kernel
theorem dX7_breakBeams_44 : decode cX7_breakBeams 44 = .ok (.iadd, 1) := by decide +kernel
theorem dX7_breakBeams_45 : decode cX7_breakBeams 45 = .ok (.putfield 25, 3) := by decide +kernel
theorem dX7_breakBeams_48 : decode cX7_breakBeams 48 = .ok (.aload_n 0, 1) := by decide +kernel
theorem dX7_breakBeams_49 : decode cX7_breakBeams 49 = .ok (.dup, 1) := by decide +kernel
theorem dX7_breakBeams_50 : decode cX7_breakBeams 50 = .ok (.getfield 28, 3) := by decide +kernel
theorem dX7_breakBeams_53 : decode cX7_breakBeams 53 = .ok (.iload_n 1, 1) := by decide +kernel
theorem dX7_breakBeams_54 : decode cX7_breakBeams 54 = .ok (.iconst 2, 1) := by decide +kernel
theorem dX7_breakBeams_55 : decode cX7_breakBeams 55 = .ok (.ishr, 1) := by decide +kernel
theorem dX7_breakBeams_56 : decode cX7_breakBeams 56 = .ok (.iconst 1, 1) := by decide +kernel
theorem dX7_breakBeams_57 : decode cX7_breakBeams 57 = .ok (.iand, 1) := by decide +kernel
theorem dX7_breakBeams_58 : decode cX7_breakBeams 58 = .ok (.iadd, 1) := by decide +kernel
theorem dX7_breakBeams_59 : decode cX7_breakBeams 59 = .ok (.putfield 28, 3) := by decide +kernel
theorem dX7_breakBeams_62 : decode cX7_breakBeams 62 = .ok (.aload_n 0, 1) := by decide +kernel
theorem dX7_breakBeams_63 : decode cX7_breakBeams 63 = .ok (.iconst 0, 1) := by decide +kernel
theorem dX7_breakBeams_64 : decode cX7_breakBeams 64 = .ok (.putfield 31, 3) := by decide +kernel
theorem dX7_breakBeams_67 : decode cX7_breakBeams 67 = .ok (.return_, 1) := by decide +kernel
theorem dX7_endsInClearTick_0 : decode cX7_endsInClearTick 0 = .ok (.aload_n 0, 1) := by decide +kernel
theorem dX7_endsInClearTick_1 : decode cX7_endsInClearTick 1 = .ok (.getfield 9, 3) := by decide +kernel
theorem dX7_endsInClearTick_4 : decode cX7_endsInClearTick 4 = .ok (.ifCond .ne 5, 3) := by decide +kernel
theorem dX7_endsInClearTick_7 : decode cX7_endsInClearTick 7 = .ok (.iconst 0, 1) := by decide +kernel
theorem dX7_endsInClearTick_8 : decode cX7_endsInClearTick 8 = .ok (.ireturn, 1) := by decide +kernel
theorem dX7_endsInClearTick_9 : decode cX7_endsInClearTick 9 = .ok (.aload_n 0, 1) := by decide +kernel
theorem dX7_endsInClearTick_10 : decode cX7_endsInClearTick 10 = .ok (.dup, 1) := by decide +kernel
theorem dX7_endsInClearTick_11 : decode cX7_endsInClearTick 11 = .ok (.getfield 31, 3) := by decide +kernel
theorem dX7_endsInClearTick_14 : decode cX7_endsInClearTick 14 = .ok (.iconst 1, 1) := by decide +kernel
theorem dX7_endsInClearTick_15 : decode cX7_endsInClearTick 15 = .ok (.iadd, 1) := by decide +kernel
theorem dX7_endsInClearTick_16 : decode cX7_endsInClearTick 16 = .ok (.putfield 31, 3) := by decide +kernel
theorem dX7_endsInClearTick_19 : decode cX7_endsInClearTick 19 = .ok (.aload_n 0, 1) := by decide +kernel
theorem dX7_endsInClearTick_20 : decode cX7_endsInClearTick 20 = .ok (.getfield 31, 3) := by decide +kernel
theorem dX7_endsInClearTick_23 : decode cX7_endsInClearTick 23 = .ok (.iload_n 1, 1) := by decide +kernel
theorem dX7_endsInClearTick_24 : decode cX7_endsInClearTick 24 = .ok (.if_icmp .lt 7, 3) := by decide +kernel
theorem dX7_endsInClearTick_27 : decode cX7_endsInClearTick 27 = .ok (.iconst 1, 1) := by decide +kernel
theorem dX7_endsInClearTick_28 : decode cX7_endsInClearTick 28 = .ok (.goto 4, 3) := by decide +kernel
theorem dX7_endsInClearTick_31 : decode cX7_endsInClearTick 31 = .ok (.iconst 0, 1) := by decide +kernel
theorem dX7_endsInClearTick_32 : decode cX7_endsInClearTick 32 = .ok (.ireturn, 1) := by decide +kernel
set_option maxRecDepth 20000 in
theorem ggX7_likeliestKind_X4_weightOf : GoodIn wsX7_likeliestKind wsX4_weightOf := goodIn_r _ [5, 6, 7, 8, 9, 10, 26, 27, 28] (by decide +kernel) (by decide +kernel)
set_option maxRecDepth 20000 in
theorem gX7_likeliestKind_X4_weightOf : GoodIn wsX7_likeliestKind (wsV RX7 41 RX4 yX4_weightOf wsX4_weightOf) := goodIn_app (goodIn_of _ (by decide +kernel)) ggX7_likeliestKind_X4_weightOf
set_option maxRecDepth 20000 in
theorem ggX7_likeliestKind_X7_product : GoodIn wsX7_likeliestKind wsX7_product := goodIn_r _ [15, 16, 17, 18, 14, 19, 20, 21, 22, 23, 24, 25, 29, 30, 31, 32, 33, 34, 35, 36] (by decide +kernel) (by decide +kernel)
set_option maxRecDepth 20000 in
theorem gX7_likeliestKind_X7_product : GoodIn wsX7_likeliestKind (wsV RX7 47 RX7 yX7_product wsX7_product) := goodIn_app (goodIn_of _ (by decide +kernel)) ggX7_likeliestKind_X7_product
theorem dX7_likeliestKind_0 : decode cX7_likeliestKind 0 = .ok (.iconst 0, 1) := by decide +kernel
theorem dX7_likeliestKind_1 : decode cX7_likeliestKind 1 = .ok (.istore_n 2, 1) := by decide +kernel
theorem dX7_likeliestKind_2 : decode cX7_likeliestKind 2 = .ok (.aload_n 0, 1) := by decide +kernel
theorem dX7_likeliestKind_3 : decode cX7_likeliestKind 3 = .ok (.iconst 0, 1) := by decide +kernel
theorem dX7_likeliestKind_4 : decode cX7_likeliestKind 4 = .ok (.aload_n 1, 1) := by decide +kernel
theorem dX7_likeliestKind_5 : decode cX7_likeliestKind 5 = .ok (.iconst 0, 1) := by decide +kernel
theorem dX7_likeliestKind_6 : decode cX7_likeliestKind 6 = .ok (.invokevirtual 41, 3) := by decide +kernel
theorem dX7_likeliestKind_9 : decode cX7_likeliestKind 9 = .ok (.invokevirtual 47, 3) := by decide +kernel
theorem dX7_likeliestKind_12 : decode cX7_likeliestKind 12 = .ok (.fstore_n 3, 1) := by decide +kernel
theorem dX7_likeliestKind_13 : decode cX7_likeliestKind 13 = .ok (.iconst 1, 1) := by decide +kernel
theorem dX7_likeliestKind_14 : decode cX7_likeliestKind 14 = .ok (.istore 4, 2) := by decide +kernel
theorem dX7_likeliestKind_16 : decode cX7_likeliestKind 16 = .ok (.iload 4, 2) := by decide +kernel
theorem dX7_likeliestKind_18 : decode cX7_likeliestKind 18 = .ok (.iconst 4, 1) := by decide +kernel
theorem dX7_likeliestKind_19 : decode cX7_likeliestKind 19 = .ok (.if_icmp .ge 36, 3) := by decide +kernel
theorem dX7_likeliestKind_22 : decode cX7_likeliestKind 22 = .ok (.aload_n 0, 1) := by decide +kernel
theorem dX7_likeliestKind_23 : decode cX7_likeliestKind 23 = .ok (.iload 4, 2) := by decide +kernel
theorem dX7_likeliestKind_25 : decode cX7_likeliestKind 25 = .ok (.aload_n 1, 1) := by decide +kernel
theorem dX7_likeliestKind_26 : decode cX7_likeliestKind 26 = .ok (.iload 4, 2) := by decide +kernel
theorem dX7_likeliestKind_28 : decode cX7_likeliestKind 28 = .ok (.invokevirtual 41, 3) := by decide +kernel
theorem dX7_likeliestKind_31 : decode cX7_likeliestKind 31 = .ok (.invokevirtual 47, 3) := by decide +kernel
theorem dX7_likeliestKind_34 : decode cX7_likeliestKind 34 = .ok (.fstore 5, 2) := by decide +kernel
theorem dX7_likeliestKind_36 : decode cX7_likeliestKind 36 = .ok (.fload 5, 2) := by decide +kernel
theorem dX7_likeliestKind_38 : decode cX7_likeliestKind 38 = .ok (.fload_n 3, 1) := by decide +kernel
theorem dX7_likeliestKind_39 : decode cX7_likeliestKind 39 = .ok (.fcmp .l, 1) := by decide +kernel
theorem dX7_likeliestKind_40 : decode cX7_likeliestKind 40 = .ok (.ifCond .le 9, 3) := by decide +kernel
theorem dX7_likeliestKind_43 : decode cX7_likeliestKind 43 = .ok (.iload 4, 2) := by decide +kernel
theorem dX7_likeliestKind_45 : decode cX7_likeliestKind 45 = .ok (.istore_n 2, 1) := by decide +kernel
theorem dX7_likeliestKind_46 : decode cX7_likeliestKind 46 = .ok (.fload 5, 2) := by decide +kernel
theorem dX7_likeliestKind_48 : decode cX7_likeliestKind 48 = .ok (.fstore_n 3, 1) := by decide +kernel
theorem dX7_likeliestKind_49 : decode cX7_likeliestKind 49 = .ok (.iinc 4 1, 3) := by decide +kernel
theorem dX7_likeliestKind_52 : decode cX7_likeliestKind 52 = .ok (.goto (-36), 3) := by decide +kernel
theorem dX7_likeliestKind_55 : decode cX7_likeliestKind 55 = .ok (.iload_n 2, 1) := by decide +kernel
theorem dX7_likeliestKind_56 : decode cX7_likeliestKind 56 = .ok (.ireturn, 1) := by decide +kernel
set_option maxRecDepth 20000 in
theorem ggX7_product_X7_likeness : GoodIn wsX7_product wsX7_likeness := goodIn_r _ [5, 6, 7, 8, 9, 10, 11, 12, 13, 14, 15, 16, 17, 18, 19] (by decide +kernel) (by decide +kernel)
set_option maxRecDepth 20000 in
theorem gX7_product_X7_likeness : GoodIn wsX7_product (wsV RX7 51 RX7 yX7_likeness wsX7_likeness) := goodIn_app (goodIn_of _ (by decide +kernel)) ggX7_product_X7_likeness
theorem dX7_product_0 : decode cX7_product 0 = .ok (.aload_n 0, 1) := by decide +kernel
theorem dX7_product_1 : decode cX7_product 1 = .ok (.iload_n 1, 1) := by decide +kernel
theorem dX7_product_2 : decode cX7_product 2 = .ok (.invokevirtual 51, 3) := by decide +kernel
theorem dX7_product_5 : decode cX7_product 5 = .ok (.fload_n 2, 1) := by decide +kernel
theorem dX7_product_6 : decode cX7_product 6 = .ok (.fmul, 1) := by decide +kernel
theorem dX7_product_7 : decode cX7_product 7 = .ok (.freturn, 1) := by decide +kernel
set_option maxRecDepth 20000 in
theorem ggX7_beamsBroken_X8_oneIf : GoodIn wsX7_beamsBroken wsX8_oneIf := goodIn_r _ [6] (by decide +kernel) (by decide +kernel)
set_option maxRecDepth 20000 in
theorem gX7_beamsBroken_X8_oneIf_n54 : GoodIn wsX7_beamsBroken (wsX8_oneIf) := ggX7_beamsBroken_X8_oneIf
theorem dX7_beamsBroken_0 : decode cX7_beamsBroken 0 = .ok (.aload_n 0, 1) := by decide +kernel
theorem dX7_beamsBroken_1 : decode cX7_beamsBroken 1 = .ok (.getfield 22, 3) := by decide +kernel
theorem dX7_beamsBroken_4 : decode cX7_beamsBroken 4 = .ok (.ifCond .le 7, 3) := by decide +kernel
theorem dX7_beamsBroken_7 : decode cX7_beamsBroken 7 = .ok (.iconst 1, 1) := by decide +kernel
theorem dX7_beamsBroken_8 : decode cX7_beamsBroken 8 = .ok (.goto 4, 3) := by decide +kernel
theorem dX7_beamsBroken_11 : decode cX7_beamsBroken 11 = .ok (.iconst 0, 1) := by decide +kernel
theorem dX7_beamsBroken_12 : decode cX7_beamsBroken 12 = .ok (.invokestatic 54, 3) := by decide +kernel
theorem dX7_beamsBroken_15 : decode cX7_beamsBroken 15 = .ok (.iconst 2, 1) := by decide +kernel
theorem dX7_beamsBroken_16 : decode cX7_beamsBroken 16 = .ok (.aload_n 0, 1) := by decide +kernel
theorem dX7_beamsBroken_17 : decode cX7_beamsBroken 17 = .ok (.getfield 25, 3) := by decide +kernel
theorem dX7_beamsBroken_20 : decode cX7_beamsBroken 20 = .ok (.ifCond .le 7, 3) := by decide +kernel
theorem dX7_beamsBroken_23 : decode cX7_beamsBroken 23 = .ok (.iconst 1, 1) := by decide +kernel
theorem dX7_beamsBroken_24 : decode cX7_beamsBroken 24 = .ok (.goto 4, 3) := by decide +kernel
theorem dX7_beamsBroken_27 : decode cX7_beamsBroken 27 = .ok (.iconst 0, 1) := by decide +kernel
theorem dX7_beamsBroken_28 : decode cX7_beamsBroken 28 = .ok (.invokestatic 54, 3) := by decide +kernel
theorem dX7_beamsBroken_31 : decode cX7_beamsBroken 31 = .ok (.imul, 1) := by decide +kernel
theorem dX7_beamsBroken_32 : decode cX7_beamsBroken 32 = .ok (.iadd, 1) := by decide +kernel
theorem dX7_beamsBroken_33 : decode cX7_beamsBroken 33 = .ok (.iconst 4, 1) := by decide +kernel
theorem dX7_beamsBroken_34 : decode cX7_beamsBroken 34 = .ok (.aload_n 0, 1) := by decide +kernel
theorem dX7_beamsBroken_35 : decode cX7_beamsBroken 35 = .ok (.getfield 28, 3) := by decide +kernel
theorem dX7_beamsBroken_38 : decode cX7_beamsBroken 38 = .ok (.ifCond .le 7, 3) := by decide +kernel
theorem dX7_beamsBroken_41 : decode cX7_beamsBroken 41 = .ok (.iconst 1, 1) := by decide +kernel
theorem dX7_beamsBroken_42 : decode cX7_beamsBroken 42 = .ok (.goto 4, 3) := by decide +kernel
theorem dX7_beamsBroken_45 : decode cX7_beamsBroken 45 = .ok (.iconst 0, 1) := by decide +kernel
theorem dX7_beamsBroken_46 : decode cX7_beamsBroken 46 = .ok (.invokestatic 54, 3) := by decide +kernel
theorem dX7_beamsBroken_49 : decode cX7_beamsBroken 49 = .ok (.imul, 1) := by decide +kernel
theorem dX7_beamsBroken_50 : decode cX7_beamsBroken 50 = .ok (.iadd, 1) := by decide +kernel
theorem dX7_beamsBroken_51 : decode cX7_beamsBroken 51 = .ok (.ireturn, 1) := by decide +kernel
theorem dX7_begin_0 : decode cX7_begin 0 = .ok (.aload_n 0, 1) := by decide +kernel
theorem dX7_begin_1 : decode cX7_begin 1 = .ok (.iconst 1, 1) := by decide +kernel
theorem dX7_begin_2 : decode cX7_begin 2 = .ok (.putfield 9, 3) := by decide +kernel
theorem dX7_begin_5 : decode cX7_begin 5 = .ok (.aload_n 0, 1) := by decide +kernel
theorem dX7_begin_6 : decode cX7_begin 6 = .ok (.iload_n 1, 1) := by decide +kernel
theorem dX7_begin_7 : decode cX7_begin 7 = .ok (.putfield 15, 3) := by decide +kernel
theorem dX7_begin_10 : decode cX7_begin 10 = .ok (.aload_n 0, 1) := by decide +kernel
theorem dX7_begin_11 : decode cX7_begin 11 = .ok (.iconst 0, 1) := by decide +kernel
theorem dX7_begin_12 : decode cX7_begin 12 = .ok (.putfield 19, 3) := by decide +kernel
theorem dX7_begin_15 : decode cX7_begin 15 = .ok (.aload_n 0, 1) := by decide +kernel
theorem dX7_begin_16 : decode cX7_begin 16 = .ok (.iconst 0, 1) := by decide +kernel
theorem dX7_begin_17 : decode cX7_begin 17 = .ok (.putfield 22, 3) := by decide +kernel
theorem dX7_begin_20 : decode cX7_begin 20 = .ok (.aload_n 0, 1) := by decide +kernel
theorem dX7_begin_21 : decode cX7_begin 21 = .ok (.iconst 0, 1) := by decide +kernel
theorem dX7_begin_22 : decode cX7_begin 22 = .ok (.putfield 25, 3) := by decide +kernel
theorem dX7_begin_25 : decode cX7_begin 25 = .ok (.aload_n 0, 1) := by decide +kernel
theorem dX7_begin_26 : decode cX7_begin 26 = .ok (.iconst 0, 1) := by decide +kernel
theorem dX7_begin_27 : decode cX7_begin 27 = .ok (.putfield 28, 3) := by decide +kernel
theorem dX7_begin_30 : decode cX7_begin 30 = .ok (.aload_n 0, 1) := by decide +kernel
theorem dX7_begin_31 : decode cX7_begin 31 = .ok (.iconst 0, 1) := by decide +kernel
theorem dX7_begin_32 : decode cX7_begin 32 = .ok (.putfield 34, 3) := by decide +kernel
theorem dX7_begin_35 : decode cX7_begin 35 = .ok (.return_, 1) := by decide +kernel
theorem dX7_likeness_0 : decode cX7_likeness 0 = .ok (.aload_n 0, 1) := by decide +kernel
theorem dX7_likeness_1 : decode cX7_likeness 1 = .ok (.getfield 22, 3) := by decide +kernel
theorem dX7_likeness_4 : decode cX7_likeness 4 = .ok (.aload_n 0, 1) := by decide +kernel
theorem dX7_likeness_5 : decode cX7_likeness 5 = .ok (.getfield 25, 3) := by decide +kernel
theorem dX7_likeness_8 : decode cX7_likeness 8 = .ok (.iadd, 1) := by decide +kernel
theorem dX7_likeness_9 : decode cX7_likeness 9 = .ok (.aload_n 0, 1) := by decide +kernel
theorem dX7_likeness_10 : decode cX7_likeness 10 = .ok (.getfield 28, 3) := by decide +kernel
theorem dX7_likeness_13 : decode cX7_likeness 13 = .ok (.iadd, 1) := by decide +kernel
theorem dX7_likeness_14 : decode cX7_likeness 14 = .ok (.istore_n 2, 1) := by decide +kernel
theorem dX7_likeness_15 : decode cX7_likeness 15 = .ok (.aload_n 0, 1) := by decide +kernel
theorem dX7_likeness_16 : decode cX7_likeness 16 = .ok (.getfield 19, 3) := by decide +kernel
theorem dX7_likeness_19 : decode cX7_likeness 19 = .ok (.ifCond .eq 7, 3) := by decide +kernel
theorem dX7_likeness_22 : decode cX7_likeness 22 = .ok (.iload_n 2, 1) := by decide +kernel
theorem dX7_likeness_23 : decode cX7_likeness 23 = .ok (.ifCond .ne 5, 3) := by decide +kernel
theorem dX7_likeness_26 : decode cX7_likeness 26 = .ok (.fconst 0, 1) := by decide +kernel
theorem dX7_likeness_27 : decode cX7_likeness 27 = .ok (.freturn, 1) := by decide +kernel
theorem dX7_likeness_28 : decode cX7_likeness 28 = .ok (.aload_n 0, 1) := by decide +kernel
theorem dX7_likeness_29 : decode cX7_likeness 29 = .ok (.getfield 22, 3) := by decide +kernel
theorem dX7_likeness_32 : decode cX7_likeness 32 = .ok (.i2f, 1) := by decide +kernel
theorem dX7_likeness_33 : decode cX7_likeness 33 = .ok (.iload_n 2, 1) := by decide +kernel
theorem dX7_likeness_34 : decode cX7_likeness 34 = .ok (.i2f, 1) := by decide +kernel
theorem dX7_likeness_35 : decode cX7_likeness 35 = .ok (.fdiv, 1) := by decide +kernel
theorem dX7_likeness_36 : decode cX7_likeness 36 = .ok (.fstore_n 3, 1) := by decide +kernel
theorem dX7_likeness_37 : decode cX7_likeness 37 = .ok (.aload_n 0, 1) := by decide +kernel
theorem dX7_likeness_38 : decode cX7_likeness 38 = .ok (.getfield 25, 3) := by decide +kernel
theorem dX7_likeness_41 : decode cX7_likeness 41 = .ok (.i2f, 1) := by decide +kernel
theorem dX7_likeness_42 : decode cX7_likeness 42 = .ok (.iload_n 2, 1) := by decide +kernel
theorem dX7_likeness_43 : decode cX7_likeness 43 = .ok (.i2f, 1) := by decide +kernel
theorem dX7_likeness_44 : decode cX7_likeness 44 = .ok (.fdiv, 1) := by decide +kernel
theorem dX7_likeness_45 : decode cX7_likeness 45 = .ok (.fstore 4, 2) := by decide +kernel
theorem dX7_likeness_47 : decode cX7_likeness 47 = .ok (.aload_n 0, 1) := by decide +kernel
theorem dX7_likeness_48 : decode cX7_likeness 48 = .ok (.getfield 28, 3) := by decide +kernel
theorem dX7_likeness_51 : decode cX7_likeness 51 = .ok (.i2f, 1) := by decide +kernel
theorem dX7_likeness_52 : decode cX7_likeness 52 = .ok (.iload_n 2, 1) := by decide +kernel
theorem dX7_likeness_53 : decode cX7_likeness 53 = .ok (.i2f, 1) := by decide +kernel
theorem dX7_likeness_54 : decode cX7_likeness 54 = .ok (.fdiv, 1) := by decide +kernel
theorem dX7_likeness_55 : decode cX7_likeness 55 = .ok (.fstore 5, 2) := by decide +kernel
theorem dX7_likeness_57 : decode cX7_likeness 57 = .ok (.fload_n 3, 1) := by decide +kernel
theorem dX7_likeness_58 : decode cX7_likeness 58 = .ok (.fload 4, 2) := by decide +kernel
theorem dX7_likeness_60 : decode cX7_likeness 60 = .ok (.fcmp .g, 1) := by decide +kernel
theorem dX7_likeness_61 : decode cX7_likeness 61 = .ok (.ifCond .ge 7, 3) := by decide +kernel
theorem dX7_likeness_64 : decode cX7_likeness 64 = .ok (.fload_n 3, 1) := by decide +kernel
theorem dX7_likeness_65 : decode cX7_likeness 65 = .ok (.goto 5, 3) := by decide +kernel
theorem dX7_likeness_68 : decode cX7_likeness 68 = .ok (.fload 4, 2) := by decide +kernel
theorem dX7_likeness_70 : decode cX7_likeness 70 = .ok (.fstore 6, 2) := by decide +kernel
theorem dX7_likeness_72 : decode cX7_likeness 72 = .ok (.iload_n 1, 1) := by decide +kernel
theorem dX7_likeness_73 : decode cX7_likeness 73 = .ok (.tableswitch 72 0 3 #[31, 39, 46, 53], 31) := by decide +kernel
theorem dX7_likeness_104 : decode cX7_likeness 104 = .ok (.fconst 1, 1) := by decide +kernel
theorem dX7_likeness_105 : decode cX7_likeness 105 = .ok (.aload_n 0, 1) := by decide +kernel
theorem dX7_likeness_106 : decode cX7_likeness 106 = .ok (.getfield 19, 3) := by decide +kernel
theorem dX7_likeness_109 : decode cX7_likeness 109 = .ok (.i2f, 1) := by decide +kernel
theorem dX7_likeness_110 : decode cX7_likeness 110 = .ok (.fdiv, 1) := by decide +kernel
theorem dX7_likeness_111 : decode cX7_likeness 111 = .ok (.freturn, 1) := by decide +kernel
theorem dX7_likeness_112 : decode cX7_likeness 112 = .ok (.fconst 1, 1) := by decide +kernel
theorem dX7_likeness_113 : decode cX7_likeness 113 = .ok (.fload_n 3, 1) := by decide +kernel
theorem dX7_likeness_114 : decode cX7_likeness 114 = .ok (.fsub, 1) := by decide +kernel
theorem dX7_likeness_115 : decode cX7_likeness 115 = .ok (.ldc 58, 2) := by decide +kernel
theorem dX7_likeness_117 : decode cX7_likeness 117 = .ok (.fmul, 1) := by decide +kernel
theorem dX7_likeness_118 : decode cX7_likeness 118 = .ok (.freturn, 1) := by decide +kernel
theorem dX7_likeness_119 : decode cX7_likeness 119 = .ok (.fload_n 3, 1) := by decide +kernel
theorem dX7_likeness_120 : decode cX7_likeness 120 = .ok (.fconst 1, 1) := by decide +kernel
theorem dX7_likeness_121 : decode cX7_likeness 121 = .ok (.fload 5, 2) := by decide +kernel
theorem dX7_likeness_123 : decode cX7_likeness 123 = .ok (.fsub, 1) := by decide +kernel
theorem dX7_likeness_124 : decode cX7_likeness 124 = .ok (.fmul, 1) := by decide +kernel
theorem dX7_likeness_125 : decode cX7_likeness 125 = .ok (.freturn, 1) := by decide +kernel
theorem dX7_likeness_126 : decode cX7_likeness 126 = .ok (.ldc 59, 2) := by decide +kernel
theorem dX7_likeness_128 : decode cX7_likeness 128 = .ok (.fload 5, 2) := by decide +kernel
theorem dX7_likeness_130 : decode cX7_likeness 130 = .ok (.fload 6, 2) := by decide +kernel
theorem dX7_likeness_132 : decode cX7_likeness 132 = .ok (.fcmp .g, 1) := by decide +kernel
theorem dX7_likeness_133 : decode cX7_likeness 133 = .ok (.ifCond .ge 8, 3) := by decide +kernel
theorem dX7_likeness_136 : decode cX7_likeness 136 = .ok (.fload 5, 2) := by decide +kernel
theorem dX7_likeness_138 : decode cX7_likeness 138 = .ok (.goto 5, 3) := by decide +kernel
theorem dX7_likeness_141 : decode cX7_likeness 141 = .ok (.fload 6, 2) := by decide +kernel
theorem dX7_likeness_143 : decode cX7_likeness 143 = .ok (.fmul, 1) := by decide +kernel
theorem dX7_likeness_144 : decode cX7_likeness 144 = .ok (.freturn, 1) := by decide +kernel
theorem dX7_likeness_145 : decode cX7_likeness 145 = .ok (.fconst 0, 1) := by decide +kernel
theorem dX7_likeness_146 : decode cX7_likeness 146 = .ok (.freturn, 1) := by decide +kernel
