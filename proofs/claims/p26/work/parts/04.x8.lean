set_option maxRecDepth 20000 in
theorem ggX8_init_X5_init : GoodIn wsX8_init wsX5_init := goodIn_r _ [19, 20, 2, 3, 21, 22, 23, 24, 25, 26, 27, 28, 29, 30, 31, 32, 33, 34, 35, 36, 37, 38, 39, 40, 41, 42, 43, 44, 45, 46, 47, 48, 49, 50, 51, 52, 53, 54, 55, 56, 57, 58, 59, 60, 61, 62, 63, 64, 97, 98, 99, 78, 79, 80, 81, 82, 83, 100, 101, 102, 103, 104, 105, 106, 107, 108, 109, 110, 111, 112, 113, 114, 115, 116, 117, 118, 119, 120, 121, 122, 123] (by decide +kernel) (by decide +kernel)
set_option maxRecDepth 20000 in
theorem gX8_init_X5_init_n9 : GoodIn wsX8_init (wsX5_init) := ggX8_init_X5_init
set_option maxRecDepth 20000 in
theorem ggX8_init_X2_init : GoodIn wsX8_init wsX2_init := goodIn_r _ [67, 68, 2, 3, 69, 70, 5, 6, 18, 19, 20, 21, 22, 23, 24, 25, 26, 27, 28, 29, 30, 31, 32, 33, 34, 35, 36, 37, 38, 39, 40, 41, 42, 43, 44, 45, 46, 47, 48, 49, 50, 51, 52, 53, 54, 55, 56, 57, 58, 59, 60, 61, 62, 63, 64, 90, 91, 78, 79, 80, 81, 82, 83, 97, 98, 99, 100, 101, 102, 103, 104, 105, 106, 107, 108, 109, 110, 111, 112, 113, 114, 115, 116, 117, 118, 119, 120, 121, 122, 123] (by decide +kernel) (by decide +kernel)
set_option maxRecDepth 20000 in
theorem gX8_init_X2_init : GoodIn wsX8_init (wsX2_init) := ggX8_init_X2_init
set_option maxRecDepth 20000 in
theorem ggX8_init_X0_init : GoodIn wsX8_init wsX0_init := goodIn_r _ [72, 73, 2, 3, 74, 75, 49, 76, 77, 92, 93, 94, 95, 96] (by decide +kernel) (by decide +kernel)
set_option maxRecDepth 20000 in
theorem gX8_init_X0_init_n31 : GoodIn wsX8_init (wsX0_init) := ggX8_init_X0_init
theorem dX8_init_0 : decode cX8_init 0 = .ok (.aload_n 0, 1) := by decide +kernel
theorem dX8_init_1 : decode cX8_init 1 = .ok (.invokespecial 1, 3) := by decide +kernel
theorem dX8_init_4 : decode cX8_init 4 = .ok (.aload_n 0, 1) := by decide +kernel
theorem dX8_init_5 : decode cX8_init 5 = .ok (.new 7, 3) := by decide +kernel
theorem dX8_init_8 : decode cX8_init 8 = .ok (.dup, 1) := by decide +kernel
theorem dX8_init_9 : decode cX8_init 9 = .ok (.invokespecial 9, 3) := by decide +kernel
theorem dX8_init_12 : decode cX8_init 12 = .ok (.putfield 10, 3) := by decide +kernel
theorem dX8_init_15 : decode cX8_init 15 = .ok (.aload_n 0, 1) := by decide +kernel
theorem dX8_init_16 : decode cX8_init 16 = .ok (.new 7, 3) := by decide +kernel
theorem dX8_init_19 : decode cX8_init 19 = .ok (.dup, 1) := by decide +kernel
theorem dX8_init_20 : decode cX8_init 20 = .ok (.invokespecial 9, 3) := by decide +kernel
theorem dX8_init_23 : decode cX8_init 23 = .ok (.putfield 16, 3) := by decide +kernel
theorem dX8_init_26 : decode cX8_init 26 = .ok (.aload_n 0, 1) := by decide +kernel
theorem dX8_init_27 : decode cX8_init 27 = .ok (.new 7, 3) := by decide +kernel
theorem dX8_init_30 : decode cX8_init 30 = .ok (.dup, 1) := by decide +kernel
theorem dX8_init_31 : decode cX8_init 31 = .ok (.invokespecial 9, 3) := by decide +kernel
theorem dX8_init_34 : decode cX8_init 34 = .ok (.putfield 19, 3) := by decide +kernel
theorem dX8_init_37 : decode cX8_init 37 = .ok (.aload_n 0, 1) := by decide +kernel
theorem dX8_init_38 : decode cX8_init 38 = .ok (.new 22, 3) := by decide +kernel
theorem dX8_init_41 : decode cX8_init 41 = .ok (.dup, 1) := by decide +kernel
theorem dX8_init_42 : decode cX8_init 42 = .ok (.invokespecial 24, 3) := by decide +kernel
theorem dX8_init_45 : decode cX8_init 45 = .ok (.putfield 25, 3) := by decide +kernel
theorem dX8_init_48 : decode cX8_init 48 = .ok (.aload_n 0, 1) := by decide +kernel
theorem dX8_init_49 : decode cX8_init 49 = .ok (.new 29, 3) := by decide +kernel
theorem dX8_init_52 : decode cX8_init 52 = .ok (.dup, 1) := by decide +kernel
theorem dX8_init_53 : decode cX8_init 53 = .ok (.invokespecial 31, 3) := by decide +kernel
theorem dX8_init_56 : decode cX8_init 56 = .ok (.putfield 32, 3) := by decide +kernel
theorem dX8_init_59 : decode cX8_init 59 = .ok (.return_, 1) := by decide +kernel
set_option maxRecDepth 20000 in
theorem ggX8_setSpeed_X8_floatOfBits : GoodIn wsX8_setSpeed wsX8_floatOfBits := goodIn_r _ [9, 10, 11, 12] (by decide +kernel) (by decide +kernel)
set_option maxRecDepth 20000 in
theorem gX8_setSpeed_X8_floatOfBits : GoodIn wsX8_setSpeed (va_wsS RX8 38 yX8_floatOfBits wsX8_floatOfBits) := goodIn_app (goodIn_of _ (by decide +kernel)) ggX8_setSpeed_X8_floatOfBits
set_option maxRecDepth 20000 in
theorem ggX8_setSpeed_X4_speedFor : GoodIn wsX8_setSpeed wsX4_speedFor := goodIn_r _ [17, 18, 19, 8, 20, 21, 110, 111, 112] (by decide +kernel) (by decide +kernel)
set_option maxRecDepth 20000 in
theorem gX8_setSpeed_X4_speedFor : GoodIn wsX8_setSpeed (wsV RX8 46 RX4 yX4_speedFor wsX4_speedFor) := goodIn_app (goodIn_of _ (by decide +kernel)) ggX8_setSpeed_X4_speedFor
set_option maxRecDepth 20000 in
theorem ggX8_setSpeed_X2_record : GoodIn wsX8_setSpeed wsX2_record := goodIn_r _ [26, 27, 28, 29, 30, 31, 25, 32, 33, 34, 35, 36, 37, 38, 39, 40, 41, 42, 43, 44, 45, 46, 16, 47, 18, 48, 49, 50, 51, 52, 53, 54, 55, 56, 57, 58, 59, 60, 61, 62, 63, 64, 65, 66, 67, 68, 69, 70, 71, 72, 73, 74, 75, 76, 77, 78, 79, 80, 81, 82, 83, 84, 85, 86, 87, 88, 89, 90, 91, 92, 93, 113, 114, 104, 105, 106, 107, 108, 109, 110, 111, 112, 115, 116, 117, 118, 119, 120, 121, 122, 123, 124, 125, 126, 127, 128, 129, 130, 131, 132, 133, 134, 135, 136, 137, 138] (by decide +kernel) (by decide +kernel)
set_option maxRecDepth 20000 in
theorem gX8_setSpeed_X2_record : GoodIn wsX8_setSpeed (wsV RX8 51 RX2 yX2_record wsX2_record) := goodIn_app (goodIn_of _ (by decide +kernel)) ggX8_setSpeed_X2_record
set_option maxRecDepth 20000 in
theorem ggX8_setSpeed_X4_changeSpeed : GoodIn wsX8_setSpeed wsX4_changeSpeed := goodIn_r _ [97, 18, 110, 111, 112] (by decide +kernel) (by decide +kernel)
set_option maxRecDepth 20000 in
theorem gX8_setSpeed_X4_changeSpeed : GoodIn wsX8_setSpeed (wsV RX8 55 RX4 yX4_changeSpeed wsX4_changeSpeed) := goodIn_app (goodIn_of _ (by decide +kernel)) ggX8_setSpeed_X4_changeSpeed
theorem dX8_setSpeed_0 : decode cX8_setSpeed 0 = .ok (.iload_n 1, 1) := by decide +kernel
theorem dX8_setSpeed_1 : decode cX8_setSpeed 1 = .ok (.ifCond .lt 8, 3) := by decide +kernel
theorem dX8_setSpeed_4 : decode cX8_setSpeed 4 = .ok (.iload_n 1, 1) := by decide +kernel
theorem dX8_setSpeed_5 : decode cX8_setSpeed 5 = .ok (.iconst 3, 1) := by decide +kernel
theorem dX8_setSpeed_6 : decode cX8_setSpeed 6 = .ok (.if_icmp .lt 5, 3) := by decide +kernel
theorem dX8_setSpeed_9 : decode cX8_setSpeed 9 = .ok (.iconst (-1), 1) := by decide +kernel
theorem dX8_setSpeed_10 : decode cX8_setSpeed 10 = .ok (.ireturn, 1) := by decide +kernel
theorem dX8_setSpeed_11 : decode cX8_setSpeed 11 = .ok (.iload_n 2, 1) := by decide +kernel
theorem dX8_setSpeed_12 : decode cX8_setSpeed 12 = .ok (.ldc 36, 2) := by decide +kernel
theorem dX8_setSpeed_14 : decode cX8_setSpeed 14 = .ok (.if_icmp .lt 9, 3) := by decide +kernel
theorem dX8_setSpeed_17 : decode cX8_setSpeed 17 = .ok (.iload_n 2, 1) := by decide +kernel
theorem dX8_setSpeed_18 : decode cX8_setSpeed 18 = .ok (.ldc 37, 2) := by decide +kernel
theorem dX8_setSpeed_20 : decode cX8_setSpeed 20 = .ok (.if_icmp .le 6, 3) := by decide +kernel
theorem dX8_setSpeed_23 : decode cX8_setSpeed 23 = .ok (.bipush (-2), 2) := by decide +kernel
theorem dX8_setSpeed_25 : decode cX8_setSpeed 25 = .ok (.ireturn, 1) := by decide +kernel
theorem dX8_setSpeed_26 : decode cX8_setSpeed 26 = .ok (.iload_n 2, 1) := by decide +kernel
theorem dX8_setSpeed_27 : decode cX8_setSpeed 27 = .ok (.invokestatic 38, 3) := by decide +kernel
theorem dX8_setSpeed_30 : decode cX8_setSpeed 30 = .ok (.fstore_n 3, 1) := by decide +kernel
theorem dX8_setSpeed_31 : decode cX8_setSpeed 31 = .ok (.aload_n 0, 1) := by decide +kernel
theorem dX8_setSpeed_32 : decode cX8_setSpeed 32 = .ok (.getfield 10, 3) := by decide +kernel
theorem dX8_setSpeed_35 : decode cX8_setSpeed 35 = .ok (.getfield 42, 3) := by decide +kernel
theorem dX8_setSpeed_38 : decode cX8_setSpeed 38 = .ok (.iload_n 1, 1) := by decide +kernel
theorem dX8_setSpeed_39 : decode cX8_setSpeed 39 = .ok (.invokevirtual 46, 3) := by decide +kernel
theorem dX8_setSpeed_42 : decode cX8_setSpeed 42 = .ok (.fload_n 3, 1) := by decide +kernel
theorem dX8_setSpeed_43 : decode cX8_setSpeed 43 = .ok (.fcmp .l, 1) := by decide +kernel
theorem dX8_setSpeed_44 : decode cX8_setSpeed 44 = .ok (.ifCond .ne 6, 3) := by decide +kernel
theorem dX8_setSpeed_47 : decode cX8_setSpeed 47 = .ok (.bipush (-5), 2) := by decide +kernel
theorem dX8_setSpeed_49 : decode cX8_setSpeed 49 = .ok (.ireturn, 1) := by decide +kernel
theorem dX8_setSpeed_50 : decode cX8_setSpeed 50 = .ok (.aload_n 0, 1) := by decide +kernel
theorem dX8_setSpeed_51 : decode cX8_setSpeed 51 = .ok (.getfield 25, 3) := by decide +kernel
theorem dX8_setSpeed_54 : decode cX8_setSpeed 54 = .ok (.aload_n 0, 1) := by decide +kernel
theorem dX8_setSpeed_55 : decode cX8_setSpeed 55 = .ok (.getfield 10, 3) := by decide +kernel
theorem dX8_setSpeed_58 : decode cX8_setSpeed 58 = .ok (.invokevirtual 51, 3) := by decide +kernel
theorem dX8_setSpeed_61 : decode cX8_setSpeed 61 = .ok (.aload_n 0, 1) := by decide +kernel
theorem dX8_setSpeed_62 : decode cX8_setSpeed 62 = .ok (.getfield 10, 3) := by decide +kernel
theorem dX8_setSpeed_65 : decode cX8_setSpeed 65 = .ok (.getfield 42, 3) := by decide +kernel
theorem dX8_setSpeed_68 : decode cX8_setSpeed 68 = .ok (.iload_n 1, 1) := by decide +kernel
theorem dX8_setSpeed_69 : decode cX8_setSpeed 69 = .ok (.fload_n 3, 1) := by decide +kernel
theorem dX8_setSpeed_70 : decode cX8_setSpeed 70 = .ok (.invokevirtual 55, 3) := by decide +kernel
theorem dX8_setSpeed_73 : decode cX8_setSpeed 73 = .ok (.iconst 1, 1) := by decide +kernel
theorem dX8_setSpeed_74 : decode cX8_setSpeed 74 = .ok (.ireturn, 1) := by decide +kernel
set_option maxRecDepth 20000 in
theorem ggX8_setWeight_X8_floatOfBits : GoodIn wsX8_setWeight wsX8_floatOfBits := goodIn_r _ [8, 9, 10, 11] (by decide +kernel) (by decide +kernel)
set_option maxRecDepth 20000 in
theorem gX8_setWeight_X8_floatOfBits : GoodIn wsX8_setWeight (va_wsS RX8 38 yX8_floatOfBits wsX8_floatOfBits) := goodIn_app (goodIn_of _ (by decide +kernel)) ggX8_setWeight_X8_floatOfBits
set_option maxRecDepth 20000 in
theorem ggX8_setWeight_X4_weightOf : GoodIn wsX8_setWeight wsX4_weightOf := goodIn_r _ [16, 17, 18, 7, 19, 20, 109, 110, 111] (by decide +kernel) (by decide +kernel)
set_option maxRecDepth 20000 in
theorem gX8_setWeight_X4_weightOf : GoodIn wsX8_setWeight (wsV RX8 60 RX4 yX4_weightOf wsX4_weightOf) := goodIn_app (goodIn_of _ (by decide +kernel)) ggX8_setWeight_X4_weightOf
set_option maxRecDepth 20000 in
theorem ggX8_setWeight_X2_record : GoodIn wsX8_setWeight wsX2_record := goodIn_r _ [25, 26, 27, 28, 29, 30, 24, 31, 32, 33, 34, 35, 36, 37, 38, 39, 40, 41, 42, 43, 44, 45, 15, 46, 47, 17, 48, 49, 50, 51, 52, 53, 54, 55, 56, 57, 58, 59, 60, 61, 62, 63, 64, 65, 66, 67, 68, 69, 70, 71, 72, 73, 74, 75, 76, 77, 78, 79, 80, 81, 82, 83, 84, 85, 86, 87, 88, 89, 90, 91, 92, 112, 113, 103, 104, 105, 106, 107, 108, 109, 110, 111, 114, 115, 116, 117, 118, 119, 120, 121, 122, 123, 124, 125, 126, 127, 128, 129, 130, 131, 132, 133, 134, 135, 136, 137] (by decide +kernel) (by decide +kernel)
set_option maxRecDepth 20000 in
theorem gX8_setWeight_X2_record : GoodIn wsX8_setWeight (wsV RX8 51 RX2 yX2_record wsX2_record) := goodIn_app (goodIn_of _ (by decide +kernel)) ggX8_setWeight_X2_record
set_option maxRecDepth 20000 in
theorem ggX8_setWeight_X4_changeWeight : GoodIn wsX8_setWeight wsX4_changeWeight := goodIn_r _ [96, 17, 109, 110, 111] (by decide +kernel) (by decide +kernel)
set_option maxRecDepth 20000 in
theorem gX8_setWeight_X4_changeWeight : GoodIn wsX8_setWeight (wsV RX8 63 RX4 yX4_changeWeight wsX4_changeWeight) := goodIn_app (goodIn_of _ (by decide +kernel)) ggX8_setWeight_X4_changeWeight
theorem dX8_setWeight_0 : decode cX8_setWeight 0 = .ok (.iload_n 1, 1) := by decide +kernel
theorem dX8_setWeight_1 : decode cX8_setWeight 1 = .ok (.ifCond .lt 8, 3) := by decide +kernel
theorem dX8_setWeight_4 : decode cX8_setWeight 4 = .ok (.iload_n 1, 1) := by decide +kernel
theorem dX8_setWeight_5 : decode cX8_setWeight 5 = .ok (.iconst 4, 1) := by decide +kernel
theorem dX8_setWeight_6 : decode cX8_setWeight 6 = .ok (.if_icmp .lt 5, 3) := by decide +kernel
theorem dX8_setWeight_9 : decode cX8_setWeight 9 = .ok (.iconst (-1), 1) := by decide +kernel
theorem dX8_setWeight_10 : decode cX8_setWeight 10 = .ok (.ireturn, 1) := by decide +kernel
theorem dX8_setWeight_11 : decode cX8_setWeight 11 = .ok (.iload_n 2, 1) := by decide +kernel
theorem dX8_setWeight_12 : decode cX8_setWeight 12 = .ok (.ifCond .lt 9, 3) := by decide +kernel
theorem dX8_setWeight_15 : decode cX8_setWeight 15 = .ok (.iload_n 2, 1) := by decide +kernel
theorem dX8_setWeight_16 : decode cX8_setWeight 16 = .ok (.ldc 59, 2) := by decide +kernel
theorem dX8_setWeight_18 : decode cX8_setWeight 18 = .ok (.if_icmp .le 6, 3) := by decide +kernel
theorem dX8_setWeight_21 : decode cX8_setWeight 21 = .ok (.bipush (-2), 2) := by decide +kernel
theorem dX8_setWeight_23 : decode cX8_setWeight 23 = .ok (.ireturn, 1) := by decide +kernel
theorem dX8_setWeight_24 : decode cX8_setWeight 24 = .ok (.iload_n 2, 1) := by decide +kernel
theorem dX8_setWeight_25 : decode cX8_setWeight 25 = .ok (.invokestatic 38, 3) := by decide +kernel
theorem dX8_setWeight_28 : decode cX8_setWeight 28 = .ok (.fstore_n 3, 1) := by decide +kernel
theorem dX8_setWeight_29 : decode cX8_setWeight 29 = .ok (.aload_n 0, 1) := by decide +kernel
theorem dX8_setWeight_30 : decode cX8_setWeight 30 = .ok (.getfield 10, 3) := by decide +kernel
theorem dX8_setWeight_33 : decode cX8_setWeight 33 = .ok (.getfield 42, 3) := by decide +kernel
theorem dX8_setWeight_36 : decode cX8_setWeight 36 = .ok (.iload_n 1, 1) := by decide +kernel
theorem dX8_setWeight_37 : decode cX8_setWeight 37 = .ok (.invokevirtual 60, 3) := by decide +kernel
theorem dX8_setWeight_40 : decode cX8_setWeight 40 = .ok (.fload_n 3, 1) := by decide +kernel
theorem dX8_setWeight_41 : decode cX8_setWeight 41 = .ok (.fcmp .l, 1) := by decide +kernel
theorem dX8_setWeight_42 : decode cX8_setWeight 42 = .ok (.ifCond .ne 6, 3) := by decide +kernel
theorem dX8_setWeight_45 : decode cX8_setWeight 45 = .ok (.bipush (-5), 2) := by decide +kernel
theorem dX8_setWeight_47 : decode cX8_setWeight 47 = .ok (.ireturn, 1) := by decide +kernel
theorem dX8_setWeight_48 : decode cX8_setWeight 48 = .ok (.aload_n 0, 1) := by decide +kernel
theorem dX8_setWeight_49 : decode cX8_setWeight 49 = .ok (.getfield 25, 3) := by decide +kernel
theorem dX8_setWeight_52 : decode cX8_setWeight 52 = .ok (.aload_n 0, 1) := by decide +kernel
theorem dX8_setWeight_53 : decode cX8_setWeight 53 = .ok (.getfield 10, 3) := by decide +kernel
theorem dX8_setWeight_56 : decode cX8_setWeight 56 = .ok (.invokevirtual 51, 3) := by decide +kernel
theorem dX8_setWeight_59 : decode cX8_setWeight 59 = .ok (.aload_n 0, 1) := by decide +kernel
theorem dX8_setWeight_60 : decode cX8_setWeight 60 = .ok (.getfield 10, 3) := by decide +kernel
theorem dX8_setWeight_63 : decode cX8_setWeight 63 = .ok (.getfield 42, 3) := by decide +kernel
theorem dX8_setWeight_66 : decode cX8_setWeight 66 = .ok (.iload_n 1, 1) := by decide +kernel
theorem dX8_setWeight_67 : decode cX8_setWeight 67 = .ok (.fload_n 3, 1) := by decide +kernel
theorem dX8_setWeight_68 : decode cX8_setWeight 68 = .ok (.invokevirtual 63, 3) := by decide +kernel
theorem dX8_setWeight_71 : decode cX8_setWeight 71 = .ok (.iconst 1, 1) := by decide +kernel
theorem dX8_setWeight_72 : decode cX8_setWeight 72 = .ok (.ireturn, 1) := by decide +kernel
set_option maxRecDepth 20000 in
theorem ggX8_setNumber_X4_numberOf : GoodIn wsX8_setNumber wsX4_numberOf := goodIn_r _ [10, 11, 100, 101, 102] (by decide +kernel) (by decide +kernel)
set_option maxRecDepth 20000 in
theorem gX8_setNumber_X4_numberOf : GoodIn wsX8_setNumber (wsV RX8 73 RX4 yX4_numberOf wsX4_numberOf) := goodIn_app (goodIn_of _ (by decide +kernel)) ggX8_setNumber_X4_numberOf
set_option maxRecDepth 20000 in
theorem ggX8_setNumber_X2_record : GoodIn wsX8_setNumber wsX2_record := goodIn_r _ [16, 17, 18, 19, 20, 21, 15, 22, 23, 24, 25, 26, 27, 28, 29, 30, 31, 32, 33, 34, 35, 36, 9, 37, 38, 39, 11, 40, 41, 42, 43, 44, 45, 46, 47, 48, 49, 50, 51, 52, 53, 54, 55, 56, 57, 58, 59, 60, 61, 62, 63, 64, 65, 66, 67, 68, 69, 70, 71, 72, 73, 74, 75, 76, 77, 78, 79, 80, 81, 82, 83, 103, 104, 94, 95, 96, 97, 98, 99, 100, 101, 102, 105, 106, 107, 108, 109, 110, 111, 112, 113, 114, 115, 116, 117, 118, 119, 120, 121, 122, 123, 124, 125, 126, 127, 128] (by decide +kernel) (by decide +kernel)
set_option maxRecDepth 20000 in
theorem gX8_setNumber_X2_record : GoodIn wsX8_setNumber (wsV RX8 51 RX2 yX2_record wsX2_record) := goodIn_app (goodIn_of _ (by decide +kernel)) ggX8_setNumber_X2_record
set_option maxRecDepth 20000 in
theorem ggX8_setNumber_X4_changeNumber : GoodIn wsX8_setNumber wsX4_changeNumber := goodIn_r _ [87, 11, 100, 101, 102] (by decide +kernel) (by decide +kernel)
set_option maxRecDepth 20000 in
theorem gX8_setNumber_X4_changeNumber : GoodIn wsX8_setNumber (wsV RX8 77 RX4 yX4_changeNumber wsX4_changeNumber) := goodIn_app (goodIn_of _ (by decide +kernel)) ggX8_setNumber_X4_changeNumber
theorem dX8_setNumber_0 : decode cX8_setNumber 0 = .ok (.iload_n 1, 1) := by decide +kernel
theorem dX8_setNumber_1 : decode cX8_setNumber 1 = .ok (.ifCond .lt 19, 3) := by decide +kernel
theorem dX8_setNumber_4 : decode cX8_setNumber 4 = .ok (.iload_n 1, 1) := by decide +kernel
theorem dX8_setNumber_5 : decode cX8_setNumber 5 = .ok (.getstatic 66, 3) := by decide +kernel
theorem dX8_setNumber_8 : decode cX8_setNumber 8 = .ok (.arraylength, 1) := by decide +kernel
theorem dX8_setNumber_9 : decode cX8_setNumber 9 = .ok (.if_icmp .ge 11, 3) := by decide +kernel
theorem dX8_setNumber_12 : decode cX8_setNumber 12 = .ok (.iload_n 1, 1) := by decide +kernel
theorem dX8_setNumber_13 : decode cX8_setNumber 13 = .ok (.getstatic 70, 3) := by decide +kernel
theorem dX8_setNumber_16 : decode cX8_setNumber 16 = .ok (.arraylength, 1) := by decide +kernel
theorem dX8_setNumber_17 : decode cX8_setNumber 17 = .ok (.if_icmp .lt 5, 3) := by decide +kernel
theorem dX8_setNumber_20 : decode cX8_setNumber 20 = .ok (.iconst (-1), 1) := by decide +kernel
theorem dX8_setNumber_21 : decode cX8_setNumber 21 = .ok (.ireturn, 1) := by decide +kernel
theorem dX8_setNumber_22 : decode cX8_setNumber 22 = .ok (.iload_n 2, 1) := by decide +kernel
theorem dX8_setNumber_23 : decode cX8_setNumber 23 = .ok (.getstatic 66, 3) := by decide +kernel
theorem dX8_setNumber_26 : decode cX8_setNumber 26 = .ok (.iload_n 1, 1) := by decide +kernel
theorem dX8_setNumber_27 : decode cX8_setNumber 27 = .ok (.iaload, 1) := by decide +kernel
theorem dX8_setNumber_28 : decode cX8_setNumber 28 = .ok (.if_icmp .lt 12, 3) := by decide +kernel
theorem dX8_setNumber_31 : decode cX8_setNumber 31 = .ok (.iload_n 2, 1) := by decide +kernel
theorem dX8_setNumber_32 : decode cX8_setNumber 32 = .ok (.getstatic 70, 3) := by decide +kernel
theorem dX8_setNumber_35 : decode cX8_setNumber 35 = .ok (.iload_n 1, 1) := by decide +kernel
theorem dX8_setNumber_36 : decode cX8_setNumber 36 = .ok (.iaload, 1) := by decide +kernel
theorem dX8_setNumber_37 : decode cX8_setNumber 37 = .ok (.if_icmp .le 6, 3) := by decide +kernel
theorem dX8_setNumber_40 : decode cX8_setNumber 40 = .ok (.bipush (-2), 2) := by decide +kernel
theorem dX8_setNumber_42 : decode cX8_setNumber 42 = .ok (.ireturn, 1) := by decide +kernel
theorem dX8_setNumber_43 : decode cX8_setNumber 43 = .ok (.aload_n 0, 1) := by decide +kernel
theorem dX8_setNumber_44 : decode cX8_setNumber 44 = .ok (.getfield 10, 3) := by decide +kernel
theorem dX8_setNumber_47 : decode cX8_setNumber 47 = .ok (.getfield 42, 3) := by decide +kernel
theorem dX8_setNumber_50 : decode cX8_setNumber 50 = .ok (.iload_n 1, 1) := by decide +kernel
theorem dX8_setNumber_51 : decode cX8_setNumber 51 = .ok (.invokevirtual 73, 3) := by decide +kernel
theorem dX8_setNumber_54 : decode cX8_setNumber 54 = .ok (.istore_n 3, 1) := by decide +kernel
theorem dX8_setNumber_55 : decode cX8_setNumber 55 = .ok (.iload_n 3, 1) := by decide +kernel
theorem dX8_setNumber_56 : decode cX8_setNumber 56 = .ok (.iload_n 2, 1) := by decide +kernel
theorem dX8_setNumber_57 : decode cX8_setNumber 57 = .ok (.if_icmp .ne 6, 3) := by decide +kernel
theorem dX8_setNumber_60 : decode cX8_setNumber 60 = .ok (.bipush (-5), 2) := by decide +kernel
theorem dX8_setNumber_62 : decode cX8_setNumber 62 = .ok (.ireturn, 1) := by decide +kernel
theorem dX8_setNumber_63 : decode cX8_setNumber 63 = .ok (.aload_n 0, 1) := by decide +kernel
theorem dX8_setNumber_64 : decode cX8_setNumber 64 = .ok (.getfield 25, 3) := by decide +kernel
theorem dX8_setNumber_67 : decode cX8_setNumber 67 = .ok (.aload_n 0, 1) := by decide +kernel
theorem dX8_setNumber_68 : decode cX8_setNumber 68 = .ok (.getfield 10, 3) := by decide +kernel
theorem dX8_setNumber_71 : decode cX8_setNumber 71 = .ok (.invokevirtual 51, 3) := by decide +kernel
theorem dX8_setNumber_74 : decode cX8_setNumber 74 = .ok (.aload_n 0, 1) := by decide +kernel
theorem dX8_setNumber_75 : decode cX8_setNumber 75 = .ok (.getfield 10, 3) := by decide +kernel
theorem dX8_setNumber_78 : decode cX8_setNumber 78 = .ok (.getfield 42, 3) := by decide +kernel
theorem dX8_setNumber_81 : decode cX8_setNumber 81 = .ok (.iload_n 1, 1) := by decide +kernel
theorem dX8_setNumber_82 : decode cX8_setNumber 82 = .ok (.iload_n 2, 1) := by decide +kernel
theorem dX8_setNumber_83 : decode cX8_setNumber 83 = .ok (.invokevirtual 77, 3) := by decide +kernel
theorem dX8_setNumber_86 : decode cX8_setNumber 86 = .ok (.iload_n 3, 1) := by decide +kernel
theorem dX8_setNumber_87 : decode cX8_setNumber 87 = .ok (.ireturn, 1) := by decide +kernel
set_option maxRecDepth 20000 in
theorem ggX8_call_X2_record : GoodIn wsX8_call wsX2_record := goodIn_r _ [9, 10, 11, 12, 13, 14, 8, 15, 16, 17, 18, 19, 20, 21, 22, 23, 24, 25, 26, 27, 28, 29, 30, 31, 32, 33, 34, 35, 36, 37, 38, 39, 40, 41, 42, 43, 44, 45, 46, 47, 48, 49, 50, 51, 52, 53, 54, 55, 56, 57, 58, 59, 60, 61, 62, 63, 64, 65, 66, 67, 68, 69, 70, 71, 72, 73, 74, 75, 76, 77, 78, 101, 102, 89, 90, 91, 92, 93, 94, 103, 104, 105, 106, 107, 108, 109, 110, 111, 112, 113, 95, 96, 97, 98, 99, 100, 114, 115, 116, 117, 118, 119, 120, 121, 122, 123] (by decide +kernel) (by decide +kernel)
set_option maxRecDepth 20000 in
theorem gX8_call_X2_record : GoodIn wsX8_call (wsV RX8 51 RX2 yX2_record wsX2_record) := goodIn_app (goodIn_of _ (by decide +kernel)) ggX8_call_X2_record
set_option maxRecDepth 20000 in
theorem ggX8_call_X1_obeyCall : GoodIn wsX8_call wsX1_obeyCall := goodIn_r _ [82, 54, 55, 95, 96, 97, 98, 99, 100] (by decide +kernel) (by decide +kernel)
set_option maxRecDepth 20000 in
theorem gX8_call_X1_obeyCall : GoodIn wsX8_call (wsV RX8 91 RX1 yX1_obeyCall wsX1_obeyCall) := goodIn_app (goodIn_of _ (by decide +kernel)) ggX8_call_X1_obeyCall
theorem dX8_call_0 : decode cX8_call 0 = .ok (.aload_n 0, 1) := by decide +kernel
theorem dX8_call_1 : decode cX8_call 1 = .ok (.getfield 10, 3) := by decide +kernel
theorem dX8_call_4 : decode cX8_call 4 = .ok (.getfield 81, 3) := by decide +kernel
theorem dX8_call_7 : decode cX8_call 7 = .ok (.getfield 85, 3) := by decide +kernel
theorem dX8_call_10 : decode cX8_call 10 = .ok (.iconst 1, 1) := by decide +kernel
theorem dX8_call_11 : decode cX8_call 11 = .ok (.if_icmp .ne 6, 3) := by decide +kernel
theorem dX8_call_14 : decode cX8_call 14 = .ok (.bipush (-4), 2) := by decide +kernel
theorem dX8_call_16 : decode cX8_call 16 = .ok (.ireturn, 1) := by decide +kernel
theorem dX8_call_17 : decode cX8_call 17 = .ok (.aload_n 0, 1) := by decide +kernel
theorem dX8_call_18 : decode cX8_call 18 = .ok (.getfield 25, 3) := by decide +kernel
theorem dX8_call_21 : decode cX8_call 21 = .ok (.aload_n 0, 1) := by decide +kernel
theorem dX8_call_22 : decode cX8_call 22 = .ok (.getfield 10, 3) := by decide +kernel
theorem dX8_call_25 : decode cX8_call 25 = .ok (.invokevirtual 51, 3) := by decide +kernel
theorem dX8_call_28 : decode cX8_call 28 = .ok (.aload_n 0, 1) := by decide +kernel
theorem dX8_call_29 : decode cX8_call 29 = .ok (.getfield 10, 3) := by decide +kernel
theorem dX8_call_32 : decode cX8_call 32 = .ok (.getfield 81, 3) := by decide +kernel
theorem dX8_call_35 : decode cX8_call 35 = .ok (.getfield 85, 3) := by decide +kernel
theorem dX8_call_38 : decode cX8_call 38 = .ok (.istore_n 1, 1) := by decide +kernel
theorem dX8_call_39 : decode cX8_call 39 = .ok (.aload_n 0, 1) := by decide +kernel
theorem dX8_call_40 : decode cX8_call 40 = .ok (.getfield 10, 3) := by decide +kernel
theorem dX8_call_43 : decode cX8_call 43 = .ok (.getfield 81, 3) := by decide +kernel
theorem dX8_call_46 : decode cX8_call 46 = .ok (.invokevirtual 91, 3) := by decide +kernel
theorem dX8_call_49 : decode cX8_call 49 = .ok (.iload_n 1, 1) := by decide +kernel
theorem dX8_call_50 : decode cX8_call 50 = .ok (.ireturn, 1) := by decide +kernel
set_option maxRecDepth 20000 in
theorem ggX8_serve_X2_record : GoodIn wsX8_serve wsX2_record := goodIn_r _ [10, 11, 12, 13, 14, 15, 9, 16, 17, 18, 19, 20, 21, 22, 23, 24, 25, 26, 27, 28, 29, 30, 31, 32, 33, 34, 35, 36, 37, 38, 39, 40, 41, 42, 43, 44, 45, 46, 47, 48, 49, 50, 51, 52, 53, 54, 55, 56, 57, 58, 59, 60, 61, 62, 63, 64, 65, 66, 67, 68, 69, 70, 71, 72, 73, 74, 75, 76, 77, 78, 79, 98, 99, 86, 87, 88, 89, 90, 91, 100, 101, 102, 103, 104, 105, 106, 107, 108, 109, 110, 92, 93, 94, 95, 96, 97, 111, 112, 113, 114, 115, 116, 117, 118, 119, 120] (by decide +kernel) (by decide +kernel)
set_option maxRecDepth 20000 in
theorem gX8_serve_X2_record : GoodIn wsX8_serve (wsV RX8 51 RX2 yX2_record wsX2_record) := goodIn_app (goodIn_of _ (by decide +kernel)) ggX8_serve_X2_record
theorem dX8_serve_0 : decode cX8_serve 0 = .ok (.aload_n 0, 1) := by decide +kernel
theorem dX8_serve_1 : decode cX8_serve 1 = .ok (.getfield 10, 3) := by decide +kernel
theorem dX8_serve_4 : decode cX8_serve 4 = .ok (.getfield 81, 3) := by decide +kernel
theorem dX8_serve_7 : decode cX8_serve 7 = .ok (.getfield 94, 3) := by decide +kernel
theorem dX8_serve_10 : decode cX8_serve 10 = .ok (.ifCond .ne 6, 3) := by decide +kernel
theorem dX8_serve_13 : decode cX8_serve 13 = .ok (.bipush (-4), 2) := by decide +kernel
theorem dX8_serve_15 : decode cX8_serve 15 = .ok (.ireturn, 1) := by decide +kernel
theorem dX8_serve_16 : decode cX8_serve 16 = .ok (.aload_n 0, 1) := by decide +kernel
theorem dX8_serve_17 : decode cX8_serve 17 = .ok (.getfield 25, 3) := by decide +kernel
theorem dX8_serve_20 : decode cX8_serve 20 = .ok (.aload_n 0, 1) := by decide +kernel
theorem dX8_serve_21 : decode cX8_serve 21 = .ok (.getfield 10, 3) := by decide +kernel
theorem dX8_serve_24 : decode cX8_serve 24 = .ok (.invokevirtual 51, 3) := by decide +kernel
theorem dX8_serve_27 : decode cX8_serve 27 = .ok (.aload_n 0, 1) := by decide +kernel
theorem dX8_serve_28 : decode cX8_serve 28 = .ok (.getfield 10, 3) := by decide +kernel
theorem dX8_serve_31 : decode cX8_serve 31 = .ok (.getfield 81, 3) := by decide +kernel
theorem dX8_serve_34 : decode cX8_serve 34 = .ok (.getfield 98, 3) := by decide +kernel
theorem dX8_serve_37 : decode cX8_serve 37 = .ok (.istore_n 1, 1) := by decide +kernel
theorem dX8_serve_38 : decode cX8_serve 38 = .ok (.aload_n 0, 1) := by decide +kernel
theorem dX8_serve_39 : decode cX8_serve 39 = .ok (.getfield 10, 3) := by decide +kernel
theorem dX8_serve_42 : decode cX8_serve 42 = .ok (.getfield 81, 3) := by decide +kernel
theorem dX8_serve_45 : decode cX8_serve 45 = .ok (.iconst 0, 1) := by decide +kernel
theorem dX8_serve_46 : decode cX8_serve 46 = .ok (.putfield 94, 3) := by decide +kernel
theorem dX8_serve_49 : decode cX8_serve 49 = .ok (.aload_n 0, 1) := by decide +kernel
theorem dX8_serve_50 : decode cX8_serve 50 = .ok (.getfield 10, 3) := by decide +kernel
theorem dX8_serve_53 : decode cX8_serve 53 = .ok (.getfield 81, 3) := by decide +kernel
theorem dX8_serve_56 : decode cX8_serve 56 = .ok (.iconst 0, 1) := by decide +kernel
theorem dX8_serve_57 : decode cX8_serve 57 = .ok (.putfield 98, 3) := by decide +kernel
theorem dX8_serve_60 : decode cX8_serve 60 = .ok (.iload_n 1, 1) := by decide +kernel
theorem dX8_serve_61 : decode cX8_serve 61 = .ok (.ireturn, 1) := by decide +kernel
set_option maxRecDepth 20000 in
theorem ggX8_pass_X2_record : GoodIn wsX8_pass wsX2_record := goodIn_r _ [11, 12, 13, 14, 15, 16, 10, 17, 18, 19, 20, 21, 22, 23, 24, 25, 26, 27, 28, 29, 30, 31, 32, 33, 34, 35, 36, 37, 38, 39, 40, 41, 42, 43, 44, 45, 46, 47, 48, 49, 50, 51, 52, 53, 54, 55, 56, 57, 58, 59, 60, 61, 62, 63, 64, 65, 66, 67, 68, 69, 70, 71, 72, 73, 74, 75, 76, 77, 78, 79, 80, 211, 212, 199, 200, 201, 202, 203, 204, 213, 214, 215, 216, 217, 218, 219, 220, 221, 222, 223, 205, 206, 207, 208, 209, 210, 224, 225, 226, 227, 228, 229, 230, 231, 232, 233] (by decide +kernel) (by decide +kernel)
set_option maxRecDepth 20000 in
theorem gX8_pass_X2_record : GoodIn wsX8_pass (wsV RX8 51 RX2 yX2_record wsX2_record) := goodIn_app (goodIn_of _ (by decide +kernel)) ggX8_pass_X2_record
set_option maxRecDepth 20000 in
theorem ggX8_pass_X5_goThrough : GoodIn wsX8_pass wsX5_goThrough := goodIn_r _ [84, 85, 86, 87, 21, 88, 27, 89, 24, 28, 23, 90, 91, 92, 40, 93, 42, 44, 45, 46, 47, 48, 94, 95, 96, 97, 43, 49, 98, 99, 100, 32, 101, 36, 102, 103, 104, 105, 106, 107, 108, 109, 26, 110, 25, 111, 112, 113, 114, 115, 116, 117, 118, 119, 120, 35, 121, 122, 123, 124, 125, 126, 127, 128, 129, 130, 131, 132, 133, 134, 135, 136, 137, 64, 138, 66, 139, 140, 67, 141, 142, 143, 144, 145, 146, 147, 148, 149, 71, 150, 73, 74, 75, 76, 151, 152, 153, 154, 155, 156, 157, 158, 159, 34, 160, 161, 162, 53, 163, 55, 164, 56, 57, 165, 166, 167, 168, 60, 58, 169, 170, 171, 172, 173, 174, 175, 176, 177, 178, 179, 180, 181, 59, 182, 183, 184, 185, 186, 187, 188, 189, 190, 191, 192, 199, 200, 201, 202, 203, 204, 226, 227, 228, 229, 230, 231, 232, 233, 216, 217, 218, 219, 220, 221, 222, 223, 213, 214, 215, 205, 206, 207, 208, 209, 210, 224, 225] (by decide +kernel) (by decide +kernel)
set_option maxRecDepth 20000 in
theorem gX8_pass_X5_goThrough : GoodIn wsX8_pass (wsV RX8 105 RX5 yX5_goThrough wsX5_goThrough) := goodIn_app (goodIn_of _ (by decide +kernel)) ggX8_pass_X5_goThrough
theorem dX8_pass_0 : decode cX8_pass 0 = .ok (.iload_n 1, 1) := by decide +kernel
theorem dX8_pass_1 : decode cX8_pass 1 = .ok (.ifCond .lt 20, 3) := by decide +kernel
theorem dX8_pass_4 : decode cX8_pass 4 = .ok (.iload_n 1, 1) := by decide +kernel
theorem dX8_pass_5 : decode cX8_pass 5 = .ok (.bipush 7, 2) := by decide +kernel
theorem dX8_pass_7 : decode cX8_pass 7 = .ok (.if_icmp .gt 14, 3) := by decide +kernel
theorem dX8_pass_10 : decode cX8_pass 10 = .ok (.iload_n 2, 1) := by decide +kernel
theorem dX8_pass_11 : decode cX8_pass 11 = .ok (.iconst 1, 1) := by decide +kernel
theorem dX8_pass_12 : decode cX8_pass 12 = .ok (.if_icmp .lt 9, 3) := by decide +kernel
theorem dX8_pass_15 : decode cX8_pass 15 = .ok (.iload_n 2, 1) := by decide +kernel
theorem dX8_pass_16 : decode cX8_pass 16 = .ok (.bipush 99, 2) := by decide +kernel
theorem dX8_pass_18 : decode cX8_pass 18 = .ok (.if_icmp .le 6, 3) := by decide +kernel
theorem dX8_pass_21 : decode cX8_pass 21 = .ok (.bipush (-2), 2) := by decide +kernel
theorem dX8_pass_23 : decode cX8_pass 23 = .ok (.ireturn, 1) := by decide +kernel
theorem dX8_pass_24 : decode cX8_pass 24 = .ok (.aload_n 0, 1) := by decide +kernel
theorem dX8_pass_25 : decode cX8_pass 25 = .ok (.getfield 10, 3) := by decide +kernel
theorem dX8_pass_28 : decode cX8_pass 28 = .ok (.getfield 101, 3) := by decide +kernel
theorem dX8_pass_31 : decode cX8_pass 31 = .ok (.iload_n 2, 1) := by decide +kernel
theorem dX8_pass_32 : decode cX8_pass 32 = .ok (.iadd, 1) := by decide +kernel
theorem dX8_pass_33 : decode cX8_pass 33 = .ok (.ldc 104, 2) := by decide +kernel
theorem dX8_pass_35 : decode cX8_pass 35 = .ok (.if_icmp .le 6, 3) := by decide +kernel
theorem dX8_pass_38 : decode cX8_pass 38 = .ok (.bipush (-3), 2) := by decide +kernel
theorem dX8_pass_40 : decode cX8_pass 40 = .ok (.ireturn, 1) := by decide +kernel
theorem dX8_pass_41 : decode cX8_pass 41 = .ok (.aload_n 0, 1) := by decide +kernel
theorem dX8_pass_42 : decode cX8_pass 42 = .ok (.getfield 25, 3) := by decide +kernel
theorem dX8_pass_45 : decode cX8_pass 45 = .ok (.aload_n 0, 1) := by decide +kernel
theorem dX8_pass_46 : decode cX8_pass 46 = .ok (.getfield 10, 3) := by decide +kernel
theorem dX8_pass_49 : decode cX8_pass 49 = .ok (.invokevirtual 51, 3) := by decide +kernel
theorem dX8_pass_52 : decode cX8_pass 52 = .ok (.aload_n 0, 1) := by decide +kernel
theorem dX8_pass_53 : decode cX8_pass 53 = .ok (.getfield 10, 3) := by decide +kernel
theorem dX8_pass_56 : decode cX8_pass 56 = .ok (.iload_n 1, 1) := by decide +kernel
theorem dX8_pass_57 : decode cX8_pass 57 = .ok (.iload_n 2, 1) := by decide +kernel
theorem dX8_pass_58 : decode cX8_pass 58 = .ok (.invokevirtual 105, 3) := by decide +kernel
theorem dX8_pass_61 : decode cX8_pass 61 = .ok (.aload_n 0, 1) := by decide +kernel
theorem dX8_pass_62 : decode cX8_pass 62 = .ok (.getfield 10, 3) := by decide +kernel
theorem dX8_pass_65 : decode cX8_pass 65 = .ok (.getfield 81, 3) := by decide +kernel
theorem dX8_pass_68 : decode cX8_pass 68 = .ok (.getfield 85, 3) := by decide +kernel
theorem dX8_pass_71 : decode cX8_pass 71 = .ok (.ireturn, 1) := by decide +kernel
set_option maxRecDepth 20000 in
theorem ggX8_readBeams_X0_parse : GoodIn wsX8_readBeams wsX0_parse := goodIn_r _ [11, 12, 13, 14, 15, 16, 10, 17, 18, 19, 20, 21, 22, 23, 24, 25, 26, 27, 28, 29, 30, 31, 32, 33, 34, 35, 36, 37, 38, 39, 40, 41, 249, 250, 251, 252, 253] (by decide +kernel) (by decide +kernel)
set_option maxRecDepth 20000 in
theorem gX8_readBeams_X0_parse : GoodIn wsX8_readBeams (wsV RX8 108 RX0 yX0_parse wsX0_parse) := goodIn_app (goodIn_of _ (by decide +kernel)) ggX8_readBeams_X0_parse
set_option maxRecDepth 20000 in
theorem ggX8_readBeams_X0_ticksOfAllParts : GoodIn wsX8_readBeams wsX0_ticksOfAllParts := goodIn_r _ [45, 12, 38, 39, 40, 10, 41, 33, 249, 250, 251, 252, 253] (by decide +kernel) (by decide +kernel)
set_option maxRecDepth 20000 in
theorem gX8_readBeams_X0_ticksOfAllParts : GoodIn wsX8_readBeams (wsV RX8 112 RX0 yX0_ticksOfAllParts wsX0_ticksOfAllParts) := goodIn_app (goodIn_of _ (by decide +kernel)) ggX8_readBeams_X0_ticksOfAllParts
set_option maxRecDepth 20000 in
theorem ggX8_readBeams_X2_record : GoodIn wsX8_readBeams wsX2_record := goodIn_r _ [50, 51, 52, 53, 54, 55, 49, 56, 57, 58, 59, 60, 61, 62, 63, 64, 65, 66, 67, 68, 69, 70, 71, 72, 73, 74, 75, 76, 77, 78, 79, 80, 81, 82, 83, 84, 85, 86, 87, 88, 89, 90, 91, 92, 93, 94, 95, 96, 97, 98, 99, 100, 101, 102, 103, 104, 105, 106, 107, 108, 109, 110, 111, 112, 113, 114, 115, 116, 117, 118, 119, 254, 255, 243, 244, 245, 246, 247, 248, 256, 257, 258, 259, 260, 261, 262, 263, 264, 265, 266, 267, 268, 269, 270, 271, 272, 273, 274, 275, 276, 277, 278, 279, 280, 281, 282] (by decide +kernel) (by decide +kernel)
set_option maxRecDepth 20000 in
theorem gX8_readBeams_X2_record : GoodIn wsX8_readBeams (wsV RX8 51 RX2 yX2_record wsX2_record) := goodIn_app (goodIn_of _ (by decide +kernel)) ggX8_readBeams_X2_record
set_option maxRecDepth 20000 in
theorem ggX8_readBeams_X0_beamsOf : GoodIn wsX8_readBeams wsX0_beamsOf := goodIn_r _ [123, 32, 249, 250, 251, 252, 253] (by decide +kernel) (by decide +kernel)
set_option maxRecDepth 20000 in
theorem gX8_readBeams_X0_beamsOf : GoodIn wsX8_readBeams (wsV RX8 118 RX0 yX0_beamsOf wsX0_beamsOf) := goodIn_app (goodIn_of _ (by decide +kernel)) ggX8_readBeams_X0_beamsOf
set_option maxRecDepth 20000 in
theorem ggX8_readBeams_X0_ticksOf : GoodIn wsX8_readBeams wsX0_ticksOf := goodIn_r _ [41, 33, 249, 250, 251, 252, 253] (by decide +kernel) (by decide +kernel)
set_option maxRecDepth 20000 in
theorem gX8_readBeams_X0_ticksOf : GoodIn wsX8_readBeams (wsV RX8 121 RX0 yX0_ticksOf wsX0_ticksOf) := goodIn_app (goodIn_of _ (by decide +kernel)) ggX8_readBeams_X0_ticksOf
set_option maxRecDepth 20000 in
theorem ggX8_readBeams_X5_goThrough : GoodIn wsX8_readBeams wsX5_goThrough := goodIn_r _ [128, 129, 130, 131, 60, 132, 66, 133, 63, 67, 62, 134, 135, 136, 79, 137, 81, 83, 84, 85, 86, 87, 138, 139, 140, 141, 82, 88, 142, 143, 144, 71, 145, 75, 146, 147, 148, 149, 150, 151, 152, 153, 65, 154, 64, 155, 156, 157, 158, 159, 160, 161, 162, 163, 164, 74, 165, 166, 167, 168, 169, 170, 171, 172, 173, 174, 175, 176, 177, 178, 179, 180, 181, 103, 182, 105, 183, 184, 106, 185, 186, 187, 188, 189, 190, 191, 192, 193, 110, 194, 112, 113, 114, 115, 195, 196, 197, 198, 199, 200, 201, 202, 203, 73, 204, 205, 206, 92, 207, 94, 208, 95, 96, 209, 210, 211, 212, 99, 97, 213, 214, 215, 216, 217, 218, 219, 220, 221, 222, 223, 224, 225, 98, 226, 227, 228, 229, 230, 231, 232, 233, 234, 235, 236, 243, 244, 245, 246, 247, 248, 275, 276, 277, 278, 279, 280, 281, 282, 259, 260, 261, 262, 263, 264, 265, 266, 256, 257, 258, 267, 268, 269, 270, 271, 272, 273, 274] (by decide +kernel) (by decide +kernel)
set_option maxRecDepth 20000 in
theorem gX8_readBeams_X5_goThrough : GoodIn wsX8_readBeams (wsV RX8 105 RX5 yX5_goThrough wsX5_goThrough) := goodIn_app (goodIn_of _ (by decide +kernel)) ggX8_readBeams_X5_goThrough
theorem dX8_readBeams_0 : decode cX8_readBeams 0 = .ok (.aload_n 0, 1) := by decide +kernel
theorem dX8_readBeams_1 : decode cX8_readBeams 1 = .ok (.getfield 32, 3) := by decide +kernel
theorem dX8_readBeams_4 : decode cX8_readBeams 4 = .ok (.invokevirtual 108, 3) := by decide +kernel
theorem dX8_readBeams_7 : decode cX8_readBeams 7 = .ok (.istore_n 1, 1) := by decide +kernel
theorem dX8_readBeams_8 : decode cX8_readBeams 8 = .ok (.iload_n 1, 1) := by decide +kernel
theorem dX8_readBeams_9 : decode cX8_readBeams 9 = .ok (.iconst (-1), 1) := by decide +kernel
theorem dX8_readBeams_10 : decode cX8_readBeams 10 = .ok (.if_icmp .eq 8, 3) := by decide +kernel
theorem dX8_readBeams_13 : decode cX8_readBeams 13 = .ok (.bipush (-100), 2) := by decide +kernel
theorem dX8_readBeams_15 : decode cX8_readBeams 15 = .ok (.iload_n 1, 1) := by decide +kernel
theorem dX8_readBeams_16 : decode cX8_readBeams 16 = .ok (.isub, 1) := by decide +kernel
theorem dX8_readBeams_17 : decode cX8_readBeams 17 = .ok (.ireturn, 1) := by decide +kernel
theorem dX8_readBeams_18 : decode cX8_readBeams 18 = .ok (.aload_n 0, 1) := by decide +kernel
theorem dX8_readBeams_19 : decode cX8_readBeams 19 = .ok (.getfield 32, 3) := by decide +kernel
theorem dX8_readBeams_22 : decode cX8_readBeams 22 = .ok (.invokevirtual 112, 3) := by decide +kernel
theorem dX8_readBeams_25 : decode cX8_readBeams 25 = .ok (.istore_n 2, 1) := by decide +kernel
theorem dX8_readBeams_26 : decode cX8_readBeams 26 = .ok (.aload_n 0, 1) := by decide +kernel
theorem dX8_readBeams_27 : decode cX8_readBeams 27 = .ok (.getfield 10, 3) := by decide +kernel
theorem dX8_readBeams_30 : decode cX8_readBeams 30 = .ok (.getfield 101, 3) := by decide +kernel
theorem dX8_readBeams_33 : decode cX8_readBeams 33 = .ok (.iload_n 2, 1) := by decide +kernel
theorem dX8_readBeams_34 : decode cX8_readBeams 34 = .ok (.iadd, 1) := by decide +kernel
theorem dX8_readBeams_35 : decode cX8_readBeams 35 = .ok (.ldc 104, 2) := by decide +kernel
theorem dX8_readBeams_37 : decode cX8_readBeams 37 = .ok (.if_icmp .le 6, 3) := by decide +kernel
theorem dX8_readBeams_40 : decode cX8_readBeams 40 = .ok (.bipush (-3), 2) := by decide +kernel
theorem dX8_readBeams_42 : decode cX8_readBeams 42 = .ok (.ireturn, 1) := by decide +kernel
theorem dX8_readBeams_43 : decode cX8_readBeams 43 = .ok (.aload_n 0, 1) := by decide +kernel
theorem dX8_readBeams_44 : decode cX8_readBeams 44 = .ok (.getfield 25, 3) := by decide +kernel
theorem dX8_readBeams_47 : decode cX8_readBeams 47 = .ok (.aload_n 0, 1) := by decide +kernel
theorem dX8_readBeams_48 : decode cX8_readBeams 48 = .ok (.getfield 10, 3) := by decide +kernel
theorem dX8_readBeams_51 : decode cX8_readBeams 51 = .ok (.invokevirtual 51, 3) := by decide +kernel
theorem dX8_readBeams_54 : decode cX8_readBeams 54 = .ok (.iconst 0, 1) := by decide +kernel
theorem dX8_readBeams_55 : decode cX8_readBeams 55 = .ok (.istore_n 3, 1) := by decide +kernel
theorem dX8_readBeams_56 : decode cX8_readBeams 56 = .ok (.iload_n 3, 1) := by decide +kernel
theorem dX8_readBeams_57 : decode cX8_readBeams 57 = .ok (.aload_n 0, 1) := by decide +kernel
theorem dX8_readBeams_58 : decode cX8_readBeams 58 = .ok (.getfield 32, 3) := by decide +kernel
theorem dX8_readBeams_61 : decode cX8_readBeams 61 = .ok (.getfield 115, 3) := by decide +kernel
theorem dX8_readBeams_64 : decode cX8_readBeams 64 = .ok (.if_icmp .ge 32, 3) := by decide +kernel
theorem dX8_readBeams_67 : decode cX8_readBeams 67 = .ok (.aload_n 0, 1) := by decide +kernel
theorem dX8_readBeams_68 : decode cX8_readBeams 68 = .ok (.getfield 10, 3) := by decide +kernel
theorem dX8_readBeams_71 : decode cX8_readBeams 71 = .ok (.aload_n 0, 1) := by decide +kernel
theorem dX8_readBeams_72 : decode cX8_readBeams 72 = .ok (.getfield 32, 3) := by decide +kernel
theorem dX8_readBeams_75 : decode cX8_readBeams 75 = .ok (.iload_n 3, 1) := by decide +kernel
theorem dX8_readBeams_76 : decode cX8_readBeams 76 = .ok (.invokevirtual 118, 3) := by decide +kernel
theorem dX8_readBeams_79 : decode cX8_readBeams 79 = .ok (.aload_n 0, 1) := by decide +kernel
theorem dX8_readBeams_80 : decode cX8_readBeams 80 = .ok (.getfield 32, 3) := by decide +kernel
theorem dX8_readBeams_83 : decode cX8_readBeams 83 = .ok (.iload_n 3, 1) := by decide +kernel
theorem dX8_readBeams_84 : decode cX8_readBeams 84 = .ok (.invokevirtual 121, 3) := by decide +kernel
theorem dX8_readBeams_87 : decode cX8_readBeams 87 = .ok (.invokevirtual 105, 3) := by decide +kernel
theorem dX8_readBeams_90 : decode cX8_readBeams 90 = .ok (.iinc 3 1, 3) := by decide +kernel
theorem dX8_readBeams_93 : decode cX8_readBeams 93 = .ok (.goto (-37), 3) := by decide +kernel
theorem dX8_readBeams_96 : decode cX8_readBeams 96 = .ok (.iload_n 2, 1) := by decide +kernel
theorem dX8_readBeams_97 : decode cX8_readBeams 97 = .ok (.ireturn, 1) := by decide +kernel
set_option maxRecDepth 20000 in
theorem ggX8_type_X0_append : GoodIn wsX8_type wsX0_append := goodIn_r _ [7, 8, 9, 16, 17, 18, 19, 20] (by decide +kernel) (by decide +kernel)
set_option maxRecDepth 20000 in
theorem gX8_type_X0_append : GoodIn wsX8_type (wsV RX8 124 RX0 yX0_append wsX0_append) := goodIn_app (goodIn_of _ (by decide +kernel)) ggX8_type_X0_append
theorem dX8_type_0 : decode cX8_type 0 = .ok (.aload_n 0, 1) := by decide +kernel
theorem dX8_type_1 : decode cX8_type 1 = .ok (.getfield 32, 3) := by decide +kernel
theorem dX8_type_4 : decode cX8_type 4 = .ok (.iload_n 1, 1) := by decide +kernel
theorem dX8_type_5 : decode cX8_type 5 = .ok (.invokevirtual 124, 3) := by decide +kernel
theorem dX8_type_8 : decode cX8_type 8 = .ok (.ifCond .eq 13, 3) := by decide +kernel
theorem dX8_type_11 : decode cX8_type 11 = .ok (.aload_n 0, 1) := by decide +kernel
theorem dX8_type_12 : decode cX8_type 12 = .ok (.getfield 32, 3) := by decide +kernel
theorem dX8_type_15 : decode cX8_type 15 = .ok (.getfield 128, 3) := by decide +kernel
theorem dX8_type_18 : decode cX8_type 18 = .ok (.goto 5, 3) := by decide +kernel
theorem dX8_type_21 : decode cX8_type 21 = .ok (.bipush (-3), 2) := by decide +kernel
theorem dX8_type_23 : decode cX8_type 23 = .ok (.ireturn, 1) := by decide +kernel
theorem dX8_clearText_0 : decode cX8_clearText 0 = .ok (.aload_n 0, 1) := by decide +kernel
theorem dX8_clearText_1 : decode cX8_clearText 1 = .ok (.getfield 32, 3) := by decide +kernel
theorem dX8_clearText_4 : decode cX8_clearText 4 = .ok (.getfield 128, 3) := by decide +kernel
theorem dX8_clearText_7 : decode cX8_clearText 7 = .ok (.istore_n 1, 1) := by decide +kernel
theorem dX8_clearText_8 : decode cX8_clearText 8 = .ok (.aload_n 0, 1) := by decide +kernel
theorem dX8_clearText_9 : decode cX8_clearText 9 = .ok (.getfield 32, 3) := by decide +kernel
theorem dX8_clearText_12 : decode cX8_clearText 12 = .ok (.iconst 0, 1) := by decide +kernel
theorem dX8_clearText_13 : decode cX8_clearText 13 = .ok (.putfield 128, 3) := by decide +kernel
theorem dX8_clearText_16 : decode cX8_clearText 16 = .ok (.iload_n 1, 1) := by decide +kernel
theorem dX8_clearText_17 : decode cX8_clearText 17 = .ok (.ireturn, 1) := by decide +kernel
set_option maxRecDepth 20000 in
theorem ggX8_undo_X2_takeBack : GoodIn wsX8_undo wsX2_takeBack := goodIn_r _ [8, 9, 10, 11, 12, 13, 14, 15, 16, 17, 18, 19, 20, 21, 22, 23, 24, 25, 26, 27, 28, 29, 30, 31, 32, 33, 34, 35, 36, 37, 38, 39, 40, 41, 42, 43, 44, 45, 46, 47, 48, 49, 50, 51, 52, 53, 54, 55, 56, 57, 58, 59, 60, 61, 62, 63, 64, 65, 66, 67, 68, 69, 70, 71, 72, 73, 80, 81, 82, 83, 84, 85, 86, 87, 88, 89, 90, 91, 92, 93, 94, 95, 96, 97, 98, 99, 100, 101, 102, 103, 104, 105, 106, 107, 108, 109, 110, 111, 112, 113, 114] (by decide +kernel) (by decide +kernel)
set_option maxRecDepth 20000 in
theorem gX8_undo_X2_takeBack : GoodIn wsX8_undo (wsV RX8 131 RX2 yX2_takeBack wsX2_takeBack) := goodIn_app (goodIn_of _ (by decide +kernel)) ggX8_undo_X2_takeBack
theorem dX8_undo_0 : decode cX8_undo 0 = .ok (.aload_n 0, 1) := by decide +kernel
theorem dX8_undo_1 : decode cX8_undo 1 = .ok (.getfield 25, 3) := by decide +kernel
theorem dX8_undo_4 : decode cX8_undo 4 = .ok (.aload_n 0, 1) := by decide +kernel
theorem dX8_undo_5 : decode cX8_undo 5 = .ok (.getfield 10, 3) := by decide +kernel
theorem dX8_undo_8 : decode cX8_undo 8 = .ok (.invokevirtual 131, 3) := by decide +kernel
theorem dX8_undo_11 : decode cX8_undo 11 = .ok (.ifCond .eq 13, 3) := by decide +kernel
theorem dX8_undo_14 : decode cX8_undo 14 = .ok (.aload_n 0, 1) := by decide +kernel
theorem dX8_undo_15 : decode cX8_undo 15 = .ok (.getfield 25, 3) := by decide +kernel
theorem dX8_undo_18 : decode cX8_undo 18 = .ok (.getfield 135, 3) := by decide +kernel
theorem dX8_undo_21 : decode cX8_undo 21 = .ok (.goto 5, 3) := by decide +kernel
theorem dX8_undo_24 : decode cX8_undo 24 = .ok (.bipush (-5), 2) := by decide +kernel
theorem dX8_undo_26 : decode cX8_undo 26 = .ok (.ireturn, 1) := by decide +kernel
theorem dX8_place_0 : decode cX8_place 0 = .ok (.aload_n 0, 1) := by decide +kernel
theorem dX8_place_1 : decode cX8_place 1 = .ok (.getfield 10, 3) := by decide +kernel
theorem dX8_place_4 : decode cX8_place 4 = .ok (.getfield 81, 3) := by decide +kernel
theorem dX8_place_7 : decode cX8_place 7 = .ok (.getfield 144, 3) := by decide +kernel
theorem dX8_place_10 : decode cX8_place 10 = .ok (.freturn, 1) := by decide +kernel
set_option maxRecDepth 20000 in
theorem ggX8_speed_X5_speedOfClosing : GoodIn wsX8_speed wsX5_speedOfClosing := goodIn_r _ [7, 8, 9, 10, 11, 12, 13, 14, 15, 16, 32, 33, 34, 35, 36, 37, 38, 39, 40, 41, 42, 43, 44, 45, 46] (by decide +kernel) (by decide +kernel)
set_option maxRecDepth 20000 in
theorem gX8_speed_X5_speedOfClosing : GoodIn wsX8_speed (wsV RX8 148 RX5 yX5_speedOfClosing wsX5_speedOfClosing) := goodIn_app (goodIn_of _ (by decide +kernel)) ggX8_speed_X5_speedOfClosing
set_option maxRecDepth 20000 in
theorem ggX8_speed_X4_speedFor : GoodIn wsX8_speed wsX4_speedFor := goodIn_r _ [20, 21, 22, 23, 24, 25, 44, 45, 46] (by decide +kernel) (by decide +kernel)
set_option maxRecDepth 20000 in
theorem gX8_speed_X4_speedFor : GoodIn wsX8_speed (wsV RX8 46 RX4 yX4_speedFor wsX4_speedFor) := goodIn_app (goodIn_of _ (by decide +kernel)) ggX8_speed_X4_speedFor
theorem dX8_speed_0 : decode cX8_speed 0 = .ok (.aload_n 0, 1) := by decide +kernel
theorem dX8_speed_1 : decode cX8_speed 1 = .ok (.getfield 10, 3) := by decide +kernel
theorem dX8_speed_4 : decode cX8_speed 4 = .ok (.getfield 42, 3) := by decide +kernel
theorem dX8_speed_7 : decode cX8_speed 7 = .ok (.iload_n 1, 1) := by decide +kernel
theorem dX8_speed_8 : decode cX8_speed 8 = .ok (.iconst 3, 1) := by decide +kernel
theorem dX8_speed_9 : decode cX8_speed 9 = .ok (.if_icmp .ne 13, 3) := by decide +kernel
theorem dX8_speed_12 : decode cX8_speed 12 = .ok (.aload_n 0, 1) := by decide +kernel
theorem dX8_speed_13 : decode cX8_speed 13 = .ok (.getfield 10, 3) := by decide +kernel
theorem dX8_speed_16 : decode cX8_speed 16 = .ok (.invokevirtual 148, 3) := by decide +kernel
theorem dX8_speed_19 : decode cX8_speed 19 = .ok (.goto 4, 3) := by decide +kernel
theorem dX8_speed_22 : decode cX8_speed 22 = .ok (.iload_n 1, 1) := by decide +kernel
theorem dX8_speed_23 : decode cX8_speed 23 = .ok (.invokevirtual 46, 3) := by decide +kernel
theorem dX8_speed_26 : decode cX8_speed 26 = .ok (.freturn, 1) := by decide +kernel
set_option maxRecDepth 20000 in
theorem ggX8_weight_X4_weightOf : GoodIn wsX8_weight wsX4_weightOf := goodIn_r _ [7, 8, 9, 10, 11, 12, 25, 26, 27] (by decide +kernel) (by decide +kernel)
set_option maxRecDepth 20000 in
theorem gX8_weight_X4_weightOf : GoodIn wsX8_weight (wsV RX8 60 RX4 yX4_weightOf wsX4_weightOf) := goodIn_app (goodIn_of _ (by decide +kernel)) ggX8_weight_X4_weightOf
theorem dX8_weight_0 : decode cX8_weight 0 = .ok (.aload_n 0, 1) := by decide +kernel
theorem dX8_weight_1 : decode cX8_weight 1 = .ok (.getfield 10, 3) := by decide +kernel
theorem dX8_weight_4 : decode cX8_weight 4 = .ok (.getfield 42, 3) := by decide +kernel
theorem dX8_weight_7 : decode cX8_weight 7 = .ok (.iload_n 1, 1) := by decide +kernel
theorem dX8_weight_8 : decode cX8_weight 8 = .ok (.invokevirtual 60, 3) := by decide +kernel
theorem dX8_weight_11 : decode cX8_weight 11 = .ok (.freturn, 1) := by decide +kernel
set_option maxRecDepth 20000 in
theorem ggX8_score_X8_notANumber : GoodIn wsX8_score wsX8_notANumber := goodIn_r _ [8, 9] (by decide +kernel) (by decide +kernel)
set_option maxRecDepth 20000 in
theorem gX8_score_X8_notANumber : GoodIn wsX8_score (va_wsS RX8 160 yX8_notANumber wsX8_notANumber) := goodIn_app (goodIn_of _ (by decide +kernel)) ggX8_score_X8_notANumber
set_option maxRecDepth 20000 in
theorem ggX8_score_X4_weightOf : GoodIn wsX8_score wsX4_weightOf := goodIn_r _ [14, 15, 6, 7, 8, 9, 51, 52, 53] (by decide +kernel) (by decide +kernel)
set_option maxRecDepth 20000 in
theorem gX8_score_X4_weightOf : GoodIn wsX8_score (wsV RX8 60 RX4 yX4_weightOf wsX4_weightOf) := goodIn_app (goodIn_of _ (by decide +kernel)) ggX8_score_X4_weightOf
set_option maxRecDepth 20000 in
theorem ggX8_score_X7_product : GoodIn wsX8_score wsX7_product := goodIn_r _ [20, 21, 22, 23, 19, 24, 25, 26, 27, 28, 29, 30, 43, 44, 45, 46, 47, 48, 49, 50] (by decide +kernel) (by decide +kernel)
set_option maxRecDepth 20000 in
theorem gX8_score_X7_product : GoodIn wsX8_score (wsV RX8 164 RX7 yX7_product wsX7_product) := goodIn_app (goodIn_of _ (by decide +kernel)) ggX8_score_X7_product
theorem dX8_score_0 : decode cX8_score 0 = .ok (.iload_n 1, 1) := by decide +kernel
theorem dX8_score_1 : decode cX8_score 1 = .ok (.ifCond .lt 21, 3) := by decide +kernel
theorem dX8_score_4 : decode cX8_score 4 = .ok (.iload_n 1, 1) := by decide +kernel
theorem dX8_score_5 : decode cX8_score 5 = .ok (.iconst 4, 1) := by decide +kernel
theorem dX8_score_6 : decode cX8_score 6 = .ok (.if_icmp .ge 16, 3) := by decide +kernel
theorem dX8_score_9 : decode cX8_score 9 = .ok (.aload_n 0, 1) := by decide +kernel
theorem dX8_score_10 : decode cX8_score 10 = .ok (.getfield 10, 3) := by decide +kernel
theorem dX8_score_13 : decode cX8_score 13 = .ok (.getfield 151, 3) := by decide +kernel
theorem dX8_score_16 : decode cX8_score 16 = .ok (.getfield 155, 3) := by decide +kernel
theorem dX8_score_19 : decode cX8_score 19 = .ok (.ifCond .ne 7, 3) := by decide +kernel
theorem dX8_score_22 : decode cX8_score 22 = .ok (.invokestatic 160, 3) := by decide +kernel
theorem dX8_score_25 : decode cX8_score 25 = .ok (.freturn, 1) := by decide +kernel
theorem dX8_score_26 : decode cX8_score 26 = .ok (.aload_n 0, 1) := by decide +kernel
theorem dX8_score_27 : decode cX8_score 27 = .ok (.getfield 10, 3) := by decide +kernel
theorem dX8_score_30 : decode cX8_score 30 = .ok (.getfield 151, 3) := by decide +kernel
theorem dX8_score_33 : decode cX8_score 33 = .ok (.iload_n 1, 1) := by decide +kernel
theorem dX8_score_34 : decode cX8_score 34 = .ok (.aload_n 0, 1) := by decide +kernel
theorem dX8_score_35 : decode cX8_score 35 = .ok (.getfield 10, 3) := by decide +kernel
theorem dX8_score_38 : decode cX8_score 38 = .ok (.getfield 42, 3) := by decide +kernel
theorem dX8_score_41 : decode cX8_score 41 = .ok (.iload_n 1, 1) := by decide +kernel
theorem dX8_score_42 : decode cX8_score 42 = .ok (.invokevirtual 60, 3) := by decide +kernel
theorem dX8_score_45 : decode cX8_score 45 = .ok (.invokevirtual 164, 3) := by decide +kernel
theorem dX8_score_48 : decode cX8_score 48 = .ok (.freturn, 1) := by decide +kernel
set_option maxRecDepth 20000 in
theorem ggX8_number_X4_numberOf : GoodIn wsX8_number wsX4_numberOf := goodIn_r _ [7, 8, 21, 22, 23] (by decide +kernel) (by decide +kernel)
set_option maxRecDepth 20000 in
theorem gX8_number_X4_numberOf : GoodIn wsX8_number (wsV RX8 73 RX4 yX4_numberOf wsX4_numberOf) := goodIn_app (goodIn_of _ (by decide +kernel)) ggX8_number_X4_numberOf
theorem dX8_number_0 : decode cX8_number 0 = .ok (.aload_n 0, 1) := by decide +kernel
theorem dX8_number_1 : decode cX8_number 1 = .ok (.getfield 10, 3) := by decide +kernel
theorem dX8_number_4 : decode cX8_number 4 = .ok (.getfield 42, 3) := by decide +kernel
theorem dX8_number_7 : decode cX8_number 7 = .ok (.iload_n 1, 1) := by decide +kernel
theorem dX8_number_8 : decode cX8_number 8 = .ok (.invokevirtual 73, 3) := by decide +kernel
theorem dX8_number_11 : decode cX8_number 11 = .ok (.ireturn, 1) := by decide +kernel
set_option maxRecDepth 20000 in
theorem ggX8_door_X8_oneIf : GoodIn wsX8_door wsX8_oneIf := goodIn_r _ [12] (by decide +kernel) (by decide +kernel)
set_option maxRecDepth 20000 in
theorem gX8_door_X8_oneIf : GoodIn wsX8_door (va_wsS RX8 168 yX8_oneIf wsX8_oneIf) := goodIn_app (goodIn_of _ (by decide +kernel)) ggX8_door_X8_oneIf
theorem dX8_door_0 : decode cX8_door 0 = .ok (.iload_n 1, 1) := by decide +kernel
theorem dX8_door_1 : decode cX8_door 1 = .ok (.tableswitch 145 0 5 #[39, 50, 61, 75, 104, 133], 39) := by decide +kernel
theorem dX8_door_40 : decode cX8_door 40 = .ok (.aload_n 0, 1) := by decide +kernel
theorem dX8_door_41 : decode cX8_door 41 = .ok (.getfield 10, 3) := by decide +kernel
theorem dX8_door_44 : decode cX8_door 44 = .ok (.getfield 81, 3) := by decide +kernel
theorem dX8_door_47 : decode cX8_door 47 = .ok (.getfield 85, 3) := by decide +kernel
theorem dX8_door_50 : decode cX8_door 50 = .ok (.ireturn, 1) := by decide +kernel
theorem dX8_door_51 : decode cX8_door 51 = .ok (.aload_n 0, 1) := by decide +kernel
theorem dX8_door_52 : decode cX8_door 52 = .ok (.getfield 10, 3) := by decide +kernel
theorem dX8_door_55 : decode cX8_door 55 = .ok (.getfield 81, 3) := by decide +kernel
theorem dX8_door_58 : decode cX8_door 58 = .ok (.getfield 98, 3) := by decide +kernel
theorem dX8_door_61 : decode cX8_door 61 = .ok (.ireturn, 1) := by decide +kernel
theorem dX8_door_62 : decode cX8_door 62 = .ok (.aload_n 0, 1) := by decide +kernel
theorem dX8_door_63 : decode cX8_door 63 = .ok (.getfield 10, 3) := by decide +kernel
theorem dX8_door_66 : decode cX8_door 66 = .ok (.getfield 81, 3) := by decide +kernel
theorem dX8_door_69 : decode cX8_door 69 = .ok (.getfield 94, 3) := by decide +kernel
theorem dX8_door_72 : decode cX8_door 72 = .ok (.invokestatic 168, 3) := by decide +kernel
theorem dX8_door_75 : decode cX8_door 75 = .ok (.ireturn, 1) := by decide +kernel
theorem dX8_door_76 : decode cX8_door 76 = .ok (.aload_n 0, 1) := by decide +kernel
theorem dX8_door_77 : decode cX8_door 77 = .ok (.getfield 10, 3) := by decide +kernel
theorem dX8_door_80 : decode cX8_door 80 = .ok (.getfield 81, 3) := by decide +kernel
theorem dX8_door_83 : decode cX8_door 83 = .ok (.getfield 85, 3) := by decide +kernel
theorem dX8_door_86 : decode cX8_door 86 = .ok (.iconst 2, 1) := by decide +kernel
theorem dX8_door_87 : decode cX8_door 87 = .ok (.if_icmp .ne 16, 3) := by decide +kernel
theorem dX8_door_90 : decode cX8_door 90 = .ok (.aload_n 0, 1) := by decide +kernel
theorem dX8_door_91 : decode cX8_door 91 = .ok (.getfield 10, 3) := by decide +kernel
theorem dX8_door_94 : decode cX8_door 94 = .ok (.getfield 81, 3) := by decide +kernel
theorem dX8_door_97 : decode cX8_door 97 = .ok (.getfield 172, 3) := by decide +kernel
theorem dX8_door_100 : decode cX8_door 100 = .ok (.goto 4, 3) := by decide +kernel
theorem dX8_door_103 : decode cX8_door 103 = .ok (.iconst 0, 1) := by decide +kernel
theorem dX8_door_104 : decode cX8_door 104 = .ok (.ireturn, 1) := by decide +kernel
theorem dX8_door_105 : decode cX8_door 105 = .ok (.aload_n 0, 1) := by decide +kernel
theorem dX8_door_106 : decode cX8_door 106 = .ok (.getfield 10, 3) := by decide +kernel
theorem dX8_door_109 : decode cX8_door 109 = .ok (.getfield 81, 3) := by decide +kernel
theorem dX8_door_112 : decode cX8_door 112 = .ok (.getfield 85, 3) := by decide +kernel
theorem dX8_door_115 : decode cX8_door 115 = .ok (.iconst 3, 1) := by decide +kernel
theorem dX8_door_116 : decode cX8_door 116 = .ok (.if_icmp .ne 16, 3) := by decide +kernel
theorem dX8_door_119 : decode cX8_door 119 = .ok (.aload_n 0, 1) := by decide +kernel
theorem dX8_door_120 : decode cX8_door 120 = .ok (.getfield 10, 3) := by decide +kernel
theorem dX8_door_123 : decode cX8_door 123 = .ok (.getfield 81, 3) := by decide +kernel
theorem dX8_door_126 : decode cX8_door 126 = .ok (.getfield 175, 3) := by decide +kernel
theorem dX8_door_129 : decode cX8_door 129 = .ok (.goto 4, 3) := by decide +kernel
theorem dX8_door_132 : decode cX8_door 132 = .ok (.iconst 0, 1) := by decide +kernel
theorem dX8_door_133 : decode cX8_door 133 = .ok (.ireturn, 1) := by decide +kernel
theorem dX8_door_134 : decode cX8_door 134 = .ok (.aload_n 0, 1) := by decide +kernel
theorem dX8_door_135 : decode cX8_door 135 = .ok (.getfield 10, 3) := by decide +kernel
theorem dX8_door_138 : decode cX8_door 138 = .ok (.getfield 81, 3) := by decide +kernel
theorem dX8_door_141 : decode cX8_door 141 = .ok (.getfield 144, 3) := by decide +kernel
theorem dX8_door_144 : decode cX8_door 144 = .ok (.f2i, 1) := by decide +kernel
theorem dX8_door_145 : decode cX8_door 145 = .ok (.ireturn, 1) := by decide +kernel
theorem dX8_door_146 : decode cX8_door 146 = .ok (.bipush (-2), 2) := by decide +kernel
theorem dX8_door_148 : decode cX8_door 148 = .ok (.ireturn, 1) := by decide +kernel
set_option maxRecDepth 20000 in
theorem ggX8_thing_X8_oneIf : GoodIn wsX8_thing wsX8_oneIf := goodIn_r _ [15] (by decide +kernel) (by decide +kernel)
set_option maxRecDepth 20000 in
theorem gX8_thing_X8_oneIf : GoodIn wsX8_thing (va_wsS RX8 168 yX8_oneIf wsX8_oneIf) := goodIn_app (goodIn_of _ (by decide +kernel)) ggX8_thing_X8_oneIf
set_option maxRecDepth 20000 in
theorem ggX8_thing_X7_likeliestKind : GoodIn wsX8_thing wsX7_likeliestKind := goodIn_r _ [20, 21, 22, 23, 24, 25, 26, 27, 14, 28, 29, 30, 31, 32, 19, 33, 34, 35, 36, 37, 38, 39, 40, 41, 42, 43, 64, 65, 66, 56, 57, 58, 59, 60, 61, 62, 63] (by decide +kernel) (by decide +kernel)
set_option maxRecDepth 20000 in
theorem gX8_thing_X7_likeliestKind : GoodIn wsX8_thing (wsV RX8 197 RX7 yX7_likeliestKind wsX7_likeliestKind) := goodIn_app (goodIn_of _ (by decide +kernel)) ggX8_thing_X7_likeliestKind
theorem dX8_thing_0 : decode cX8_thing 0 = .ok (.iload_n 1, 1) := by decide +kernel
theorem dX8_thing_1 : decode cX8_thing 1 = .ok (.ifCond .lt 9, 3) := by decide +kernel
theorem dX8_thing_4 : decode cX8_thing 4 = .ok (.iload_n 1, 1) := by decide +kernel
theorem dX8_thing_5 : decode cX8_thing 5 = .ok (.bipush 7, 2) := by decide +kernel
theorem dX8_thing_7 : decode cX8_thing 7 = .ok (.if_icmp .le 6, 3) := by decide +kernel
theorem dX8_thing_10 : decode cX8_thing 10 = .ok (.bipush (-2), 2) := by decide +kernel
theorem dX8_thing_12 : decode cX8_thing 12 = .ok (.ireturn, 1) := by decide +kernel
theorem dX8_thing_13 : decode cX8_thing 13 = .ok (.aload_n 0, 1) := by decide +kernel
theorem dX8_thing_14 : decode cX8_thing 14 = .ok (.getfield 10, 3) := by decide +kernel
theorem dX8_thing_17 : decode cX8_thing 17 = .ok (.getfield 151, 3) := by decide +kernel
theorem dX8_thing_20 : decode cX8_thing 20 = .ok (.getfield 155, 3) := by decide +kernel
theorem dX8_thing_23 : decode cX8_thing 23 = .ok (.ifCond .ne 6, 3) := by decide +kernel
theorem dX8_thing_26 : decode cX8_thing 26 = .ok (.bipush (-5), 2) := by decide +kernel
theorem dX8_thing_28 : decode cX8_thing 28 = .ok (.ireturn, 1) := by decide +kernel
theorem dX8_thing_29 : decode cX8_thing 29 = .ok (.iload_n 1, 1) := by decide +kernel
theorem dX8_thing_30 : decode cX8_thing 30 = .ok (.tableswitch 122 0 6 #[42, 53, 64, 75, 86, 97, 108], 42) := by decide +kernel
theorem dX8_thing_72 : decode cX8_thing 72 = .ok (.aload_n 0, 1) := by decide +kernel
theorem dX8_thing_73 : decode cX8_thing 73 = .ok (.getfield 10, 3) := by decide +kernel
theorem dX8_thing_76 : decode cX8_thing 76 = .ok (.getfield 151, 3) := by decide +kernel
theorem dX8_thing_79 : decode cX8_thing 79 = .ok (.getfield 178, 3) := by decide +kernel
theorem dX8_thing_82 : decode cX8_thing 82 = .ok (.ireturn, 1) := by decide +kernel
theorem dX8_thing_83 : decode cX8_thing 83 = .ok (.aload_n 0, 1) := by decide +kernel
theorem dX8_thing_84 : decode cX8_thing 84 = .ok (.getfield 10, 3) := by decide +kernel
theorem dX8_thing_87 : decode cX8_thing 87 = .ok (.getfield 151, 3) := by decide +kernel
theorem dX8_thing_90 : decode cX8_thing 90 = .ok (.getfield 179, 3) := by decide +kernel
theorem dX8_thing_93 : decode cX8_thing 93 = .ok (.ireturn, 1) := by decide +kernel
theorem dX8_thing_94 : decode cX8_thing 94 = .ok (.aload_n 0, 1) := by decide +kernel
theorem dX8_thing_95 : decode cX8_thing 95 = .ok (.getfield 10, 3) := by decide +kernel
theorem dX8_thing_98 : decode cX8_thing 98 = .ok (.getfield 151, 3) := by decide +kernel
theorem dX8_thing_101 : decode cX8_thing 101 = .ok (.getfield 182, 3) := by decide +kernel
theorem dX8_thing_104 : decode cX8_thing 104 = .ok (.ireturn, 1) := by decide +kernel
theorem dX8_thing_105 : decode cX8_thing 105 = .ok (.aload_n 0, 1) := by decide +kernel
theorem dX8_thing_106 : decode cX8_thing 106 = .ok (.getfield 10, 3) := by decide +kernel
theorem dX8_thing_109 : decode cX8_thing 109 = .ok (.getfield 151, 3) := by decide +kernel
theorem dX8_thing_112 : decode cX8_thing 112 = .ok (.getfield 185, 3) := by decide +kernel
theorem dX8_thing_115 : decode cX8_thing 115 = .ok (.ireturn, 1) := by decide +kernel
theorem dX8_thing_116 : decode cX8_thing 116 = .ok (.aload_n 0, 1) := by decide +kernel
theorem dX8_thing_117 : decode cX8_thing 117 = .ok (.getfield 10, 3) := by decide +kernel
theorem dX8_thing_120 : decode cX8_thing 120 = .ok (.getfield 151, 3) := by decide +kernel
theorem dX8_thing_123 : decode cX8_thing 123 = .ok (.getfield 188, 3) := by decide +kernel
theorem dX8_thing_126 : decode cX8_thing 126 = .ok (.ireturn, 1) := by decide +kernel
theorem dX8_thing_127 : decode cX8_thing 127 = .ok (.aload_n 0, 1) := by decide +kernel
theorem dX8_thing_128 : decode cX8_thing 128 = .ok (.getfield 10, 3) := by decide +kernel
theorem dX8_thing_131 : decode cX8_thing 131 = .ok (.getfield 151, 3) := by decide +kernel
theorem dX8_thing_134 : decode cX8_thing 134 = .ok (.getfield 191, 3) := by decide +kernel
theorem dX8_thing_137 : decode cX8_thing 137 = .ok (.ireturn, 1) := by decide +kernel
theorem dX8_thing_138 : decode cX8_thing 138 = .ok (.aload_n 0, 1) := by decide +kernel
theorem dX8_thing_139 : decode cX8_thing 139 = .ok (.getfield 10, 3) := by decide +kernel
theorem dX8_thing_142 : decode cX8_thing 142 = .ok (.getfield 151, 3) := by decide +kernel
theorem dX8_thing_145 : decode cX8_thing 145 = .ok (.getfield 194, 3) := by decide +kernel
theorem dX8_thing_148 : decode cX8_thing 148 = .ok (.invokestatic 168, 3) := by decide +kernel
theorem dX8_thing_151 : decode cX8_thing 151 = .ok (.ireturn, 1) := by decide +kernel
theorem dX8_thing_152 : decode cX8_thing 152 = .ok (.aload_n 0, 1) := by decide +kernel
theorem dX8_thing_153 : decode cX8_thing 153 = .ok (.getfield 10, 3) := by decide +kernel
theorem dX8_thing_156 : decode cX8_thing 156 = .ok (.getfield 151, 3) := by decide +kernel
theorem dX8_thing_159 : decode cX8_thing 159 = .ok (.aload_n 0, 1) := by decide +kernel
theorem dX8_thing_160 : decode cX8_thing 160 = .ok (.getfield 10, 3) := by decide +kernel
theorem dX8_thing_163 : decode cX8_thing 163 = .ok (.getfield 42, 3) := by decide +kernel
theorem dX8_thing_166 : decode cX8_thing 166 = .ok (.invokevirtual 197, 3) := by decide +kernel
theorem dX8_thing_169 : decode cX8_thing 169 = .ok (.ireturn, 1) := by decide +kernel
set_option maxRecDepth 20000 in
theorem ggX8_judged_X3_entry : GoodIn wsX8_judged wsX3_entry := goodIn_r _ [7, 8, 9, 22, 23] (by decide +kernel) (by decide +kernel)
set_option maxRecDepth 20000 in
theorem gX8_judged_X3_entry : GoodIn wsX8_judged (wsV RX8 207 RX3 yX3_entry wsX3_entry) := goodIn_app (goodIn_of _ (by decide +kernel)) ggX8_judged_X3_entry
theorem dX8_judged_0 : decode cX8_judged 0 = .ok (.iload_n 1, 1) := by decide +kernel
theorem dX8_judged_1 : decode cX8_judged 1 = .ok (.ifCond .lt 12, 3) := by decide +kernel
theorem dX8_judged_4 : decode cX8_judged 4 = .ok (.iload_n 2, 1) := by decide +kernel
theorem dX8_judged_5 : decode cX8_judged 5 = .ok (.ifCond .lt 8, 3) := by decide +kernel
theorem dX8_judged_8 : decode cX8_judged 8 = .ok (.iload_n 2, 1) := by decide +kernel
theorem dX8_judged_9 : decode cX8_judged 9 = .ok (.iconst 5, 1) := by decide +kernel
theorem dX8_judged_10 : decode cX8_judged 10 = .ok (.if_icmp .lt 6, 3) := by decide +kernel
theorem dX8_judged_13 : decode cX8_judged 13 = .ok (.bipush (-2), 2) := by decide +kernel
theorem dX8_judged_15 : decode cX8_judged 15 = .ok (.ireturn, 1) := by decide +kernel
theorem dX8_judged_16 : decode cX8_judged 16 = .ok (.aload_n 0, 1) := by decide +kernel
theorem dX8_judged_17 : decode cX8_judged 17 = .ok (.getfield 10, 3) := by decide +kernel
theorem dX8_judged_20 : decode cX8_judged 20 = .ok (.getfield 203, 3) := by decide +kernel
theorem dX8_judged_23 : decode cX8_judged 23 = .ok (.iload_n 1, 1) := by decide +kernel
theorem dX8_judged_24 : decode cX8_judged 24 = .ok (.iload_n 2, 1) := by decide +kernel
theorem dX8_judged_25 : decode cX8_judged 25 = .ok (.invokevirtual 207, 3) := by decide +kernel
theorem dX8_judged_28 : decode cX8_judged 28 = .ok (.ireturn, 1) := by decide +kernel
set_option maxRecDepth 20000 in
theorem ggX8_shutsIn_X5_copyFrom : GoodIn wsX8_shutsIn wsX5_copyFrom := goodIn_r _ [9, 10, 11, 12, 13, 14, 15, 16, 17, 18, 19, 20, 21, 22, 23, 24, 25, 26, 27, 28, 29, 30, 31, 32, 33, 34, 35, 36, 37, 38, 39, 40, 41, 42, 43, 44, 45, 46, 47, 48, 49, 50, 51, 52, 53, 54, 55, 56, 57, 58, 59, 60, 61, 62, 63, 64, 65, 66, 67, 182, 183, 184, 185, 186, 187, 194, 195, 196, 197, 198, 199, 200, 201, 202, 203, 204, 188, 189, 190, 191, 192, 193, 205, 206, 207, 208, 209, 210, 211, 212, 213, 214] (by decide +kernel) (by decide +kernel)
set_option maxRecDepth 20000 in
theorem gX8_shutsIn_X5_copyFrom : GoodIn wsX8_shutsIn (wsV RX8 138 RX5 yX5_copyFrom wsX5_copyFrom) := goodIn_app (goodIn_of _ (by decide +kernel)) ggX8_shutsIn_X5_copyFrom
set_option maxRecDepth 20000 in
theorem ggX8_shutsIn_X5_goOn : GoodIn wsX8_shutsIn wsX5_goOn := goodIn_r _ [71, 14, 72, 11, 15, 10, 73, 74, 75, 27, 76, 29, 31, 32, 33, 34, 35, 77, 78, 79, 80, 30, 36, 81, 82, 83, 19, 84, 23, 85, 86, 87, 88, 89, 90, 91, 8, 92, 13, 93, 12, 94, 95, 96, 97, 98, 99, 100, 101, 102, 103, 22, 104, 105, 106, 107, 108, 109, 110, 111, 112, 113, 114, 115, 116, 117, 118, 119, 120, 51, 121, 53, 122, 123, 54, 124, 125, 126, 127, 128, 129, 130, 131, 132, 58, 133, 60, 61, 62, 63, 134, 135, 136, 137, 138, 139, 140, 141, 142, 21, 143, 144, 145, 40, 146, 42, 147, 43, 44, 148, 149, 150, 151, 47, 45, 152, 153, 154, 155, 156, 157, 158, 159, 160, 161, 162, 163, 164, 46, 165, 166, 167, 168, 169, 170, 171, 172, 173, 174, 175, 182, 183, 184, 185, 186, 187, 207, 208, 209, 210, 211, 212, 213, 214, 197, 198, 199, 200, 201, 202, 203, 204, 194, 195, 196, 188, 189, 190, 191, 192, 193, 205, 206] (by decide +kernel) (by decide +kernel)
set_option maxRecDepth 20000 in
theorem gX8_shutsIn_X5_goOn : GoodIn wsX8_shutsIn (wsV RX8 211 RX5 yX5_goOn wsX5_goOn) := goodIn_app (goodIn_of _ (by decide +kernel)) ggX8_shutsIn_X5_goOn
theorem dX8_shutsIn_0 : decode cX8_shutsIn 0 = .ok (.aload_n 0, 1) := by decide +kernel
theorem dX8_shutsIn_1 : decode cX8_shutsIn 1 = .ok (.getfield 16, 3) := by decide +kernel
theorem dX8_shutsIn_4 : decode cX8_shutsIn 4 = .ok (.aload_n 0, 1) := by decide +kernel
theorem dX8_shutsIn_5 : decode cX8_shutsIn 5 = .ok (.getfield 10, 3) := by decide +kernel
theorem dX8_shutsIn_8 : decode cX8_shutsIn 8 = .ok (.invokevirtual 138, 3) := by decide +kernel
theorem dX8_shutsIn_11 : decode cX8_shutsIn 11 = .ok (.iconst 0, 1) := by decide +kernel
theorem dX8_shutsIn_12 : decode cX8_shutsIn 12 = .ok (.istore_n 1, 1) := by decide +kernel
theorem dX8_shutsIn_13 : decode cX8_shutsIn 13 = .ok (.iload_n 1, 1) := by decide +kernel
theorem dX8_shutsIn_14 : decode cX8_shutsIn 14 = .ok (.sipush 500, 3) := by decide +kernel
theorem dX8_shutsIn_17 : decode cX8_shutsIn 17 = .ok (.if_icmp .gt 32, 3) := by decide +kernel
theorem dX8_shutsIn_20 : decode cX8_shutsIn 20 = .ok (.aload_n 0, 1) := by decide +kernel
theorem dX8_shutsIn_21 : decode cX8_shutsIn 21 = .ok (.getfield 16, 3) := by decide +kernel
theorem dX8_shutsIn_24 : decode cX8_shutsIn 24 = .ok (.getfield 81, 3) := by decide +kernel
theorem dX8_shutsIn_27 : decode cX8_shutsIn 27 = .ok (.getfield 85, 3) := by decide +kernel
theorem dX8_shutsIn_30 : decode cX8_shutsIn 30 = .ok (.ifCond .ne 5, 3) := by decide +kernel
theorem dX8_shutsIn_33 : decode cX8_shutsIn 33 = .ok (.iload_n 1, 1) := by decide +kernel
theorem dX8_shutsIn_34 : decode cX8_shutsIn 34 = .ok (.ireturn, 1) := by decide +kernel
theorem dX8_shutsIn_35 : decode cX8_shutsIn 35 = .ok (.aload_n 0, 1) := by decide +kernel
theorem dX8_shutsIn_36 : decode cX8_shutsIn 36 = .ok (.getfield 16, 3) := by decide +kernel
theorem dX8_shutsIn_39 : decode cX8_shutsIn 39 = .ok (.iconst 0, 1) := by decide +kernel
theorem dX8_shutsIn_40 : decode cX8_shutsIn 40 = .ok (.invokevirtual 211, 3) := by decide +kernel
theorem dX8_shutsIn_43 : decode cX8_shutsIn 43 = .ok (.iinc 1 1, 3) := by decide +kernel
theorem dX8_shutsIn_46 : decode cX8_shutsIn 46 = .ok (.goto (-33), 3) := by decide +kernel
theorem dX8_shutsIn_49 : decode cX8_shutsIn 49 = .ok (.bipush (-5), 2) := by decide +kernel
theorem dX8_shutsIn_51 : decode cX8_shutsIn 51 = .ok (.ireturn, 1) := by decide +kernel
set_option maxRecDepth 20000 in
theorem ggX8_placeIn_X8_notANumber : GoodIn wsX8_placeIn wsX8_notANumber := goodIn_r _ [8, 9] (by decide +kernel) (by decide +kernel)
set_option maxRecDepth 20000 in
theorem gX8_placeIn_X8_notANumber : GoodIn wsX8_placeIn (va_wsS RX8 160 yX8_notANumber wsX8_notANumber) := goodIn_app (goodIn_of _ (by decide +kernel)) ggX8_placeIn_X8_notANumber
set_option maxRecDepth 20000 in
theorem ggX8_placeIn_X5_copyFrom : GoodIn wsX8_placeIn wsX5_copyFrom := goodIn_r _ [14, 15, 16, 17, 18, 19, 20, 21, 22, 23, 24, 25, 26, 27, 28, 29, 30, 31, 32, 33, 34, 35, 36, 37, 38, 39, 40, 41, 42, 43, 44, 45, 46, 47, 48, 49, 50, 51, 52, 53, 54, 55, 56, 57, 58, 59, 60, 61, 62, 63, 64, 65, 66, 67, 68, 69, 70, 71, 72, 187, 188, 189, 190, 191, 192, 199, 200, 201, 202, 203, 204, 205, 206, 207, 208, 209, 193, 194, 195, 196, 197, 198, 210, 211, 212, 213, 214, 215, 216, 217, 218, 219] (by decide +kernel) (by decide +kernel)
set_option maxRecDepth 20000 in
theorem gX8_placeIn_X5_copyFrom : GoodIn wsX8_placeIn (wsV RX8 138 RX5 yX5_copyFrom wsX5_copyFrom) := goodIn_app (goodIn_of _ (by decide +kernel)) ggX8_placeIn_X5_copyFrom
set_option maxRecDepth 20000 in
theorem ggX8_placeIn_X5_goThrough : GoodIn wsX8_placeIn wsX5_goThrough := goodIn_r _ [76, 77, 78, 79, 13, 80, 19, 81, 16, 20, 15, 82, 83, 84, 32, 85, 34, 36, 37, 38, 39, 40, 86, 87, 88, 89, 35, 41, 90, 91, 92, 24, 93, 28, 94, 95, 96, 97, 98, 99, 100, 101, 18, 102, 17, 103, 104, 105, 106, 107, 108, 109, 110, 111, 112, 27, 6, 7, 8, 9, 113, 114, 115, 116, 117, 118, 119, 120, 121, 122, 123, 124, 125, 56, 126, 58, 127, 128, 59, 129, 130, 131, 132, 133, 134, 135, 136, 137, 63, 138, 65, 66, 67, 68, 139, 140, 141, 142, 143, 144, 145, 146, 147, 26, 148, 149, 150, 45, 151, 47, 152, 48, 49, 153, 154, 155, 156, 52, 50, 157, 158, 159, 160, 161, 162, 163, 164, 165, 166, 167, 168, 169, 51, 170, 171, 172, 173, 174, 175, 176, 177, 178, 179, 180, 187, 188, 189, 190, 191, 192, 212, 213, 214, 215, 216, 217, 218, 219, 202, 203, 204, 205, 206, 207, 208, 209, 199, 200, 201, 193, 194, 195, 196, 197, 198, 210, 211] (by decide +kernel) (by decide +kernel)
set_option maxRecDepth 20000 in
theorem gX8_placeIn_X5_goThrough : GoodIn wsX8_placeIn (wsV RX8 105 RX5 yX5_goThrough wsX5_goThrough) := goodIn_app (goodIn_of _ (by decide +kernel)) ggX8_placeIn_X5_goThrough
theorem dX8_placeIn_0 : decode cX8_placeIn 0 = .ok (.iload_n 1, 1) := by decide +kernel
theorem dX8_placeIn_1 : decode cX8_placeIn 1 = .ok (.ifCond .lt 19, 3) := by decide +kernel
theorem dX8_placeIn_4 : decode cX8_placeIn 4 = .ok (.iload_n 1, 1) := by decide +kernel
theorem dX8_placeIn_5 : decode cX8_placeIn 5 = .ok (.bipush 7, 2) := by decide +kernel
theorem dX8_placeIn_7 : decode cX8_placeIn 7 = .ok (.if_icmp .gt 13, 3) := by decide +kernel
theorem dX8_placeIn_10 : decode cX8_placeIn 10 = .ok (.iload_n 2, 1) := by decide +kernel
theorem dX8_placeIn_11 : decode cX8_placeIn 11 = .ok (.ifCond .lt 9, 3) := by decide +kernel
theorem dX8_placeIn_14 : decode cX8_placeIn 14 = .ok (.iload_n 2, 1) := by decide +kernel
theorem dX8_placeIn_15 : decode cX8_placeIn 15 = .ok (.bipush 99, 2) := by decide +kernel
theorem dX8_placeIn_17 : decode cX8_placeIn 17 = .ok (.if_icmp .le 7, 3) := by decide +kernel
theorem dX8_placeIn_20 : decode cX8_placeIn 20 = .ok (.invokestatic 160, 3) := by decide +kernel
theorem dX8_placeIn_23 : decode cX8_placeIn 23 = .ok (.freturn, 1) := by decide +kernel
theorem dX8_placeIn_24 : decode cX8_placeIn 24 = .ok (.aload_n 0, 1) := by decide +kernel
theorem dX8_placeIn_25 : decode cX8_placeIn 25 = .ok (.getfield 16, 3) := by decide +kernel
theorem dX8_placeIn_28 : decode cX8_placeIn 28 = .ok (.aload_n 0, 1) := by decide +kernel
theorem dX8_placeIn_29 : decode cX8_placeIn 29 = .ok (.getfield 10, 3) := by decide +kernel
theorem dX8_placeIn_32 : decode cX8_placeIn 32 = .ok (.invokevirtual 138, 3) := by decide +kernel
theorem dX8_placeIn_35 : decode cX8_placeIn 35 = .ok (.aload_n 0, 1) := by decide +kernel
theorem dX8_placeIn_36 : decode cX8_placeIn 36 = .ok (.getfield 16, 3) := by decide +kernel
theorem dX8_placeIn_39 : decode cX8_placeIn 39 = .ok (.iload_n 1, 1) := by decide +kernel
theorem dX8_placeIn_40 : decode cX8_placeIn 40 = .ok (.iload_n 2, 1) := by decide +kernel
theorem dX8_placeIn_41 : decode cX8_placeIn 41 = .ok (.invokevirtual 105, 3) := by decide +kernel
theorem dX8_placeIn_44 : decode cX8_placeIn 44 = .ok (.aload_n 0, 1) := by decide +kernel
theorem dX8_placeIn_45 : decode cX8_placeIn 45 = .ok (.getfield 16, 3) := by decide +kernel
theorem dX8_placeIn_48 : decode cX8_placeIn 48 = .ok (.getfield 81, 3) := by decide +kernel
theorem dX8_placeIn_51 : decode cX8_placeIn 51 = .ok (.getfield 144, 3) := by decide +kernel
theorem dX8_placeIn_54 : decode cX8_placeIn 54 = .ok (.freturn, 1) := by decide +kernel
theorem dX8_count_0 : decode cX8_count 0 = .ok (.iload_n 1, 1) := by decide +kernel
theorem dX8_count_1 : decode cX8_count 1 = .ok (.tableswitch 171 0 10 #[59, 67, 78, 89, 100, 111, 122, 133, 144, 155, 163], 59) := by decide +kernel
theorem dX8_count_60 : decode cX8_count 60 = .ok (.aload_n 0, 1) := by decide +kernel
theorem dX8_count_61 : decode cX8_count 61 = .ok (.getfield 10, 3) := by decide +kernel
theorem dX8_count_64 : decode cX8_count 64 = .ok (.getfield 101, 3) := by decide +kernel
theorem dX8_count_67 : decode cX8_count 67 = .ok (.ireturn, 1) := by decide +kernel
theorem dX8_count_68 : decode cX8_count 68 = .ok (.aload_n 0, 1) := by decide +kernel
theorem dX8_count_69 : decode cX8_count 69 = .ok (.getfield 10, 3) := by decide +kernel
theorem dX8_count_72 : decode cX8_count 72 = .ok (.getfield 215, 3) := by decide +kernel
theorem dX8_count_75 : decode cX8_count 75 = .ok (.getfield 219, 3) := by decide +kernel
theorem dX8_count_78 : decode cX8_count 78 = .ok (.ireturn, 1) := by decide +kernel
theorem dX8_count_79 : decode cX8_count 79 = .ok (.aload_n 0, 1) := by decide +kernel
theorem dX8_count_80 : decode cX8_count 80 = .ok (.getfield 10, 3) := by decide +kernel
theorem dX8_count_83 : decode cX8_count 83 = .ok (.getfield 215, 3) := by decide +kernel
theorem dX8_count_86 : decode cX8_count 86 = .ok (.getfield 224, 3) := by decide +kernel
theorem dX8_count_89 : decode cX8_count 89 = .ok (.ireturn, 1) := by decide +kernel
theorem dX8_count_90 : decode cX8_count 90 = .ok (.aload_n 0, 1) := by decide +kernel
theorem dX8_count_91 : decode cX8_count 91 = .ok (.getfield 10, 3) := by decide +kernel
theorem dX8_count_94 : decode cX8_count 94 = .ok (.getfield 215, 3) := by decide +kernel
theorem dX8_count_97 : decode cX8_count 97 = .ok (.getfield 227, 3) := by decide +kernel
theorem dX8_count_100 : decode cX8_count 100 = .ok (.ireturn, 1) := by decide +kernel
theorem dX8_count_101 : decode cX8_count 101 = .ok (.aload_n 0, 1) := by decide +kernel
theorem dX8_count_102 : decode cX8_count 102 = .ok (.getfield 10, 3) := by decide +kernel
theorem dX8_count_105 : decode cX8_count 105 = .ok (.getfield 215, 3) := by decide +kernel
theorem dX8_count_108 : decode cX8_count 108 = .ok (.getfield 230, 3) := by decide +kernel
theorem dX8_count_111 : decode cX8_count 111 = .ok (.ireturn, 1) := by decide +kernel
theorem dX8_count_112 : decode cX8_count 112 = .ok (.aload_n 0, 1) := by decide +kernel
theorem dX8_count_113 : decode cX8_count 113 = .ok (.getfield 10, 3) := by decide +kernel
theorem dX8_count_116 : decode cX8_count 116 = .ok (.getfield 215, 3) := by decide +kernel
theorem dX8_count_119 : decode cX8_count 119 = .ok (.getfield 233, 3) := by decide +kernel
theorem dX8_count_122 : decode cX8_count 122 = .ok (.ireturn, 1) := by decide +kernel
theorem dX8_count_123 : decode cX8_count 123 = .ok (.aload_n 0, 1) := by decide +kernel
theorem dX8_count_124 : decode cX8_count 124 = .ok (.getfield 10, 3) := by decide +kernel
theorem dX8_count_127 : decode cX8_count 127 = .ok (.getfield 215, 3) := by decide +kernel
theorem dX8_count_130 : decode cX8_count 130 = .ok (.getfield 236, 3) := by decide +kernel
theorem dX8_count_133 : decode cX8_count 133 = .ok (.ireturn, 1) := by decide +kernel
theorem dX8_count_134 : decode cX8_count 134 = .ok (.aload_n 0, 1) := by decide +kernel
theorem dX8_count_135 : decode cX8_count 135 = .ok (.getfield 10, 3) := by decide +kernel
theorem dX8_count_138 : decode cX8_count 138 = .ok (.getfield 215, 3) := by decide +kernel
theorem dX8_count_141 : decode cX8_count 141 = .ok (.getfield 239, 3) := by decide +kernel
theorem dX8_count_144 : decode cX8_count 144 = .ok (.ireturn, 1) := by decide +kernel
theorem dX8_count_145 : decode cX8_count 145 = .ok (.aload_n 0, 1) := by decide +kernel
theorem dX8_count_146 : decode cX8_count 146 = .ok (.getfield 10, 3) := by decide +kernel
theorem dX8_count_149 : decode cX8_count 149 = .ok (.getfield 215, 3) := by decide +kernel
theorem dX8_count_152 : decode cX8_count 152 = .ok (.getfield 242, 3) := by decide +kernel
theorem dX8_count_155 : decode cX8_count 155 = .ok (.ireturn, 1) := by decide +kernel
theorem dX8_count_156 : decode cX8_count 156 = .ok (.aload_n 0, 1) := by decide +kernel
theorem dX8_count_157 : decode cX8_count 157 = .ok (.getfield 25, 3) := by decide +kernel
theorem dX8_count_160 : decode cX8_count 160 = .ok (.getfield 135, 3) := by decide +kernel
theorem dX8_count_163 : decode cX8_count 163 = .ok (.ireturn, 1) := by decide +kernel
theorem dX8_count_164 : decode cX8_count 164 = .ok (.aload_n 0, 1) := by decide +kernel
theorem dX8_count_165 : decode cX8_count 165 = .ok (.getfield 32, 3) := by decide +kernel
theorem dX8_count_168 : decode cX8_count 168 = .ok (.getfield 128, 3) := by decide +kernel
theorem dX8_count_171 : decode cX8_count 171 = .ok (.ireturn, 1) := by decide +kernel
theorem dX8_count_172 : decode cX8_count 172 = .ok (.bipush (-2), 2) := by decide +kernel
theorem dX8_count_174 : decode cX8_count 174 = .ok (.ireturn, 1) := by decide +kernel
theorem dX8_oneIf_0 : decode cX8_oneIf 0 = .ok (.iload_n 0, 1) := by decide +kernel
theorem dX8_oneIf_1 : decode cX8_oneIf 1 = .ok (.ifCond .eq 7, 3) := by decide +kernel
theorem dX8_oneIf_4 : decode cX8_oneIf 4 = .ok (.iconst 1, 1) := by decide +kernel
theorem dX8_oneIf_5 : decode cX8_oneIf 5 = .ok (.goto 4, 3) := by decide +kernel
theorem dX8_oneIf_8 : decode cX8_oneIf 8 = .ok (.iconst 0, 1) := by decide +kernel
theorem dX8_oneIf_9 : decode cX8_oneIf 9 = .ok (.ireturn, 1) := by decide +kernel
theorem dX8_notANumber_0 : decode cX8_notANumber 0 = .ok (.ldc 245, 2) := by decide +kernel
theorem dX8_notANumber_2 : decode cX8_notANumber 2 = .ok (.freturn, 1) := by decide +kernel
theorem dX8_floatOfBits_0 : decode cX8_floatOfBits 0 = .ok (.iload_n 0, 1) := by decide +kernel
theorem dX8_floatOfBits_1 : decode cX8_floatOfBits 1 = .ok (.bipush 23, 2) := by decide +kernel
theorem dX8_floatOfBits_3 : decode cX8_floatOfBits 3 = .ok (.iushr, 1) := by decide +kernel
theorem dX8_floatOfBits_4 : decode cX8_floatOfBits 4 = .ok (.istore_n 1, 1) := by decide +kernel
theorem dX8_floatOfBits_5 : decode cX8_floatOfBits 5 = .ok (.iload_n 0, 1) := by decide +kernel
theorem dX8_floatOfBits_6 : decode cX8_floatOfBits 6 = .ok (.ldc 246, 2) := by decide +kernel
theorem dX8_floatOfBits_8 : decode cX8_floatOfBits 8 = .ok (.iand, 1) := by decide +kernel
theorem dX8_floatOfBits_9 : decode cX8_floatOfBits 9 = .ok (.istore_n 2, 1) := by decide +kernel
theorem dX8_floatOfBits_10 : decode cX8_floatOfBits 10 = .ok (.iload_n 1, 1) := by decide +kernel
theorem dX8_floatOfBits_11 : decode cX8_floatOfBits 11 = .ok (.ifCond .ne 7, 3) := by decide +kernel
theorem dX8_floatOfBits_14 : decode cX8_floatOfBits 14 = .ok (.iconst 1, 1) := by decide +kernel
theorem dX8_floatOfBits_15 : decode cX8_floatOfBits 15 = .ok (.goto 4, 3) := by decide +kernel
theorem dX8_floatOfBits_18 : decode cX8_floatOfBits 18 = .ok (.iconst 0, 1) := by decide +kernel
theorem dX8_floatOfBits_19 : decode cX8_floatOfBits 19 = .ok (.istore_n 3, 1) := by decide +kernel
theorem dX8_floatOfBits_20 : decode cX8_floatOfBits 20 = .ok (.iload_n 3, 1) := by decide +kernel
theorem dX8_floatOfBits_21 : decode cX8_floatOfBits 21 = .ok (.ifCond .eq 7, 3) := by decide +kernel
theorem dX8_floatOfBits_24 : decode cX8_floatOfBits 24 = .ok (.iload_n 2, 1) := by decide +kernel
theorem dX8_floatOfBits_25 : decode cX8_floatOfBits 25 = .ok (.goto 7, 3) := by decide +kernel
theorem dX8_floatOfBits_28 : decode cX8_floatOfBits 28 = .ok (.iload_n 2, 1) := by decide +kernel
theorem dX8_floatOfBits_29 : decode cX8_floatOfBits 29 = .ok (.ldc 247, 2) := by decide +kernel
theorem dX8_floatOfBits_31 : decode cX8_floatOfBits 31 = .ok (.ior, 1) := by decide +kernel
theorem dX8_floatOfBits_32 : decode cX8_floatOfBits 32 = .ok (.i2f, 1) := by decide +kernel
theorem dX8_floatOfBits_33 : decode cX8_floatOfBits 33 = .ok (.fstore 4, 2) := by decide +kernel
theorem dX8_floatOfBits_35 : decode cX8_floatOfBits 35 = .ok (.iload_n 3, 1) := by decide +kernel
theorem dX8_floatOfBits_36 : decode cX8_floatOfBits 36 = .ok (.ifCond .eq 9, 3) := by decide +kernel
theorem dX8_floatOfBits_39 : decode cX8_floatOfBits 39 = .ok (.sipush 149, 3) := by decide +kernel
theorem dX8_floatOfBits_42 : decode cX8_floatOfBits 42 = .ok (.goto 8, 3) := by decide +kernel
theorem dX8_floatOfBits_45 : decode cX8_floatOfBits 45 = .ok (.sipush 150, 3) := by decide +kernel
theorem dX8_floatOfBits_48 : decode cX8_floatOfBits 48 = .ok (.iload_n 1, 1) := by decide +kernel
theorem dX8_floatOfBits_49 : decode cX8_floatOfBits 49 = .ok (.isub, 1) := by decide +kernel
theorem dX8_floatOfBits_50 : decode cX8_floatOfBits 50 = .ok (.istore 5, 2) := by decide +kernel
theorem dX8_floatOfBits_52 : decode cX8_floatOfBits 52 = .ok (.iload 5, 2) := by decide +kernel
theorem dX8_floatOfBits_54 : decode cX8_floatOfBits 54 = .ok (.ifCond .le 16, 3) := by decide +kernel
theorem dX8_floatOfBits_57 : decode cX8_floatOfBits 57 = .ok (.fload 4, 2) := by decide +kernel
theorem dX8_floatOfBits_59 : decode cX8_floatOfBits 59 = .ok (.ldc 248, 2) := by decide +kernel
theorem dX8_floatOfBits_61 : decode cX8_floatOfBits 61 = .ok (.fmul, 1) := by decide +kernel
theorem dX8_floatOfBits_62 : decode cX8_floatOfBits 62 = .ok (.fstore 4, 2) := by decide +kernel
theorem dX8_floatOfBits_64 : decode cX8_floatOfBits 64 = .ok (.iinc 5 (-1), 3) := by decide +kernel
theorem dX8_floatOfBits_67 : decode cX8_floatOfBits 67 = .ok (.goto (-15), 3) := by decide +kernel
theorem dX8_floatOfBits_70 : decode cX8_floatOfBits 70 = .ok (.fload 4, 2) := by decide +kernel
theorem dX8_floatOfBits_72 : decode cX8_floatOfBits 72 = .ok (.freturn, 1) := by decide +kernel
