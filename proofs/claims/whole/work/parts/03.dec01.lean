theorem dX5_clear_16 : decode cX5_clear 16 = .ok (.iconst 0, 1) := by decide +kernel
theorem dX5_clear_17 : decode cX5_clear 17 = .ok (.putfield 19, 3) := by decide +kernel
theorem dX5_clear_20 : decode cX5_clear 20 = .ok (.aload_n 0, 1) := by decide +kernel
theorem dX5_clear_21 : decode cX5_clear 21 = .ok (.iconst 0, 1) := by decide +kernel
theorem dX5_clear_22 : decode cX5_clear 22 = .ok (.putfield 23, 3) := by decide +kernel
theorem dX5_clear_25 : decode cX5_clear 25 = .ok (.return_, 1) := by decide +kernel
theorem dX5_expect_0 : decode cX5_expect 0 = .ok (.aload_n 0, 1) := by decide +kernel
theorem dX5_expect_1 : decode cX5_expect 1 = .ok (.iload_n 1, 1) := by decide +kernel
theorem dX5_expect_2 : decode cX5_expect 2 = .ok (.putfield 7, 3) := by decide +kernel
theorem dX5_expect_5 : decode cX5_expect 5 = .ok (.return_, 1) := by decide +kernel
theorem dX5_begin_0 : decode cX5_begin 0 = .ok (.aload_n 0, 1) := by decide +kernel
theorem dX5_begin_1 : decode cX5_begin 1 = .ok (.iload_n 1, 1) := by decide +kernel
theorem dX5_begin_2 : decode cX5_begin 2 = .ok (.putfield 13, 3) := by decide +kernel
theorem dX5_begin_5 : decode cX5_begin 5 = .ok (.aload_n 0, 1) := by decide +kernel
theorem dX5_begin_6 : decode cX5_begin 6 = .ok (.iload_n 2, 1) := by decide +kernel
theorem dX5_begin_7 : decode cX5_begin 7 = .ok (.ifCond .eq 7, 3) := by decide +kernel
theorem dX5_begin_10 : decode cX5_begin 10 = .ok (.iconst 1, 1) := by decide +kernel
theorem dX5_begin_11 : decode cX5_begin 11 = .ok (.goto 7, 3) := by decide +kernel
theorem dX5_begin_14 : decode cX5_begin 14 = .ok (.aload_n 0, 1) := by decide +kernel
theorem dX5_begin_15 : decode cX5_begin 15 = .ok (.getfield 7, 3) := by decide +kernel
theorem dX5_begin_18 : decode cX5_begin 18 = .ok (.putfield 16, 3) := by decide +kernel
theorem dX5_begin_21 : decode cX5_begin 21 = .ok (.aload_n 0, 1) := by decide +kernel
theorem dX5_begin_22 : decode cX5_begin 22 = .ok (.aload_n 0, 1) := by decide +kernel
theorem dX5_begin_23 : decode cX5_begin 23 = .ok (.getfield 16, 3) := by decide +kernel
theorem dX5_begin_26 : decode cX5_begin 26 = .ok (.ifCond .le 7, 3) := by decide +kernel
theorem dX5_begin_29 : decode cX5_begin 29 = .ok (.iconst 1, 1) := by decide +kernel
theorem dX5_begin_30 : decode cX5_begin 30 = .ok (.goto 4, 3) := by decide +kernel
theorem dX5_begin_33 : decode cX5_begin 33 = .ok (.iconst 0, 1) := by decide +kernel
theorem dX5_begin_34 : decode cX5_begin 34 = .ok (.putfield 19, 3) := by decide +kernel
theorem dX5_begin_37 : decode cX5_begin 37 = .ok (.aload_n 0, 1) := by decide +kernel
theorem dX5_begin_38 : decode cX5_begin 38 = .ok (.iconst 0, 1) := by decide +kernel
theorem dX5_begin_39 : decode cX5_begin 39 = .ok (.putfield 23, 3) := by decide +kernel
theorem dX5_begin_42 : decode cX5_begin 42 = .ok (.aload_n 0, 1) := by decide +kernel
theorem dX5_begin_43 : decode cX5_begin 43 = .ok (.iconst 0, 1) := by decide +kernel
theorem dX5_begin_44 : decode cX5_begin 44 = .ok (.putfield 7, 3) := by decide +kernel
theorem dX5_begin_47 : decode cX5_begin 47 = .ok (.return_, 1) := by decide +kernel
theorem dX5_next_0 : decode cX5_next 0 = .ok (.aload_n 0, 1) := by decide +kernel
theorem dX5_next_1 : decode cX5_next 1 = .ok (.getfield 13, 3) := by decide +kernel
theorem dX5_next_4 : decode cX5_next 4 = .ok (.ireturn, 1) := by decide +kernel
theorem dX5_advance_0 : decode cX5_advance 0 = .ok (.aload_n 0, 1) := by decide +kernel
theorem dX5_advance_1 : decode cX5_advance 1 = .ok (.dup, 1) := by decide +kernel
theorem dX5_advance_2 : decode cX5_advance 2 = .ok (.getfield 13, 3) := by decide +kernel
theorem dX5_advance_5 : decode cX5_advance 5 = .ok (.iconst 1, 1) := by decide +kernel
theorem dX5_advance_6 : decode cX5_advance 6 = .ok (.iadd, 1) := by decide +kernel
theorem dX5_advance_7 : decode cX5_advance 7 = .ok (.putfield 13, 3) := by decide +kernel
theorem dX5_advance_10 : decode cX5_advance 10 = .ok (.aload_n 0, 1) := by decide +kernel
theorem dX5_advance_11 : decode cX5_advance 11 = .ok (.dup, 1) := by decide +kernel
theorem dX5_advance_12 : decode cX5_advance 12 = .ok (.getfield 16, 3) := by decide +kernel
theorem dX5_advance_15 : decode cX5_advance 15 = .ok (.iconst 1, 1) := by decide +kernel
theorem dX5_advance_16 : decode cX5_advance 16 = .ok (.isub, 1) := by decide +kernel
theorem dX5_advance_17 : decode cX5_advance 17 = .ok (.putfield 16, 3) := by decide +kernel
theorem dX5_advance_20 : decode cX5_advance 20 = .ok (.return_, 1) := by decide +kernel
theorem dX5_isCounted_0 : decode cX5_isCounted 0 = .ok (.aload_n 0, 1) := by decide +kernel
theorem dX5_isCounted_1 : decode cX5_isCounted 1 = .ok (.getfield 19, 3) := by decide +kernel
theorem dX5_isCounted_4 : decode cX5_isCounted 4 = .ok (.ireturn, 1) := by decide +kernel
theorem dX5_left_0 : decode cX5_left 0 = .ok (.aload_n 0, 1) := by decide +kernel
theorem dX5_left_1 : decode cX5_left 1 = .ok (.getfield 16, 3) := by decide +kernel
theorem dX5_left_4 : decode cX5_left 4 = .ok (.ireturn, 1) := by decide +kernel
theorem dX5_isComplete_0 : decode cX5_isComplete 0 = .ok (.aload_n 0, 1) := by decide +kernel
theorem dX5_isComplete_1 : decode cX5_isComplete 1 = .ok (.getfield 19, 3) := by decide +kernel
theorem dX5_isComplete_4 : decode cX5_isComplete 4 = .ok (.ifCond .eq 14, 3) := by decide +kernel
theorem dX5_isComplete_7 : decode cX5_isComplete 7 = .ok (.aload_n 0, 1) := by decide +kernel
theorem dX5_isComplete_8 : decode cX5_isComplete 8 = .ok (.getfield 16, 3) := by decide +kernel
theorem dX5_isComplete_11 : decode cX5_isComplete 11 = .ok (.ifCond .gt 7, 3) := by decide +kernel
theorem dX5_isComplete_14 : decode cX5_isComplete 14 = .ok (.iconst 1, 1) := by decide +kernel
theorem dX5_isComplete_15 : decode cX5_isComplete 15 = .ok (.goto 4, 3) := by decide +kernel
theorem dX5_isComplete_18 : decode cX5_isComplete 18 = .ok (.iconst 0, 1) := by decide +kernel
theorem dX5_isComplete_19 : decode cX5_isComplete 19 = .ok (.ireturn, 1) := by decide +kernel
theorem dX5_isWrong_0 : decode cX5_isWrong 0 = .ok (.aload_n 0, 1) := by decide +kernel
theorem dX5_isWrong_1 : decode cX5_isWrong 1 = .ok (.getfield 23, 3) := by decide +kernel
theorem dX5_isWrong_4 : decode cX5_isWrong 4 = .ok (.ireturn, 1) := by decide +kernel
theorem dX5_spoil_0 : decode cX5_spoil 0 = .ok (.aload_n 0, 1) := by decide +kernel
theorem dX5_spoil_1 : decode cX5_spoil 1 = .ok (.iconst 1, 1) := by decide +kernel
theorem dX5_spoil_2 : decode cX5_spoil 2 = .ok (.putfield 23, 3) := by decide +kernel
theorem dX5_spoil_5 : decode cX5_spoil 5 = .ok (.return_, 1) := by decide +kernel
set_option maxRecDepth 20000 in
theorem ggX6_init_X3_init : GoodIn wsX6_init wsX3_init := goodIn_r _ [30, 31, 2, 3, 32, 33, 34, 35, 36, 131, 132, 133, 134, 135, 136] (by decide +kernel) (by decide +kernel)
set_option maxRecDepth 20000 in
theorem gX6_init_X3_init_n9 : GoodIn wsX6_init (wsX3_init) := ggX6_init_X3_init
set_option maxRecDepth 20000 in
theorem ggX6_init_X1_init : GoodIn wsX6_init wsX1_init := goodIn_r _ [39, 40, 2, 3, 41, 42, 43, 44, 32, 45, 154, 155] (by decide +kernel) (by decide +kernel)
set_option maxRecDepth 20000 in
theorem gX6_init_X1_init : GoodIn wsX6_init (wsX1_init) := ggX6_init_X1_init
set_option maxRecDepth 20000 in
theorem ggX6_init_X4_init : GoodIn wsX6_init wsX4_init := goodIn_r _ [47, 48, 2, 3, 32, 49, 50, 156, 157, 158, 159] (by decide +kernel) (by decide +kernel)
set_option maxRecDepth 20000 in
theorem gX6_init_X4_init_n30 : GoodIn wsX6_init (wsX4_init) := ggX6_init_X4_init
set_option maxRecDepth 20000 in
theorem ggX6_init_X0_init : GoodIn wsX6_init wsX0_init := goodIn_r _ [52, 53, 2, 3] (by decide +kernel) (by decide +kernel)
set_option maxRecDepth 20000 in
theorem gX6_init_X0_init_n37 : GoodIn wsX6_init (wsX0_init) := ggX6_init_X0_init
set_option maxRecDepth 20000 in
theorem ggX6_init_X5_init : GoodIn wsX6_init wsX5_init := goodIn_r _ [55, 56, 2, 3] (by decide +kernel) (by decide +kernel)
set_option maxRecDepth 20000 in
theorem gX6_init_X5_init_n44 : GoodIn wsX6_init (wsX5_init) := ggX6_init_X5_init
set_option maxRecDepth 20000 in
theorem ggX6_init_X2_init : GoodIn wsX6_init wsX2_init := goodIn_r _ [58, 59, 2, 3] (by decide +kernel) (by decide +kernel)
set_option maxRecDepth 20000 in
theorem gX6_init_X2_init_n51 : GoodIn wsX6_init (wsX2_init) := ggX6_init_X2_init
set_option maxRecDepth 20000 in
theorem ggX6_init_X6_renew : GoodIn wsX6_init wsX6_renew := goodIn_r _ [64, 65, 66, 7, 12, 67, 68, 69, 70, 71, 6, 72, 73, 74, 43, 75, 76, 42, 44, 77, 78, 79, 33, 80, 35, 81, 82, 83, 10, 84, 85, 86, 87, 88, 63, 89, 90, 91, 92, 93, 94, 28, 16, 20, 24, 95, 96, 97, 27, 98, 99, 100, 101, 102, 103, 104, 15, 105, 106, 107, 108, 109, 110, 19, 111, 112, 113, 114, 115, 116, 117, 118, 119, 120, 121, 122, 123, 124, 23, 125, 126, 127, 128, 129, 130, 137, 138, 139, 140, 141, 142, 143, 144, 145, 146, 147, 148, 149, 150, 151, 152, 153, 131, 132, 133, 134, 135, 136, 154, 155, 171, 172, 173, 156, 157, 158, 159, 160, 161, 162, 163, 164, 165, 166, 167, 168, 169, 170] (by decide +kernel) (by decide +kernel)
set_option maxRecDepth 20000 in
theorem gX6_init_X6_renew : GoodIn wsX6_init (wsV RX6 56 RX6 yX6_renew wsX6_renew) := goodIn_app (goodIn_of _ (by decide +kernel)) ggX6_init_X6_renew
theorem dX6_init_0 : decode cX6_init 0 = .ok (.aload_n 0, 1) := by decide +kernel
theorem dX6_init_1 : decode cX6_init 1 = .ok (.invokespecial 1, 3) := by decide +kernel
theorem dX6_init_4 : decode cX6_init 4 = .ok (.aload_n 0, 1) := by decide +kernel
theorem dX6_init_5 : decode cX6_init 5 = .ok (.new 7, 3) := by decide +kernel
theorem dX6_init_8 : decode cX6_init 8 = .ok (.dup, 1) := by decide +kernel
theorem dX6_init_9 : decode cX6_init 9 = .ok (.invokespecial 9, 3) := by decide +kernel
theorem dX6_init_12 : decode cX6_init 12 = .ok (.putfield 10, 3) := by decide +kernel
theorem dX6_init_15 : decode cX6_init 15 = .ok (.aload_n 0, 1) := by decide +kernel
theorem dX6_init_16 : decode cX6_init 16 = .ok (.new 16, 3) := by decide +kernel
theorem dX6_init_19 : decode cX6_init 19 = .ok (.dup, 1) := by decide +kernel
theorem dX6_init_20 : decode cX6_init 20 = .ok (.sipush 200, 3) := by decide +kernel
theorem dX6_init_23 : decode cX6_init 23 = .ok (.invokespecial 18, 3) := by decide +kernel
theorem dX6_init_26 : decode cX6_init 26 = .ok (.putfield 21, 3) := by decide +kernel
theorem dX6_init_29 : decode cX6_init 29 = .ok (.aload_n 0, 1) := by decide +kernel
theorem dX6_init_30 : decode cX6_init 30 = .ok (.new 16, 3) := by decide +kernel
theorem dX6_init_33 : decode cX6_init 33 = .ok (.dup, 1) := by decide +kernel
theorem dX6_init_34 : decode cX6_init 34 = .ok (.bipush 8, 2) := by decide +kernel
theorem dX6_init_36 : decode cX6_init 36 = .ok (.invokespecial 18, 3) := by decide +kernel
theorem dX6_init_39 : decode cX6_init 39 = .ok (.putfield 25, 3) := by decide +kernel
theorem dX6_init_42 : decode cX6_init 42 = .ok (.aload_n 0, 1) := by decide +kernel
theorem dX6_init_43 : decode cX6_init 43 = .ok (.new 28, 3) := by decide +kernel
theorem dX6_init_46 : decode cX6_init 46 = .ok (.dup, 1) := by decide +kernel
theorem dX6_init_47 : decode cX6_init 47 = .ok (.invokespecial 30, 3) := by decide +kernel
theorem dX6_init_50 : decode cX6_init 50 = .ok (.putfield 31, 3) := by decide +kernel
theorem dX6_init_53 : decode cX6_init 53 = .ok (.aload_n 0, 1) := by decide +kernel
theorem dX6_init_54 : decode cX6_init 54 = .ok (.new 35, 3) := by decide +kernel
theorem dX6_init_57 : decode cX6_init 57 = .ok (.dup, 1) := by decide +kernel
theorem dX6_init_58 : decode cX6_init 58 = .ok (.invokespecial 37, 3) := by decide +kernel
theorem dX6_init_61 : decode cX6_init 61 = .ok (.putfield 38, 3) := by decide +kernel
theorem dX6_init_64 : decode cX6_init 64 = .ok (.aload_n 0, 1) := by decide +kernel
theorem dX6_init_65 : decode cX6_init 65 = .ok (.new 42, 3) := by decide +kernel
theorem dX6_init_68 : decode cX6_init 68 = .ok (.dup, 1) := by decide +kernel
theorem dX6_init_69 : decode cX6_init 69 = .ok (.invokespecial 44, 3) := by decide +kernel
theorem dX6_init_72 : decode cX6_init 72 = .ok (.putfield 45, 3) := by decide +kernel
theorem dX6_init_75 : decode cX6_init 75 = .ok (.aload_n 0, 1) := by decide +kernel
theorem dX6_init_76 : decode cX6_init 76 = .ok (.new 49, 3) := by decide +kernel
theorem dX6_init_79 : decode cX6_init 79 = .ok (.dup, 1) := by decide +kernel
theorem dX6_init_80 : decode cX6_init 80 = .ok (.invokespecial 51, 3) := by decide +kernel
theorem dX6_init_83 : decode cX6_init 83 = .ok (.putfield 52, 3) := by decide +kernel
theorem dX6_init_86 : decode cX6_init 86 = .ok (.aload_n 0, 1) := by decide +kernel
theorem dX6_init_87 : decode cX6_init 87 = .ok (.bipush 32, 2) := by decide +kernel
theorem dX6_init_89 : decode cX6_init 89 = .ok (.iconst 4, 1) := by decide +kernel
theorem dX6_init_90 : decode cX6_init 90 = .ok (.iconst 2, 1) := by decide +kernel
theorem dX6_init_91 : decode cX6_init 91 = .ok (.sipush 1000, 3) := by decide +kernel
theorem dX6_init_94 : decode cX6_init 94 = .ok (.invokevirtual 56, 3) := by decide +kernel
theorem dX6_init_97 : decode cX6_init 97 = .ok (.return_, 1) := by decide +kernel
set_option maxRecDepth 20000 in
theorem ggX6_make_X6_isOutside : GoodIn wsX6_make wsX6_isOutside := goodIn_r _ [5] (by decide +kernel) (by decide +kernel)
set_option maxRecDepth 20000 in
theorem gX6_make_X6_isOutside : GoodIn wsX6_make (va_wsS RX6 60 yX6_isOutside wsX6_isOutside) := goodIn_app (goodIn_of _ (by decide +kernel)) ggX6_make_X6_isOutside
set_option maxRecDepth 20000 in
theorem ggX6_make_X6_renew : GoodIn wsX6_make wsX6_renew := goodIn_r _ [9, 10, 11, 12, 13, 14, 15, 16, 17, 18, 19, 20, 21, 22, 23, 24, 25, 26, 27, 28, 29, 30, 31, 32, 33, 34, 35, 36, 37, 38, 39, 40, 41, 42, 4, 43, 44, 45, 46, 47, 48, 49, 50, 51, 52, 53, 54, 55, 56, 57, 58, 59, 60, 61, 62, 63, 64, 65, 66, 67, 68, 69, 70, 71, 72, 73, 74, 75, 76, 77, 78, 79, 80, 81, 82, 83, 84, 85, 86, 87, 88, 89, 90, 91, 92, 93, 94, 95, 96, 97, 98, 99, 100, 101, 102, 103, 104, 105, 106, 107, 108, 109, 110, 111, 112, 113, 114, 115, 116, 117, 118, 119, 120, 121, 122, 123, 124, 125, 126, 127, 128, 129, 130, 131, 132, 133, 134, 135] (by decide +kernel) (by decide +kernel)
set_option maxRecDepth 20000 in
theorem gX6_make_X6_renew : GoodIn wsX6_make (wsV RX6 56 RX6 yX6_renew wsX6_renew) := goodIn_app (goodIn_of _ (by decide +kernel)) ggX6_make_X6_renew
theorem dX6_make_0 : decode cX6_make 0 = .ok (.iload_n 1, 1) := by decide +kernel
theorem dX6_make_1 : decode cX6_make 1 = .ok (.iconst 4, 1) := by decide +kernel
theorem dX6_make_2 : decode cX6_make 2 = .ok (.bipush 64, 2) := by decide +kernel
theorem dX6_make_4 : decode cX6_make 4 = .ok (.invokestatic 60, 3) := by decide +kernel
theorem dX6_make_7 : decode cX6_make 7 = .ok (.ifCond .ne 13, 3) := by decide +kernel
theorem dX6_make_10 : decode cX6_make 10 = .ok (.iload_n 2, 1) := by decide +kernel
theorem dX6_make_11 : decode cX6_make 11 = .ok (.iconst 1, 1) := by decide +kernel
theorem dX6_make_12 : decode cX6_make 12 = .ok (.bipush 8, 2) := by decide +kernel
theorem dX6_make_14 : decode cX6_make 14 = .ok (.invokestatic 60, 3) := by decide +kernel
theorem dX6_make_17 : decode cX6_make 17 = .ok (.ifCond .eq 5, 3) := by decide +kernel
theorem dX6_make_20 : decode cX6_make 20 = .ok (.iconst (-1), 1) := by decide +kernel
theorem dX6_make_21 : decode cX6_make 21 = .ok (.ireturn, 1) := by decide +kernel
theorem dX6_make_22 : decode cX6_make 22 = .ok (.iload_n 3, 1) := by decide +kernel
theorem dX6_make_23 : decode cX6_make 23 = .ok (.iconst 0, 1) := by decide +kernel
theorem dX6_make_24 : decode cX6_make 24 = .ok (.bipush 9, 2) := by decide +kernel
theorem dX6_make_26 : decode cX6_make 26 = .ok (.invokestatic 60, 3) := by decide +kernel
theorem dX6_make_29 : decode cX6_make 29 = .ok (.ifCond .ne 14, 3) := by decide +kernel
theorem dX6_make_32 : decode cX6_make 32 = .ok (.iload 4, 2) := by decide +kernel
theorem dX6_make_34 : decode cX6_make 34 = .ok (.iconst 0, 1) := by decide +kernel
theorem dX6_make_35 : decode cX6_make 35 = .ok (.ldc 64, 2) := by decide +kernel
theorem dX6_make_37 : decode cX6_make 37 = .ok (.invokestatic 60, 3) := by decide +kernel
theorem dX6_make_40 : decode cX6_make 40 = .ok (.ifCond .eq 5, 3) := by decide +kernel
theorem dX6_make_43 : decode cX6_make 43 = .ok (.iconst (-1), 1) := by decide +kernel
theorem dX6_make_44 : decode cX6_make 44 = .ok (.ireturn, 1) := by decide +kernel
theorem dX6_make_45 : decode cX6_make 45 = .ok (.aload_n 0, 1) := by decide +kernel
theorem dX6_make_46 : decode cX6_make 46 = .ok (.iload_n 1, 1) := by decide +kernel
theorem dX6_make_47 : decode cX6_make 47 = .ok (.iload_n 2, 1) := by decide +kernel
theorem dX6_make_48 : decode cX6_make 48 = .ok (.iload_n 3, 1) := by decide +kernel
theorem dX6_make_49 : decode cX6_make 49 = .ok (.iload 4, 2) := by decide +kernel
theorem dX6_make_51 : decode cX6_make 51 = .ok (.invokevirtual 56, 3) := by decide +kernel
theorem dX6_make_54 : decode cX6_make 54 = .ok (.iload_n 1, 1) := by decide +kernel
theorem dX6_make_55 : decode cX6_make 55 = .ok (.ireturn, 1) := by decide +kernel
set_option maxRecDepth 20000 in
theorem ggX6_power_X6_isOutside : GoodIn wsX6_power wsX6_isOutside := goodIn_r _ [4] (by decide +kernel) (by decide +kernel)
set_option maxRecDepth 20000 in
theorem gX6_power_X6_isOutside : GoodIn wsX6_power (va_wsS RX6 60 yX6_isOutside wsX6_isOutside) := goodIn_app (goodIn_of _ (by decide +kernel)) ggX6_power_X6_isOutside
set_option maxRecDepth 20000 in
theorem ggX6_power_X6_isPowered : GoodIn wsX6_power wsX6_isPowered := goodIn_r _ [8, 9, 127, 128, 129, 130, 131, 132, 133, 134, 135, 136, 137, 138, 139, 140, 141, 142, 143] (by decide +kernel) (by decide +kernel)
set_option maxRecDepth 20000 in
theorem gX6_power_X6_isPowered : GoodIn wsX6_power (wsV RX6 65 RX6 yX6_isPowered wsX6_isPowered) := goodIn_app (goodIn_of _ (by decide +kernel)) ggX6_power_X6_isPowered
set_option maxRecDepth 20000 in
theorem ggX6_power_X6_start : GoodIn wsX6_power wsX6_start := goodIn_r _ [13, 9, 14, 15, 16, 17, 18, 3, 19, 20, 21, 22, 23, 24, 25, 26, 27, 28, 29, 30, 31, 32, 33, 34, 35, 36, 37, 38, 39, 40, 41, 42, 43, 44, 45, 46, 47, 48, 49, 50, 51, 52, 53, 54, 55, 56, 57, 58, 59, 60, 61, 62, 63, 64, 65, 66, 67, 68, 69, 70, 71, 72, 127, 128, 129, 130, 131, 132, 133, 134, 135, 136, 137, 138, 139, 140, 141, 142, 143, 144, 145, 146, 147, 148, 149, 150, 151, 152, 153, 154, 155, 156, 157, 158, 159, 160, 161, 162, 163] (by decide +kernel) (by decide +kernel)
set_option maxRecDepth 20000 in
theorem gX6_power_X6_start : GoodIn wsX6_power (wsV RX6 69 RX6 yX6_start wsX6_start) := goodIn_app (goodIn_of _ (by decide +kernel)) ggX6_power_X6_start
set_option maxRecDepth 20000 in
theorem ggX6_power_X6_tearUnfinished : GoodIn wsX6_power wsX6_tearUnfinished := goodIn_r _ [76, 24, 77, 25, 78, 79, 80, 38, 81, 40, 41, 82, 83, 84, 85, 86, 87, 88, 89, 90, 91, 92, 93, 94, 95, 96, 97, 98, 99, 100, 101, 102, 103, 104, 105, 106, 107, 108, 109, 110, 111, 112, 113, 114, 115, 116, 45, 117, 48, 49, 118, 119, 120, 121, 47, 122, 123, 124, 125, 126, 127, 128, 129, 130, 131, 132, 133, 134, 135, 136, 137, 138, 139, 140, 141, 142, 143, 147, 148, 149, 150, 164, 165, 166, 167, 168, 169, 151, 152, 153, 154, 155, 156] (by decide +kernel) (by decide +kernel)
set_option maxRecDepth 20000 in
theorem gX6_power_X6_tearUnfinished : GoodIn wsX6_power (wsV RX6 72 RX6 yX6_tearUnfinished wsX6_tearUnfinished) := goodIn_app (goodIn_of _ (by decide +kernel)) ggX6_power_X6_tearUnfinished
set_option maxRecDepth 20000 in
theorem ggX6_power_X6_goDark : GoodIn wsX6_power wsX6_goDark := goodIn_r _ [19, 9, 20, 21, 22, 15, 23, 24, 25, 26, 27, 28, 29, 30, 31, 32, 33, 34, 35, 36, 37, 38, 39, 40, 41, 42, 43, 44, 45, 46, 47, 48, 49, 50, 51, 52, 53, 54, 55, 56, 57, 58, 59, 60, 61, 62, 63, 64, 65, 66, 127, 128, 129, 130, 131, 132, 133, 134, 135, 136, 137, 138, 139, 140, 141, 142, 143, 144, 145, 146, 147, 148, 149, 150, 151, 152, 153, 154, 155, 156, 157, 158, 159, 160, 161] (by decide +kernel) (by decide +kernel)
set_option maxRecDepth 20000 in
theorem gX6_power_X6_goDark : GoodIn wsX6_power (wsV RX6 75 RX6 yX6_goDark wsX6_goDark) := goodIn_app (goodIn_of _ (by decide +kernel)) ggX6_power_X6_goDark
theorem dX6_power_0 : decode cX6_power 0 = .ok (.iload_n 1, 1) := by decide +kernel
theorem dX6_power_1 : decode cX6_power 1 = .ok (.iconst 0, 1) := by decide +kernel
theorem dX6_power_2 : decode cX6_power 2 = .ok (.iconst 1, 1) := by decide +kernel
theorem dX6_power_3 : decode cX6_power 3 = .ok (.invokestatic 60, 3) := by decide +kernel
theorem dX6_power_6 : decode cX6_power 6 = .ok (.ifCond .eq 5, 3) := by decide +kernel
theorem dX6_power_9 : decode cX6_power 9 = .ok (.iconst (-1), 1) := by decide +kernel
theorem dX6_power_10 : decode cX6_power 10 = .ok (.ireturn, 1) := by decide +kernel
theorem dX6_power_11 : decode cX6_power 11 = .ok (.aload_n 0, 1) := by decide +kernel
theorem dX6_power_12 : decode cX6_power 12 = .ok (.invokevirtual 65, 3) := by decide +kernel
theorem dX6_power_15 : decode cX6_power 15 = .ok (.iload_n 1, 1) := by decide +kernel
theorem dX6_power_16 : decode cX6_power 16 = .ok (.iconst 1, 1) := by decide +kernel
theorem dX6_power_17 : decode cX6_power 17 = .ok (.if_icmp .ne 7, 3) := by decide +kernel
theorem dX6_power_20 : decode cX6_power 20 = .ok (.iconst 1, 1) := by decide +kernel
theorem dX6_power_21 : decode cX6_power 21 = .ok (.goto 4, 3) := by decide +kernel
theorem dX6_power_24 : decode cX6_power 24 = .ok (.iconst 0, 1) := by decide +kernel
theorem dX6_power_25 : decode cX6_power 25 = .ok (.if_icmp .ne 6, 3) := by decide +kernel
theorem dX6_power_28 : decode cX6_power 28 = .ok (.bipush (-2), 2) := by decide +kernel
theorem dX6_power_30 : decode cX6_power 30 = .ok (.ireturn, 1) := by decide +kernel
theorem dX6_power_31 : decode cX6_power 31 = .ok (.iload_n 1, 1) := by decide +kernel
theorem dX6_power_32 : decode cX6_power 32 = .ok (.iconst 1, 1) := by decide +kernel
theorem dX6_power_33 : decode cX6_power 33 = .ok (.if_icmp .ne 10, 3) := by decide +kernel
theorem dX6_power_36 : decode cX6_power 36 = .ok (.aload_n 0, 1) := by decide +kernel
theorem dX6_power_37 : decode cX6_power 37 = .ok (.invokevirtual 69, 3) := by decide +kernel
theorem dX6_power_40 : decode cX6_power 40 = .ok (.goto 11, 3) := by decide +kernel
theorem dX6_power_43 : decode cX6_power 43 = .ok (.aload_n 0, 1) := by decide +kernel
theorem dX6_power_44 : decode cX6_power 44 = .ok (.invokevirtual 72, 3) := by decide +kernel
theorem dX6_power_47 : decode cX6_power 47 = .ok (.aload_n 0, 1) := by decide +kernel
theorem dX6_power_48 : decode cX6_power 48 = .ok (.invokevirtual 75, 3) := by decide +kernel
theorem dX6_power_51 : decode cX6_power 51 = .ok (.iconst 1, 1) := by decide +kernel
theorem dX6_power_52 : decode cX6_power 52 = .ok (.ireturn, 1) := by decide +kernel
set_option maxRecDepth 20000 in
theorem ggX6_warm_X6_isOutside : GoodIn wsX6_warm wsX6_isOutside := goodIn_r _ [5] (by decide +kernel) (by decide +kernel)
set_option maxRecDepth 20000 in
theorem gX6_warm_X6_isOutside : GoodIn wsX6_warm (va_wsS RX6 60 yX6_isOutside wsX6_isOutside) := goodIn_app (goodIn_of _ (by decide +kernel)) ggX6_warm_X6_isOutside
theorem dX6_warm_0 : decode cX6_warm 0 = .ok (.iload_n 1, 1) := by decide +kernel
theorem dX6_warm_1 : decode cX6_warm 1 = .ok (.iconst 0, 1) := by decide +kernel
theorem dX6_warm_2 : decode cX6_warm 2 = .ok (.bipush 15, 2) := by decide +kernel
theorem dX6_warm_4 : decode cX6_warm 4 = .ok (.invokestatic 60, 3) := by decide +kernel
theorem dX6_warm_7 : decode cX6_warm 7 = .ok (.ifCond .eq 5, 3) := by decide +kernel
theorem dX6_warm_10 : decode cX6_warm 10 = .ok (.iconst (-1), 1) := by decide +kernel
theorem dX6_warm_11 : decode cX6_warm 11 = .ok (.ireturn, 1) := by decide +kernel
theorem dX6_warm_12 : decode cX6_warm 12 = .ok (.aload_n 0, 1) := by decide +kernel
theorem dX6_warm_13 : decode cX6_warm 13 = .ok (.getfield 78, 3) := by decide +kernel
theorem dX6_warm_16 : decode cX6_warm 16 = .ok (.istore_n 2, 1) := by decide +kernel
theorem dX6_warm_17 : decode cX6_warm 17 = .ok (.aload_n 0, 1) := by decide +kernel
theorem dX6_warm_18 : decode cX6_warm 18 = .ok (.iload_n 1, 1) := by decide +kernel
theorem dX6_warm_19 : decode cX6_warm 19 = .ok (.putfield 78, 3) := by decide +kernel
theorem dX6_warm_22 : decode cX6_warm 22 = .ok (.iload_n 2, 1) := by decide +kernel
theorem dX6_warm_23 : decode cX6_warm 23 = .ok (.ireturn, 1) := by decide +kernel
set_option maxRecDepth 20000 in
theorem ggX6_write_X6_isOutside : GoodIn wsX6_write wsX6_isOutside := goodIn_r _ [5] (by decide +kernel) (by decide +kernel)
set_option maxRecDepth 20000 in
theorem gX6_write_X6_isOutside : GoodIn wsX6_write (va_wsS RX6 60 yX6_isOutside wsX6_isOutside) := goodIn_app (goodIn_of _ (by decide +kernel)) ggX6_write_X6_isOutside
set_option maxRecDepth 20000 in
theorem ggX6_write_X1_append : GoodIn wsX6_write wsX1_append := goodIn_r _ [10, 11, 12, 34, 35] (by decide +kernel) (by decide +kernel)
set_option maxRecDepth 20000 in
theorem gX6_write_X1_append : GoodIn wsX6_write (wsV RX6 82 RX1 yX1_append wsX1_append) := goodIn_app (goodIn_of _ (by decide +kernel)) ggX6_write_X1_append
set_option maxRecDepth 20000 in
theorem ggX6_write_X1_length : GoodIn wsX6_write wsX1_length := goodIn_r _ [16, 11, 34, 35] (by decide +kernel) (by decide +kernel)
set_option maxRecDepth 20000 in
theorem gX6_write_X1_length : GoodIn wsX6_write (wsV RX6 86 RX1 yX1_length wsX1_length) := goodIn_app (goodIn_of _ (by decide +kernel)) ggX6_write_X1_length
theorem dX6_write_0 : decode cX6_write 0 = .ok (.iload_n 1, 1) := by decide +kernel
theorem dX6_write_1 : decode cX6_write 1 = .ok (.bipush 32, 2) := by decide +kernel
theorem dX6_write_3 : decode cX6_write 3 = .ok (.bipush 126, 2) := by decide +kernel
theorem dX6_write_5 : decode cX6_write 5 = .ok (.invokestatic 60, 3) := by decide +kernel
theorem dX6_write_8 : decode cX6_write 8 = .ok (.ifCond .eq 5, 3) := by decide +kernel
theorem dX6_write_11 : decode cX6_write 11 = .ok (.iconst (-1), 1) := by decide +kernel
theorem dX6_write_12 : decode cX6_write 12 = .ok (.ireturn, 1) := by decide +kernel
theorem dX6_write_13 : decode cX6_write 13 = .ok (.aload_n 0, 1) := by decide +kernel
theorem dX6_write_14 : decode cX6_write 14 = .ok (.getfield 21, 3) := by decide +kernel
theorem dX6_write_17 : decode cX6_write 17 = .ok (.iload_n 1, 1) := by decide +kernel
theorem dX6_write_18 : decode cX6_write 18 = .ok (.invokevirtual 82, 3) := by decide +kernel
theorem dX6_write_21 : decode cX6_write 21 = .ok (.ifCond .ne 6, 3) := by decide +kernel
theorem dX6_write_24 : decode cX6_write 24 = .ok (.bipush (-3), 2) := by decide +kernel
theorem dX6_write_26 : decode cX6_write 26 = .ok (.ireturn, 1) := by decide +kernel
theorem dX6_write_27 : decode cX6_write 27 = .ok (.aload_n 0, 1) := by decide +kernel
theorem dX6_write_28 : decode cX6_write 28 = .ok (.getfield 21, 3) := by decide +kernel
theorem dX6_write_31 : decode cX6_write 31 = .ok (.invokevirtual 86, 3) := by decide +kernel
theorem dX6_write_34 : decode cX6_write 34 = .ok (.ireturn, 1) := by decide +kernel
set_option maxRecDepth 20000 in
theorem ggX6_wipe_X1_length : GoodIn wsX6_wipe wsX1_length := goodIn_r _ [6, 7, 29, 30] (by decide +kernel) (by decide +kernel)
set_option maxRecDepth 20000 in
theorem gX6_wipe_X1_length : GoodIn wsX6_wipe (wsV RX6 86 RX1 yX1_length wsX1_length) := goodIn_app (goodIn_of _ (by decide +kernel)) ggX6_wipe_X1_length
set_option maxRecDepth 20000 in
theorem ggX6_wipe_X1_empty : GoodIn wsX6_wipe wsX1_empty := goodIn_r _ [11, 7, 29, 30] (by decide +kernel) (by decide +kernel)
set_option maxRecDepth 20000 in
theorem gX6_wipe_X1_empty : GoodIn wsX6_wipe (wsV RX6 90 RX1 yX1_empty wsX1_empty) := goodIn_app (goodIn_of _ (by decide +kernel)) ggX6_wipe_X1_empty
theorem dX6_wipe_0 : decode cX6_wipe 0 = .ok (.aload_n 0, 1) := by decide +kernel
theorem dX6_wipe_1 : decode cX6_wipe 1 = .ok (.getfield 21, 3) := by decide +kernel
theorem dX6_wipe_4 : decode cX6_wipe 4 = .ok (.invokevirtual 86, 3) := by decide +kernel
theorem dX6_wipe_7 : decode cX6_wipe 7 = .ok (.istore_n 1, 1) := by decide +kernel
theorem dX6_wipe_8 : decode cX6_wipe 8 = .ok (.aload_n 0, 1) := by decide +kernel
theorem dX6_wipe_9 : decode cX6_wipe 9 = .ok (.getfield 21, 3) := by decide +kernel
theorem dX6_wipe_12 : decode cX6_wipe 12 = .ok (.invokevirtual 90, 3) := by decide +kernel
theorem dX6_wipe_15 : decode cX6_wipe 15 = .ok (.iload_n 1, 1) := by decide +kernel
theorem dX6_wipe_16 : decode cX6_wipe 16 = .ok (.ireturn, 1) := by decide +kernel
set_option maxRecDepth 20000 in
theorem ggX6_check_X6_isNoCommand : GoodIn wsX6_check wsX6_isNoCommand := goodIn_r _ [4, 5, 6, 7, 3, 8] (by decide +kernel) (by decide +kernel)
set_option maxRecDepth 20000 in
theorem gX6_check_X6_isNoCommand : GoodIn wsX6_check (va_wsS RX6 93 yX6_isNoCommand wsX6_isNoCommand) := goodIn_app (goodIn_of _ (by decide +kernel)) ggX6_check_X6_isNoCommand
set_option maxRecDepth 20000 in
theorem ggX6_check_X6_commandCheck : GoodIn wsX6_check wsX6_commandCheck := goodIn_r _ [11, 12, 13, 14, 3, 15] (by decide +kernel) (by decide +kernel)
set_option maxRecDepth 20000 in
theorem gX6_check_X6_commandCheck : GoodIn wsX6_check (va_wsS RX6 97 yX6_commandCheck wsX6_commandCheck) := goodIn_app (goodIn_of _ (by decide +kernel)) ggX6_check_X6_commandCheck
theorem dX6_check_0 : decode cX6_check 0 = .ok (.iload_n 1, 1) := by decide +kernel
theorem dX6_check_1 : decode cX6_check 1 = .ok (.iload_n 2, 1) := by decide +kernel
theorem dX6_check_2 : decode cX6_check 2 = .ok (.invokestatic 93, 3) := by decide +kernel
theorem dX6_check_5 : decode cX6_check 5 = .ok (.ifCond .eq 5, 3) := by decide +kernel
theorem dX6_check_8 : decode cX6_check 8 = .ok (.iconst (-1), 1) := by decide +kernel
theorem dX6_check_9 : decode cX6_check 9 = .ok (.ireturn, 1) := by decide +kernel
theorem dX6_check_10 : decode cX6_check 10 = .ok (.iload_n 1, 1) := by decide +kernel
theorem dX6_check_11 : decode cX6_check 11 = .ok (.iload_n 2, 1) := by decide +kernel
theorem dX6_check_12 : decode cX6_check 12 = .ok (.invokestatic 97, 3) := by decide +kernel
theorem dX6_check_15 : decode cX6_check 15 = .ok (.ireturn, 1) := by decide +kernel
set_option maxRecDepth 20000 in
theorem ggX6_checkOf_X6_isOutside : GoodIn wsX6_checkOf wsX6_isOutside := goodIn_r _ [5] (by decide +kernel) (by decide +kernel)
set_option maxRecDepth 20000 in
theorem gX6_checkOf_X6_isOutside : GoodIn wsX6_checkOf (va_wsS RX6 60 yX6_isOutside wsX6_isOutside) := goodIn_app (goodIn_of _ (by decide +kernel)) ggX6_checkOf_X6_isOutside
set_option maxRecDepth 20000 in
theorem ggX6_checkOf_X6_contentCheck : GoodIn wsX6_checkOf wsX6_contentCheck := goodIn_r _ [8, 9, 10, 4, 11] (by decide +kernel) (by decide +kernel)
set_option maxRecDepth 20000 in
theorem gX6_checkOf_X6_contentCheck : GoodIn wsX6_checkOf (va_wsS RX6 101 yX6_contentCheck wsX6_contentCheck) := goodIn_app (goodIn_of _ (by decide +kernel)) ggX6_checkOf_X6_contentCheck
theorem dX6_checkOf_0 : decode cX6_checkOf 0 = .ok (.iload_n 1, 1) := by decide +kernel
theorem dX6_checkOf_1 : decode cX6_checkOf 1 = .ok (.iconst 0, 1) := by decide +kernel
theorem dX6_checkOf_2 : decode cX6_checkOf 2 = .ok (.ldc 64, 2) := by decide +kernel
theorem dX6_checkOf_4 : decode cX6_checkOf 4 = .ok (.invokestatic 60, 3) := by decide +kernel
theorem dX6_checkOf_7 : decode cX6_checkOf 7 = .ok (.ifCond .eq 5, 3) := by decide +kernel
theorem dX6_checkOf_10 : decode cX6_checkOf 10 = .ok (.iconst (-1), 1) := by decide +kernel
theorem dX6_checkOf_11 : decode cX6_checkOf 11 = .ok (.ireturn, 1) := by decide +kernel
theorem dX6_checkOf_12 : decode cX6_checkOf 12 = .ok (.iload_n 1, 1) := by decide +kernel
theorem dX6_checkOf_13 : decode cX6_checkOf 13 = .ok (.invokestatic 101, 3) := by decide +kernel
theorem dX6_checkOf_16 : decode cX6_checkOf 16 = .ok (.ireturn, 1) := by decide +kernel
set_option maxRecDepth 20000 in
theorem ggX6_send_X6_isNoCommand : GoodIn wsX6_send wsX6_isNoCommand := goodIn_r _ [4, 5, 6, 7, 3, 8] (by decide +kernel) (by decide +kernel)
set_option maxRecDepth 20000 in
theorem gX6_send_X6_isNoCommand : GoodIn wsX6_send (va_wsS RX6 93 yX6_isNoCommand wsX6_isNoCommand) := goodIn_app (goodIn_of _ (by decide +kernel)) ggX6_send_X6_isNoCommand
set_option maxRecDepth 20000 in
theorem ggX6_send_X6_isOutside : GoodIn wsX6_send wsX6_isOutside := goodIn_r _ [8] (by decide +kernel) (by decide +kernel)
set_option maxRecDepth 20000 in
theorem gX6_send_X6_isOutside : GoodIn wsX6_send (va_wsS RX6 60 yX6_isOutside wsX6_isOutside) := goodIn_app (goodIn_of _ (by decide +kernel)) ggX6_send_X6_isOutside
set_option maxRecDepth 20000 in
theorem ggX6_send_X6_hears : GoodIn wsX6_send wsX6_hears := goodIn_r _ [12, 13, 14, 15, 16, 3, 17, 18, 19, 20, 21, 22, 23, 24, 25, 26, 27, 28, 29, 30, 31, 32, 33, 34, 35, 36, 37, 38, 39, 40, 41, 42, 43, 44, 45, 46, 47, 48, 49, 50, 51, 52, 53, 364, 365, 366, 367, 368, 369, 370, 371, 372, 373, 374, 375, 376, 377, 378, 379, 380, 381, 382, 383, 384, 385, 386] (by decide +kernel) (by decide +kernel)
set_option maxRecDepth 20000 in
theorem gX6_send_X6_hears : GoodIn wsX6_send (wsV RX6 105 RX6 yX6_hears wsX6_hears) := goodIn_app (goodIn_of _ (by decide +kernel)) ggX6_send_X6_hears
set_option maxRecDepth 20000 in
theorem ggX6_send_X6_obey : GoodIn wsX6_send wsX6_obey := goodIn_r _ [57, 58, 59, 60, 61, 3, 62, 63, 64, 65, 66, 67, 68, 13, 69, 70, 71, 72, 73, 74, 75, 76, 77, 78, 79, 80, 81, 82, 83, 84, 85, 86, 87, 88, 89, 90, 91, 92, 93, 94, 95, 96, 97, 98, 99, 100, 101, 102, 103, 104, 105, 106, 107, 108, 109, 110, 45, 111, 112, 113, 114, 115, 116, 117, 118, 119, 120, 121, 122, 123, 124, 125, 126, 127, 18, 128, 35, 129, 130, 131, 132, 133, 30, 134, 135, 136, 137, 138, 139, 140, 141, 142, 143, 144, 145, 146, 147, 148, 149, 150, 151, 152, 153, 49, 50, 51, 47, 52, 53, 154, 155, 156, 157, 158, 159, 160, 161, 162, 163, 164, 165, 166, 167, 168, 169, 170, 171, 172, 173, 174, 175, 176, 177, 178, 179, 180, 181, 182, 183, 184, 185, 186, 187, 188, 189, 190, 191, 192, 193, 194, 195, 196, 197, 198, 199, 200, 201, 202, 26, 27, 28, 29, 203, 204, 205, 206, 207, 208, 209, 210, 211, 212, 213, 214, 215, 216, 217, 218, 219, 220, 221, 222, 223, 224, 225, 226, 227, 228, 229, 230, 231, 232, 233, 234, 235, 236, 237, 238, 239, 240, 241, 242, 243, 244, 245, 246, 247, 248, 249, 250, 251, 252, 253, 254, 255, 256, 257, 258, 259, 260, 261, 262, 263, 264, 265, 266, 267, 268, 269, 270, 271, 272, 48, 273, 274, 275, 276, 277, 278, 279, 280, 281, 282, 283, 284, 285, 286, 287, 288, 289, 290, 291, 292, 293, 294, 295, 296, 297, 298, 299, 300, 301, 302, 303, 304, 305, 306, 307, 308, 309, 310, 311, 312, 313, 314, 315, 316, 317, 318, 319, 320, 321, 322, 323, 324, 325, 326, 327, 328, 329, 330, 331, 332, 333, 334, 6, 7, 8, 335, 336, 337, 338, 339, 340, 341, 342, 343, 344, 345, 346, 347, 348, 349, 350, 351, 352, 353, 354, 355, 356, 357, 358, 359, 360, 361, 362, 363, 364, 365, 366, 367, 368, 369, 370, 371, 372, 373, 374, 375, 376, 377, 378, 379, 380, 387, 388, 389, 390, 391, 392, 393, 394, 395, 396, 381, 382, 383, 384, 385, 386, 397, 398, 399, 400, 401, 402, 403, 404, 405, 406] (by decide +kernel) (by decide +kernel)
set_option maxRecDepth 20000 in
theorem gX6_send_X6_obey : GoodIn wsX6_send (wsV RX6 108 RX6 yX6_obey wsX6_obey) := goodIn_app (goodIn_of _ (by decide +kernel)) ggX6_send_X6_obey
theorem dX6_send_0 : decode cX6_send 0 = .ok (.iload_n 1, 1) := by decide +kernel
theorem dX6_send_1 : decode cX6_send 1 = .ok (.iload_n 2, 1) := by decide +kernel
theorem dX6_send_2 : decode cX6_send 2 = .ok (.invokestatic 93, 3) := by decide +kernel
theorem dX6_send_5 : decode cX6_send 5 = .ok (.ifCond .ne 13, 3) := by decide +kernel
theorem dX6_send_8 : decode cX6_send 8 = .ok (.iload_n 3, 1) := by decide +kernel
theorem dX6_send_9 : decode cX6_send 9 = .ok (.iconst 0, 1) := by decide +kernel
theorem dX6_send_10 : decode cX6_send 10 = .ok (.bipush 127, 2) := by decide +kernel
theorem dX6_send_12 : decode cX6_send 12 = .ok (.invokestatic 60, 3) := by decide +kernel
theorem dX6_send_15 : decode cX6_send 15 = .ok (.ifCond .eq 5, 3) := by decide +kernel
theorem dX6_send_18 : decode cX6_send 18 = .ok (.iconst (-1), 1) := by decide +kernel
theorem dX6_send_19 : decode cX6_send 19 = .ok (.ireturn, 1) := by decide +kernel
theorem dX6_send_20 : decode cX6_send 20 = .ok (.aload_n 0, 1) := by decide +kernel
theorem dX6_send_21 : decode cX6_send 21 = .ok (.iload_n 1, 1) := by decide +kernel
theorem dX6_send_22 : decode cX6_send 22 = .ok (.iload_n 2, 1) := by decide +kernel
theorem dX6_send_23 : decode cX6_send 23 = .ok (.iload_n 3, 1) := by decide +kernel
theorem dX6_send_24 : decode cX6_send 24 = .ok (.invokevirtual 105, 3) := by decide +kernel
theorem dX6_send_27 : decode cX6_send 27 = .ok (.ifCond .eq 12, 3) := by decide +kernel
theorem dX6_send_30 : decode cX6_send 30 = .ok (.aload_n 0, 1) := by decide +kernel
theorem dX6_send_31 : decode cX6_send 31 = .ok (.iload_n 1, 1) := by decide +kernel
theorem dX6_send_32 : decode cX6_send 32 = .ok (.iload_n 2, 1) := by decide +kernel
theorem dX6_send_33 : decode cX6_send 33 = .ok (.invokevirtual 108, 3) := by decide +kernel
theorem dX6_send_36 : decode cX6_send 36 = .ok (.goto 5, 3) := by decide +kernel
theorem dX6_send_39 : decode cX6_send 39 = .ok (.bipush (-4), 2) := by decide +kernel
theorem dX6_send_41 : decode cX6_send 41 = .ok (.ireturn, 1) := by decide +kernel
set_option maxRecDepth 20000 in
theorem ggX6_tell_X6_isNoCommand : GoodIn wsX6_tell wsX6_isNoCommand := goodIn_r _ [4, 5, 6, 7, 3, 8] (by decide +kernel) (by decide +kernel)
set_option maxRecDepth 20000 in
theorem gX6_tell_X6_isNoCommand : GoodIn wsX6_tell (va_wsS RX6 93 yX6_isNoCommand wsX6_isNoCommand) := goodIn_app (goodIn_of _ (by decide +kernel)) ggX6_tell_X6_isNoCommand
set_option maxRecDepth 20000 in
theorem ggX6_tell_X6_commandCheck : GoodIn wsX6_tell wsX6_commandCheck := goodIn_r _ [11, 12, 13, 14, 3, 15] (by decide +kernel) (by decide +kernel)
set_option maxRecDepth 20000 in
theorem gX6_tell_X6_commandCheck : GoodIn wsX6_tell (va_wsS RX6 97 yX6_commandCheck wsX6_commandCheck) := goodIn_app (goodIn_of _ (by decide +kernel)) ggX6_tell_X6_commandCheck
set_option maxRecDepth 20000 in
theorem ggX6_tell_X6_hears : GoodIn wsX6_tell wsX6_hears := goodIn_r _ [19, 20, 21, 22, 23, 3, 24, 25, 9, 10, 11, 12, 13, 14, 15, 26, 27, 28, 29, 30, 31, 32, 33, 34, 35, 36, 37, 38, 39, 40, 41, 42, 43, 44, 45, 46, 47, 48, 49, 50, 51, 52, 53, 364, 365, 366, 367, 368, 369, 370, 371, 372, 373, 374, 375, 376, 377, 378, 379, 380, 381, 382, 383, 384, 385, 386] (by decide +kernel) (by decide +kernel)
set_option maxRecDepth 20000 in
theorem gX6_tell_X6_hears : GoodIn wsX6_tell (wsV RX6 105 RX6 yX6_hears wsX6_hears) := goodIn_app (goodIn_of _ (by decide +kernel)) ggX6_tell_X6_hears
set_option maxRecDepth 20000 in
theorem ggX6_tell_X6_obey : GoodIn wsX6_tell wsX6_obey := goodIn_r _ [57, 58, 59, 60, 61, 3, 62, 63, 64, 65, 66, 67, 68, 20, 69, 70, 71, 72, 73, 74, 75, 76, 77, 78, 79, 80, 81, 82, 83, 84, 85, 86, 87, 88, 89, 90, 91, 92, 93, 94, 95, 96, 97, 98, 99, 100, 101, 102, 103, 104, 105, 106, 107, 108, 109, 110, 45, 111, 112, 113, 114, 115, 116, 117, 118, 119, 120, 121, 122, 123, 124, 125, 126, 127, 25, 128, 35, 129, 130, 131, 132, 133, 30, 134, 135, 136, 137, 138, 139, 140, 141, 142, 143, 144, 145, 146, 147, 148, 149, 150, 151, 152, 153, 49, 50, 51, 47, 52, 53, 154, 155, 156, 157, 158, 159, 160, 161, 162, 163, 164, 165, 166, 167, 168, 169, 170, 171, 172, 173, 174, 175, 176, 177, 178, 179, 180, 181, 182, 183, 184, 185, 186, 187, 188, 189, 190, 191, 192, 193, 194, 195, 196, 197, 198, 199, 200, 201, 202, 26, 27, 28, 29, 203, 204, 205, 206, 207, 208, 209, 210, 211, 212, 213, 214, 215, 216, 217, 218, 219, 220, 221, 222, 223, 224, 225, 226, 227, 228, 229, 230, 231, 232, 233, 234, 235, 236, 237, 238, 239, 240, 241, 242, 243, 244, 245, 246, 247, 248, 249, 250, 251, 252, 253, 254, 255, 256, 257, 258, 259, 260, 261, 262, 263, 264, 265, 266, 267, 268, 269, 270, 271, 272, 48, 273, 274, 275, 276, 277, 278, 279, 280, 281, 282, 283, 284, 285, 286, 287, 288, 289, 290, 291, 292, 293, 294, 295, 296, 297, 298, 299, 300, 301, 302, 303, 304, 305, 306, 307, 308, 309, 310, 311, 312, 313, 314, 315, 316, 317, 318, 319, 320, 321, 322, 323, 324, 325, 326, 327, 328, 329, 330, 331, 332, 333, 334, 6, 7, 8, 335, 336, 337, 338, 339, 340, 341, 342, 343, 344, 345, 346, 347, 348, 349, 350, 351, 352, 353, 354, 355, 356, 357, 358, 359, 360, 361, 362, 363, 364, 365, 366, 367, 368, 369, 370, 371, 372, 373, 374, 375, 376, 377, 378, 379, 380, 387, 388, 389, 390, 391, 392, 393, 394, 395, 396, 381, 382, 383, 384, 385, 386, 397, 398, 399, 400, 401, 402, 403, 404, 405, 406] (by decide +kernel) (by decide +kernel)
set_option maxRecDepth 20000 in
theorem gX6_tell_X6_obey : GoodIn wsX6_tell (wsV RX6 108 RX6 yX6_obey wsX6_obey) := goodIn_app (goodIn_of _ (by decide +kernel)) ggX6_tell_X6_obey
theorem dX6_tell_0 : decode cX6_tell 0 = .ok (.iload_n 1, 1) := by decide +kernel
theorem dX6_tell_1 : decode cX6_tell 1 = .ok (.iload_n 2, 1) := by decide +kernel
theorem dX6_tell_2 : decode cX6_tell 2 = .ok (.invokestatic 93, 3) := by decide +kernel
theorem dX6_tell_5 : decode cX6_tell 5 = .ok (.ifCond .eq 5, 3) := by decide +kernel
theorem dX6_tell_8 : decode cX6_tell 8 = .ok (.iconst (-1), 1) := by decide +kernel
theorem dX6_tell_9 : decode cX6_tell 9 = .ok (.ireturn, 1) := by decide +kernel
theorem dX6_tell_10 : decode cX6_tell 10 = .ok (.aload_n 0, 1) := by decide +kernel
theorem dX6_tell_11 : decode cX6_tell 11 = .ok (.iload_n 1, 1) := by decide +kernel
theorem dX6_tell_12 : decode cX6_tell 12 = .ok (.iload_n 2, 1) := by decide +kernel
theorem dX6_tell_13 : decode cX6_tell 13 = .ok (.iload_n 1, 1) := by decide +kernel
theorem dX6_tell_14 : decode cX6_tell 14 = .ok (.iload_n 2, 1) := by decide +kernel
theorem dX6_tell_15 : decode cX6_tell 15 = .ok (.invokestatic 97, 3) := by decide +kernel
theorem dX6_tell_18 : decode cX6_tell 18 = .ok (.invokevirtual 105, 3) := by decide +kernel
theorem dX6_tell_21 : decode cX6_tell 21 = .ok (.ifCond .eq 12, 3) := by decide +kernel
theorem dX6_tell_24 : decode cX6_tell 24 = .ok (.aload_n 0, 1) := by decide +kernel
theorem dX6_tell_25 : decode cX6_tell 25 = .ok (.iload_n 1, 1) := by decide +kernel
theorem dX6_tell_26 : decode cX6_tell 26 = .ok (.iload_n 2, 1) := by decide +kernel
theorem dX6_tell_27 : decode cX6_tell 27 = .ok (.invokevirtual 108, 3) := by decide +kernel
theorem dX6_tell_30 : decode cX6_tell 30 = .ok (.goto 5, 3) := by decide +kernel
theorem dX6_tell_33 : decode cX6_tell 33 = .ok (.bipush (-4), 2) := by decide +kernel
theorem dX6_tell_35 : decode cX6_tell 35 = .ok (.ireturn, 1) := by decide +kernel
set_option maxRecDepth 20000 in
theorem ggX6_give_X6_isOutside : GoodIn wsX6_give wsX6_isOutside := goodIn_r _ [11] (by decide +kernel) (by decide +kernel)
set_option maxRecDepth 20000 in
theorem gX6_give_X6_isOutside : GoodIn wsX6_give (va_wsS RX6 60 yX6_isOutside wsX6_isOutside) := goodIn_app (goodIn_of _ (by decide +kernel)) ggX6_give_X6_isOutside
set_option maxRecDepth 20000 in
theorem ggX6_give_X5_isWrong : GoodIn wsX6_give wsX5_isWrong := goodIn_r _ [16, 17, 102, 103, 104, 105, 106] (by decide +kernel) (by decide +kernel)
set_option maxRecDepth 20000 in
theorem gX6_give_X5_isWrong : GoodIn wsX6_give (wsV RX6 114 RX5 yX5_isWrong wsX5_isWrong) := goodIn_app (goodIn_of _ (by decide +kernel)) ggX6_give_X5_isWrong
set_option maxRecDepth 20000 in
theorem ggX6_give_X5_isComplete : GoodIn wsX6_give wsX5_isComplete := goodIn_r _ [21, 22, 23, 102, 103, 104, 105, 106] (by decide +kernel) (by decide +kernel)
set_option maxRecDepth 20000 in
theorem gX6_give_X5_isComplete : GoodIn wsX6_give (wsV RX6 117 RX5 yX5_isComplete wsX5_isComplete) := goodIn_app (goodIn_of _ (by decide +kernel)) ggX6_give_X5_isComplete
set_option maxRecDepth 20000 in
theorem ggX6_give_X5_next : GoodIn wsX6_give wsX5_next := goodIn_r _ [27, 28, 102, 103, 104, 105, 106] (by decide +kernel) (by decide +kernel)
set_option maxRecDepth 20000 in
theorem gX6_give_X5_next : GoodIn wsX6_give (wsV RX6 120 RX5 yX5_next wsX5_next) := goodIn_app (goodIn_of _ (by decide +kernel)) ggX6_give_X5_next
set_option maxRecDepth 20000 in
theorem ggX6_give_X3_has : GoodIn wsX6_give wsX3_has := goodIn_r _ [33, 34, 107, 108, 109, 110, 111, 112] (by decide +kernel) (by decide +kernel)
set_option maxRecDepth 20000 in
theorem gX6_give_X3_has : GoodIn wsX6_give (wsV RX6 123 RX3 yX3_has wsX3_has) := goodIn_app (goodIn_of _ (by decide +kernel)) ggX6_give_X3_has
set_option maxRecDepth 20000 in
theorem ggX6_give_X6_refuse : GoodIn wsX6_give wsX6_refuse := goodIn_r _ [38, 39, 40, 41, 10, 42, 43, 85, 86, 87, 88, 89, 90, 91, 92, 93, 94, 95, 96, 97, 98, 99, 100, 101] (by decide +kernel) (by decide +kernel)
set_option maxRecDepth 20000 in
theorem gX6_give_X6_refuse : GoodIn wsX6_give (wsV RX6 126 RX6 yX6_refuse wsX6_refuse) := goodIn_app (goodIn_of _ (by decide +kernel)) ggX6_give_X6_refuse
set_option maxRecDepth 20000 in
theorem ggX6_give_X4_isFull : GoodIn wsX6_give wsX4_isFull := goodIn_r _ [48, 49, 113, 114, 115, 116] (by decide +kernel) (by decide +kernel)
set_option maxRecDepth 20000 in
theorem gX6_give_X4_isFull : GoodIn wsX6_give (wsV RX6 129 RX4 yX4_isFull wsX4_isFull) := goodIn_app (goodIn_of _ (by decide +kernel)) ggX6_give_X4_isFull
set_option maxRecDepth 20000 in
theorem ggX6_give_X2_isInWindow : GoodIn wsX6_give wsX2_isInWindow := goodIn_r _ [54, 55, 56, 57, 58, 59, 60, 61, 62, 63, 64, 117, 118, 119] (by decide +kernel) (by decide +kernel)
set_option maxRecDepth 20000 in
theorem gX6_give_X2_isInWindow : GoodIn wsX6_give (wsV RX6 132 RX2 yX2_isInWindow wsX2_isInWindow) := goodIn_app (goodIn_of _ (by decide +kernel)) ggX6_give_X2_isInWindow
set_option maxRecDepth 20000 in
theorem ggX6_give_X6_contentCheck : GoodIn wsX6_give wsX6_contentCheck := goodIn_r _ [67, 68, 69, 10, 70] (by decide +kernel) (by decide +kernel)
set_option maxRecDepth 20000 in
theorem gX6_give_X6_contentCheck : GoodIn wsX6_give (va_wsS RX6 101 yX6_contentCheck wsX6_contentCheck) := goodIn_app (goodIn_of _ (by decide +kernel)) ggX6_give_X6_contentCheck
set_option maxRecDepth 20000 in
theorem ggX6_give_X6_note : GoodIn wsX6_give wsX6_note := goodIn_r _ [42, 43, 85, 86, 87, 88, 89, 90, 91, 92, 93, 94, 95, 96, 97, 98, 99, 100, 101] (by decide +kernel) (by decide +kernel)
set_option maxRecDepth 20000 in
theorem gX6_give_X6_note : GoodIn wsX6_give (wsV RX6 135 RX6 yX6_note wsX6_note) := goodIn_app (goodIn_of _ (by decide +kernel)) ggX6_give_X6_note
set_option maxRecDepth 20000 in
theorem ggX6_give_X5_spoil : GoodIn wsX6_give wsX5_spoil := goodIn_r _ [74, 17, 102, 103, 104, 105, 106] (by decide +kernel) (by decide +kernel)
set_option maxRecDepth 20000 in
theorem gX6_give_X5_spoil : GoodIn wsX6_give (wsV RX6 138 RX5 yX5_spoil wsX5_spoil) := goodIn_app (goodIn_of _ (by decide +kernel)) ggX6_give_X5_spoil
set_option maxRecDepth 20000 in
theorem ggX6_give_X4_append : GoodIn wsX6_give wsX4_append := goodIn_r _ [78, 49, 79, 80, 113, 114, 115, 116] (by decide +kernel) (by decide +kernel)
set_option maxRecDepth 20000 in
theorem gX6_give_X4_append : GoodIn wsX6_give (wsV RX6 141 RX4 yX4_append wsX4_append) := goodIn_app (goodIn_of _ (by decide +kernel)) ggX6_give_X4_append
set_option maxRecDepth 20000 in
theorem ggX6_give_X5_advance : GoodIn wsX6_give wsX5_advance := goodIn_r _ [84, 28, 23, 102, 103, 104, 105, 106] (by decide +kernel) (by decide +kernel)
set_option maxRecDepth 20000 in
theorem gX6_give_X5_advance : GoodIn wsX6_give (wsV RX6 144 RX5 yX5_advance wsX5_advance) := goodIn_app (goodIn_of _ (by decide +kernel)) ggX6_give_X5_advance
theorem dX6_give_0 : decode cX6_give 0 = .ok (.iload_n 1, 1) := by decide +kernel
theorem dX6_give_1 : decode cX6_give 1 = .ok (.iconst 0, 1) := by decide +kernel
theorem dX6_give_2 : decode cX6_give 2 = .ok (.ldc 64, 2) := by decide +kernel
theorem dX6_give_4 : decode cX6_give 4 = .ok (.invokestatic 60, 3) := by decide +kernel
theorem dX6_give_7 : decode cX6_give 7 = .ok (.ifCond .ne 13, 3) := by decide +kernel
theorem dX6_give_10 : decode cX6_give 10 = .ok (.iload_n 2, 1) := by decide +kernel
theorem dX6_give_11 : decode cX6_give 11 = .ok (.iconst 0, 1) := by decide +kernel
theorem dX6_give_12 : decode cX6_give 12 = .ok (.bipush 127, 2) := by decide +kernel
theorem dX6_give_14 : decode cX6_give 14 = .ok (.invokestatic 60, 3) := by decide +kernel
theorem dX6_give_17 : decode cX6_give 17 = .ok (.ifCond .eq 5, 3) := by decide +kernel
theorem dX6_give_20 : decode cX6_give 20 = .ok (.iconst (-1), 1) := by decide +kernel
theorem dX6_give_21 : decode cX6_give 21 = .ok (.ireturn, 1) := by decide +kernel
theorem dX6_give_22 : decode cX6_give 22 = .ok (.aload_n 0, 1) := by decide +kernel
theorem dX6_give_23 : decode cX6_give 23 = .ok (.getfield 111, 3) := by decide +kernel
theorem dX6_give_26 : decode cX6_give 26 = .ok (.bipush 6, 2) := by decide +kernel
theorem dX6_give_28 : decode cX6_give 28 = .ok (.if_icmp .ne 23, 3) := by decide +kernel
theorem dX6_give_31 : decode cX6_give 31 = .ok (.aload_n 0, 1) := by decide +kernel
theorem dX6_give_32 : decode cX6_give 32 = .ok (.getfield 45, 3) := by decide +kernel
theorem dX6_give_35 : decode cX6_give 35 = .ok (.invokevirtual 114, 3) := by decide +kernel
theorem dX6_give_38 : decode cX6_give 38 = .ok (.ifCond .ne 13, 3) := by decide +kernel
theorem dX6_give_41 : decode cX6_give 41 = .ok (.aload_n 0, 1) := by decide +kernel
theorem dX6_give_42 : decode cX6_give 42 = .ok (.getfield 45, 3) := by decide +kernel
theorem dX6_give_45 : decode cX6_give 45 = .ok (.invokevirtual 117, 3) := by decide +kernel
theorem dX6_give_48 : decode cX6_give 48 = .ok (.ifCond .eq 6, 3) := by decide +kernel
theorem dX6_give_51 : decode cX6_give 51 = .ok (.bipush (-2), 2) := by decide +kernel
theorem dX6_give_53 : decode cX6_give 53 = .ok (.ireturn, 1) := by decide +kernel
theorem dX6_give_54 : decode cX6_give 54 = .ok (.aload_n 0, 1) := by decide +kernel
theorem dX6_give_55 : decode cX6_give 55 = .ok (.getfield 10, 3) := by decide +kernel
theorem dX6_give_58 : decode cX6_give 58 = .ok (.aload_n 0, 1) := by decide +kernel
theorem dX6_give_59 : decode cX6_give 59 = .ok (.getfield 45, 3) := by decide +kernel
theorem dX6_give_62 : decode cX6_give 62 = .ok (.invokevirtual 120, 3) := by decide +kernel
theorem dX6_give_65 : decode cX6_give 65 = .ok (.invokevirtual 123, 3) := by decide +kernel
theorem dX6_give_68 : decode cX6_give 68 = .ok (.ifCond .ne 9, 3) := by decide +kernel
theorem dX6_give_71 : decode cX6_give 71 = .ok (.aload_n 0, 1) := by decide +kernel
theorem dX6_give_72 : decode cX6_give 72 = .ok (.iconst 4, 1) := by decide +kernel
theorem dX6_give_73 : decode cX6_give 73 = .ok (.invokevirtual 126, 3) := by decide +kernel
theorem dX6_give_76 : decode cX6_give 76 = .ok (.ireturn, 1) := by decide +kernel
theorem dX6_give_77 : decode cX6_give 77 = .ok (.aload_n 0, 1) := by decide +kernel
theorem dX6_give_78 : decode cX6_give 78 = .ok (.getfield 31, 3) := by decide +kernel
theorem dX6_give_81 : decode cX6_give 81 = .ok (.invokevirtual 129, 3) := by decide +kernel
theorem dX6_give_84 : decode cX6_give 84 = .ok (.ifCond .eq 6, 3) := by decide +kernel
theorem dX6_give_87 : decode cX6_give 87 = .ok (.bipush (-3), 2) := by decide +kernel
theorem dX6_give_89 : decode cX6_give 89 = .ok (.ireturn, 1) := by decide +kernel
theorem dX6_give_90 : decode cX6_give 90 = .ok (.aload_n 0, 1) := by decide +kernel
theorem dX6_give_91 : decode cX6_give 91 = .ok (.getfield 52, 3) := by decide +kernel
theorem dX6_give_94 : decode cX6_give 94 = .ok (.aload_n 0, 1) := by decide +kernel
theorem dX6_give_95 : decode cX6_give 95 = .ok (.getfield 78, 3) := by decide +kernel
theorem dX6_give_98 : decode cX6_give 98 = .ok (.invokevirtual 132, 3) := by decide +kernel
theorem dX6_give_101 : decode cX6_give 101 = .ok (.ifCond .eq 11, 3) := by decide +kernel
theorem dX6_give_104 : decode cX6_give 104 = .ok (.iload_n 2, 1) := by decide +kernel
theorem dX6_give_105 : decode cX6_give 105 = .ok (.iload_n 1, 1) := by decide +kernel
theorem dX6_give_106 : decode cX6_give 106 = .ok (.invokestatic 101, 3) := by decide +kernel
theorem dX6_give_109 : decode cX6_give 109 = .ok (.if_icmp .eq 18, 3) := by decide +kernel
theorem dX6_give_112 : decode cX6_give 112 = .ok (.aload_n 0, 1) := by decide +kernel
theorem dX6_give_113 : decode cX6_give 113 = .ok (.bipush 64, 2) := by decide +kernel
theorem dX6_give_115 : decode cX6_give 115 = .ok (.invokevirtual 135, 3) := by decide +kernel
theorem dX6_give_118 : decode cX6_give 118 = .ok (.aload_n 0, 1) := by decide +kernel
theorem dX6_give_119 : decode cX6_give 119 = .ok (.getfield 45, 3) := by decide +kernel
theorem dX6_give_122 : decode cX6_give 122 = .ok (.invokevirtual 138, 3) := by decide +kernel
theorem dX6_give_125 : decode cX6_give 125 = .ok (.iconst 0, 1) := by decide +kernel
theorem dX6_give_126 : decode cX6_give 126 = .ok (.ireturn, 1) := by decide +kernel
theorem dX6_give_127 : decode cX6_give 127 = .ok (.aload_n 0, 1) := by decide +kernel
theorem dX6_give_128 : decode cX6_give 128 = .ok (.getfield 31, 3) := by decide +kernel
theorem dX6_give_131 : decode cX6_give 131 = .ok (.aload_n 0, 1) := by decide +kernel
theorem dX6_give_132 : decode cX6_give 132 = .ok (.getfield 45, 3) := by decide +kernel
theorem dX6_give_135 : decode cX6_give 135 = .ok (.invokevirtual 120, 3) := by decide +kernel
theorem dX6_give_138 : decode cX6_give 138 = .ok (.iload_n 1, 1) := by decide +kernel
theorem dX6_give_139 : decode cX6_give 139 = .ok (.invokevirtual 141, 3) := by decide +kernel
theorem dX6_give_142 : decode cX6_give 142 = .ok (.aload_n 0, 1) := by decide +kernel
theorem dX6_give_143 : decode cX6_give 143 = .ok (.getfield 45, 3) := by decide +kernel
theorem dX6_give_146 : decode cX6_give 146 = .ok (.invokevirtual 144, 3) := by decide +kernel
theorem dX6_give_149 : decode cX6_give 149 = .ok (.aload_n 0, 1) := by decide +kernel
theorem dX6_give_150 : decode cX6_give 150 = .ok (.getfield 45, 3) := by decide +kernel
theorem dX6_give_153 : decode cX6_give 153 = .ok (.invokevirtual 117, 3) := by decide +kernel
theorem dX6_give_156 : decode cX6_give 156 = .ok (.ifCond .eq 9, 3) := by decide +kernel
theorem dX6_give_159 : decode cX6_give 159 = .ok (.aload_n 0, 1) := by decide +kernel
theorem dX6_give_160 : decode cX6_give 160 = .ok (.bipush 7, 2) := by decide +kernel
theorem dX6_give_162 : decode cX6_give 162 = .ok (.putfield 111, 3) := by decide +kernel
theorem dX6_give_165 : decode cX6_give 165 = .ok (.iconst 1, 1) := by decide +kernel
theorem dX6_give_166 : decode cX6_give 166 = .ok (.ireturn, 1) := by decide +kernel
set_option maxRecDepth 20000 in
theorem ggX6_get_X5_next : GoodIn wsX6_get wsX5_next := goodIn_r _ [10, 11, 72, 73, 74, 75, 76] (by decide +kernel) (by decide +kernel)
set_option maxRecDepth 20000 in
theorem gX6_get_X5_next : GoodIn wsX6_get (wsV RX6 120 RX5 yX5_next wsX5_next) := goodIn_app (goodIn_of _ (by decide +kernel)) ggX6_get_X5_next
set_option maxRecDepth 20000 in
theorem ggX6_get_X2_isInWindow : GoodIn wsX6_get wsX2_isInWindow := goodIn_r _ [16, 17, 18, 19, 20, 21, 22, 23, 24, 25, 26, 77, 78, 79] (by decide +kernel) (by decide +kernel)
set_option maxRecDepth 20000 in
theorem gX6_get_X2_isInWindow : GoodIn wsX6_get (wsV RX6 132 RX2 yX2_isInWindow wsX2_isInWindow) := goodIn_app (goodIn_of _ (by decide +kernel)) ggX6_get_X2_isInWindow
set_option maxRecDepth 20000 in
theorem ggX6_get_X3_isTorn : GoodIn wsX6_get wsX3_isTorn := goodIn_r _ [31, 32, 33, 34, 35, 30, 36, 37, 80, 81, 82, 83, 84, 85] (by decide +kernel) (by decide +kernel)
set_option maxRecDepth 20000 in
theorem gX6_get_X3_isTorn : GoodIn wsX6_get (wsV RX6 147 RX3 yX3_isTorn wsX3_isTorn) := goodIn_app (goodIn_of _ (by decide +kernel)) ggX6_get_X3_isTorn
set_option maxRecDepth 20000 in
theorem ggX6_get_X5_advance : GoodIn wsX6_get wsX5_advance := goodIn_r _ [41, 11, 42, 72, 73, 74, 75, 76] (by decide +kernel) (by decide +kernel)
set_option maxRecDepth 20000 in
theorem gX6_get_X5_advance : GoodIn wsX6_get (wsV RX6 144 RX5 yX5_advance wsX5_advance) := goodIn_app (goodIn_of _ (by decide +kernel)) ggX6_get_X5_advance
set_option maxRecDepth 20000 in
theorem ggX6_get_X5_isComplete : GoodIn wsX6_get wsX5_isComplete := goodIn_r _ [46, 47, 42, 72, 73, 74, 75, 76] (by decide +kernel) (by decide +kernel)
set_option maxRecDepth 20000 in
theorem gX6_get_X5_isComplete : GoodIn wsX6_get (wsV RX6 117 RX5 yX5_isComplete wsX5_isComplete) := goodIn_app (goodIn_of _ (by decide +kernel)) ggX6_get_X5_isComplete
set_option maxRecDepth 20000 in
theorem ggX6_get_X3_has : GoodIn wsX6_get wsX3_has := goodIn_r _ [36, 37, 80, 81, 82, 83, 84, 85] (by decide +kernel) (by decide +kernel)
set_option maxRecDepth 20000 in
theorem gX6_get_X3_has : GoodIn wsX6_get (wsV RX6 123 RX3 yX3_has wsX3_has) := goodIn_app (goodIn_of _ (by decide +kernel)) ggX6_get_X3_has
set_option maxRecDepth 20000 in
theorem ggX6_get_X3_contentOf : GoodIn wsX6_get wsX3_contentOf := goodIn_r _ [52, 53, 54, 33, 34, 35, 30, 36, 37, 80, 81, 82, 83, 84, 85] (by decide +kernel) (by decide +kernel)
set_option maxRecDepth 20000 in
theorem gX6_get_X3_contentOf : GoodIn wsX6_get (wsV RX6 150 RX3 yX3_contentOf wsX3_contentOf) := goodIn_app (goodIn_of _ (by decide +kernel)) ggX6_get_X3_contentOf
theorem dX6_get_0 : decode cX6_get 0 = .ok (.aload_n 0, 1) := by decide +kernel
theorem dX6_get_1 : decode cX6_get 1 = .ok (.getfield 111, 3) := by decide +kernel
theorem dX6_get_4 : decode cX6_get 4 = .ok (.iconst 5, 1) := by decide +kernel
theorem dX6_get_5 : decode cX6_get 5 = .ok (.if_icmp .eq 6, 3) := by decide +kernel
theorem dX6_get_8 : decode cX6_get 8 = .ok (.bipush (-2), 2) := by decide +kernel
theorem dX6_get_10 : decode cX6_get 10 = .ok (.ireturn, 1) := by decide +kernel
theorem dX6_get_11 : decode cX6_get 11 = .ok (.aload_n 0, 1) := by decide +kernel
theorem dX6_get_12 : decode cX6_get 12 = .ok (.getfield 45, 3) := by decide +kernel
theorem dX6_get_15 : decode cX6_get 15 = .ok (.invokevirtual 120, 3) := by decide +kernel
theorem dX6_get_18 : decode cX6_get 18 = .ok (.istore_n 1, 1) := by decide +kernel
theorem dX6_get_19 : decode cX6_get 19 = .ok (.aload_n 0, 1) := by decide +kernel
theorem dX6_get_20 : decode cX6_get 20 = .ok (.getfield 52, 3) := by decide +kernel
theorem dX6_get_23 : decode cX6_get 23 = .ok (.aload_n 0, 1) := by decide +kernel
theorem dX6_get_24 : decode cX6_get 24 = .ok (.getfield 78, 3) := by decide +kernel
theorem dX6_get_27 : decode cX6_get 27 = .ok (.invokevirtual 132, 3) := by decide +kernel
theorem dX6_get_30 : decode cX6_get 30 = .ok (.ifCond .eq 14, 3) := by decide +kernel
theorem dX6_get_33 : decode cX6_get 33 = .ok (.aload_n 0, 1) := by decide +kernel
theorem dX6_get_34 : decode cX6_get 34 = .ok (.getfield 10, 3) := by decide +kernel
theorem dX6_get_37 : decode cX6_get 37 = .ok (.iload_n 1, 1) := by decide +kernel
theorem dX6_get_38 : decode cX6_get 38 = .ok (.invokevirtual 147, 3) := by decide +kernel
theorem dX6_get_41 : decode cX6_get 41 = .ok (.ifCond .eq 6, 3) := by decide +kernel
theorem dX6_get_44 : decode cX6_get 44 = .ok (.bipush (-4), 2) := by decide +kernel
theorem dX6_get_46 : decode cX6_get 46 = .ok (.ireturn, 1) := by decide +kernel
theorem dX6_get_47 : decode cX6_get 47 = .ok (.aload_n 0, 1) := by decide +kernel
theorem dX6_get_48 : decode cX6_get 48 = .ok (.getfield 45, 3) := by decide +kernel
theorem dX6_get_51 : decode cX6_get 51 = .ok (.invokevirtual 144, 3) := by decide +kernel
theorem dX6_get_54 : decode cX6_get 54 = .ok (.aload_n 0, 1) := by decide +kernel
theorem dX6_get_55 : decode cX6_get 55 = .ok (.getfield 45, 3) := by decide +kernel
theorem dX6_get_58 : decode cX6_get 58 = .ok (.invokevirtual 117, 3) := by decide +kernel
theorem dX6_get_61 : decode cX6_get 61 = .ok (.ifCond .ne 20, 3) := by decide +kernel
theorem dX6_get_64 : decode cX6_get 64 = .ok (.aload_n 0, 1) := by decide +kernel
theorem dX6_get_65 : decode cX6_get 65 = .ok (.getfield 10, 3) := by decide +kernel
theorem dX6_get_68 : decode cX6_get 68 = .ok (.aload_n 0, 1) := by decide +kernel
theorem dX6_get_69 : decode cX6_get 69 = .ok (.getfield 45, 3) := by decide +kernel
theorem dX6_get_72 : decode cX6_get 72 = .ok (.invokevirtual 120, 3) := by decide +kernel
theorem dX6_get_75 : decode cX6_get 75 = .ok (.invokevirtual 123, 3) := by decide +kernel
theorem dX6_get_78 : decode cX6_get 78 = .ok (.ifCond .ne 8, 3) := by decide +kernel
theorem dX6_get_81 : decode cX6_get 81 = .ok (.aload_n 0, 1) := by decide +kernel
theorem dX6_get_82 : decode cX6_get 82 = .ok (.iconst 4, 1) := by decide +kernel
theorem dX6_get_83 : decode cX6_get 83 = .ok (.putfield 111, 3) := by decide +kernel
theorem dX6_get_86 : decode cX6_get 86 = .ok (.aload_n 0, 1) := by decide +kernel
theorem dX6_get_87 : decode cX6_get 87 = .ok (.getfield 10, 3) := by decide +kernel
theorem dX6_get_90 : decode cX6_get 90 = .ok (.iload_n 1, 1) := by decide +kernel
theorem dX6_get_91 : decode cX6_get 91 = .ok (.invokevirtual 150, 3) := by decide +kernel
theorem dX6_get_94 : decode cX6_get 94 = .ok (.ireturn, 1) := by decide +kernel
set_option maxRecDepth 20000 in
theorem ggX6_tick_X6_isOutside : GoodIn wsX6_tick wsX6_isOutside := goodIn_r _ [5] (by decide +kernel) (by decide +kernel)
set_option maxRecDepth 20000 in
theorem gX6_tick_X6_isOutside : GoodIn wsX6_tick (va_wsS RX6 60 yX6_isOutside wsX6_isOutside) := goodIn_app (goodIn_of _ (by decide +kernel)) ggX6_tick_X6_isOutside
set_option maxRecDepth 20000 in
theorem ggX6_tick_X6_work : GoodIn wsX6_tick wsX6_work := goodIn_r _ [9, 10, 11, 12, 13, 14, 15, 16, 17, 18, 19, 20, 21, 4, 22, 23, 24, 25, 26, 27, 28, 29, 30, 31, 32, 33, 34, 35, 36, 37, 38, 39, 40, 41, 42, 43, 44, 45, 46, 47, 48, 49, 50, 51, 52, 53, 54, 55, 56, 57, 58, 59, 60, 61, 62, 63, 64, 65, 66, 67, 68, 69, 70, 71, 72, 73, 74, 75, 76, 77, 78, 79, 80, 81, 82, 83, 84, 85, 86, 87, 88, 89, 90, 91, 92, 93, 94, 95, 96, 97, 98, 99, 100, 101, 102, 103, 104, 105, 106, 107, 108, 109, 110, 111, 112, 113, 114, 115, 116, 117, 118, 119, 120, 121, 122, 123, 124, 125, 126, 127, 128, 129, 130, 131, 132, 133, 134, 135, 136, 137, 138, 139, 140, 141, 142] (by decide +kernel) (by decide +kernel)
set_option maxRecDepth 20000 in
theorem gX6_tick_X6_work : GoodIn wsX6_tick (wsV RX6 156 RX6 yX6_work wsX6_work) := goodIn_app (goodIn_of _ (by decide +kernel)) ggX6_tick_X6_work
theorem dX6_tick_0 : decode cX6_tick 0 = .ok (.iload_n 1, 1) := by decide +kernel
theorem dX6_tick_1 : decode cX6_tick 1 = .ok (.iconst 1, 1) := by decide +kernel
theorem dX6_tick_2 : decode cX6_tick 2 = .ok (.sipush 400, 3) := by decide +kernel
theorem dX6_tick_5 : decode cX6_tick 5 = .ok (.invokestatic 60, 3) := by decide +kernel
theorem dX6_tick_8 : decode cX6_tick 8 = .ok (.ifCond .eq 5, 3) := by decide +kernel
theorem dX6_tick_11 : decode cX6_tick 11 = .ok (.iconst (-1), 1) := by decide +kernel
theorem dX6_tick_12 : decode cX6_tick 12 = .ok (.ireturn, 1) := by decide +kernel
theorem dX6_tick_13 : decode cX6_tick 13 = .ok (.iconst 0, 1) := by decide +kernel
theorem dX6_tick_14 : decode cX6_tick 14 = .ok (.istore_n 2, 1) := by decide +kernel
theorem dX6_tick_15 : decode cX6_tick 15 = .ok (.iload_n 2, 1) := by decide +kernel
theorem dX6_tick_16 : decode cX6_tick 16 = .ok (.iload_n 1, 1) := by decide +kernel
theorem dX6_tick_17 : decode cX6_tick 17 = .ok (.if_icmp .ge 23, 3) := by decide +kernel
theorem dX6_tick_20 : decode cX6_tick 20 = .ok (.aload_n 0, 1) := by decide +kernel
theorem dX6_tick_21 : decode cX6_tick 21 = .ok (.dup, 1) := by decide +kernel
theorem dX6_tick_22 : decode cX6_tick 22 = .ok (.getfield 153, 3) := by decide +kernel
theorem dX6_tick_25 : decode cX6_tick 25 = .ok (.iconst 1, 1) := by decide +kernel
theorem dX6_tick_26 : decode cX6_tick 26 = .ok (.iadd, 1) := by decide +kernel
theorem dX6_tick_27 : decode cX6_tick 27 = .ok (.putfield 153, 3) := by decide +kernel
theorem dX6_tick_30 : decode cX6_tick 30 = .ok (.aload_n 0, 1) := by decide +kernel
theorem dX6_tick_31 : decode cX6_tick 31 = .ok (.invokevirtual 156, 3) := by decide +kernel
theorem dX6_tick_34 : decode cX6_tick 34 = .ok (.iinc 2 1, 3) := by decide +kernel
theorem dX6_tick_37 : decode cX6_tick 37 = .ok (.goto (-22), 3) := by decide +kernel
theorem dX6_tick_40 : decode cX6_tick 40 = .ok (.aload_n 0, 1) := by decide +kernel
theorem dX6_tick_41 : decode cX6_tick 41 = .ok (.getfield 153, 3) := by decide +kernel
theorem dX6_tick_44 : decode cX6_tick 44 = .ok (.ireturn, 1) := by decide +kernel
set_option maxRecDepth 20000 in
theorem ggX6_tune_X6_commandCheck : GoodIn wsX6_tune wsX6_commandCheck := goodIn_r _ [4, 5, 6, 7, 3, 8] (by decide +kernel) (by decide +kernel)
set_option maxRecDepth 20000 in
theorem gX6_tune_X6_commandCheck : GoodIn wsX6_tune (va_wsS RX6 97 yX6_commandCheck wsX6_commandCheck) := goodIn_app (goodIn_of _ (by decide +kernel)) ggX6_tune_X6_commandCheck
set_option maxRecDepth 20000 in
theorem ggX6_tune_X6_hears : GoodIn wsX6_tune wsX6_hears := goodIn_r _ [12, 13, 14, 15, 16, 3, 17, 18, 1, 2, 4, 5, 6, 7, 8, 19, 20, 21, 22, 23, 24, 25, 26, 27, 28, 29, 30, 31, 32, 33, 34, 35, 36, 37, 38, 39, 40, 41, 42, 43, 44, 45, 46, 366, 367, 368, 369, 370, 371, 372, 373, 374, 375, 376, 377, 378, 379, 380, 381, 382, 383, 384, 385, 386, 387, 388] (by decide +kernel) (by decide +kernel)
set_option maxRecDepth 20000 in
theorem gX6_tune_X6_hears : GoodIn wsX6_tune (wsV RX6 105 RX6 yX6_hears wsX6_hears) := goodIn_app (goodIn_of _ (by decide +kernel)) ggX6_tune_X6_hears
set_option maxRecDepth 20000 in
theorem ggX6_tune_X6_obey : GoodIn wsX6_tune wsX6_obey := goodIn_r _ [50, 51, 52, 53, 54, 3, 55, 56, 57, 58, 59, 60, 61, 13, 62, 63, 64, 65, 66, 67, 68, 69, 70, 71, 72, 73, 74, 75, 76, 77, 78, 79, 80, 81, 82, 83, 84, 85, 86, 87, 88, 89, 90, 91, 92, 93, 94, 95, 96, 97, 98, 99, 100, 101, 102, 103, 38, 104, 105, 106, 107, 108, 109, 110, 111, 112, 113, 114, 115, 116, 117, 118, 119, 120, 18, 121, 28, 122, 123, 124, 125, 126, 23, 127, 128, 129, 130, 131, 132, 133, 134, 135, 136, 137, 138, 139, 140, 141, 142, 143, 144, 145, 146, 42, 43, 44, 40, 45, 46, 147, 148, 149, 150, 151, 152, 153, 154, 155, 156, 157, 158, 159, 160, 161, 162, 163, 164, 165, 166, 167, 168, 169, 170, 171, 172, 173, 174, 175, 176, 177, 178, 179, 180, 181, 182, 183, 184, 185, 186, 187, 188, 189, 190, 191, 192, 193, 194, 195, 19, 20, 21, 22, 196, 197, 198, 199, 200, 201, 202, 203, 204, 205, 206, 207, 208, 209, 210, 211, 212, 213, 214, 215, 216, 217, 218, 219, 220, 221, 222, 223, 224, 225, 226, 227, 228, 229, 230, 231, 232, 233, 234, 235, 236, 237, 238, 239, 240, 241, 242, 243, 244, 245, 246, 247, 248, 249, 250, 251, 252, 253, 254, 255, 256, 257, 258, 259, 260, 261, 262, 263, 264, 265, 41, 266, 267, 268, 269, 270, 271, 272, 273, 274, 275, 276, 277, 278, 279, 280, 281, 282, 283, 284, 285, 286, 287, 288, 289, 290, 291, 292, 293, 294, 295, 296, 297, 298, 299, 300, 301, 302, 303, 304, 305, 306, 307, 308, 309, 310, 311, 312, 313, 314, 315, 316, 317, 318, 319, 320, 321, 322, 323, 324, 325, 326, 327, 328, 329, 330, 331, 332, 333, 334, 335, 336, 337, 338, 339, 340, 341, 342, 343, 344, 345, 346, 347, 348, 349, 350, 351, 352, 353, 354, 355, 356, 357, 358, 359, 366, 367, 368, 369, 370, 371, 372, 373, 374, 375, 376, 377, 378, 379, 380, 381, 382, 389, 390, 391, 392, 393, 394, 395, 396, 397, 398, 383, 384, 385, 386, 387, 388, 399, 400, 401, 402, 403, 404, 405, 406, 407, 408] (by decide +kernel) (by decide +kernel)
set_option maxRecDepth 20000 in
theorem gX6_tune_X6_obey : GoodIn wsX6_tune (wsV RX6 108 RX6 yX6_obey wsX6_obey) := goodIn_app (goodIn_of _ (by decide +kernel)) ggX6_tune_X6_obey
set_option maxRecDepth 20000 in
theorem ggX6_tune_X6_middleOfLongestRow : GoodIn wsX6_tune wsX6_middleOfLongestRow := goodIn_r _ [362, 363, 364, 3, 365] (by decide +kernel) (by decide +kernel)
set_option maxRecDepth 20000 in
theorem gX6_tune_X6_middleOfLongestRow : GoodIn wsX6_tune (va_wsS RX6 159 yX6_middleOfLongestRow wsX6_middleOfLongestRow) := goodIn_app (goodIn_of _ (by decide +kernel)) ggX6_tune_X6_middleOfLongestRow
theorem dX6_tune_0 : decode cX6_tune 0 = .ok (.iconst 0, 1) := by decide +kernel
theorem dX6_tune_1 : decode cX6_tune 1 = .ok (.istore_n 1, 1) := by decide +kernel
theorem dX6_tune_2 : decode cX6_tune 2 = .ok (.iconst 0, 1) := by decide +kernel
theorem dX6_tune_3 : decode cX6_tune 3 = .ok (.istore_n 2, 1) := by decide +kernel
theorem dX6_tune_4 : decode cX6_tune 4 = .ok (.iload_n 2, 1) := by decide +kernel
theorem dX6_tune_5 : decode cX6_tune 5 = .ok (.bipush 16, 2) := by decide +kernel
theorem dX6_tune_7 : decode cX6_tune 7 = .ok (.if_icmp .ge 40, 3) := by decide +kernel
theorem dX6_tune_10 : decode cX6_tune 10 = .ok (.aload_n 0, 1) := by decide +kernel
theorem dX6_tune_11 : decode cX6_tune 11 = .ok (.bipush 21, 2) := by decide +kernel
theorem dX6_tune_13 : decode cX6_tune 13 = .ok (.iload_n 2, 1) := by decide +kernel
theorem dX6_tune_14 : decode cX6_tune 14 = .ok (.bipush 21, 2) := by decide +kernel
theorem dX6_tune_16 : decode cX6_tune 16 = .ok (.iload_n 2, 1) := by decide +kernel
theorem dX6_tune_17 : decode cX6_tune 17 = .ok (.invokestatic 97, 3) := by decide +kernel
theorem dX6_tune_20 : decode cX6_tune 20 = .ok (.invokevirtual 105, 3) := by decide +kernel
theorem dX6_tune_23 : decode cX6_tune 23 = .ok (.ifCond .ne 6, 3) := by decide +kernel
theorem dX6_tune_26 : decode cX6_tune 26 = .ok (.bipush (-4), 2) := by decide +kernel
theorem dX6_tune_28 : decode cX6_tune 28 = .ok (.ireturn, 1) := by decide +kernel
theorem dX6_tune_29 : decode cX6_tune 29 = .ok (.iload_n 1, 1) := by decide +kernel
theorem dX6_tune_30 : decode cX6_tune 30 = .ok (.aload_n 0, 1) := by decide +kernel
theorem dX6_tune_31 : decode cX6_tune 31 = .ok (.bipush 21, 2) := by decide +kernel
theorem dX6_tune_33 : decode cX6_tune 33 = .ok (.iload_n 2, 1) := by decide +kernel
theorem dX6_tune_34 : decode cX6_tune 34 = .ok (.invokevirtual 108, 3) := by decide +kernel
theorem dX6_tune_37 : decode cX6_tune 37 = .ok (.iload_n 2, 1) := by decide +kernel
theorem dX6_tune_38 : decode cX6_tune 38 = .ok (.ishl, 1) := by decide +kernel
theorem dX6_tune_39 : decode cX6_tune 39 = .ok (.ior, 1) := by decide +kernel
theorem dX6_tune_40 : decode cX6_tune 40 = .ok (.istore_n 1, 1) := by decide +kernel
theorem dX6_tune_41 : decode cX6_tune 41 = .ok (.iinc 2 1, 3) := by decide +kernel
theorem dX6_tune_44 : decode cX6_tune 44 = .ok (.goto (-40), 3) := by decide +kernel
theorem dX6_tune_47 : decode cX6_tune 47 = .ok (.iload_n 1, 1) := by decide +kernel
theorem dX6_tune_48 : decode cX6_tune 48 = .ok (.ifCond .ne 6, 3) := by decide +kernel
theorem dX6_tune_51 : decode cX6_tune 51 = .ok (.bipush (-2), 2) := by decide +kernel
theorem dX6_tune_53 : decode cX6_tune 53 = .ok (.ireturn, 1) := by decide +kernel
theorem dX6_tune_54 : decode cX6_tune 54 = .ok (.iload_n 1, 1) := by decide +kernel
theorem dX6_tune_55 : decode cX6_tune 55 = .ok (.invokestatic 159, 3) := by decide +kernel
theorem dX6_tune_58 : decode cX6_tune 58 = .ok (.istore_n 2, 1) := by decide +kernel
theorem dX6_tune_59 : decode cX6_tune 59 = .ok (.aload_n 0, 1) := by decide +kernel
theorem dX6_tune_60 : decode cX6_tune 60 = .ok (.bipush 21, 2) := by decide +kernel
theorem dX6_tune_62 : decode cX6_tune 62 = .ok (.iload_n 2, 1) := by decide +kernel
theorem dX6_tune_63 : decode cX6_tune 63 = .ok (.bipush 21, 2) := by decide +kernel
theorem dX6_tune_65 : decode cX6_tune 65 = .ok (.iload_n 2, 1) := by decide +kernel
theorem dX6_tune_66 : decode cX6_tune 66 = .ok (.invokestatic 97, 3) := by decide +kernel
theorem dX6_tune_69 : decode cX6_tune 69 = .ok (.invokevirtual 105, 3) := by decide +kernel
theorem dX6_tune_72 : decode cX6_tune 72 = .ok (.ifCond .eq 11, 3) := by decide +kernel
theorem dX6_tune_75 : decode cX6_tune 75 = .ok (.aload_n 0, 1) := by decide +kernel
theorem dX6_tune_76 : decode cX6_tune 76 = .ok (.bipush 21, 2) := by decide +kernel
theorem dX6_tune_78 : decode cX6_tune 78 = .ok (.iload_n 2, 1) := by decide +kernel
theorem dX6_tune_79 : decode cX6_tune 79 = .ok (.invokevirtual 108, 3) := by decide +kernel
theorem dX6_tune_82 : decode cX6_tune 82 = .ok (.pop, 1) := by decide +kernel
theorem dX6_tune_83 : decode cX6_tune 83 = .ok (.iload_n 2, 1) := by decide +kernel
theorem dX6_tune_84 : decode cX6_tune 84 = .ok (.ireturn, 1) := by decide +kernel
set_option maxRecDepth 20000 in
theorem ggX6_block_X3_has : GoodIn wsX6_block wsX3_has := goodIn_r _ [6, 7, 49, 50, 51, 52, 53, 54] (by decide +kernel) (by decide +kernel)
set_option maxRecDepth 20000 in
theorem gX6_block_X3_has : GoodIn wsX6_block (wsV RX6 123 RX3 yX3_has wsX3_has) := goodIn_app (goodIn_of _ (by decide +kernel)) ggX6_block_X3_has
set_option maxRecDepth 20000 in
theorem ggX6_block_X6_isOutside : GoodIn wsX6_block wsX6_isOutside := goodIn_r _ [11] (by decide +kernel) (by decide +kernel)
set_option maxRecDepth 20000 in
theorem gX6_block_X6_isOutside : GoodIn wsX6_block (va_wsS RX6 60 yX6_isOutside wsX6_isOutside) := goodIn_app (goodIn_of _ (by decide +kernel)) ggX6_block_X6_isOutside
set_option maxRecDepth 20000 in
theorem ggX6_block_X3_contentOf : GoodIn wsX6_block wsX3_contentOf := goodIn_r _ [15, 16, 17, 18, 3, 4, 5, 6, 7, 49, 50, 51, 52, 53, 54] (by decide +kernel) (by decide +kernel)
set_option maxRecDepth 20000 in
theorem gX6_block_X3_contentOf : GoodIn wsX6_block (wsV RX6 150 RX3 yX3_contentOf wsX3_contentOf) := goodIn_app (goodIn_of _ (by decide +kernel)) ggX6_block_X3_contentOf
set_option maxRecDepth 20000 in
theorem ggX6_block_X3_isTorn : GoodIn wsX6_block wsX3_isTorn := goodIn_r _ [22, 23, 18, 3, 4, 5, 6, 7, 49, 50, 51, 52, 53, 54] (by decide +kernel) (by decide +kernel)
set_option maxRecDepth 20000 in
theorem gX6_block_X3_isTorn : GoodIn wsX6_block (wsV RX6 147 RX3 yX3_isTorn wsX3_isTorn) := goodIn_app (goodIn_of _ (by decide +kernel)) ggX6_block_X3_isTorn
set_option maxRecDepth 20000 in
theorem ggX6_block_X6_asNumber : GoodIn wsX6_block wsX6_asNumber := goodIn_r _ [26] (by decide +kernel) (by decide +kernel)
set_option maxRecDepth 20000 in
theorem gX6_block_X6_asNumber : GoodIn wsX6_block (va_wsS RX6 162 yX6_asNumber wsX6_asNumber) := goodIn_app (goodIn_of _ (by decide +kernel)) ggX6_block_X6_asNumber
set_option maxRecDepth 20000 in
theorem ggX6_block_X3_groupOf : GoodIn wsX6_block wsX3_groupOf := goodIn_r _ [30, 31, 49, 50, 51, 52, 53, 54] (by decide +kernel) (by decide +kernel)
set_option maxRecDepth 20000 in
theorem gX6_block_X3_groupOf : GoodIn wsX6_block (wsV RX6 166 RX3 yX3_groupOf wsX3_groupOf) := goodIn_app (goodIn_of _ (by decide +kernel)) ggX6_block_X3_groupOf
theorem dX6_block_0 : decode cX6_block 0 = .ok (.aload_n 0, 1) := by decide +kernel
theorem dX6_block_1 : decode cX6_block 1 = .ok (.getfield 10, 3) := by decide +kernel
theorem dX6_block_4 : decode cX6_block 4 = .ok (.iload_n 1, 1) := by decide +kernel
theorem dX6_block_5 : decode cX6_block 5 = .ok (.invokevirtual 123, 3) := by decide +kernel
theorem dX6_block_8 : decode cX6_block 8 = .ok (.ifCond .eq 12, 3) := by decide +kernel
theorem dX6_block_11 : decode cX6_block 11 = .ok (.iload_n 2, 1) := by decide +kernel
theorem dX6_block_12 : decode cX6_block 12 = .ok (.iconst 0, 1) := by decide +kernel
theorem dX6_block_13 : decode cX6_block 13 = .ok (.iconst 2, 1) := by decide +kernel
theorem dX6_block_14 : decode cX6_block 14 = .ok (.invokestatic 60, 3) := by decide +kernel
theorem dX6_block_17 : decode cX6_block 17 = .ok (.ifCond .eq 5, 3) := by decide +kernel
theorem dX6_block_20 : decode cX6_block 20 = .ok (.iconst (-1), 1) := by decide +kernel
theorem dX6_block_21 : decode cX6_block 21 = .ok (.ireturn, 1) := by decide +kernel
theorem dX6_block_22 : decode cX6_block 22 = .ok (.iload_n 2, 1) := by decide +kernel
theorem dX6_block_23 : decode cX6_block 23 = .ok (.ifCond .ne 12, 3) := by decide +kernel
theorem dX6_block_26 : decode cX6_block 26 = .ok (.aload_n 0, 1) := by decide +kernel
theorem dX6_block_27 : decode cX6_block 27 = .ok (.getfield 10, 3) := by decide +kernel
theorem dX6_block_30 : decode cX6_block 30 = .ok (.iload_n 1, 1) := by decide +kernel
theorem dX6_block_31 : decode cX6_block 31 = .ok (.invokevirtual 150, 3) := by decide +kernel
theorem dX6_block_34 : decode cX6_block 34 = .ok (.ireturn, 1) := by decide +kernel
theorem dX6_block_35 : decode cX6_block 35 = .ok (.iload_n 2, 1) := by decide +kernel
theorem dX6_block_36 : decode cX6_block 36 = .ok (.iconst 1, 1) := by decide +kernel
theorem dX6_block_37 : decode cX6_block 37 = .ok (.if_icmp .ne 15, 3) := by decide +kernel
theorem dX6_block_40 : decode cX6_block 40 = .ok (.aload_n 0, 1) := by decide +kernel
theorem dX6_block_41 : decode cX6_block 41 = .ok (.getfield 10, 3) := by decide +kernel
theorem dX6_block_44 : decode cX6_block 44 = .ok (.iload_n 1, 1) := by decide +kernel
theorem dX6_block_45 : decode cX6_block 45 = .ok (.invokevirtual 147, 3) := by decide +kernel
theorem dX6_block_48 : decode cX6_block 48 = .ok (.invokestatic 162, 3) := by decide +kernel
theorem dX6_block_51 : decode cX6_block 51 = .ok (.ireturn, 1) := by decide +kernel
theorem dX6_block_52 : decode cX6_block 52 = .ok (.aload_n 0, 1) := by decide +kernel
theorem dX6_block_53 : decode cX6_block 53 = .ok (.getfield 10, 3) := by decide +kernel
theorem dX6_block_56 : decode cX6_block 56 = .ok (.iload_n 1, 1) := by decide +kernel
theorem dX6_block_57 : decode cX6_block 57 = .ok (.invokevirtual 166, 3) := by decide +kernel
theorem dX6_block_60 : decode cX6_block 60 = .ok (.ireturn, 1) := by decide +kernel
set_option maxRecDepth 20000 in
theorem ggX6_latest_X3_writtenAt : GoodIn wsX6_latest wsX3_writtenAt := goodIn_r _ [6, 7, 8, 26, 27, 28, 29, 30, 31] (by decide +kernel) (by decide +kernel)
set_option maxRecDepth 20000 in
theorem gX6_latest_X3_writtenAt : GoodIn wsX6_latest (wsV RX6 169 RX3 yX3_writtenAt wsX3_writtenAt) := goodIn_app (goodIn_of _ (by decide +kernel)) ggX6_latest_X3_writtenAt
theorem dX6_latest_0 : decode cX6_latest 0 = .ok (.iload_n 1, 1) := by decide +kernel
theorem dX6_latest_1 : decode cX6_latest 1 = .ok (.ifCond .ge 5, 3) := by decide +kernel
theorem dX6_latest_4 : decode cX6_latest 4 = .ok (.iconst (-1), 1) := by decide +kernel
theorem dX6_latest_5 : decode cX6_latest 5 = .ok (.ireturn, 1) := by decide +kernel
theorem dX6_latest_6 : decode cX6_latest 6 = .ok (.aload_n 0, 1) := by decide +kernel
theorem dX6_latest_7 : decode cX6_latest 7 = .ok (.getfield 10, 3) := by decide +kernel
theorem dX6_latest_10 : decode cX6_latest 10 = .ok (.iload_n 1, 1) := by decide +kernel
theorem dX6_latest_11 : decode cX6_latest 11 = .ok (.invokevirtual 169, 3) := by decide +kernel
theorem dX6_latest_14 : decode cX6_latest 14 = .ok (.ireturn, 1) := by decide +kernel
set_option maxRecDepth 20000 in
theorem ggX6_word_X1_length : GoodIn wsX6_word wsX1_length := goodIn_r _ [6, 7, 30, 31] (by decide +kernel) (by decide +kernel)
set_option maxRecDepth 20000 in
theorem gX6_word_X1_length : GoodIn wsX6_word (wsV RX6 86 RX1 yX1_length wsX1_length) := goodIn_app (goodIn_of _ (by decide +kernel)) ggX6_word_X1_length
set_option maxRecDepth 20000 in
theorem ggX6_word_X1_at : GoodIn wsX6_word wsX1_at := goodIn_r _ [11, 7, 12, 30, 31] (by decide +kernel) (by decide +kernel)
set_option maxRecDepth 20000 in
theorem gX6_word_X1_at : GoodIn wsX6_word (wsV RX6 172 RX1 yX1_at wsX1_at) := goodIn_app (goodIn_of _ (by decide +kernel)) ggX6_word_X1_at
theorem dX6_word_0 : decode cX6_word 0 = .ok (.iload_n 1, 1) := by decide +kernel
theorem dX6_word_1 : decode cX6_word 1 = .ok (.iconst (-1), 1) := by decide +kernel
theorem dX6_word_2 : decode cX6_word 2 = .ok (.if_icmp .ge 5, 3) := by decide +kernel
theorem dX6_word_5 : decode cX6_word 5 = .ok (.iconst (-1), 1) := by decide +kernel
theorem dX6_word_6 : decode cX6_word 6 = .ok (.ireturn, 1) := by decide +kernel
theorem dX6_word_7 : decode cX6_word 7 = .ok (.iload_n 1, 1) := by decide +kernel
theorem dX6_word_8 : decode cX6_word 8 = .ok (.iconst (-1), 1) := by decide +kernel
theorem dX6_word_9 : decode cX6_word 9 = .ok (.if_icmp .ne 11, 3) := by decide +kernel
theorem dX6_word_12 : decode cX6_word 12 = .ok (.aload_n 0, 1) := by decide +kernel
theorem dX6_word_13 : decode cX6_word 13 = .ok (.getfield 25, 3) := by decide +kernel
theorem dX6_word_16 : decode cX6_word 16 = .ok (.invokevirtual 86, 3) := by decide +kernel
theorem dX6_word_19 : decode cX6_word 19 = .ok (.ireturn, 1) := by decide +kernel
theorem dX6_word_20 : decode cX6_word 20 = .ok (.aload_n 0, 1) := by decide +kernel
theorem dX6_word_21 : decode cX6_word 21 = .ok (.getfield 25, 3) := by decide +kernel
theorem dX6_word_24 : decode cX6_word 24 = .ok (.iload_n 1, 1) := by decide +kernel
theorem dX6_word_25 : decode cX6_word 25 = .ok (.invokevirtual 172, 3) := by decide +kernel
theorem dX6_word_28 : decode cX6_word 28 = .ok (.ireturn, 1) := by decide +kernel
set_option maxRecDepth 20000 in
theorem ggX6_later_X6_isOutside : GoodIn wsX6_later wsX6_isOutside := goodIn_r _ [5] (by decide +kernel) (by decide +kernel)
set_option maxRecDepth 20000 in
theorem gX6_later_X6_isOutside : GoodIn wsX6_later (va_wsS RX6 60 yX6_isOutside wsX6_isOutside) := goodIn_app (goodIn_of _ (by decide +kernel)) ggX6_later_X6_isOutside
set_option maxRecDepth 20000 in
theorem ggX6_later_X4_size : GoodIn wsX6_later wsX4_size := goodIn_r _ [10, 11, 36, 37, 38, 39] (by decide +kernel) (by decide +kernel)
set_option maxRecDepth 20000 in
theorem gX6_later_X4_size : GoodIn wsX6_later (wsV RX6 175 RX4 yX4_size wsX4_size) := goodIn_app (goodIn_of _ (by decide +kernel)) ggX6_later_X4_size
set_option maxRecDepth 20000 in
theorem ggX6_later_X4_tellOf : GoodIn wsX6_later wsX4_tellOf := goodIn_r _ [15, 11, 16, 17, 18, 36, 37, 38, 39] (by decide +kernel) (by decide +kernel)
set_option maxRecDepth 20000 in
theorem gX6_later_X4_tellOf : GoodIn wsX6_later (wsV RX6 178 RX4 yX4_tellOf wsX4_tellOf) := goodIn_app (goodIn_of _ (by decide +kernel)) ggX6_later_X4_tellOf
theorem dX6_later_0 : decode cX6_later 0 = .ok (.iload_n 1, 1) := by decide +kernel
theorem dX6_later_1 : decode cX6_later 1 = .ok (.iconst (-1), 1) := by decide +kernel
theorem dX6_later_2 : decode cX6_later 2 = .ok (.if_icmp .lt 12, 3) := by decide +kernel
theorem dX6_later_5 : decode cX6_later 5 = .ok (.iload_n 2, 1) := by decide +kernel
theorem dX6_later_6 : decode cX6_later 6 = .ok (.iconst 0, 1) := by decide +kernel
theorem dX6_later_7 : decode cX6_later 7 = .ok (.iconst 2, 1) := by decide +kernel
theorem dX6_later_8 : decode cX6_later 8 = .ok (.invokestatic 60, 3) := by decide +kernel
theorem dX6_later_11 : decode cX6_later 11 = .ok (.ifCond .eq 5, 3) := by decide +kernel
theorem dX6_later_14 : decode cX6_later 14 = .ok (.iconst (-1), 1) := by decide +kernel
theorem dX6_later_15 : decode cX6_later 15 = .ok (.ireturn, 1) := by decide +kernel
theorem dX6_later_16 : decode cX6_later 16 = .ok (.iload_n 1, 1) := by decide +kernel
theorem dX6_later_17 : decode cX6_later 17 = .ok (.iconst (-1), 1) := by decide +kernel
theorem dX6_later_18 : decode cX6_later 18 = .ok (.if_icmp .ne 11, 3) := by decide +kernel
theorem dX6_later_21 : decode cX6_later 21 = .ok (.aload_n 0, 1) := by decide +kernel
theorem dX6_later_22 : decode cX6_later 22 = .ok (.getfield 31, 3) := by decide +kernel
theorem dX6_later_25 : decode cX6_later 25 = .ok (.invokevirtual 175, 3) := by decide +kernel
theorem dX6_later_28 : decode cX6_later 28 = .ok (.ireturn, 1) := by decide +kernel
theorem dX6_later_29 : decode cX6_later 29 = .ok (.aload_n 0, 1) := by decide +kernel
theorem dX6_later_30 : decode cX6_later 30 = .ok (.getfield 31, 3) := by decide +kernel
theorem dX6_later_33 : decode cX6_later 33 = .ok (.iload_n 1, 1) := by decide +kernel
theorem dX6_later_34 : decode cX6_later 34 = .ok (.iload_n 2, 1) := by decide +kernel
theorem dX6_later_35 : decode cX6_later 35 = .ok (.invokevirtual 178, 3) := by decide +kernel
theorem dX6_later_38 : decode cX6_later 38 = .ok (.ireturn, 1) := by decide +kernel
set_option maxRecDepth 20000 in
theorem ggX6_count_X3_size : GoodIn wsX6_count wsX3_size := goodIn_r _ [17, 18, 133, 134, 135, 136, 137, 138] (by decide +kernel) (by decide +kernel)
set_option maxRecDepth 20000 in
theorem gX6_count_X3_size : GoodIn wsX6_count (wsV RX6 181 RX3 yX3_size wsX3_size) := goodIn_app (goodIn_of _ (by decide +kernel)) ggX6_count_X3_size
set_option maxRecDepth 20000 in
theorem ggX6_count_X3_groupSize : GoodIn wsX6_count wsX3_groupSize := goodIn_r _ [22, 23, 133, 134, 135, 136, 137, 138] (by decide +kernel) (by decide +kernel)
set_option maxRecDepth 20000 in
theorem gX6_count_X3_groupSize : GoodIn wsX6_count (wsV RX6 182 RX3 yX3_groupSize wsX3_groupSize) := goodIn_app (goodIn_of _ (by decide +kernel)) ggX6_count_X3_groupSize
set_option maxRecDepth 20000 in
theorem ggX6_count_X6_isPowered : GoodIn wsX6_count wsX6_isPowered := goodIn_r _ [28, 2, 116, 117, 118, 119, 120, 121, 122, 123, 124, 125, 126, 127, 128, 129, 130, 131, 132] (by decide +kernel) (by decide +kernel)
set_option maxRecDepth 20000 in
theorem gX6_count_X6_isPowered : GoodIn wsX6_count (wsV RX6 65 RX6 yX6_isPowered wsX6_isPowered) := goodIn_app (goodIn_of _ (by decide +kernel)) ggX6_count_X6_isPowered
set_option maxRecDepth 20000 in
theorem ggX6_count_X2_lines : GoodIn wsX6_count wsX2_lines := goodIn_r _ [33, 34, 139, 140, 141] (by decide +kernel) (by decide +kernel)
set_option maxRecDepth 20000 in
theorem gX6_count_X2_lines : GoodIn wsX6_count (wsV RX6 188 RX2 yX2_lines wsX2_lines) := goodIn_app (goodIn_of _ (by decide +kernel)) ggX6_count_X2_lines
set_option maxRecDepth 20000 in
theorem ggX6_count_X2_speed : GoodIn wsX6_count wsX2_speed := goodIn_r _ [38, 39, 139, 140, 141] (by decide +kernel) (by decide +kernel)
set_option maxRecDepth 20000 in
theorem gX6_count_X2_speed : GoodIn wsX6_count (wsV RX6 191 RX2 yX2_speed wsX2_speed) := goodIn_app (goodIn_of _ (by decide +kernel)) ggX6_count_X2_speed
set_option maxRecDepth 20000 in
theorem ggX6_count_X2_point : GoodIn wsX6_count wsX2_point := goodIn_r _ [43, 44, 139, 140, 141] (by decide +kernel) (by decide +kernel)
set_option maxRecDepth 20000 in
theorem gX6_count_X2_point : GoodIn wsX6_count (wsV RX6 194 RX2 yX2_point wsX2_point) := goodIn_app (goodIn_of _ (by decide +kernel)) ggX6_count_X2_point
set_option maxRecDepth 20000 in
theorem ggX6_count_X6_asNumber : GoodIn wsX6_count wsX6_asNumber := goodIn_r _ [47] (by decide +kernel) (by decide +kernel)
set_option maxRecDepth 20000 in
theorem gX6_count_X6_asNumber : GoodIn wsX6_count (va_wsS RX6 162 yX6_asNumber wsX6_asNumber) := goodIn_app (goodIn_of _ (by decide +kernel)) ggX6_count_X6_asNumber
set_option maxRecDepth 20000 in
theorem ggX6_count_X0_groupsLeft : GoodIn wsX6_count wsX0_groupsLeft := goodIn_r _ [52, 53, 142, 143, 144, 145, 146, 147] (by decide +kernel) (by decide +kernel)
set_option maxRecDepth 20000 in
theorem gX6_count_X0_groupsLeft : GoodIn wsX6_count (wsV RX6 207 RX0 yX0_groupsLeft wsX0_groupsLeft) := goodIn_app (goodIn_of _ (by decide +kernel)) ggX6_count_X0_groupsLeft
set_option maxRecDepth 20000 in
theorem ggX6_count_X3_tornBlocks : GoodIn wsX6_count wsX3_tornBlocks := goodIn_r _ [57, 18, 58, 59, 60, 16, 61, 62, 63, 64, 65, 66, 46, 27, 47, 133, 134, 135, 136, 137, 138] (by decide +kernel) (by decide +kernel)
set_option maxRecDepth 20000 in
theorem gX6_count_X3_tornBlocks : GoodIn wsX6_count (wsV RX6 210 RX3 yX3_tornBlocks wsX3_tornBlocks) := goodIn_app (goodIn_of _ (by decide +kernel)) ggX6_count_X3_tornBlocks
set_option maxRecDepth 20000 in
theorem ggX6_count_X1_length : GoodIn wsX6_count wsX1_length := goodIn_r _ [71, 72, 148, 149] (by decide +kernel) (by decide +kernel)
set_option maxRecDepth 20000 in
theorem gX6_count_X1_length : GoodIn wsX6_count (wsV RX6 86 RX1 yX1_length wsX1_length) := goodIn_app (goodIn_of _ (by decide +kernel)) ggX6_count_X1_length
set_option maxRecDepth 20000 in
theorem ggX6_count_X6_isStreaming : GoodIn wsX6_count wsX6_isStreaming := goodIn_r _ [76, 2, 116, 117, 118, 119, 120, 121, 122, 123, 124, 125, 126, 127, 128, 129, 130, 131, 132] (by decide +kernel) (by decide +kernel)
set_option maxRecDepth 20000 in
theorem gX6_count_X6_isStreaming : GoodIn wsX6_count (wsV RX6 213 RX6 yX6_isStreaming wsX6_isStreaming) := goodIn_app (goodIn_of _ (by decide +kernel)) ggX6_count_X6_isStreaming
set_option maxRecDepth 20000 in
theorem ggX6_count_X5_next : GoodIn wsX6_count wsX5_next := goodIn_r _ [81, 82, 150, 151, 152, 153, 154] (by decide +kernel) (by decide +kernel)
set_option maxRecDepth 20000 in
theorem gX6_count_X5_next : GoodIn wsX6_count (wsV RX6 120 RX5 yX5_next wsX5_next) := goodIn_app (goodIn_of _ (by decide +kernel)) ggX6_count_X5_next
