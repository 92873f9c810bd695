set_option maxRecDepth 20000 in
theorem gX7_power_X7_begins : GoodIn wsX7_power (wsV RX7 82 RX7 yX7_begins wsX7_begins) := goodIn_app (goodIn_of _ (by decide +kernel)) ggX7_power_X7_begins
theorem dX7_power_0 : decode cX7_power 0 = .ok (.iload_n 1, 1) := by decide +kernel
theorem dX7_power_1 : decode cX7_power 1 = .ok (.i2l, 1) := by decide +kernel
theorem dX7_power_2 : decode cX7_power 2 = .ok (.lconst 0, 1) := by decide +kernel
theorem dX7_power_3 : decode cX7_power 3 = .ok (.lconst 1, 1) := by decide +kernel
theorem dX7_power_4 : decode cX7_power 4 = .ok (.invokestatic 42, 3) := by decide +kernel
theorem dX7_power_7 : decode cX7_power 7 = .ok (.ifCond .ne 5, 3) := by decide +kernel
theorem dX7_power_10 : decode cX7_power 10 = .ok (.iconst (-1), 1) := by decide +kernel
theorem dX7_power_11 : decode cX7_power 11 = .ok (.ireturn, 1) := by decide +kernel
theorem dX7_power_12 : decode cX7_power 12 = .ok (.aload_n 0, 1) := by decide +kernel
theorem dX7_power_13 : decode cX7_power 13 = .ok (.getfield 78, 3) := by decide +kernel
theorem dX7_power_16 : decode cX7_power 16 = .ok (.iload_n 1, 1) := by decide +kernel
theorem dX7_power_17 : decode cX7_power 17 = .ok (.iconst 1, 1) := by decide +kernel
theorem dX7_power_18 : decode cX7_power 18 = .ok (.if_icmp .ne 7, 3) := by decide +kernel
theorem dX7_power_21 : decode cX7_power 21 = .ok (.iconst 1, 1) := by decide +kernel
theorem dX7_power_22 : decode cX7_power 22 = .ok (.goto 4, 3) := by decide +kernel
theorem dX7_power_25 : decode cX7_power 25 = .ok (.iconst 0, 1) := by decide +kernel
theorem dX7_power_26 : decode cX7_power 26 = .ok (.if_icmp .ne 6, 3) := by decide +kernel
theorem dX7_power_29 : decode cX7_power 29 = .ok (.bipush (-2), 2) := by decide +kernel
theorem dX7_power_31 : decode cX7_power 31 = .ok (.ireturn, 1) := by decide +kernel
theorem dX7_power_32 : decode cX7_power 32 = .ok (.aload_n 0, 1) := by decide +kernel
theorem dX7_power_33 : decode cX7_power 33 = .ok (.getfield 78, 3) := by decide +kernel
theorem dX7_power_36 : decode cX7_power 36 = .ok (.ifCond .eq 7, 3) := by decide +kernel
theorem dX7_power_39 : decode cX7_power 39 = .ok (.aload_n 0, 1) := by decide +kernel
theorem dX7_power_40 : decode cX7_power 40 = .ok (.invokevirtual 147, 3) := by decide +kernel
theorem dX7_power_43 : decode cX7_power 43 = .ok (.aload_n 0, 1) := by decide +kernel
theorem dX7_power_44 : decode cX7_power 44 = .ok (.invokevirtual 82, 3) := by decide +kernel
theorem dX7_power_47 : decode cX7_power 47 = .ok (.aload_n 0, 1) := by decide +kernel
theorem dX7_power_48 : decode cX7_power 48 = .ok (.iload_n 1, 1) := by decide +kernel
theorem dX7_power_49 : decode cX7_power 49 = .ok (.iconst 1, 1) := by decide +kernel
theorem dX7_power_50 : decode cX7_power 50 = .ok (.if_icmp .ne 7, 3) := by decide +kernel
theorem dX7_power_53 : decode cX7_power 53 = .ok (.iconst 1, 1) := by decide +kernel
theorem dX7_power_54 : decode cX7_power 54 = .ok (.goto 4, 3) := by decide +kernel
theorem dX7_power_57 : decode cX7_power 57 = .ok (.iconst 0, 1) := by decide +kernel
theorem dX7_power_58 : decode cX7_power 58 = .ok (.putfield 78, 3) := by decide +kernel
theorem dX7_power_61 : decode cX7_power 61 = .ok (.iconst 1, 1) := by decide +kernel
theorem dX7_power_62 : decode cX7_power 62 = .ok (.ireturn, 1) := by decide +kernel
set_option maxRecDepth 20000 in
theorem ggX7_warm_X7_in : GoodIn wsX7_warm wsX7_in := goodIn_r _ [6] (by decide +kernel) (by decide +kernel)
set_option maxRecDepth 20000 in
theorem gX7_warm_X7_in : GoodIn wsX7_warm (va_wsS RX7 42 yX7_in wsX7_in) := goodIn_app (goodIn_of _ (by decide +kernel)) ggX7_warm_X7_in
theorem dX7_warm_0 : decode cX7_warm 0 = .ok (.iload_n 1, 1) := by decide +kernel
theorem dX7_warm_1 : decode cX7_warm 1 = .ok (.i2l, 1) := by decide +kernel
theorem dX7_warm_2 : decode cX7_warm 2 = .ok (.lconst 0, 1) := by decide +kernel
theorem dX7_warm_3 : decode cX7_warm 3 = .ok (.ldc2_w 150, 3) := by decide +kernel
theorem dX7_warm_6 : decode cX7_warm 6 = .ok (.invokestatic 42, 3) := by decide +kernel
theorem dX7_warm_9 : decode cX7_warm 9 = .ok (.ifCond .ne 5, 3) := by decide +kernel
theorem dX7_warm_12 : decode cX7_warm 12 = .ok (.iconst (-1), 1) := by decide +kernel
theorem dX7_warm_13 : decode cX7_warm 13 = .ok (.ireturn, 1) := by decide +kernel
theorem dX7_warm_14 : decode cX7_warm 14 = .ok (.aload_n 0, 1) := by decide +kernel
theorem dX7_warm_15 : decode cX7_warm 15 = .ok (.getfield 152, 3) := by decide +kernel
theorem dX7_warm_18 : decode cX7_warm 18 = .ok (.istore_n 2, 1) := by decide +kernel
theorem dX7_warm_19 : decode cX7_warm 19 = .ok (.aload_n 0, 1) := by decide +kernel
theorem dX7_warm_20 : decode cX7_warm 20 = .ok (.iload_n 1, 1) := by decide +kernel
theorem dX7_warm_21 : decode cX7_warm 21 = .ok (.putfield 152, 3) := by decide +kernel
theorem dX7_warm_24 : decode cX7_warm 24 = .ok (.iload_n 2, 1) := by decide +kernel
theorem dX7_warm_25 : decode cX7_warm 25 = .ok (.ireturn, 1) := by decide +kernel
set_option maxRecDepth 20000 in
theorem ggX7_write_X7_in : GoodIn wsX7_write wsX7_in := goodIn_r _ [8] (by decide +kernel) (by decide +kernel)
set_option maxRecDepth 20000 in
theorem gX7_write_X7_in : GoodIn wsX7_write (va_wsS RX7 42 yX7_in wsX7_in) := goodIn_app (goodIn_of _ (by decide +kernel)) ggX7_write_X7_in
theorem dX7_write_0 : decode cX7_write 0 = .ok (.iload_n 1, 1) := by decide +kernel
theorem dX7_write_1 : decode cX7_write 1 = .ok (.i2l, 1) := by decide +kernel
theorem dX7_write_2 : decode cX7_write 2 = .ok (.ldc2_w 155, 3) := by decide +kernel
theorem dX7_write_5 : decode cX7_write 5 = .ok (.ldc2_w 157, 3) := by decide +kernel
theorem dX7_write_8 : decode cX7_write 8 = .ok (.invokestatic 42, 3) := by decide +kernel
theorem dX7_write_11 : decode cX7_write 11 = .ok (.ifCond .ne 5, 3) := by decide +kernel
theorem dX7_write_14 : decode cX7_write 14 = .ok (.iconst (-1), 1) := by decide +kernel
theorem dX7_write_15 : decode cX7_write 15 = .ok (.ireturn, 1) := by decide +kernel
theorem dX7_write_16 : decode cX7_write 16 = .ok (.aload_n 0, 1) := by decide +kernel
theorem dX7_write_17 : decode cX7_write 17 = .ok (.getfield 159, 3) := by decide +kernel
theorem dX7_write_20 : decode cX7_write 20 = .ok (.sipush 200, 3) := by decide +kernel
theorem dX7_write_23 : decode cX7_write 23 = .ok (.if_icmp .ne 6, 3) := by decide +kernel
theorem dX7_write_26 : decode cX7_write 26 = .ok (.bipush (-3), 2) := by decide +kernel
theorem dX7_write_28 : decode cX7_write 28 = .ok (.ireturn, 1) := by decide +kernel
theorem dX7_write_29 : decode cX7_write 29 = .ok (.aload_n 0, 1) := by decide +kernel
theorem dX7_write_30 : decode cX7_write 30 = .ok (.getfield 7, 3) := by decide +kernel
theorem dX7_write_33 : decode cX7_write 33 = .ok (.aload_n 0, 1) := by decide +kernel
theorem dX7_write_34 : decode cX7_write 34 = .ok (.getfield 159, 3) := by decide +kernel
theorem dX7_write_37 : decode cX7_write 37 = .ok (.iload_n 1, 1) := by decide +kernel
theorem dX7_write_38 : decode cX7_write 38 = .ok (.iastore, 1) := by decide +kernel
theorem dX7_write_39 : decode cX7_write 39 = .ok (.aload_n 0, 1) := by decide +kernel
theorem dX7_write_40 : decode cX7_write 40 = .ok (.dup, 1) := by decide +kernel
theorem dX7_write_41 : decode cX7_write 41 = .ok (.getfield 159, 3) := by decide +kernel
theorem dX7_write_44 : decode cX7_write 44 = .ok (.iconst 1, 1) := by decide +kernel
theorem dX7_write_45 : decode cX7_write 45 = .ok (.iadd, 1) := by decide +kernel
theorem dX7_write_46 : decode cX7_write 46 = .ok (.putfield 159, 3) := by decide +kernel
theorem dX7_write_49 : decode cX7_write 49 = .ok (.aload_n 0, 1) := by decide +kernel
theorem dX7_write_50 : decode cX7_write 50 = .ok (.getfield 159, 3) := by decide +kernel
theorem dX7_write_53 : decode cX7_write 53 = .ok (.ireturn, 1) := by decide +kernel
theorem dX7_wipe_0 : decode cX7_wipe 0 = .ok (.aload_n 0, 1) := by decide +kernel
theorem dX7_wipe_1 : decode cX7_wipe 1 = .ok (.getfield 159, 3) := by decide +kernel
theorem dX7_wipe_4 : decode cX7_wipe 4 = .ok (.istore_n 1, 1) := by decide +kernel
theorem dX7_wipe_5 : decode cX7_wipe 5 = .ok (.aload_n 0, 1) := by decide +kernel
theorem dX7_wipe_6 : decode cX7_wipe 6 = .ok (.iconst 0, 1) := by decide +kernel
theorem dX7_wipe_7 : decode cX7_wipe 7 = .ok (.putfield 159, 3) := by decide +kernel
theorem dX7_wipe_10 : decode cX7_wipe 10 = .ok (.iload_n 1, 1) := by decide +kernel
theorem dX7_wipe_11 : decode cX7_wipe 11 = .ok (.ireturn, 1) := by decide +kernel
theorem dX7_checked_0 : decode cX7_checked 0 = .ok (.iconst 0, 1) := by decide +kernel
theorem dX7_checked_1 : decode cX7_checked 1 = .ok (.istore_n 2, 1) := by decide +kernel
theorem dX7_checked_2 : decode cX7_checked 2 = .ok (.iload_n 1, 1) := by decide +kernel
theorem dX7_checked_3 : decode cX7_checked 3 = .ok (.iconst 1, 1) := by decide +kernel
theorem dX7_checked_4 : decode cX7_checked 4 = .ok (.isub, 1) := by decide +kernel
theorem dX7_checked_5 : decode cX7_checked 5 = .ok (.istore_n 3, 1) := by decide +kernel
theorem dX7_checked_6 : decode cX7_checked 6 = .ok (.iload_n 3, 1) := by decide +kernel
theorem dX7_checked_7 : decode cX7_checked 7 = .ok (.ifCond .lt 30, 3) := by decide +kernel
theorem dX7_checked_10 : decode cX7_checked 10 = .ok (.iload_n 2, 1) := by decide +kernel
theorem dX7_checked_11 : decode cX7_checked 11 = .ok (.iconst 1, 1) := by decide +kernel
theorem dX7_checked_12 : decode cX7_checked 12 = .ok (.ishl, 1) := by decide +kernel
theorem dX7_checked_13 : decode cX7_checked 13 = .ok (.bipush 127, 2) := by decide +kernel
theorem dX7_checked_15 : decode cX7_checked 15 = .ok (.iand, 1) := by decide +kernel
theorem dX7_checked_16 : decode cX7_checked 16 = .ok (.bipush 9, 2) := by decide +kernel
theorem dX7_checked_18 : decode cX7_checked 18 = .ok (.iload_n 0, 1) := by decide +kernel
theorem dX7_checked_19 : decode cX7_checked 19 = .ok (.iload_n 3, 1) := by decide +kernel
theorem dX7_checked_20 : decode cX7_checked 20 = .ok (.ishr, 1) := by decide +kernel
theorem dX7_checked_21 : decode cX7_checked 21 = .ok (.iconst 1, 1) := by decide +kernel
theorem dX7_checked_22 : decode cX7_checked 22 = .ok (.iand, 1) := by decide +kernel
theorem dX7_checked_23 : decode cX7_checked 23 = .ok (.iload_n 2, 1) := by decide +kernel
theorem dX7_checked_24 : decode cX7_checked 24 = .ok (.bipush 6, 2) := by decide +kernel
theorem dX7_checked_26 : decode cX7_checked 26 = .ok (.ishr, 1) := by decide +kernel
theorem dX7_checked_27 : decode cX7_checked 27 = .ok (.ixor, 1) := by decide +kernel
theorem dX7_checked_28 : decode cX7_checked 28 = .ok (.imul, 1) := by decide +kernel
theorem dX7_checked_29 : decode cX7_checked 29 = .ok (.ixor, 1) := by decide +kernel
theorem dX7_checked_30 : decode cX7_checked 30 = .ok (.istore_n 2, 1) := by decide +kernel
theorem dX7_checked_31 : decode cX7_checked 31 = .ok (.iinc 3 (-1), 3) := by decide +kernel
theorem dX7_checked_34 : decode cX7_checked 34 = .ok (.goto (-28), 3) := by decide +kernel
theorem dX7_checked_37 : decode cX7_checked 37 = .ok (.iload_n 2, 1) := by decide +kernel
theorem dX7_checked_38 : decode cX7_checked 38 = .ok (.ireturn, 1) := by decide +kernel
set_option maxRecDepth 20000 in
theorem ggX7_check_X7_in : GoodIn wsX7_check wsX7_in := goodIn_r _ [7] (by decide +kernel) (by decide +kernel)
set_option maxRecDepth 20000 in
theorem gX7_check_X7_in : GoodIn wsX7_check (va_wsS RX7 42 yX7_in wsX7_in) := goodIn_app (goodIn_of _ (by decide +kernel)) ggX7_check_X7_in
set_option maxRecDepth 20000 in
theorem ggX7_check_X7_checked : GoodIn wsX7_check wsX7_checked := goodIn_r _ [10] (by decide +kernel) (by decide +kernel)
set_option maxRecDepth 20000 in
theorem gX7_check_X7_checked : GoodIn wsX7_check (va_wsS RX7 165 yX7_checked wsX7_checked) := goodIn_app (goodIn_of _ (by decide +kernel)) ggX7_check_X7_checked
theorem dX7_check_0 : decode cX7_check 0 = .ok (.iload_n 1, 1) := by decide +kernel
theorem dX7_check_1 : decode cX7_check 1 = .ok (.i2l, 1) := by decide +kernel
theorem dX7_check_2 : decode cX7_check 2 = .ok (.lconst 0, 1) := by decide +kernel
theorem dX7_check_3 : decode cX7_check 3 = .ok (.ldc2_w 162, 3) := by decide +kernel
theorem dX7_check_6 : decode cX7_check 6 = .ok (.invokestatic 42, 3) := by decide +kernel
theorem dX7_check_9 : decode cX7_check 9 = .ok (.ifCond .eq 29, 3) := by decide +kernel
theorem dX7_check_12 : decode cX7_check 12 = .ok (.iload_n 2, 1) := by decide +kernel
theorem dX7_check_13 : decode cX7_check 13 = .ok (.i2l, 1) := by decide +kernel
theorem dX7_check_14 : decode cX7_check 14 = .ok (.lconst 0, 1) := by decide +kernel
theorem dX7_check_15 : decode cX7_check 15 = .ok (.ldc2_w 50, 3) := by decide +kernel
theorem dX7_check_18 : decode cX7_check 18 = .ok (.invokestatic 42, 3) := by decide +kernel
theorem dX7_check_21 : decode cX7_check 21 = .ok (.ifCond .eq 17, 3) := by decide +kernel
theorem dX7_check_24 : decode cX7_check 24 = .ok (.ldc 164, 2) := by decide +kernel
theorem dX7_check_26 : decode cX7_check 26 = .ok (.iload_n 1, 1) := by decide +kernel
theorem dX7_check_27 : decode cX7_check 27 = .ok (.imul, 1) := by decide +kernel
theorem dX7_check_28 : decode cX7_check 28 = .ok (.iload_n 2, 1) := by decide +kernel
theorem dX7_check_29 : decode cX7_check 29 = .ok (.iadd, 1) := by decide +kernel
theorem dX7_check_30 : decode cX7_check 30 = .ok (.bipush 22, 2) := by decide +kernel
theorem dX7_check_32 : decode cX7_check 32 = .ok (.invokestatic 165, 3) := by decide +kernel
theorem dX7_check_35 : decode cX7_check 35 = .ok (.goto 4, 3) := by decide +kernel
theorem dX7_check_38 : decode cX7_check 38 = .ok (.iconst (-1), 1) := by decide +kernel
theorem dX7_check_39 : decode cX7_check 39 = .ok (.ireturn, 1) := by decide +kernel
set_option maxRecDepth 20000 in
theorem ggX7_checkOf_X7_in : GoodIn wsX7_checkOf wsX7_in := goodIn_r _ [5] (by decide +kernel) (by decide +kernel)
set_option maxRecDepth 20000 in
theorem gX7_checkOf_X7_in : GoodIn wsX7_checkOf (va_wsS RX7 42 yX7_in wsX7_in) := goodIn_app (goodIn_of _ (by decide +kernel)) ggX7_checkOf_X7_in
set_option maxRecDepth 20000 in
theorem ggX7_checkOf_X7_checked : GoodIn wsX7_checkOf wsX7_checked := goodIn_r _ [8] (by decide +kernel) (by decide +kernel)
set_option maxRecDepth 20000 in
theorem gX7_checkOf_X7_checked : GoodIn wsX7_checkOf (va_wsS RX7 165 yX7_checked wsX7_checked) := goodIn_app (goodIn_of _ (by decide +kernel)) ggX7_checkOf_X7_checked
theorem dX7_checkOf_0 : decode cX7_checkOf 0 = .ok (.iload_n 1, 1) := by decide +kernel
theorem dX7_checkOf_1 : decode cX7_checkOf 1 = .ok (.i2l, 1) := by decide +kernel
theorem dX7_checkOf_2 : decode cX7_checkOf 2 = .ok (.lconst 0, 1) := by decide +kernel
theorem dX7_checkOf_3 : decode cX7_checkOf 3 = .ok (.ldc2_w 50, 3) := by decide +kernel
theorem dX7_checkOf_6 : decode cX7_checkOf 6 = .ok (.invokestatic 42, 3) := by decide +kernel
theorem dX7_checkOf_9 : decode cX7_checkOf 9 = .ok (.ifCond .eq 12, 3) := by decide +kernel
theorem dX7_checkOf_12 : decode cX7_checkOf 12 = .ok (.iload_n 1, 1) := by decide +kernel
theorem dX7_checkOf_13 : decode cX7_checkOf 13 = .ok (.bipush 16, 2) := by decide +kernel
theorem dX7_checkOf_15 : decode cX7_checkOf 15 = .ok (.invokestatic 165, 3) := by decide +kernel
theorem dX7_checkOf_18 : decode cX7_checkOf 18 = .ok (.goto 4, 3) := by decide +kernel
theorem dX7_checkOf_21 : decode cX7_checkOf 21 = .ok (.iconst (-1), 1) := by decide +kernel
theorem dX7_checkOf_22 : decode cX7_checkOf 22 = .ok (.ireturn, 1) := by decide +kernel
theorem dX7_isInWindow_0 : decode cX7_isInWindow 0 = .ok (.aload_n 0, 1) := by decide +kernel
theorem dX7_isInWindow_1 : decode cX7_isInWindow 1 = .ok (.getfield 97, 3) := by decide +kernel
theorem dX7_isInWindow_4 : decode cX7_isInWindow 4 = .ok (.iconst 3, 1) := by decide +kernel
theorem dX7_isInWindow_5 : decode cX7_isInWindow 5 = .ok (.isub, 1) := by decide +kernel
theorem dX7_isInWindow_6 : decode cX7_isInWindow 6 = .ok (.iconst 5, 1) := by decide +kernel
theorem dX7_isInWindow_7 : decode cX7_isInWindow 7 = .ok (.aload_n 0, 1) := by decide +kernel
theorem dX7_isInWindow_8 : decode cX7_isInWindow 8 = .ok (.getfield 94, 3) := by decide +kernel
theorem dX7_isInWindow_11 : decode cX7_isInWindow 11 = .ok (.imul, 1) := by decide +kernel
theorem dX7_isInWindow_12 : decode cX7_isInWindow 12 = .ok (.isub, 1) := by decide +kernel
theorem dX7_isInWindow_13 : decode cX7_isInWindow 13 = .ok (.aload_n 0, 1) := by decide +kernel
theorem dX7_isInWindow_14 : decode cX7_isInWindow 14 = .ok (.getfield 152, 3) := by decide +kernel
theorem dX7_isInWindow_17 : decode cX7_isInWindow 17 = .ok (.isub, 1) := by decide +kernel
theorem dX7_isInWindow_18 : decode cX7_isInWindow 18 = .ok (.bipush 48, 2) := by decide +kernel
theorem dX7_isInWindow_20 : decode cX7_isInWindow 20 = .ok (.iadd, 1) := by decide +kernel
theorem dX7_isInWindow_21 : decode cX7_isInWindow 21 = .ok (.bipush 16, 2) := by decide +kernel
theorem dX7_isInWindow_23 : decode cX7_isInWindow 23 = .ok (.irem, 1) := by decide +kernel
theorem dX7_isInWindow_24 : decode cX7_isInWindow 24 = .ok (.istore_n 1, 1) := by decide +kernel
theorem dX7_isInWindow_25 : decode cX7_isInWindow 25 = .ok (.iload_n 1, 1) := by decide +kernel
theorem dX7_isInWindow_26 : decode cX7_isInWindow 26 = .ok (.bipush 8, 2) := by decide +kernel
theorem dX7_isInWindow_28 : decode cX7_isInWindow 28 = .ok (.if_icmp .le 10, 3) := by decide +kernel
theorem dX7_isInWindow_31 : decode cX7_isInWindow 31 = .ok (.bipush 16, 2) := by decide +kernel
theorem dX7_isInWindow_33 : decode cX7_isInWindow 33 = .ok (.iload_n 1, 1) := by decide +kernel
theorem dX7_isInWindow_34 : decode cX7_isInWindow 34 = .ok (.isub, 1) := by decide +kernel
theorem dX7_isInWindow_35 : decode cX7_isInWindow 35 = .ok (.goto 4, 3) := by decide +kernel
theorem dX7_isInWindow_38 : decode cX7_isInWindow 38 = .ok (.iload_n 1, 1) := by decide +kernel
theorem dX7_isInWindow_39 : decode cX7_isInWindow 39 = .ok (.istore_n 2, 1) := by decide +kernel
theorem dX7_isInWindow_40 : decode cX7_isInWindow 40 = .ok (.iload_n 2, 1) := by decide +kernel
theorem dX7_isInWindow_41 : decode cX7_isInWindow 41 = .ok (.bipush 7, 2) := by decide +kernel
theorem dX7_isInWindow_43 : decode cX7_isInWindow 43 = .ok (.iconst 2, 1) := by decide +kernel
theorem dX7_isInWindow_44 : decode cX7_isInWindow 44 = .ok (.aload_n 0, 1) := by decide +kernel
theorem dX7_isInWindow_45 : decode cX7_isInWindow 45 = .ok (.getfield 94, 3) := by decide +kernel
theorem dX7_isInWindow_48 : decode cX7_isInWindow 48 = .ok (.imul, 1) := by decide +kernel
theorem dX7_isInWindow_49 : decode cX7_isInWindow 49 = .ok (.isub, 1) := by decide +kernel
theorem dX7_isInWindow_50 : decode cX7_isInWindow 50 = .ok (.if_icmp .gt 7, 3) := by decide +kernel
theorem dX7_isInWindow_53 : decode cX7_isInWindow 53 = .ok (.iconst 1, 1) := by decide +kernel
theorem dX7_isInWindow_54 : decode cX7_isInWindow 54 = .ok (.goto 4, 3) := by decide +kernel
theorem dX7_isInWindow_57 : decode cX7_isInWindow 57 = .ok (.iconst 0, 1) := by decide +kernel
theorem dX7_isInWindow_58 : decode cX7_isInWindow 58 = .ok (.ireturn, 1) := by decide +kernel
set_option maxRecDepth 20000 in
theorem ggX7_isOne_X7_isStarred : GoodIn wsX7_isOne wsX7_isStarred := goodIn_r _ [5, 6, 7, 8, 9, 4, 10] (by decide +kernel) (by decide +kernel)
set_option maxRecDepth 20000 in
theorem gX7_isOne_X7_isStarred : GoodIn wsX7_isOne (va_wsS RX7 169 yX7_isStarred wsX7_isStarred) := goodIn_app (goodIn_of _ (by decide +kernel)) ggX7_isOne_X7_isStarred
theorem dX7_isOne_0 : decode cX7_isOne 0 = .ok (.iload_n 1, 1) := by decide +kernel
theorem dX7_isOne_1 : decode cX7_isOne 1 = .ok (.lookupswitch 199 #[(0, 75), (1, 77), (2, 90), (3, 104), (7, 126), (12, 148), (13, 171), (42, 185)], 75) := by decide +kernel
theorem dX7_isOne_76 : decode cX7_isOne 76 = .ok (.iconst 1, 1) := by decide +kernel
theorem dX7_isOne_77 : decode cX7_isOne 77 = .ok (.ireturn, 1) := by decide +kernel
theorem dX7_isOne_78 : decode cX7_isOne 78 = .ok (.aload_n 0, 1) := by decide +kernel
theorem dX7_isOne_79 : decode cX7_isOne 79 = .ok (.getfield 85, 3) := by decide +kernel
theorem dX7_isOne_82 : decode cX7_isOne 82 = .ok (.ifCond .ne 7, 3) := by decide +kernel
theorem dX7_isOne_85 : decode cX7_isOne 85 = .ok (.iconst 1, 1) := by decide +kernel
theorem dX7_isOne_86 : decode cX7_isOne 86 = .ok (.goto 4, 3) := by decide +kernel
theorem dX7_isOne_89 : decode cX7_isOne 89 = .ok (.iconst 0, 1) := by decide +kernel
theorem dX7_isOne_90 : decode cX7_isOne 90 = .ok (.ireturn, 1) := by decide +kernel
theorem dX7_isOne_91 : decode cX7_isOne 91 = .ok (.aload_n 0, 1) := by decide +kernel
theorem dX7_isOne_92 : decode cX7_isOne 92 = .ok (.getfield 85, 3) := by decide +kernel
theorem dX7_isOne_95 : decode cX7_isOne 95 = .ok (.iconst 1, 1) := by decide +kernel
theorem dX7_isOne_96 : decode cX7_isOne 96 = .ok (.if_icmp .ne 7, 3) := by decide +kernel
theorem dX7_isOne_99 : decode cX7_isOne 99 = .ok (.iconst 1, 1) := by decide +kernel
theorem dX7_isOne_100 : decode cX7_isOne 100 = .ok (.goto 4, 3) := by decide +kernel
theorem dX7_isOne_103 : decode cX7_isOne 103 = .ok (.iconst 0, 1) := by decide +kernel
theorem dX7_isOne_104 : decode cX7_isOne 104 = .ok (.ireturn, 1) := by decide +kernel
theorem dX7_isOne_105 : decode cX7_isOne 105 = .ok (.aload_n 0, 1) := by decide +kernel
theorem dX7_isOne_106 : decode cX7_isOne 106 = .ok (.getfield 85, 3) := by decide +kernel
theorem dX7_isOne_109 : decode cX7_isOne 109 = .ok (.iconst 2, 1) := by decide +kernel
theorem dX7_isOne_110 : decode cX7_isOne 110 = .ok (.if_icmp .eq 11, 3) := by decide +kernel
theorem dX7_isOne_113 : decode cX7_isOne 113 = .ok (.aload_n 0, 1) := by decide +kernel
theorem dX7_isOne_114 : decode cX7_isOne 114 = .ok (.getfield 85, 3) := by decide +kernel
theorem dX7_isOne_117 : decode cX7_isOne 117 = .ok (.iconst 3, 1) := by decide +kernel
theorem dX7_isOne_118 : decode cX7_isOne 118 = .ok (.if_icmp .ne 7, 3) := by decide +kernel
theorem dX7_isOne_121 : decode cX7_isOne 121 = .ok (.iconst 1, 1) := by decide +kernel
theorem dX7_isOne_122 : decode cX7_isOne 122 = .ok (.goto 4, 3) := by decide +kernel
theorem dX7_isOne_125 : decode cX7_isOne 125 = .ok (.iconst 0, 1) := by decide +kernel
theorem dX7_isOne_126 : decode cX7_isOne 126 = .ok (.ireturn, 1) := by decide +kernel
theorem dX7_isOne_127 : decode cX7_isOne 127 = .ok (.aload_n 0, 1) := by decide +kernel
theorem dX7_isOne_128 : decode cX7_isOne 128 = .ok (.getfield 85, 3) := by decide +kernel
theorem dX7_isOne_131 : decode cX7_isOne 131 = .ok (.iconst 3, 1) := by decide +kernel
theorem dX7_isOne_132 : decode cX7_isOne 132 = .ok (.if_icmp .eq 11, 3) := by decide +kernel
theorem dX7_isOne_135 : decode cX7_isOne 135 = .ok (.aload_n 0, 1) := by decide +kernel
theorem dX7_isOne_136 : decode cX7_isOne 136 = .ok (.getfield 85, 3) := by decide +kernel
theorem dX7_isOne_139 : decode cX7_isOne 139 = .ok (.iconst 4, 1) := by decide +kernel
theorem dX7_isOne_140 : decode cX7_isOne 140 = .ok (.if_icmp .ne 7, 3) := by decide +kernel
theorem dX7_isOne_143 : decode cX7_isOne 143 = .ok (.iconst 1, 1) := by decide +kernel
theorem dX7_isOne_144 : decode cX7_isOne 144 = .ok (.goto 4, 3) := by decide +kernel
theorem dX7_isOne_147 : decode cX7_isOne 147 = .ok (.iconst 0, 1) := by decide +kernel
theorem dX7_isOne_148 : decode cX7_isOne 148 = .ok (.ireturn, 1) := by decide +kernel
theorem dX7_isOne_149 : decode cX7_isOne 149 = .ok (.aload_n 0, 1) := by decide +kernel
theorem dX7_isOne_150 : decode cX7_isOne 150 = .ok (.getfield 85, 3) := by decide +kernel
theorem dX7_isOne_153 : decode cX7_isOne 153 = .ok (.iconst 5, 1) := by decide +kernel
theorem dX7_isOne_154 : decode cX7_isOne 154 = .ok (.if_icmp .eq 12, 3) := by decide +kernel
theorem dX7_isOne_157 : decode cX7_isOne 157 = .ok (.aload_n 0, 1) := by decide +kernel
theorem dX7_isOne_158 : decode cX7_isOne 158 = .ok (.getfield 85, 3) := by decide +kernel
theorem dX7_isOne_161 : decode cX7_isOne 161 = .ok (.bipush 6, 2) := by decide +kernel
theorem dX7_isOne_163 : decode cX7_isOne 163 = .ok (.if_icmp .ne 7, 3) := by decide +kernel
theorem dX7_isOne_166 : decode cX7_isOne 166 = .ok (.iconst 1, 1) := by decide +kernel
theorem dX7_isOne_167 : decode cX7_isOne 167 = .ok (.goto 4, 3) := by decide +kernel
theorem dX7_isOne_170 : decode cX7_isOne 170 = .ok (.iconst 0, 1) := by decide +kernel
theorem dX7_isOne_171 : decode cX7_isOne 171 = .ok (.ireturn, 1) := by decide +kernel
theorem dX7_isOne_172 : decode cX7_isOne 172 = .ok (.aload_n 0, 1) := by decide +kernel
theorem dX7_isOne_173 : decode cX7_isOne 173 = .ok (.getfield 85, 3) := by decide +kernel
theorem dX7_isOne_176 : decode cX7_isOne 176 = .ok (.iconst 3, 1) := by decide +kernel
theorem dX7_isOne_177 : decode cX7_isOne 177 = .ok (.if_icmp .lt 7, 3) := by decide +kernel
theorem dX7_isOne_180 : decode cX7_isOne 180 = .ok (.iconst 1, 1) := by decide +kernel
theorem dX7_isOne_181 : decode cX7_isOne 181 = .ok (.goto 4, 3) := by decide +kernel
theorem dX7_isOne_184 : decode cX7_isOne 184 = .ok (.iconst 0, 1) := by decide +kernel
theorem dX7_isOne_185 : decode cX7_isOne 185 = .ok (.ireturn, 1) := by decide +kernel
theorem dX7_isOne_186 : decode cX7_isOne 186 = .ok (.aload_n 0, 1) := by decide +kernel
theorem dX7_isOne_187 : decode cX7_isOne 187 = .ok (.getfield 85, 3) := by decide +kernel
theorem dX7_isOne_190 : decode cX7_isOne 190 = .ok (.iconst 4, 1) := by decide +kernel
theorem dX7_isOne_191 : decode cX7_isOne 191 = .ok (.if_icmp .ne 7, 3) := by decide +kernel
theorem dX7_isOne_194 : decode cX7_isOne 194 = .ok (.iconst 1, 1) := by decide +kernel
theorem dX7_isOne_195 : decode cX7_isOne 195 = .ok (.goto 4, 3) := by decide +kernel
theorem dX7_isOne_198 : decode cX7_isOne 198 = .ok (.iconst 0, 1) := by decide +kernel
theorem dX7_isOne_199 : decode cX7_isOne 199 = .ok (.ireturn, 1) := by decide +kernel
theorem dX7_isOne_200 : decode cX7_isOne 200 = .ok (.iload_n 1, 1) := by decide +kernel
theorem dX7_isOne_201 : decode cX7_isOne 201 = .ok (.invokestatic 169, 3) := by decide +kernel
theorem dX7_isOne_204 : decode cX7_isOne 204 = .ok (.ifCond .eq 15, 3) := by decide +kernel
theorem dX7_isOne_207 : decode cX7_isOne 207 = .ok (.aload_n 0, 1) := by decide +kernel
theorem dX7_isOne_208 : decode cX7_isOne 208 = .ok (.getfield 85, 3) := by decide +kernel
theorem dX7_isOne_211 : decode cX7_isOne 211 = .ok (.iconst 4, 1) := by decide +kernel
theorem dX7_isOne_212 : decode cX7_isOne 212 = .ok (.if_icmp .ne 7, 3) := by decide +kernel
theorem dX7_isOne_215 : decode cX7_isOne 215 = .ok (.iconst 1, 1) := by decide +kernel
theorem dX7_isOne_216 : decode cX7_isOne 216 = .ok (.goto 4, 3) := by decide +kernel
theorem dX7_isOne_219 : decode cX7_isOne 219 = .ok (.iconst 0, 1) := by decide +kernel
theorem dX7_isOne_220 : decode cX7_isOne 220 = .ok (.ireturn, 1) := by decide +kernel
set_option maxRecDepth 20000 in
theorem ggX7_isStarred_X7_in : GoodIn wsX7_isStarred wsX7_in := goodIn_r _ [6] (by decide +kernel) (by decide +kernel)
set_option maxRecDepth 20000 in
theorem gX7_isStarred_X7_in : GoodIn wsX7_isStarred (va_wsS RX7 42 yX7_in wsX7_in) := goodIn_app (goodIn_of _ (by decide +kernel)) ggX7_isStarred_X7_in
theorem dX7_isStarred_0 : decode cX7_isStarred 0 = .ok (.iload_n 0, 1) := by decide +kernel
theorem dX7_isStarred_1 : decode cX7_isStarred 1 = .ok (.bipush 6, 2) := by decide +kernel
theorem dX7_isStarred_3 : decode cX7_isStarred 3 = .ok (.if_icmp .eq 47, 3) := by decide +kernel
theorem dX7_isStarred_6 : decode cX7_isStarred 6 = .ok (.iload_n 0, 1) := by decide +kernel
theorem dX7_isStarred_7 : decode cX7_isStarred 7 = .ok (.bipush 17, 2) := by decide +kernel
theorem dX7_isStarred_9 : decode cX7_isStarred 9 = .ok (.if_icmp .eq 41, 3) := by decide +kernel
theorem dX7_isStarred_12 : decode cX7_isStarred 12 = .ok (.iload_n 0, 1) := by decide +kernel
theorem dX7_isStarred_13 : decode cX7_isStarred 13 = .ok (.bipush 18, 2) := by decide +kernel
theorem dX7_isStarred_15 : decode cX7_isStarred 15 = .ok (.if_icmp .eq 35, 3) := by decide +kernel
theorem dX7_isStarred_18 : decode cX7_isStarred 18 = .ok (.iload_n 0, 1) := by decide +kernel
theorem dX7_isStarred_19 : decode cX7_isStarred 19 = .ok (.i2l, 1) := by decide +kernel
theorem dX7_isStarred_20 : decode cX7_isStarred 20 = .ok (.ldc2_w 173, 3) := by decide +kernel
theorem dX7_isStarred_23 : decode cX7_isStarred 23 = .ok (.ldc2_w 175, 3) := by decide +kernel
theorem dX7_isStarred_26 : decode cX7_isStarred 26 = .ok (.invokestatic 42, 3) := by decide +kernel
theorem dX7_isStarred_29 : decode cX7_isStarred 29 = .ok (.ifCond .ne 21, 3) := by decide +kernel
theorem dX7_isStarred_32 : decode cX7_isStarred 32 = .ok (.iload_n 0, 1) := by decide +kernel
theorem dX7_isStarred_33 : decode cX7_isStarred 33 = .ok (.bipush 32, 2) := by decide +kernel
theorem dX7_isStarred_35 : decode cX7_isStarred 35 = .ok (.if_icmp .eq 15, 3) := by decide +kernel
theorem dX7_isStarred_38 : decode cX7_isStarred 38 = .ok (.iload_n 0, 1) := by decide +kernel
theorem dX7_isStarred_39 : decode cX7_isStarred 39 = .ok (.bipush 33, 2) := by decide +kernel
theorem dX7_isStarred_41 : decode cX7_isStarred 41 = .ok (.if_icmp .eq 9, 3) := by decide +kernel
theorem dX7_isStarred_44 : decode cX7_isStarred 44 = .ok (.iload_n 0, 1) := by decide +kernel
theorem dX7_isStarred_45 : decode cX7_isStarred 45 = .ok (.bipush 38, 2) := by decide +kernel
theorem dX7_isStarred_47 : decode cX7_isStarred 47 = .ok (.if_icmp .ne 7, 3) := by decide +kernel
theorem dX7_isStarred_50 : decode cX7_isStarred 50 = .ok (.iconst 1, 1) := by decide +kernel
theorem dX7_isStarred_51 : decode cX7_isStarred 51 = .ok (.goto 4, 3) := by decide +kernel
theorem dX7_isStarred_54 : decode cX7_isStarred 54 = .ok (.iconst 0, 1) := by decide +kernel
theorem dX7_isStarred_55 : decode cX7_isStarred 55 = .ok (.ireturn, 1) := by decide +kernel
theorem dX7_noting_0 : decode cX7_noting 0 = .ok (.aload_n 0, 1) := by decide +kernel
theorem dX7_noting_1 : decode cX7_noting 1 = .ok (.dup, 1) := by decide +kernel
theorem dX7_noting_2 : decode cX7_noting 2 = .ok (.getfield 103, 3) := by decide +kernel
theorem dX7_noting_5 : decode cX7_noting 5 = .ok (.iload_n 1, 1) := by decide +kernel
theorem dX7_noting_6 : decode cX7_noting 6 = .ok (.ior, 1) := by decide +kernel
theorem dX7_noting_7 : decode cX7_noting 7 = .ok (.putfield 103, 3) := by decide +kernel
theorem dX7_noting_10 : decode cX7_noting 10 = .ok (.bipush (-2), 2) := by decide +kernel
theorem dX7_noting_12 : decode cX7_noting 12 = .ok (.ireturn, 1) := by decide +kernel
set_option maxRecDepth 20000 in
theorem ggX7_send_X7_in : GoodIn wsX7_send wsX7_in := goodIn_r _ [11] (by decide +kernel) (by decide +kernel)
set_option maxRecDepth 20000 in
theorem gX7_send_X7_in : GoodIn wsX7_send (va_wsS RX7 42 yX7_in wsX7_in) := goodIn_app (goodIn_of _ (by decide +kernel)) ggX7_send_X7_in
set_option maxRecDepth 20000 in
theorem ggX7_send_X7_check : GoodIn wsX7_send wsX7_check := goodIn_r _ [15, 1, 2, 16, 8, 9, 10, 11, 17, 18, 19] (by decide +kernel) (by decide +kernel)
set_option maxRecDepth 20000 in
theorem gX7_send_X7_check : GoodIn wsX7_send (wsV RX7 179 RX7 yX7_check wsX7_check) := goodIn_app (goodIn_of _ (by decide +kernel)) ggX7_send_X7_check
set_option maxRecDepth 20000 in
theorem ggX7_send_X7_isOne : GoodIn wsX7_send wsX7_isOne := goodIn_r _ [23, 24, 25, 26, 10, 27, 28, 29, 8, 9, 11, 146, 147, 148, 149, 150, 151, 152, 153, 154, 155, 156, 157, 158, 159, 160, 161, 162, 163, 164, 165, 166, 167, 168, 169, 170, 171, 172, 173, 174, 175, 176, 177, 178, 179, 180, 181, 182, 183] (by decide +kernel) (by decide +kernel)
set_option maxRecDepth 20000 in
theorem gX7_send_X7_isOne : GoodIn wsX7_send (wsV RX7 182 RX7 yX7_isOne wsX7_isOne) := goodIn_app (goodIn_of _ (by decide +kernel)) ggX7_send_X7_isOne
set_option maxRecDepth 20000 in
theorem ggX7_send_X7_isStarred : GoodIn wsX7_send wsX7_isStarred := goodIn_r _ [27, 28, 29, 8, 9, 10, 11] (by decide +kernel) (by decide +kernel)
set_option maxRecDepth 20000 in
theorem gX7_send_X7_isStarred : GoodIn wsX7_send (va_wsS RX7 169 yX7_isStarred wsX7_isStarred) := goodIn_app (goodIn_of _ (by decide +kernel)) ggX7_send_X7_isStarred
set_option maxRecDepth 20000 in
theorem ggX7_send_X7_first : GoodIn wsX7_send wsX7_first := goodIn_r _ [33, 34, 35, 24, 36, 37, 38, 39, 40, 41, 42, 10, 43, 44, 45, 46, 47, 48, 49, 50, 51, 52, 53, 54, 55, 56, 57, 58, 59, 60, 61, 62, 63, 64, 65, 66, 67, 68, 69, 70, 71, 72, 73, 74, 6, 5, 75, 7, 76, 77, 78, 79, 80, 81, 82, 83, 84, 85, 86, 87, 88, 89, 90, 91, 92, 93, 94, 146, 147, 148, 149, 150, 151, 152, 153, 154, 155, 156, 157, 158, 159, 160, 161, 162, 163, 164, 165, 166, 167, 168, 169, 170, 171, 172, 173, 174, 175, 176, 177, 178, 179, 180, 181, 182, 183] (by decide +kernel) (by decide +kernel)
set_option maxRecDepth 20000 in
theorem gX7_send_X7_first : GoodIn wsX7_send (wsV RX7 185 RX7 yX7_first wsX7_first) := goodIn_app (goodIn_of _ (by decide +kernel)) ggX7_send_X7_first
set_option maxRecDepth 20000 in
theorem ggX7_send_X7_streams : GoodIn wsX7_send wsX7_streams := goodIn_r _ [98, 73, 99, 75, 100, 101, 102, 10, 103, 38, 104, 105, 106, 107, 108, 68, 24, 76, 77, 78, 109, 110, 111, 112, 5, 146, 147, 148, 149, 150, 151, 152, 153, 154, 155, 156, 157, 158, 159, 160, 161, 162, 163, 164, 165, 166, 167, 168, 169, 170, 171, 172, 173, 174, 175, 176, 177, 178, 179, 180, 181, 182, 183] (by decide +kernel) (by decide +kernel)
set_option maxRecDepth 20000 in
theorem gX7_send_X7_streams : GoodIn wsX7_send (wsV RX7 188 RX7 yX7_streams wsX7_streams) := goodIn_app (goodIn_of _ (by decide +kernel)) ggX7_send_X7_streams
set_option maxRecDepth 20000 in
theorem ggX7_send_X7_erases : GoodIn wsX7_send wsX7_erases := goodIn_r _ [116, 68, 117, 7, 67, 118, 109, 110, 111, 10, 112, 5, 119, 120, 121, 122, 123, 124, 125, 126, 49, 47, 48, 24, 127, 128, 129, 130, 6, 74, 131, 132, 133, 134, 135, 136, 137, 8, 9, 11, 138, 139, 140, 141, 142, 143, 144, 145, 146, 147, 148, 149, 150, 151, 152, 153, 154, 155, 156, 157, 158, 159, 160, 161, 162, 163, 164, 165, 166, 167, 168, 169, 170, 171, 172, 173, 174, 175, 176, 177, 178, 179, 180, 181, 182, 183] (by decide +kernel) (by decide +kernel)
set_option maxRecDepth 20000 in
theorem gX7_send_X7_erases : GoodIn wsX7_send (wsV RX7 191 RX7 yX7_erases wsX7_erases) := goodIn_app (goodIn_of _ (by decide +kernel)) ggX7_send_X7_erases
theorem dX7_send_0 : decode cX7_send 0 = .ok (.iload_n 1, 1) := by decide +kernel
theorem dX7_send_1 : decode cX7_send 1 = .ok (.i2l, 1) := by decide +kernel
theorem dX7_send_2 : decode cX7_send 2 = .ok (.lconst 0, 1) := by decide +kernel
theorem dX7_send_3 : decode cX7_send 3 = .ok (.ldc2_w 162, 3) := by decide +kernel
theorem dX7_send_6 : decode cX7_send 6 = .ok (.invokestatic 42, 3) := by decide +kernel
theorem dX7_send_9 : decode cX7_send 9 = .ok (.ifCond .eq 27, 3) := by decide +kernel
theorem dX7_send_12 : decode cX7_send 12 = .ok (.iload_n 2, 1) := by decide +kernel
theorem dX7_send_13 : decode cX7_send 13 = .ok (.i2l, 1) := by decide +kernel
theorem dX7_send_14 : decode cX7_send 14 = .ok (.lconst 0, 1) := by decide +kernel
theorem dX7_send_15 : decode cX7_send 15 = .ok (.ldc2_w 50, 3) := by decide +kernel
theorem dX7_send_18 : decode cX7_send 18 = .ok (.invokestatic 42, 3) := by decide +kernel
theorem dX7_send_21 : decode cX7_send 21 = .ok (.ifCond .eq 15, 3) := by decide +kernel
theorem dX7_send_24 : decode cX7_send 24 = .ok (.iload_n 3, 1) := by decide +kernel
theorem dX7_send_25 : decode cX7_send 25 = .ok (.i2l, 1) := by decide +kernel
theorem dX7_send_26 : decode cX7_send 26 = .ok (.lconst 0, 1) := by decide +kernel
theorem dX7_send_27 : decode cX7_send 27 = .ok (.ldc2_w 177, 3) := by decide +kernel
theorem dX7_send_30 : decode cX7_send 30 = .ok (.invokestatic 42, 3) := by decide +kernel
theorem dX7_send_33 : decode cX7_send 33 = .ok (.ifCond .ne 5, 3) := by decide +kernel
theorem dX7_send_36 : decode cX7_send 36 = .ok (.iconst (-1), 1) := by decide +kernel
theorem dX7_send_37 : decode cX7_send 37 = .ok (.ireturn, 1) := by decide +kernel
theorem dX7_send_38 : decode cX7_send 38 = .ok (.aload_n 0, 1) := by decide +kernel
theorem dX7_send_39 : decode cX7_send 39 = .ok (.getfield 78, 3) := by decide +kernel
theorem dX7_send_42 : decode cX7_send 42 = .ok (.ifCond .ne 6, 3) := by decide +kernel
theorem dX7_send_45 : decode cX7_send 45 = .ok (.bipush (-4), 2) := by decide +kernel
theorem dX7_send_47 : decode cX7_send 47 = .ok (.ireturn, 1) := by decide +kernel
theorem dX7_send_48 : decode cX7_send 48 = .ok (.iload_n 3, 1) := by decide +kernel
theorem dX7_send_49 : decode cX7_send 49 = .ok (.aload_n 0, 1) := by decide +kernel
theorem dX7_send_50 : decode cX7_send 50 = .ok (.iload_n 1, 1) := by decide +kernel
theorem dX7_send_51 : decode cX7_send 51 = .ok (.iload_n 2, 1) := by decide +kernel
theorem dX7_send_52 : decode cX7_send 52 = .ok (.invokevirtual 179, 3) := by decide +kernel
theorem dX7_send_55 : decode cX7_send 55 = .ok (.if_icmp .eq 16, 3) := by decide +kernel
theorem dX7_send_58 : decode cX7_send 58 = .ok (.aload_n 0, 1) := by decide +kernel
theorem dX7_send_59 : decode cX7_send 59 = .ok (.dup, 1) := by decide +kernel
theorem dX7_send_60 : decode cX7_send 60 = .ok (.getfield 103, 3) := by decide +kernel
theorem dX7_send_63 : decode cX7_send 63 = .ok (.iconst 1, 1) := by decide +kernel
theorem dX7_send_64 : decode cX7_send 64 = .ok (.ior, 1) := by decide +kernel
theorem dX7_send_65 : decode cX7_send 65 = .ok (.putfield 103, 3) := by decide +kernel
theorem dX7_send_68 : decode cX7_send 68 = .ok (.bipush (-4), 2) := by decide +kernel
theorem dX7_send_70 : decode cX7_send 70 = .ok (.ireturn, 1) := by decide +kernel
theorem dX7_send_71 : decode cX7_send 71 = .ok (.aload_n 0, 1) := by decide +kernel
theorem dX7_send_72 : decode cX7_send 72 = .ok (.iload_n 1, 1) := by decide +kernel
theorem dX7_send_73 : decode cX7_send 73 = .ok (.invokevirtual 182, 3) := by decide +kernel
theorem dX7_send_76 : decode cX7_send 76 = .ok (.ifCond .eq 17, 3) := by decide +kernel
theorem dX7_send_79 : decode cX7_send 79 = .ok (.aload_n 0, 1) := by decide +kernel
theorem dX7_send_80 : decode cX7_send 80 = .ok (.getfield 100, 3) := by decide +kernel
theorem dX7_send_83 : decode cX7_send 83 = .ok (.ifCond .eq 23, 3) := by decide +kernel
theorem dX7_send_86 : decode cX7_send 86 = .ok (.iload_n 1, 1) := by decide +kernel
theorem dX7_send_87 : decode cX7_send 87 = .ok (.invokestatic 169, 3) := by decide +kernel
theorem dX7_send_90 : decode cX7_send 90 = .ok (.ifCond .eq 16, 3) := by decide +kernel
theorem dX7_send_93 : decode cX7_send 93 = .ok (.aload_n 0, 1) := by decide +kernel
theorem dX7_send_94 : decode cX7_send 94 = .ok (.dup, 1) := by decide +kernel
theorem dX7_send_95 : decode cX7_send 95 = .ok (.getfield 103, 3) := by decide +kernel
theorem dX7_send_98 : decode cX7_send 98 = .ok (.iconst 2, 1) := by decide +kernel
theorem dX7_send_99 : decode cX7_send 99 = .ok (.ior, 1) := by decide +kernel
theorem dX7_send_100 : decode cX7_send 100 = .ok (.putfield 103, 3) := by decide +kernel
theorem dX7_send_103 : decode cX7_send 103 = .ok (.bipush (-4), 2) := by decide +kernel
theorem dX7_send_105 : decode cX7_send 105 = .ok (.ireturn, 1) := by decide +kernel
theorem dX7_send_106 : decode cX7_send 106 = .ok (.aload_n 0, 1) := by decide +kernel
theorem dX7_send_107 : decode cX7_send 107 = .ok (.getfield 121, 3) := by decide +kernel
theorem dX7_send_110 : decode cX7_send 110 = .ok (.ifCond .le 53, 3) := by decide +kernel
theorem dX7_send_113 : decode cX7_send 113 = .ok (.iload_n 1, 1) := by decide +kernel
theorem dX7_send_114 : decode cX7_send 114 = .ok (.bipush 13, 2) := by decide +kernel
theorem dX7_send_116 : decode cX7_send 116 = .ok (.if_icmp .eq 47, 3) := by decide +kernel
theorem dX7_send_119 : decode cX7_send 119 = .ok (.iload_n 1, 1) := by decide +kernel
theorem dX7_send_120 : decode cX7_send 120 = .ok (.bipush 33, 2) := by decide +kernel
theorem dX7_send_122 : decode cX7_send 122 = .ok (.if_icmp .ne 11, 3) := by decide +kernel
theorem dX7_send_125 : decode cX7_send 125 = .ok (.aload_n 0, 1) := by decide +kernel
theorem dX7_send_126 : decode cX7_send 126 = .ok (.getfield 121, 3) := by decide +kernel
theorem dX7_send_129 : decode cX7_send 129 = .ok (.iconst 1, 1) := by decide +kernel
theorem dX7_send_130 : decode cX7_send 130 = .ok (.if_icmp .eq 33, 3) := by decide +kernel
theorem dX7_send_133 : decode cX7_send 133 = .ok (.iload_n 1, 1) := by decide +kernel
theorem dX7_send_134 : decode cX7_send 134 = .ok (.bipush 38, 2) := by decide +kernel
theorem dX7_send_136 : decode cX7_send 136 = .ok (.if_icmp .ne 11, 3) := by decide +kernel
theorem dX7_send_139 : decode cX7_send 139 = .ok (.aload_n 0, 1) := by decide +kernel
theorem dX7_send_140 : decode cX7_send 140 = .ok (.getfield 121, 3) := by decide +kernel
theorem dX7_send_143 : decode cX7_send 143 = .ok (.iconst 2, 1) := by decide +kernel
theorem dX7_send_144 : decode cX7_send 144 = .ok (.if_icmp .eq 19, 3) := by decide +kernel
theorem dX7_send_147 : decode cX7_send 147 = .ok (.aload_n 0, 1) := by decide +kernel
theorem dX7_send_148 : decode cX7_send 148 = .ok (.iconst 0, 1) := by decide +kernel
theorem dX7_send_149 : decode cX7_send 149 = .ok (.putfield 121, 3) := by decide +kernel
theorem dX7_send_152 : decode cX7_send 152 = .ok (.aload_n 0, 1) := by decide +kernel
theorem dX7_send_153 : decode cX7_send 153 = .ok (.dup, 1) := by decide +kernel
theorem dX7_send_154 : decode cX7_send 154 = .ok (.getfield 103, 3) := by decide +kernel
theorem dX7_send_157 : decode cX7_send 157 = .ok (.bipush 8, 2) := by decide +kernel
theorem dX7_send_159 : decode cX7_send 159 = .ok (.ior, 1) := by decide +kernel
theorem dX7_send_160 : decode cX7_send 160 = .ok (.putfield 103, 3) := by decide +kernel
theorem dX7_send_163 : decode cX7_send 163 = .ok (.iload_n 1, 1) := by decide +kernel
theorem dX7_send_164 : decode cX7_send 164 = .ok (.bipush 16, 2) := by decide +kernel
theorem dX7_send_166 : decode cX7_send 166 = .ok (.if_icmp .ge 12, 3) := by decide +kernel
theorem dX7_send_169 : decode cX7_send 169 = .ok (.aload_n 0, 1) := by decide +kernel
theorem dX7_send_170 : decode cX7_send 170 = .ok (.iload_n 1, 1) := by decide +kernel
theorem dX7_send_171 : decode cX7_send 171 = .ok (.iload_n 2, 1) := by decide +kernel
theorem dX7_send_172 : decode cX7_send 172 = .ok (.invokevirtual 185, 3) := by decide +kernel
theorem dX7_send_175 : decode cX7_send 175 = .ok (.goto 24, 3) := by decide +kernel
theorem dX7_send_178 : decode cX7_send 178 = .ok (.iload_n 1, 1) := by decide +kernel
theorem dX7_send_179 : decode cX7_send 179 = .ok (.bipush 32, 2) := by decide +kernel
theorem dX7_send_181 : decode cX7_send 181 = .ok (.if_icmp .ge 12, 3) := by decide +kernel
theorem dX7_send_184 : decode cX7_send 184 = .ok (.aload_n 0, 1) := by decide +kernel
theorem dX7_send_185 : decode cX7_send 185 = .ok (.iload_n 1, 1) := by decide +kernel
theorem dX7_send_186 : decode cX7_send 186 = .ok (.iload_n 2, 1) := by decide +kernel
theorem dX7_send_187 : decode cX7_send 187 = .ok (.invokevirtual 188, 3) := by decide +kernel
theorem dX7_send_190 : decode cX7_send 190 = .ok (.goto 9, 3) := by decide +kernel
theorem dX7_send_193 : decode cX7_send 193 = .ok (.aload_n 0, 1) := by decide +kernel
theorem dX7_send_194 : decode cX7_send 194 = .ok (.iload_n 1, 1) := by decide +kernel
theorem dX7_send_195 : decode cX7_send 195 = .ok (.iload_n 2, 1) := by decide +kernel
theorem dX7_send_196 : decode cX7_send 196 = .ok (.invokevirtual 191, 3) := by decide +kernel
theorem dX7_send_199 : decode cX7_send 199 = .ok (.ireturn, 1) := by decide +kernel
set_option maxRecDepth 20000 in
theorem ggX7_tell_X7_in : GoodIn wsX7_tell wsX7_in := goodIn_r _ [6] (by decide +kernel) (by decide +kernel)
set_option maxRecDepth 20000 in
theorem gX7_tell_X7_in : GoodIn wsX7_tell (va_wsS RX7 42 yX7_in wsX7_in) := goodIn_app (goodIn_of _ (by decide +kernel)) ggX7_tell_X7_in
set_option maxRecDepth 20000 in
theorem ggX7_tell_X7_check : GoodIn wsX7_tell wsX7_check := goodIn_r _ [10, 1, 2, 11, 3, 4, 5, 6, 12, 13, 14] (by decide +kernel) (by decide +kernel)
set_option maxRecDepth 20000 in
theorem gX7_tell_X7_check : GoodIn wsX7_tell (wsV RX7 179 RX7 yX7_check wsX7_check) := goodIn_app (goodIn_of _ (by decide +kernel)) ggX7_tell_X7_check
set_option maxRecDepth 20000 in
theorem ggX7_tell_X7_send : GoodIn wsX7_tell wsX7_send := goodIn_r _ [18, 1, 2, 19, 20, 21, 22, 23, 3, 4, 5, 6, 7, 8, 9, 10, 11, 12, 13, 14, 24, 25, 26, 27, 28, 29, 30, 31, 32, 33, 34, 35, 36, 37, 38, 39, 40, 41, 42, 43, 44, 45, 46, 47, 48, 49, 50, 51, 52, 53, 54, 55, 56, 57, 58, 59, 60, 61, 62, 63, 64, 65, 66, 67, 68, 69, 70, 71, 72, 73, 74, 75, 76, 77, 78, 79, 80, 81, 82, 83, 84, 85, 86, 87, 88, 89, 90, 91, 92, 93, 94, 95, 96, 97, 98, 99, 100, 101, 102, 103, 104, 105, 106, 107, 108, 109, 110, 111, 112, 113, 114, 115, 116, 117, 118, 119, 120, 121, 122, 123, 124, 125, 126, 127, 128, 129, 130, 131, 132, 133, 134, 135, 136, 137, 138, 139, 140, 141, 142, 143, 144, 145, 146, 147, 148, 149, 150, 151, 152, 153, 154, 155, 156, 157, 158, 159, 160, 161, 162, 163, 164, 165, 166, 167, 168, 169, 170, 171, 172, 173, 174, 175, 176, 177, 178, 179, 180, 181, 182, 183, 184, 185, 186, 187] (by decide +kernel) (by decide +kernel)
set_option maxRecDepth 20000 in
theorem gX7_tell_X7_send : GoodIn wsX7_tell (wsV RX7 194 RX7 yX7_send wsX7_send) := goodIn_app (goodIn_of _ (by decide +kernel)) ggX7_tell_X7_send
theorem dX7_tell_0 : decode cX7_tell 0 = .ok (.iload_n 1, 1) := by decide +kernel
theorem dX7_tell_1 : decode cX7_tell 1 = .ok (.i2l, 1) := by decide +kernel
theorem dX7_tell_2 : decode cX7_tell 2 = .ok (.lconst 0, 1) := by decide +kernel
theorem dX7_tell_3 : decode cX7_tell 3 = .ok (.ldc2_w 162, 3) := by decide +kernel
theorem dX7_tell_6 : decode cX7_tell 6 = .ok (.invokestatic 42, 3) := by decide +kernel
theorem dX7_tell_9 : decode cX7_tell 9 = .ok (.ifCond .eq 30, 3) := by decide +kernel
theorem dX7_tell_12 : decode cX7_tell 12 = .ok (.iload_n 2, 1) := by decide +kernel
theorem dX7_tell_13 : decode cX7_tell 13 = .ok (.i2l, 1) := by decide +kernel
theorem dX7_tell_14 : decode cX7_tell 14 = .ok (.lconst 0, 1) := by decide +kernel
theorem dX7_tell_15 : decode cX7_tell 15 = .ok (.ldc2_w 50, 3) := by decide +kernel
theorem dX7_tell_18 : decode cX7_tell 18 = .ok (.invokestatic 42, 3) := by decide +kernel
theorem dX7_tell_21 : decode cX7_tell 21 = .ok (.ifCond .eq 18, 3) := by decide +kernel
theorem dX7_tell_24 : decode cX7_tell 24 = .ok (.aload_n 0, 1) := by decide +kernel
theorem dX7_tell_25 : decode cX7_tell 25 = .ok (.iload_n 1, 1) := by decide +kernel
theorem dX7_tell_26 : decode cX7_tell 26 = .ok (.iload_n 2, 1) := by decide +kernel
theorem dX7_tell_27 : decode cX7_tell 27 = .ok (.aload_n 0, 1) := by decide +kernel
theorem dX7_tell_28 : decode cX7_tell 28 = .ok (.iload_n 1, 1) := by decide +kernel
theorem dX7_tell_29 : decode cX7_tell 29 = .ok (.iload_n 2, 1) := by decide +kernel
theorem dX7_tell_30 : decode cX7_tell 30 = .ok (.invokevirtual 179, 3) := by decide +kernel
theorem dX7_tell_33 : decode cX7_tell 33 = .ok (.invokevirtual 194, 3) := by decide +kernel
theorem dX7_tell_36 : decode cX7_tell 36 = .ok (.goto 4, 3) := by decide +kernel
theorem dX7_tell_39 : decode cX7_tell 39 = .ok (.iconst (-1), 1) := by decide +kernel
theorem dX7_tell_40 : decode cX7_tell 40 = .ok (.ireturn, 1) := by decide +kernel
set_option maxRecDepth 20000 in
theorem ggX7_first_X7_cuts : GoodIn wsX7_first wsX7_cuts := goodIn_r _ [12, 13, 14, 15, 16, 17, 18, 19, 20, 21, 11, 22, 23, 24, 25, 26, 27, 28, 29, 30, 31, 32, 33, 34, 35, 36, 37, 67, 68, 69, 70, 71, 72, 73, 74, 75, 76, 77, 78, 79, 80, 81, 82, 83, 84, 85, 86, 87, 88, 89, 90, 91, 92, 93, 94, 95, 96, 97, 98, 99, 100, 101, 102, 103, 104] (by decide +kernel) (by decide +kernel)
set_option maxRecDepth 20000 in
theorem gX7_first_X7_cuts : GoodIn wsX7_first (wsV RX7 147 RX7 yX7_cuts wsX7_cuts) := goodIn_app (goodIn_of _ (by decide +kernel)) ggX7_first_X7_cuts
set_option maxRecDepth 20000 in
theorem ggX7_first_X7_begins : GoodIn wsX7_first wsX7_begins := goodIn_r _ [41, 3, 5, 7, 6, 42, 43, 44, 45, 13, 16, 17, 46, 1, 47, 48, 49, 50, 67, 68, 69, 70, 71, 72, 73, 74, 75, 76, 77, 78, 79, 80, 81, 82, 83, 84, 85, 86, 87, 88, 89, 90, 91, 92, 93, 94, 95, 96, 97, 98, 99, 100, 101, 102, 103, 104] (by decide +kernel) (by decide +kernel)
set_option maxRecDepth 20000 in
theorem gX7_first_X7_begins : GoodIn wsX7_first (wsV RX7 82 RX7 yX7_begins wsX7_begins) := goodIn_app (goodIn_of _ (by decide +kernel)) ggX7_first_X7_begins
set_option maxRecDepth 20000 in
theorem ggX7_first_X7_switches : GoodIn wsX7_first wsX7_switches := goodIn_r _ [54, 45, 6, 7, 67, 68, 69, 70, 71, 72, 73, 74, 75, 76, 77, 78, 79, 80, 81, 82, 83, 84, 85, 86, 87, 88, 89, 90, 91, 92, 93, 94, 95, 96, 97, 98, 99, 100, 101, 102, 103, 104] (by decide +kernel) (by decide +kernel)
set_option maxRecDepth 20000 in
theorem gX7_first_X7_switches : GoodIn wsX7_first (wsV RX7 198 RX7 yX7_switches wsX7_switches) := goodIn_app (goodIn_of _ (by decide +kernel)) ggX7_first_X7_switches
set_option maxRecDepth 20000 in
theorem ggX7_first_X7_chooses : GoodIn wsX7_first wsX7_chooses := goodIn_r _ [58, 3, 5, 67, 68, 69, 70, 71, 72, 73, 74, 75, 76, 77, 78, 79, 80, 81, 82, 83, 84, 85, 86, 87, 88, 89, 90, 91, 92, 93, 94, 95, 96, 97, 98, 99, 100, 101, 102, 103, 104] (by decide +kernel) (by decide +kernel)
set_option maxRecDepth 20000 in
theorem gX7_first_X7_chooses : GoodIn wsX7_first (wsV RX7 201 RX7 yX7_chooses wsX7_chooses) := goodIn_app (goodIn_of _ (by decide +kernel)) ggX7_first_X7_chooses
set_option maxRecDepth 20000 in
theorem ggX7_first_X7_stops : GoodIn wsX7_first wsX7_stops := goodIn_r _ [62, 3, 13, 67, 68, 69, 70, 71, 72, 73, 74, 75, 76, 77, 78, 79, 80, 81, 82, 83, 84, 85, 86, 87, 88, 89, 90, 91, 92, 93, 94, 95, 96, 97, 98, 99, 100, 101, 102, 103, 104] (by decide +kernel) (by decide +kernel)
set_option maxRecDepth 20000 in
theorem gX7_first_X7_stops : GoodIn wsX7_first (wsV RX7 205 RX7 yX7_stops wsX7_stops) := goodIn_app (goodIn_of _ (by decide +kernel)) ggX7_first_X7_stops
set_option maxRecDepth 20000 in
theorem ggX7_first_X7_status : GoodIn wsX7_first wsX7_status := goodIn_r _ [66, 3, 44, 45, 67, 68, 69, 70, 71, 72, 73, 74, 75, 76, 77, 78, 79, 80, 81, 82, 83, 84, 85, 86, 87, 88, 89, 90, 91, 92, 93, 94, 95, 96, 97, 98, 99, 100, 101, 102, 103, 104] (by decide +kernel) (by decide +kernel)
set_option maxRecDepth 20000 in
theorem gX7_first_X7_status : GoodIn wsX7_first (wsV RX7 209 RX7 yX7_status wsX7_status) := goodIn_app (goodIn_of _ (by decide +kernel)) ggX7_first_X7_status
theorem dX7_first_0 : decode cX7_first 0 = .ok (.iload_n 1, 1) := by decide +kernel
theorem dX7_first_1 : decode cX7_first 1 = .ok (.tableswitch 175 0 12 #[67, 77, 112, 122, 175, 175, 142, 164, 175, 175, 175, 175, 170], 67) := by decide +kernel
theorem dX7_first_68 : decode cX7_first 68 = .ok (.aload_n 0, 1) := by decide +kernel
theorem dX7_first_69 : decode cX7_first 69 = .ok (.invokevirtual 147, 3) := by decide +kernel
theorem dX7_first_72 : decode cX7_first 72 = .ok (.aload_n 0, 1) := by decide +kernel
theorem dX7_first_73 : decode cX7_first 73 = .ok (.invokevirtual 82, 3) := by decide +kernel
theorem dX7_first_76 : decode cX7_first 76 = .ok (.iconst 0, 1) := by decide +kernel
theorem dX7_first_77 : decode cX7_first 77 = .ok (.ireturn, 1) := by decide +kernel
theorem dX7_first_78 : decode cX7_first 78 = .ok (.aload_n 0, 1) := by decide +kernel
theorem dX7_first_79 : decode cX7_first 79 = .ok (.dup, 1) := by decide +kernel
theorem dX7_first_80 : decode cX7_first 80 = .ok (.getfield 118, 3) := by decide +kernel
theorem dX7_first_83 : decode cX7_first 83 = .ok (.iconst 1, 1) := by decide +kernel
theorem dX7_first_84 : decode cX7_first 84 = .ok (.iadd, 1) := by decide +kernel
theorem dX7_first_85 : decode cX7_first 85 = .ok (.putfield 118, 3) := by decide +kernel
theorem dX7_first_88 : decode cX7_first 88 = .ok (.aload_n 0, 1) := by decide +kernel
theorem dX7_first_89 : decode cX7_first 89 = .ok (.aload_n 0, 1) := by decide +kernel
theorem dX7_first_90 : decode cX7_first 90 = .ok (.getfield 118, 3) := by decide +kernel
theorem dX7_first_93 : decode cX7_first 93 = .ok (.aload_n 0, 1) := by decide +kernel
theorem dX7_first_94 : decode cX7_first 94 = .ok (.getfield 59, 3) := by decide +kernel
theorem dX7_first_97 : decode cX7_first 97 = .ok (.if_icmp .le 7, 3) := by decide +kernel
theorem dX7_first_100 : decode cX7_first 100 = .ok (.iconst 1, 1) := by decide +kernel
theorem dX7_first_101 : decode cX7_first 101 = .ok (.goto 4, 3) := by decide +kernel
theorem dX7_first_104 : decode cX7_first 104 = .ok (.iconst 0, 1) := by decide +kernel
theorem dX7_first_105 : decode cX7_first 105 = .ok (.putfield 85, 3) := by decide +kernel
theorem dX7_first_108 : decode cX7_first 108 = .ok (.aload_n 0, 1) := by decide +kernel
theorem dX7_first_109 : decode cX7_first 109 = .ok (.getfield 85, 3) := by decide +kernel
theorem dX7_first_112 : decode cX7_first 112 = .ok (.ireturn, 1) := by decide +kernel
theorem dX7_first_113 : decode cX7_first 113 = .ok (.aload_n 0, 1) := by decide +kernel
theorem dX7_first_114 : decode cX7_first 114 = .ok (.iconst 2, 1) := by decide +kernel
theorem dX7_first_115 : decode cX7_first 115 = .ok (.putfield 85, 3) := by decide +kernel
theorem dX7_first_118 : decode cX7_first 118 = .ok (.aload_n 0, 1) := by decide +kernel
theorem dX7_first_119 : decode cX7_first 119 = .ok (.getfield 62, 3) := by decide +kernel
theorem dX7_first_122 : decode cX7_first 122 = .ok (.ireturn, 1) := by decide +kernel
theorem dX7_first_123 : decode cX7_first 123 = .ok (.aload_n 0, 1) := by decide +kernel
theorem dX7_first_124 : decode cX7_first 124 = .ok (.dup, 1) := by decide +kernel
theorem dX7_first_125 : decode cX7_first 125 = .ok (.getfield 88, 3) := by decide +kernel
theorem dX7_first_128 : decode cX7_first 128 = .ok (.iconst 1, 1) := by decide +kernel
theorem dX7_first_129 : decode cX7_first 129 = .ok (.iadd, 1) := by decide +kernel
theorem dX7_first_130 : decode cX7_first 130 = .ok (.putfield 88, 3) := by decide +kernel
theorem dX7_first_133 : decode cX7_first 133 = .ok (.aload_n 0, 1) := by decide +kernel
theorem dX7_first_134 : decode cX7_first 134 = .ok (.iconst 3, 1) := by decide +kernel
theorem dX7_first_135 : decode cX7_first 135 = .ok (.putfield 85, 3) := by decide +kernel
theorem dX7_first_138 : decode cX7_first 138 = .ok (.aload_n 0, 1) := by decide +kernel
theorem dX7_first_139 : decode cX7_first 139 = .ok (.getfield 88, 3) := by decide +kernel
theorem dX7_first_142 : decode cX7_first 142 = .ok (.ireturn, 1) := by decide +kernel
theorem dX7_first_143 : decode cX7_first 143 = .ok (.aload_n 0, 1) := by decide +kernel
theorem dX7_first_144 : decode cX7_first 144 = .ok (.iload_n 2, 1) := by decide +kernel
theorem dX7_first_145 : decode cX7_first 145 = .ok (.iconst 4, 1) := by decide +kernel
theorem dX7_first_146 : decode cX7_first 146 = .ok (.idiv, 1) := by decide +kernel
theorem dX7_first_147 : decode cX7_first 147 = .ok (.iload_n 2, 1) := by decide +kernel
theorem dX7_first_148 : decode cX7_first 148 = .ok (.iconst 4, 1) := by decide +kernel
theorem dX7_first_149 : decode cX7_first 149 = .ok (.irem, 1) := by decide +kernel
theorem dX7_first_150 : decode cX7_first 150 = .ok (.invokevirtual 198, 3) := by decide +kernel
theorem dX7_first_153 : decode cX7_first 153 = .ok (.iconst 4, 1) := by decide +kernel
theorem dX7_first_154 : decode cX7_first 154 = .ok (.aload_n 0, 1) := by decide +kernel
theorem dX7_first_155 : decode cX7_first 155 = .ok (.getfield 94, 3) := by decide +kernel
theorem dX7_first_158 : decode cX7_first 158 = .ok (.imul, 1) := by decide +kernel
theorem dX7_first_159 : decode cX7_first 159 = .ok (.aload_n 0, 1) := by decide +kernel
theorem dX7_first_160 : decode cX7_first 160 = .ok (.getfield 91, 3) := by decide +kernel
theorem dX7_first_163 : decode cX7_first 163 = .ok (.iadd, 1) := by decide +kernel
theorem dX7_first_164 : decode cX7_first 164 = .ok (.ireturn, 1) := by decide +kernel
theorem dX7_first_165 : decode cX7_first 165 = .ok (.aload_n 0, 1) := by decide +kernel
theorem dX7_first_166 : decode cX7_first 166 = .ok (.iload_n 2, 1) := by decide +kernel
theorem dX7_first_167 : decode cX7_first 167 = .ok (.invokevirtual 201, 3) := by decide +kernel
theorem dX7_first_170 : decode cX7_first 170 = .ok (.ireturn, 1) := by decide +kernel
theorem dX7_first_171 : decode cX7_first 171 = .ok (.aload_n 0, 1) := by decide +kernel
theorem dX7_first_172 : decode cX7_first 172 = .ok (.invokevirtual 205, 3) := by decide +kernel
theorem dX7_first_175 : decode cX7_first 175 = .ok (.ireturn, 1) := by decide +kernel
theorem dX7_first_176 : decode cX7_first 176 = .ok (.iload_n 2, 1) := by decide +kernel
theorem dX7_first_177 : decode cX7_first 177 = .ok (.aload_n 0, 1) := by decide +kernel
theorem dX7_first_178 : decode cX7_first 178 = .ok (.getfield 88, 3) := by decide +kernel
theorem dX7_first_181 : decode cX7_first 181 = .ok (.if_icmp .ne 10, 3) := by decide +kernel
theorem dX7_first_184 : decode cX7_first 184 = .ok (.aload_n 0, 1) := by decide +kernel
theorem dX7_first_185 : decode cX7_first 185 = .ok (.invokevirtual 209, 3) := by decide +kernel
theorem dX7_first_188 : decode cX7_first 188 = .ok (.goto 5, 3) := by decide +kernel
theorem dX7_first_191 : decode cX7_first 191 = .ok (.bipush (-4), 2) := by decide +kernel
theorem dX7_first_193 : decode cX7_first 193 = .ok (.ireturn, 1) := by decide +kernel
theorem dX7_chooses_0 : decode cX7_chooses 0 = .ok (.aload_n 0, 1) := by decide +kernel
theorem dX7_chooses_1 : decode cX7_chooses 1 = .ok (.getfield 85, 3) := by decide +kernel
theorem dX7_chooses_4 : decode cX7_chooses 4 = .ok (.iconst 4, 1) := by decide +kernel
theorem dX7_chooses_5 : decode cX7_chooses 5 = .ok (.if_icmp .ne 23, 3) := by decide +kernel
theorem dX7_chooses_8 : decode cX7_chooses 8 = .ok (.aload_n 0, 1) := by decide +kernel
theorem dX7_chooses_9 : decode cX7_chooses 9 = .ok (.iload_n 1, 1) := by decide +kernel
theorem dX7_chooses_10 : decode cX7_chooses 10 = .ok (.aload_n 0, 1) := by decide +kernel
theorem dX7_chooses_11 : decode cX7_chooses 11 = .ok (.getfield 88, 3) := by decide +kernel
theorem dX7_chooses_14 : decode cX7_chooses 14 = .ok (.if_icmp .ne 7, 3) := by decide +kernel
theorem dX7_chooses_17 : decode cX7_chooses 17 = .ok (.iconst 4, 1) := by decide +kernel
theorem dX7_chooses_18 : decode cX7_chooses 18 = .ok (.goto 4, 3) := by decide +kernel
theorem dX7_chooses_21 : decode cX7_chooses 21 = .ok (.iconst 3, 1) := by decide +kernel
theorem dX7_chooses_22 : decode cX7_chooses 22 = .ok (.putfield 85, 3) := by decide +kernel
theorem dX7_chooses_25 : decode cX7_chooses 25 = .ok (.bipush (-4), 2) := by decide +kernel
theorem dX7_chooses_27 : decode cX7_chooses 27 = .ok (.ireturn, 1) := by decide +kernel
theorem dX7_chooses_28 : decode cX7_chooses 28 = .ok (.aload_n 0, 1) := by decide +kernel
theorem dX7_chooses_29 : decode cX7_chooses 29 = .ok (.iload_n 1, 1) := by decide +kernel
theorem dX7_chooses_30 : decode cX7_chooses 30 = .ok (.aload_n 0, 1) := by decide +kernel
theorem dX7_chooses_31 : decode cX7_chooses 31 = .ok (.getfield 88, 3) := by decide +kernel
theorem dX7_chooses_34 : decode cX7_chooses 34 = .ok (.if_icmp .ne 7, 3) := by decide +kernel
theorem dX7_chooses_37 : decode cX7_chooses 37 = .ok (.iconst 4, 1) := by decide +kernel
theorem dX7_chooses_38 : decode cX7_chooses 38 = .ok (.goto 4, 3) := by decide +kernel
theorem dX7_chooses_41 : decode cX7_chooses 41 = .ok (.iconst 3, 1) := by decide +kernel
theorem dX7_chooses_42 : decode cX7_chooses 42 = .ok (.putfield 85, 3) := by decide +kernel
theorem dX7_chooses_45 : decode cX7_chooses 45 = .ok (.iload_n 1, 1) := by decide +kernel
theorem dX7_chooses_46 : decode cX7_chooses 46 = .ok (.aload_n 0, 1) := by decide +kernel
theorem dX7_chooses_47 : decode cX7_chooses 47 = .ok (.getfield 88, 3) := by decide +kernel
theorem dX7_chooses_50 : decode cX7_chooses 50 = .ok (.if_icmp .ne 7, 3) := by decide +kernel
theorem dX7_chooses_53 : decode cX7_chooses 53 = .ok (.iconst 1, 1) := by decide +kernel
theorem dX7_chooses_54 : decode cX7_chooses 54 = .ok (.goto 5, 3) := by decide +kernel
theorem dX7_chooses_57 : decode cX7_chooses 57 = .ok (.bipush (-4), 2) := by decide +kernel
theorem dX7_chooses_59 : decode cX7_chooses 59 = .ok (.ireturn, 1) := by decide +kernel
theorem dX7_status_0 : decode cX7_status 0 = .ok (.sipush 256, 3) := by decide +kernel
theorem dX7_status_3 : decode cX7_status 3 = .ok (.aload_n 0, 1) := by decide +kernel
theorem dX7_status_4 : decode cX7_status 4 = .ok (.getfield 85, 3) := by decide +kernel
theorem dX7_status_7 : decode cX7_status 7 = .ok (.imul, 1) := by decide +kernel
theorem dX7_status_8 : decode cX7_status 8 = .ok (.aload_n 0, 1) := by decide +kernel
theorem dX7_status_9 : decode cX7_status 9 = .ok (.getfield 100, 3) := by decide +kernel
theorem dX7_status_12 : decode cX7_status 12 = .ok (.ifCond .eq 9, 3) := by decide +kernel
theorem dX7_status_15 : decode cX7_status 15 = .ok (.sipush 128, 3) := by decide +kernel
theorem dX7_status_18 : decode cX7_status 18 = .ok (.goto 4, 3) := by decide +kernel
theorem dX7_status_21 : decode cX7_status 21 = .ok (.iconst 0, 1) := by decide +kernel
theorem dX7_status_22 : decode cX7_status 22 = .ok (.iadd, 1) := by decide +kernel
theorem dX7_status_23 : decode cX7_status 23 = .ok (.aload_n 0, 1) := by decide +kernel
theorem dX7_status_24 : decode cX7_status 24 = .ok (.getfield 103, 3) := by decide +kernel
theorem dX7_status_27 : decode cX7_status 27 = .ok (.iadd, 1) := by decide +kernel
theorem dX7_status_28 : decode cX7_status 28 = .ok (.istore_n 1, 1) := by decide +kernel
theorem dX7_status_29 : decode cX7_status 29 = .ok (.aload_n 0, 1) := by decide +kernel
theorem dX7_status_30 : decode cX7_status 30 = .ok (.iconst 0, 1) := by decide +kernel
theorem dX7_status_31 : decode cX7_status 31 = .ok (.putfield 103, 3) := by decide +kernel
theorem dX7_status_34 : decode cX7_status 34 = .ok (.iload_n 1, 1) := by decide +kernel
theorem dX7_status_35 : decode cX7_status 35 = .ok (.ireturn, 1) := by decide +kernel
theorem dX7_switches_0 : decode cX7_switches 0 = .ok (.iload_n 1, 1) := by decide +kernel
theorem dX7_switches_1 : decode cX7_switches 1 = .ok (.iconst 3, 1) := by decide +kernel
theorem dX7_switches_2 : decode cX7_switches 2 = .ok (.if_icmp .gt 17, 3) := by decide +kernel
theorem dX7_switches_5 : decode cX7_switches 5 = .ok (.iload_n 2, 1) := by decide +kernel
theorem dX7_switches_6 : decode cX7_switches 6 = .ok (.iconst 2, 1) := by decide +kernel
theorem dX7_switches_7 : decode cX7_switches 7 = .ok (.if_icmp .gt 12, 3) := by decide +kernel
theorem dX7_switches_10 : decode cX7_switches 10 = .ok (.iload_n 1, 1) := by decide +kernel
theorem dX7_switches_11 : decode cX7_switches 11 = .ok (.iconst 1, 1) := by decide +kernel
theorem dX7_switches_12 : decode cX7_switches 12 = .ok (.if_icmp .le 21, 3) := by decide +kernel
theorem dX7_switches_15 : decode cX7_switches 15 = .ok (.iload_n 2, 1) := by decide +kernel
theorem dX7_switches_16 : decode cX7_switches 16 = .ok (.ifCond .ne 17, 3) := by decide +kernel
theorem dX7_switches_19 : decode cX7_switches 19 = .ok (.aload_n 0, 1) := by decide +kernel
theorem dX7_switches_20 : decode cX7_switches 20 = .ok (.dup, 1) := by decide +kernel
theorem dX7_switches_21 : decode cX7_switches 21 = .ok (.getfield 103, 3) := by decide +kernel
theorem dX7_switches_24 : decode cX7_switches 24 = .ok (.bipush 32, 2) := by decide +kernel
theorem dX7_switches_26 : decode cX7_switches 26 = .ok (.ior, 1) := by decide +kernel
theorem dX7_switches_27 : decode cX7_switches 27 = .ok (.putfield 103, 3) := by decide +kernel
theorem dX7_switches_30 : decode cX7_switches 30 = .ok (.goto 13, 3) := by decide +kernel
theorem dX7_switches_33 : decode cX7_switches 33 = .ok (.aload_n 0, 1) := by decide +kernel
theorem dX7_switches_34 : decode cX7_switches 34 = .ok (.iload_n 1, 1) := by decide +kernel
theorem dX7_switches_35 : decode cX7_switches 35 = .ok (.putfield 94, 3) := by decide +kernel
theorem dX7_switches_38 : decode cX7_switches 38 = .ok (.aload_n 0, 1) := by decide +kernel
theorem dX7_switches_39 : decode cX7_switches 39 = .ok (.iload_n 2, 1) := by decide +kernel
theorem dX7_switches_40 : decode cX7_switches 40 = .ok (.putfield 91, 3) := by decide +kernel
theorem dX7_switches_43 : decode cX7_switches 43 = .ok (.return_, 1) := by decide +kernel
theorem dX7_stops_0 : decode cX7_stops 0 = .ok (.aload_n 0, 1) := by decide +kernel
theorem dX7_stops_1 : decode cX7_stops 1 = .ok (.getfield 85, 3) := by decide +kernel
theorem dX7_stops_4 : decode cX7_stops 4 = .ok (.bipush 6, 2) := by decide +kernel
theorem dX7_stops_6 : decode cX7_stops 6 = .ok (.if_icmp .ne 10, 3) := by decide +kernel
theorem dX7_stops_9 : decode cX7_stops 9 = .ok (.aload_n 0, 1) := by decide +kernel
theorem dX7_stops_10 : decode cX7_stops 10 = .ok (.getfield 106, 3) := by decide +kernel
theorem dX7_stops_13 : decode cX7_stops 13 = .ok (.goto 4, 3) := by decide +kernel
theorem dX7_stops_16 : decode cX7_stops 16 = .ok (.iconst 0, 1) := by decide +kernel
theorem dX7_stops_17 : decode cX7_stops 17 = .ok (.istore_n 1, 1) := by decide +kernel
theorem dX7_stops_18 : decode cX7_stops 18 = .ok (.aload_n 0, 1) := by decide +kernel
theorem dX7_stops_19 : decode cX7_stops 19 = .ok (.iload_n 1, 1) := by decide +kernel
theorem dX7_stops_20 : decode cX7_stops 20 = .ok (.ifCond .le 8, 3) := by decide +kernel
theorem dX7_stops_23 : decode cX7_stops 23 = .ok (.bipush 7, 2) := by decide +kernel
theorem dX7_stops_25 : decode cX7_stops 25 = .ok (.goto 4, 3) := by decide +kernel
theorem dX7_stops_28 : decode cX7_stops 28 = .ok (.iconst 4, 1) := by decide +kernel
theorem dX7_stops_29 : decode cX7_stops 29 = .ok (.putfield 85, 3) := by decide +kernel
theorem dX7_stops_32 : decode cX7_stops 32 = .ok (.iload_n 1, 1) := by decide +kernel
theorem dX7_stops_33 : decode cX7_stops 33 = .ok (.ireturn, 1) := by decide +kernel
set_option maxRecDepth 20000 in
theorem ggX7_streams_X7_isInWindow : GoodIn wsX7_streams wsX7_isInWindow := goodIn_r _ [8, 1, 9, 10, 25, 26, 27, 28, 29, 30, 31, 32, 33, 34, 35, 36, 37, 38, 39, 40, 41, 42, 43, 44, 45, 46, 47, 48, 49, 50, 51, 52, 53, 54, 55, 56, 57, 58, 59, 60, 61, 62] (by decide +kernel) (by decide +kernel)
set_option maxRecDepth 20000 in
theorem gX7_streams_X7_isInWindow : GoodIn wsX7_streams (wsV RX7 212 RX7 yX7_isInWindow wsX7_isInWindow) := goodIn_app (goodIn_of _ (by decide +kernel)) ggX7_streams_X7_isInWindow
set_option maxRecDepth 20000 in
theorem ggX7_streams_X7_streamsFrom : GoodIn wsX7_streams wsX7_streamsFrom := goodIn_r _ [14, 15, 16, 17, 3, 18, 19, 2, 20, 21, 22, 7, 23, 24, 25, 26, 27, 28, 29, 30, 31, 32, 33, 34, 35, 36, 37, 38, 39, 40, 41, 42, 43, 44, 45, 46, 47, 48, 49, 50, 51, 52, 53, 54, 55, 56, 57, 58, 59, 60, 61, 62] (by decide +kernel) (by decide +kernel)
set_option maxRecDepth 20000 in
theorem gX7_streams_X7_streamsFrom : GoodIn wsX7_streams (wsV RX7 216 RX7 yX7_streamsFrom wsX7_streamsFrom) := goodIn_app (goodIn_of _ (by decide +kernel)) ggX7_streams_X7_streamsFrom
theorem dX7_streams_0 : decode cX7_streams 0 = .ok (.iload_n 1, 1) := by decide +kernel
theorem dX7_streams_1 : decode cX7_streams 1 = .ok (.tableswitch 60 21 23 #[27, 48, 53], 27) := by decide +kernel
theorem dX7_streams_28 : decode cX7_streams 28 = .ok (.aload_n 0, 1) := by decide +kernel
theorem dX7_streams_29 : decode cX7_streams 29 = .ok (.iload_n 2, 1) := by decide +kernel
theorem dX7_streams_30 : decode cX7_streams 30 = .ok (.bipush 16, 2) := by decide +kernel
theorem dX7_streams_32 : decode cX7_streams 32 = .ok (.irem, 1) := by decide +kernel
theorem dX7_streams_33 : decode cX7_streams 33 = .ok (.putfield 97, 3) := by decide +kernel
theorem dX7_streams_36 : decode cX7_streams 36 = .ok (.aload_n 0, 1) := by decide +kernel
theorem dX7_streams_37 : decode cX7_streams 37 = .ok (.invokevirtual 212, 3) := by decide +kernel
theorem dX7_streams_40 : decode cX7_streams 40 = .ok (.ifCond .eq 7, 3) := by decide +kernel
theorem dX7_streams_43 : decode cX7_streams 43 = .ok (.iconst 1, 1) := by decide +kernel
theorem dX7_streams_44 : decode cX7_streams 44 = .ok (.goto 4, 3) := by decide +kernel
theorem dX7_streams_47 : decode cX7_streams 47 = .ok (.iconst 0, 1) := by decide +kernel
theorem dX7_streams_48 : decode cX7_streams 48 = .ok (.ireturn, 1) := by decide +kernel
theorem dX7_streams_49 : decode cX7_streams 49 = .ok (.aload_n 0, 1) := by decide +kernel
theorem dX7_streams_50 : decode cX7_streams 50 = .ok (.getfield 68, 3) := by decide +kernel
theorem dX7_streams_53 : decode cX7_streams 53 = .ok (.ireturn, 1) := by decide +kernel
theorem dX7_streams_54 : decode cX7_streams 54 = .ok (.aload_n 0, 1) := by decide +kernel
theorem dX7_streams_55 : decode cX7_streams 55 = .ok (.iload_n 2, 1) := by decide +kernel
theorem dX7_streams_56 : decode cX7_streams 56 = .ok (.putfield 115, 3) := by decide +kernel
theorem dX7_streams_59 : decode cX7_streams 59 = .ok (.iload_n 2, 1) := by decide +kernel
theorem dX7_streams_60 : decode cX7_streams 60 = .ok (.ireturn, 1) := by decide +kernel
theorem dX7_streams_61 : decode cX7_streams 61 = .ok (.aload_n 0, 1) := by decide +kernel
theorem dX7_streams_62 : decode cX7_streams 62 = .ok (.iload_n 1, 1) := by decide +kernel
theorem dX7_streams_63 : decode cX7_streams 63 = .ok (.iload_n 2, 1) := by decide +kernel
theorem dX7_streams_64 : decode cX7_streams 64 = .ok (.invokevirtual 216, 3) := by decide +kernel
theorem dX7_streams_67 : decode cX7_streams 67 = .ok (.ireturn, 1) := by decide +kernel
set_option maxRecDepth 20000 in
theorem ggX7_streamsFrom_X7_noting : GoodIn wsX7_streamsFrom wsX7_noting := goodIn_r _ [12, 13, 14, 15, 16, 17, 18, 19, 20, 21, 22, 23, 24, 25, 26, 27, 28, 29, 30, 31, 32, 33, 34, 35, 36, 37, 38, 39, 40, 41, 42, 43, 44, 45, 46, 47, 48, 49, 50, 51] (by decide +kernel) (by decide +kernel)
set_option maxRecDepth 20000 in
theorem gX7_streamsFrom_X7_noting : GoodIn wsX7_streamsFrom (wsV RX7 219 RX7 yX7_noting wsX7_noting) := goodIn_app (goodIn_of _ (by decide +kernel)) ggX7_streamsFrom_X7_noting
theorem dX7_streamsFrom_0 : decode cX7_streamsFrom 0 = .ok (.iload_n 2, 1) := by decide +kernel
theorem dX7_streamsFrom_1 : decode cX7_streamsFrom 1 = .ok (.aload_n 0, 1) := by decide +kernel
theorem dX7_streamsFrom_2 : decode cX7_streamsFrom 2 = .ok (.getfield 52, 3) := by decide +kernel
theorem dX7_streamsFrom_5 : decode cX7_streamsFrom 5 = .ok (.if_icmp .lt 9, 3) := by decide +kernel
theorem dX7_streamsFrom_8 : decode cX7_streamsFrom 8 = .ok (.aload_n 0, 1) := by decide +kernel
theorem dX7_streamsFrom_9 : decode cX7_streamsFrom 9 = .ok (.iconst 4, 1) := by decide +kernel
theorem dX7_streamsFrom_10 : decode cX7_streamsFrom 10 = .ok (.invokevirtual 219, 3) := by decide +kernel
theorem dX7_streamsFrom_13 : decode cX7_streamsFrom 13 = .ok (.ireturn, 1) := by decide +kernel
theorem dX7_streamsFrom_14 : decode cX7_streamsFrom 14 = .ok (.iload_n 1, 1) := by decide +kernel
theorem dX7_streamsFrom_15 : decode cX7_streamsFrom 15 = .ok (.bipush 17, 2) := by decide +kernel
theorem dX7_streamsFrom_17 : decode cX7_streamsFrom 17 = .ok (.if_icmp .eq 9, 3) := by decide +kernel
theorem dX7_streamsFrom_20 : decode cX7_streamsFrom 20 = .ok (.iload_n 1, 1) := by decide +kernel
theorem dX7_streamsFrom_21 : decode cX7_streamsFrom 21 = .ok (.bipush 24, 2) := by decide +kernel
theorem dX7_streamsFrom_23 : decode cX7_streamsFrom 23 = .ok (.if_icmp .ne 7, 3) := by decide +kernel
theorem dX7_streamsFrom_26 : decode cX7_streamsFrom 26 = .ok (.iconst 1, 1) := by decide +kernel
theorem dX7_streamsFrom_27 : decode cX7_streamsFrom 27 = .ok (.goto 4, 3) := by decide +kernel
theorem dX7_streamsFrom_30 : decode cX7_streamsFrom 30 = .ok (.iconst 0, 1) := by decide +kernel
theorem dX7_streamsFrom_31 : decode cX7_streamsFrom 31 = .ok (.istore_n 3, 1) := by decide +kernel
theorem dX7_streamsFrom_32 : decode cX7_streamsFrom 32 = .ok (.aload_n 0, 1) := by decide +kernel
theorem dX7_streamsFrom_33 : decode cX7_streamsFrom 33 = .ok (.iload_n 1, 1) := by decide +kernel
theorem dX7_streamsFrom_34 : decode cX7_streamsFrom 34 = .ok (.bipush 20, 2) := by decide +kernel
theorem dX7_streamsFrom_36 : decode cX7_streamsFrom 36 = .ok (.if_icmp .ge 7, 3) := by decide +kernel
theorem dX7_streamsFrom_39 : decode cX7_streamsFrom 39 = .ok (.iconst 5, 1) := by decide +kernel
theorem dX7_streamsFrom_40 : decode cX7_streamsFrom 40 = .ok (.goto 5, 3) := by decide +kernel
theorem dX7_streamsFrom_43 : decode cX7_streamsFrom 43 = .ok (.bipush 6, 2) := by decide +kernel
theorem dX7_streamsFrom_45 : decode cX7_streamsFrom 45 = .ok (.putfield 85, 3) := by decide +kernel
theorem dX7_streamsFrom_48 : decode cX7_streamsFrom 48 = .ok (.aload_n 0, 1) := by decide +kernel
theorem dX7_streamsFrom_49 : decode cX7_streamsFrom 49 = .ok (.iload_n 2, 1) := by decide +kernel
theorem dX7_streamsFrom_50 : decode cX7_streamsFrom 50 = .ok (.putfield 124, 3) := by decide +kernel
theorem dX7_streamsFrom_53 : decode cX7_streamsFrom 53 = .ok (.aload_n 0, 1) := by decide +kernel
theorem dX7_streamsFrom_54 : decode cX7_streamsFrom 54 = .ok (.iload_n 3, 1) := by decide +kernel
theorem dX7_streamsFrom_55 : decode cX7_streamsFrom 55 = .ok (.ifCond .eq 7, 3) := by decide +kernel
theorem dX7_streamsFrom_58 : decode cX7_streamsFrom 58 = .ok (.iconst 1, 1) := by decide +kernel
theorem dX7_streamsFrom_59 : decode cX7_streamsFrom 59 = .ok (.goto 19, 3) := by decide +kernel
theorem dX7_streamsFrom_62 : decode cX7_streamsFrom 62 = .ok (.aload_n 0, 1) := by decide +kernel
theorem dX7_streamsFrom_63 : decode cX7_streamsFrom 63 = .ok (.getfield 115, 3) := by decide +kernel
theorem dX7_streamsFrom_66 : decode cX7_streamsFrom 66 = .ok (.ifCond .le 10, 3) := by decide +kernel
theorem dX7_streamsFrom_69 : decode cX7_streamsFrom 69 = .ok (.aload_n 0, 1) := by decide +kernel
theorem dX7_streamsFrom_70 : decode cX7_streamsFrom 70 = .ok (.getfield 115, 3) := by decide +kernel
theorem dX7_streamsFrom_73 : decode cX7_streamsFrom 73 = .ok (.goto 5, 3) := by decide +kernel
theorem dX7_streamsFrom_76 : decode cX7_streamsFrom 76 = .ok (.bipush (-4), 2) := by decide +kernel
theorem dX7_streamsFrom_78 : decode cX7_streamsFrom 78 = .ok (.putfield 127, 3) := by decide +kernel
theorem dX7_streamsFrom_81 : decode cX7_streamsFrom 81 = .ok (.aload_n 0, 1) := by decide +kernel
theorem dX7_streamsFrom_82 : decode cX7_streamsFrom 82 = .ok (.bipush (-4), 2) := by decide +kernel
theorem dX7_streamsFrom_84 : decode cX7_streamsFrom 84 = .ok (.putfield 115, 3) := by decide +kernel
theorem dX7_streamsFrom_87 : decode cX7_streamsFrom 87 = .ok (.aload_n 0, 1) := by decide +kernel
theorem dX7_streamsFrom_88 : decode cX7_streamsFrom 88 = .ok (.iconst 0, 1) := by decide +kernel
theorem dX7_streamsFrom_89 : decode cX7_streamsFrom 89 = .ok (.putfield 130, 3) := by decide +kernel
theorem dX7_streamsFrom_92 : decode cX7_streamsFrom 92 = .ok (.aload_n 0, 1) := by decide +kernel
theorem dX7_streamsFrom_93 : decode cX7_streamsFrom 93 = .ok (.aload_n 0, 1) := by decide +kernel
theorem dX7_streamsFrom_94 : decode cX7_streamsFrom 94 = .ok (.getfield 85, 3) := by decide +kernel
theorem dX7_streamsFrom_97 : decode cX7_streamsFrom 97 = .ok (.bipush 6, 2) := by decide +kernel
theorem dX7_streamsFrom_99 : decode cX7_streamsFrom 99 = .ok (.if_icmp .ne 7, 3) := by decide +kernel
theorem dX7_streamsFrom_102 : decode cX7_streamsFrom 102 = .ok (.iconst 0, 1) := by decide +kernel
theorem dX7_streamsFrom_103 : decode cX7_streamsFrom 103 = .ok (.goto 7, 3) := by decide +kernel
theorem dX7_streamsFrom_106 : decode cX7_streamsFrom 106 = .ok (.aload_n 0, 1) := by decide +kernel
theorem dX7_streamsFrom_107 : decode cX7_streamsFrom 107 = .ok (.getfield 68, 3) := by decide +kernel
theorem dX7_streamsFrom_110 : decode cX7_streamsFrom 110 = .ok (.putfield 68, 3) := by decide +kernel
theorem dX7_streamsFrom_113 : decode cX7_streamsFrom 113 = .ok (.iconst 0, 1) := by decide +kernel
theorem dX7_streamsFrom_114 : decode cX7_streamsFrom 114 = .ok (.ireturn, 1) := by decide +kernel
set_option maxRecDepth 20000 in
theorem ggX7_erases_X7_noting : GoodIn wsX7_erases wsX7_noting := goodIn_r _ [10, 11, 48, 49, 50, 51, 52, 53, 54, 55, 56, 57, 58, 59, 60, 61, 62, 63, 64, 65, 66, 67, 68, 69, 70, 71, 72, 73, 74, 75, 76, 77, 78, 79, 80, 81, 82, 83, 84, 85] (by decide +kernel) (by decide +kernel)
set_option maxRecDepth 20000 in
theorem gX7_erases_X7_noting : GoodIn wsX7_erases (wsV RX7 219 RX7 yX7_noting wsX7_noting) := goodIn_app (goodIn_of _ (by decide +kernel)) ggX7_erases_X7_noting
set_option maxRecDepth 20000 in
theorem ggX7_erases_X7_endsAt : GoodIn wsX7_erases wsX7_endsAt := goodIn_r _ [15, 3, 1, 2, 5, 6, 7, 8, 9, 10, 11, 48, 49, 50, 51, 52, 53, 54, 55, 56, 57, 58, 59, 60, 61, 62, 63, 64, 65, 66, 67, 68, 69, 70, 71, 72, 73, 74, 75, 76, 77, 78, 79, 80, 81, 82, 83, 84, 85] (by decide +kernel) (by decide +kernel)
set_option maxRecDepth 20000 in
theorem gX7_erases_X7_endsAt : GoodIn wsX7_erases (wsV RX7 225 RX7 yX7_endsAt wsX7_endsAt) := goodIn_app (goodIn_of _ (by decide +kernel)) ggX7_erases_X7_endsAt
set_option maxRecDepth 20000 in
theorem ggX7_erases_X7_erasesGroups : GoodIn wsX7_erases wsX7_erasesGroups := goodIn_r _ [19, 20, 21, 22, 23, 48, 49, 50, 51, 52, 53, 54, 55, 56, 57, 58, 59, 60, 61, 62, 63, 64, 65, 66, 67, 68, 69, 70, 71, 72, 73, 74, 75, 76, 77, 78, 79, 80, 81, 82, 83, 84, 85] (by decide +kernel) (by decide +kernel)
set_option maxRecDepth 20000 in
theorem gX7_erases_X7_erasesGroups : GoodIn wsX7_erases (wsV RX7 231 RX7 yX7_erasesGroups wsX7_erasesGroups) := goodIn_app (goodIn_of _ (by decide +kernel)) ggX7_erases_X7_erasesGroups
set_option maxRecDepth 20000 in
theorem ggX7_erases_X7_locks : GoodIn wsX7_erases wsX7_locks := goodIn_r _ [27, 28, 29, 30, 31, 32, 9, 33, 34, 35, 36, 37, 38, 39, 40, 41, 42, 43, 44, 45, 46, 47, 1, 4, 16, 17, 18, 19, 20, 21, 22, 23, 6, 7, 8, 10, 11, 48, 49, 50, 51, 52, 53, 54, 55, 56, 57, 58, 59, 60, 61, 62, 63, 64, 65, 66, 67, 68, 69, 70, 71, 72, 73, 74, 75, 76, 77, 78, 79, 80, 81, 82, 83, 84, 85] (by decide +kernel) (by decide +kernel)
set_option maxRecDepth 20000 in
theorem gX7_erases_X7_locks : GoodIn wsX7_erases (wsV RX7 234 RX7 yX7_locks wsX7_locks) := goodIn_app (goodIn_of _ (by decide +kernel)) ggX7_erases_X7_locks
theorem dX7_erases_0 : decode cX7_erases 0 = .ok (.iload_n 1, 1) := by decide +kernel
theorem dX7_erases_1 : decode cX7_erases 1 = .ok (.lookupswitch 122 #[(32, 35), (33, 61), (38, 67)], 35) := by decide +kernel
theorem dX7_erases_36 : decode cX7_erases 36 = .ok (.iload_n 2, 1) := by decide +kernel
theorem dX7_erases_37 : decode cX7_erases 37 = .ok (.aload_n 0, 1) := by decide +kernel
theorem dX7_erases_38 : decode cX7_erases 38 = .ok (.getfield 52, 3) := by decide +kernel
theorem dX7_erases_41 : decode cX7_erases 41 = .ok (.if_icmp .lt 9, 3) := by decide +kernel
theorem dX7_erases_44 : decode cX7_erases 44 = .ok (.aload_n 0, 1) := by decide +kernel
theorem dX7_erases_45 : decode cX7_erases 45 = .ok (.iconst 4, 1) := by decide +kernel
theorem dX7_erases_46 : decode cX7_erases 46 = .ok (.invokevirtual 219, 3) := by decide +kernel
theorem dX7_erases_49 : decode cX7_erases 49 = .ok (.ireturn, 1) := by decide +kernel
theorem dX7_erases_50 : decode cX7_erases 50 = .ok (.aload_n 0, 1) := by decide +kernel
theorem dX7_erases_51 : decode cX7_erases 51 = .ok (.iload_n 2, 1) := by decide +kernel
theorem dX7_erases_52 : decode cX7_erases 52 = .ok (.putfield 222, 3) := by decide +kernel
theorem dX7_erases_55 : decode cX7_erases 55 = .ok (.aload_n 0, 1) := by decide +kernel
theorem dX7_erases_56 : decode cX7_erases 56 = .ok (.iconst 1, 1) := by decide +kernel
theorem dX7_erases_57 : decode cX7_erases 57 = .ok (.putfield 121, 3) := by decide +kernel
theorem dX7_erases_60 : decode cX7_erases 60 = .ok (.iconst 0, 1) := by decide +kernel
theorem dX7_erases_61 : decode cX7_erases 61 = .ok (.ireturn, 1) := by decide +kernel
theorem dX7_erases_62 : decode cX7_erases 62 = .ok (.aload_n 0, 1) := by decide +kernel
theorem dX7_erases_63 : decode cX7_erases 63 = .ok (.iload_n 2, 1) := by decide +kernel
theorem dX7_erases_64 : decode cX7_erases 64 = .ok (.invokevirtual 225, 3) := by decide +kernel
theorem dX7_erases_67 : decode cX7_erases 67 = .ok (.ireturn, 1) := by decide +kernel
theorem dX7_erases_68 : decode cX7_erases 68 = .ok (.aload_n 0, 1) := by decide +kernel
theorem dX7_erases_69 : decode cX7_erases 69 = .ok (.getfield 121, 3) := by decide +kernel
theorem dX7_erases_72 : decode cX7_erases 72 = .ok (.iconst 2, 1) := by decide +kernel
theorem dX7_erases_73 : decode cX7_erases 73 = .ok (.if_icmp .eq 10, 3) := by decide +kernel
theorem dX7_erases_76 : decode cX7_erases 76 = .ok (.aload_n 0, 1) := by decide +kernel
theorem dX7_erases_77 : decode cX7_erases 77 = .ok (.bipush 8, 2) := by decide +kernel
theorem dX7_erases_79 : decode cX7_erases 79 = .ok (.invokevirtual 219, 3) := by decide +kernel
theorem dX7_erases_82 : decode cX7_erases 82 = .ok (.ireturn, 1) := by decide +kernel
theorem dX7_erases_83 : decode cX7_erases 83 = .ok (.aload_n 0, 1) := by decide +kernel
theorem dX7_erases_84 : decode cX7_erases 84 = .ok (.iconst 0, 1) := by decide +kernel
theorem dX7_erases_85 : decode cX7_erases 85 = .ok (.putfield 121, 3) := by decide +kernel
theorem dX7_erases_88 : decode cX7_erases 88 = .ok (.aload_n 0, 1) := by decide +kernel
theorem dX7_erases_89 : decode cX7_erases 89 = .ok (.aload_n 0, 1) := by decide +kernel
theorem dX7_erases_90 : decode cX7_erases 90 = .ok (.getfield 222, 3) := by decide +kernel
theorem dX7_erases_93 : decode cX7_erases 93 = .ok (.aload_n 0, 1) := by decide +kernel
theorem dX7_erases_94 : decode cX7_erases 94 = .ok (.getfield 56, 3) := by decide +kernel
theorem dX7_erases_97 : decode cX7_erases 97 = .ok (.idiv, 1) := by decide +kernel
theorem dX7_erases_98 : decode cX7_erases 98 = .ok (.aload_n 0, 1) := by decide +kernel
theorem dX7_erases_99 : decode cX7_erases 99 = .ok (.getfield 228, 3) := by decide +kernel
theorem dX7_erases_102 : decode cX7_erases 102 = .ok (.aload_n 0, 1) := by decide +kernel
theorem dX7_erases_103 : decode cX7_erases 103 = .ok (.getfield 56, 3) := by decide +kernel
theorem dX7_erases_106 : decode cX7_erases 106 = .ok (.idiv, 1) := by decide +kernel
theorem dX7_erases_107 : decode cX7_erases 107 = .ok (.aload_n 0, 1) := by decide +kernel
theorem dX7_erases_108 : decode cX7_erases 108 = .ok (.getfield 222, 3) := by decide +kernel
theorem dX7_erases_111 : decode cX7_erases 111 = .ok (.aload_n 0, 1) := by decide +kernel
theorem dX7_erases_112 : decode cX7_erases 112 = .ok (.getfield 56, 3) := by decide +kernel
theorem dX7_erases_115 : decode cX7_erases 115 = .ok (.idiv, 1) := by decide +kernel
theorem dX7_erases_116 : decode cX7_erases 116 = .ok (.isub, 1) := by decide +kernel
theorem dX7_erases_117 : decode cX7_erases 117 = .ok (.iconst 1, 1) := by decide +kernel
theorem dX7_erases_118 : decode cX7_erases 118 = .ok (.iadd, 1) := by decide +kernel
theorem dX7_erases_119 : decode cX7_erases 119 = .ok (.invokevirtual 231, 3) := by decide +kernel
theorem dX7_erases_122 : decode cX7_erases 122 = .ok (.ireturn, 1) := by decide +kernel
theorem dX7_erases_123 : decode cX7_erases 123 = .ok (.aload_n 0, 1) := by decide +kernel
theorem dX7_erases_124 : decode cX7_erases 124 = .ok (.iload_n 2, 1) := by decide +kernel
theorem dX7_erases_125 : decode cX7_erases 125 = .ok (.invokevirtual 234, 3) := by decide +kernel
theorem dX7_erases_128 : decode cX7_erases 128 = .ok (.ireturn, 1) := by decide +kernel
set_option maxRecDepth 20000 in
theorem ggX7_endsAt_X7_noting : GoodIn wsX7_endsAt wsX7_noting := goodIn_r _ [9, 10, 11, 12, 13, 14, 15, 16, 17, 18, 19, 20, 21, 22, 23, 24, 25, 26, 27, 28, 29, 30, 31, 32, 33, 34, 35, 36, 37, 38, 39, 40, 41, 42, 43, 44, 45, 46, 47, 48] (by decide +kernel) (by decide +kernel)
set_option maxRecDepth 20000 in
theorem gX7_endsAt_X7_noting : GoodIn wsX7_endsAt (wsV RX7 219 RX7 yX7_noting wsX7_noting) := goodIn_app (goodIn_of _ (by decide +kernel)) ggX7_endsAt_X7_noting
theorem dX7_endsAt_0 : decode cX7_endsAt 0 = .ok (.aload_n 0, 1) := by decide +kernel
theorem dX7_endsAt_1 : decode cX7_endsAt 1 = .ok (.getfield 121, 3) := by decide +kernel
theorem dX7_endsAt_4 : decode cX7_endsAt 4 = .ok (.iconst 1, 1) := by decide +kernel
theorem dX7_endsAt_5 : decode cX7_endsAt 5 = .ok (.if_icmp .ne 7, 3) := by decide +kernel
theorem dX7_endsAt_8 : decode cX7_endsAt 8 = .ok (.iconst 1, 1) := by decide +kernel
theorem dX7_endsAt_9 : decode cX7_endsAt 9 = .ok (.goto 4, 3) := by decide +kernel
theorem dX7_endsAt_12 : decode cX7_endsAt 12 = .ok (.iconst 0, 1) := by decide +kernel
theorem dX7_endsAt_13 : decode cX7_endsAt 13 = .ok (.istore_n 2, 1) := by decide +kernel
theorem dX7_endsAt_14 : decode cX7_endsAt 14 = .ok (.aload_n 0, 1) := by decide +kernel
theorem dX7_endsAt_15 : decode cX7_endsAt 15 = .ok (.iconst 0, 1) := by decide +kernel
theorem dX7_endsAt_16 : decode cX7_endsAt 16 = .ok (.putfield 121, 3) := by decide +kernel
theorem dX7_endsAt_19 : decode cX7_endsAt 19 = .ok (.iload_n 1, 1) := by decide +kernel
theorem dX7_endsAt_20 : decode cX7_endsAt 20 = .ok (.aload_n 0, 1) := by decide +kernel
theorem dX7_endsAt_21 : decode cX7_endsAt 21 = .ok (.getfield 52, 3) := by decide +kernel
