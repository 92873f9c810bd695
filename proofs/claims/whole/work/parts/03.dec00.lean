theorem dX0_init_0 : decode cX0_init 0 = .ok (.aload_n 0, 1) := by decide +kernel
theorem dX0_init_1 : decode cX0_init 1 = .ok (.invokespecial 3, 3) := by decide +kernel
theorem dX0_init_4 : decode cX0_init 4 = .ok (.return_, 1) := by decide +kernel
set_option maxRecDepth 20000 in
theorem ggX0_clear_X0_forget : GoodIn wsX0_clear wsX0_forget := goodIn_r _ [8, 9, 10, 11, 12, 13, 14, 15, 16, 17] (by decide +kernel) (by decide +kernel)
set_option maxRecDepth 20000 in
theorem gX0_clear_X0_forget : GoodIn wsX0_clear (wsV RX0 9 RX0 yX0_forget wsX0_forget) := goodIn_app (goodIn_of _ (by decide +kernel)) ggX0_clear_X0_forget
theorem dX0_clear_0 : decode cX0_clear 0 = .ok (.aload_n 0, 1) := by decide +kernel
theorem dX0_clear_1 : decode cX0_clear 1 = .ok (.invokevirtual 9, 3) := by decide +kernel
theorem dX0_clear_4 : decode cX0_clear 4 = .ok (.aload_n 0, 1) := by decide +kernel
theorem dX0_clear_5 : decode cX0_clear 5 = .ok (.iconst 0, 1) := by decide +kernel
theorem dX0_clear_6 : decode cX0_clear 6 = .ok (.putfield 14, 3) := by decide +kernel
theorem dX0_clear_9 : decode cX0_clear 9 = .ok (.aload_n 0, 1) := by decide +kernel
theorem dX0_clear_10 : decode cX0_clear 10 = .ok (.iconst 0, 1) := by decide +kernel
theorem dX0_clear_11 : decode cX0_clear 11 = .ok (.putfield 18, 3) := by decide +kernel
theorem dX0_clear_14 : decode cX0_clear 14 = .ok (.aload_n 0, 1) := by decide +kernel
theorem dX0_clear_15 : decode cX0_clear 15 = .ok (.iconst 0, 1) := by decide +kernel
theorem dX0_clear_16 : decode cX0_clear 16 = .ok (.putfield 21, 3) := by decide +kernel
theorem dX0_clear_19 : decode cX0_clear 19 = .ok (.return_, 1) := by decide +kernel
theorem dX0_forget_0 : decode cX0_forget 0 = .ok (.aload_n 0, 1) := by decide +kernel
theorem dX0_forget_1 : decode cX0_forget 1 = .ok (.iconst 0, 1) := by decide +kernel
theorem dX0_forget_2 : decode cX0_forget 2 = .ok (.putfield 24, 3) := by decide +kernel
theorem dX0_forget_5 : decode cX0_forget 5 = .ok (.aload_n 0, 1) := by decide +kernel
theorem dX0_forget_6 : decode cX0_forget 6 = .ok (.iconst 0, 1) := by decide +kernel
theorem dX0_forget_7 : decode cX0_forget 7 = .ok (.putfield 27, 3) := by decide +kernel
theorem dX0_forget_10 : decode cX0_forget 10 = .ok (.aload_n 0, 1) := by decide +kernel
theorem dX0_forget_11 : decode cX0_forget 11 = .ok (.iconst 0, 1) := by decide +kernel
theorem dX0_forget_12 : decode cX0_forget 12 = .ok (.putfield 30, 3) := by decide +kernel
theorem dX0_forget_15 : decode cX0_forget 15 = .ok (.return_, 1) := by decide +kernel
theorem dX0_isBrokenOffBy_0 : decode cX0_isBrokenOffBy 0 = .ok (.aload_n 0, 1) := by decide +kernel
theorem dX0_isBrokenOffBy_1 : decode cX0_isBrokenOffBy 1 = .ok (.getfield 24, 3) := by decide +kernel
theorem dX0_isBrokenOffBy_4 : decode cX0_isBrokenOffBy 4 = .ok (.ifCond .eq 9, 3) := by decide +kernel
theorem dX0_isBrokenOffBy_7 : decode cX0_isBrokenOffBy 7 = .ok (.iload_n 1, 1) := by decide +kernel
theorem dX0_isBrokenOffBy_8 : decode cX0_isBrokenOffBy 8 = .ok (.bipush 13, 2) := by decide +kernel
theorem dX0_isBrokenOffBy_10 : decode cX0_isBrokenOffBy 10 = .ok (.if_icmp .ne 5, 3) := by decide +kernel
theorem dX0_isBrokenOffBy_13 : decode cX0_isBrokenOffBy 13 = .ok (.iconst 0, 1) := by decide +kernel
theorem dX0_isBrokenOffBy_14 : decode cX0_isBrokenOffBy 14 = .ok (.ireturn, 1) := by decide +kernel
theorem dX0_isBrokenOffBy_15 : decode cX0_isBrokenOffBy 15 = .ok (.aload_n 0, 1) := by decide +kernel
theorem dX0_isBrokenOffBy_16 : decode cX0_isBrokenOffBy 16 = .ok (.getfield 24, 3) := by decide +kernel
theorem dX0_isBrokenOffBy_19 : decode cX0_isBrokenOffBy 19 = .ok (.iconst 1, 1) := by decide +kernel
theorem dX0_isBrokenOffBy_20 : decode cX0_isBrokenOffBy 20 = .ok (.if_icmp .ne 17, 3) := by decide +kernel
theorem dX0_isBrokenOffBy_23 : decode cX0_isBrokenOffBy 23 = .ok (.iload_n 1, 1) := by decide +kernel
theorem dX0_isBrokenOffBy_24 : decode cX0_isBrokenOffBy 24 = .ok (.bipush 33, 2) := by decide +kernel
theorem dX0_isBrokenOffBy_26 : decode cX0_isBrokenOffBy 26 = .ok (.if_icmp .ne 7, 3) := by decide +kernel
theorem dX0_isBrokenOffBy_29 : decode cX0_isBrokenOffBy 29 = .ok (.iconst 1, 1) := by decide +kernel
theorem dX0_isBrokenOffBy_30 : decode cX0_isBrokenOffBy 30 = .ok (.goto 18, 3) := by decide +kernel
theorem dX0_isBrokenOffBy_33 : decode cX0_isBrokenOffBy 33 = .ok (.iconst 0, 1) := by decide +kernel
theorem dX0_isBrokenOffBy_34 : decode cX0_isBrokenOffBy 34 = .ok (.goto 14, 3) := by decide +kernel
theorem dX0_isBrokenOffBy_37 : decode cX0_isBrokenOffBy 37 = .ok (.iload_n 1, 1) := by decide +kernel
theorem dX0_isBrokenOffBy_38 : decode cX0_isBrokenOffBy 38 = .ok (.bipush 38, 2) := by decide +kernel
theorem dX0_isBrokenOffBy_40 : decode cX0_isBrokenOffBy 40 = .ok (.if_icmp .ne 7, 3) := by decide +kernel
theorem dX0_isBrokenOffBy_43 : decode cX0_isBrokenOffBy 43 = .ok (.iconst 1, 1) := by decide +kernel
theorem dX0_isBrokenOffBy_44 : decode cX0_isBrokenOffBy 44 = .ok (.goto 4, 3) := by decide +kernel
theorem dX0_isBrokenOffBy_47 : decode cX0_isBrokenOffBy 47 = .ok (.iconst 0, 1) := by decide +kernel
theorem dX0_isBrokenOffBy_48 : decode cX0_isBrokenOffBy 48 = .ok (.istore_n 2, 1) := by decide +kernel
theorem dX0_isBrokenOffBy_49 : decode cX0_isBrokenOffBy 49 = .ok (.iload_n 2, 1) := by decide +kernel
theorem dX0_isBrokenOffBy_50 : decode cX0_isBrokenOffBy 50 = .ok (.ifCond .ne 7, 3) := by decide +kernel
theorem dX0_isBrokenOffBy_53 : decode cX0_isBrokenOffBy 53 = .ok (.iconst 1, 1) := by decide +kernel
theorem dX0_isBrokenOffBy_54 : decode cX0_isBrokenOffBy 54 = .ok (.goto 4, 3) := by decide +kernel
theorem dX0_isBrokenOffBy_57 : decode cX0_isBrokenOffBy 57 = .ok (.iconst 0, 1) := by decide +kernel
theorem dX0_isBrokenOffBy_58 : decode cX0_isBrokenOffBy 58 = .ok (.ireturn, 1) := by decide +kernel
theorem dX0_beginFrom_0 : decode cX0_beginFrom 0 = .ok (.aload_n 0, 1) := by decide +kernel
theorem dX0_beginFrom_1 : decode cX0_beginFrom 1 = .ok (.iconst 1, 1) := by decide +kernel
theorem dX0_beginFrom_2 : decode cX0_beginFrom 2 = .ok (.putfield 24, 3) := by decide +kernel
theorem dX0_beginFrom_5 : decode cX0_beginFrom 5 = .ok (.aload_n 0, 1) := by decide +kernel
theorem dX0_beginFrom_6 : decode cX0_beginFrom 6 = .ok (.iload_n 1, 1) := by decide +kernel
theorem dX0_beginFrom_7 : decode cX0_beginFrom 7 = .ok (.putfield 27, 3) := by decide +kernel
theorem dX0_beginFrom_10 : decode cX0_beginFrom 10 = .ok (.return_, 1) := by decide +kernel
theorem dX0_continueTo_0 : decode cX0_continueTo 0 = .ok (.aload_n 0, 1) := by decide +kernel
theorem dX0_continueTo_1 : decode cX0_continueTo 1 = .ok (.getfield 24, 3) := by decide +kernel
theorem dX0_continueTo_4 : decode cX0_continueTo 4 = .ok (.iconst 1, 1) := by decide +kernel
theorem dX0_continueTo_5 : decode cX0_continueTo 5 = .ok (.if_icmp .ne 11, 3) := by decide +kernel
theorem dX0_continueTo_8 : decode cX0_continueTo 8 = .ok (.iload_n 1, 1) := by decide +kernel
theorem dX0_continueTo_9 : decode cX0_continueTo 9 = .ok (.aload_n 0, 1) := by decide +kernel
theorem dX0_continueTo_10 : decode cX0_continueTo 10 = .ok (.getfield 27, 3) := by decide +kernel
theorem dX0_continueTo_13 : decode cX0_continueTo 13 = .ok (.if_icmp .ge 5, 3) := by decide +kernel
theorem dX0_continueTo_16 : decode cX0_continueTo 16 = .ok (.iconst 0, 1) := by decide +kernel
theorem dX0_continueTo_17 : decode cX0_continueTo 17 = .ok (.ireturn, 1) := by decide +kernel
theorem dX0_continueTo_18 : decode cX0_continueTo 18 = .ok (.aload_n 0, 1) := by decide +kernel
theorem dX0_continueTo_19 : decode cX0_continueTo 19 = .ok (.iconst 2, 1) := by decide +kernel
theorem dX0_continueTo_20 : decode cX0_continueTo 20 = .ok (.putfield 24, 3) := by decide +kernel
theorem dX0_continueTo_23 : decode cX0_continueTo 23 = .ok (.aload_n 0, 1) := by decide +kernel
theorem dX0_continueTo_24 : decode cX0_continueTo 24 = .ok (.iload_n 1, 1) := by decide +kernel
theorem dX0_continueTo_25 : decode cX0_continueTo 25 = .ok (.putfield 30, 3) := by decide +kernel
theorem dX0_continueTo_28 : decode cX0_continueTo 28 = .ok (.iconst 1, 1) := by decide +kernel
theorem dX0_continueTo_29 : decode cX0_continueTo 29 = .ok (.ireturn, 1) := by decide +kernel
theorem dX0_isReady_0 : decode cX0_isReady 0 = .ok (.aload_n 0, 1) := by decide +kernel
theorem dX0_isReady_1 : decode cX0_isReady 1 = .ok (.getfield 24, 3) := by decide +kernel
theorem dX0_isReady_4 : decode cX0_isReady 4 = .ok (.iconst 2, 1) := by decide +kernel
theorem dX0_isReady_5 : decode cX0_isReady 5 = .ok (.if_icmp .ne 7, 3) := by decide +kernel
theorem dX0_isReady_8 : decode cX0_isReady 8 = .ok (.iconst 1, 1) := by decide +kernel
theorem dX0_isReady_9 : decode cX0_isReady 9 = .ok (.goto 4, 3) := by decide +kernel
theorem dX0_isReady_12 : decode cX0_isReady 12 = .ok (.iconst 0, 1) := by decide +kernel
theorem dX0_isReady_13 : decode cX0_isReady 13 = .ok (.ireturn, 1) := by decide +kernel
theorem dX0_from_0 : decode cX0_from 0 = .ok (.aload_n 0, 1) := by decide +kernel
theorem dX0_from_1 : decode cX0_from 1 = .ok (.getfield 27, 3) := by decide +kernel
theorem dX0_from_4 : decode cX0_from 4 = .ok (.ireturn, 1) := by decide +kernel
theorem dX0_to_0 : decode cX0_to 0 = .ok (.aload_n 0, 1) := by decide +kernel
theorem dX0_to_1 : decode cX0_to 1 = .ok (.getfield 30, 3) := by decide +kernel
theorem dX0_to_4 : decode cX0_to 4 = .ok (.ireturn, 1) := by decide +kernel
set_option maxRecDepth 20000 in
theorem ggX0_begin_X0_forget : GoodIn wsX0_begin wsX0_forget := goodIn_r _ [8, 9, 10, 11, 12, 13, 14, 15, 16, 17] (by decide +kernel) (by decide +kernel)
set_option maxRecDepth 20000 in
theorem gX0_begin_X0_forget : GoodIn wsX0_begin (wsV RX0 9 RX0 yX0_forget wsX0_forget) := goodIn_app (goodIn_of _ (by decide +kernel)) ggX0_begin_X0_forget
theorem dX0_begin_0 : decode cX0_begin 0 = .ok (.aload_n 0, 1) := by decide +kernel
theorem dX0_begin_1 : decode cX0_begin 1 = .ok (.invokevirtual 9, 3) := by decide +kernel
theorem dX0_begin_4 : decode cX0_begin 4 = .ok (.aload_n 0, 1) := by decide +kernel
theorem dX0_begin_5 : decode cX0_begin 5 = .ok (.iload_n 1, 1) := by decide +kernel
theorem dX0_begin_6 : decode cX0_begin 6 = .ok (.putfield 14, 3) := by decide +kernel
theorem dX0_begin_9 : decode cX0_begin 9 = .ok (.aload_n 0, 1) := by decide +kernel
theorem dX0_begin_10 : decode cX0_begin 10 = .ok (.iload_n 2, 1) := by decide +kernel
theorem dX0_begin_11 : decode cX0_begin 11 = .ok (.iload_n 1, 1) := by decide +kernel
theorem dX0_begin_12 : decode cX0_begin 12 = .ok (.isub, 1) := by decide +kernel
theorem dX0_begin_13 : decode cX0_begin 13 = .ok (.iconst 1, 1) := by decide +kernel
theorem dX0_begin_14 : decode cX0_begin 14 = .ok (.iadd, 1) := by decide +kernel
theorem dX0_begin_15 : decode cX0_begin 15 = .ok (.putfield 18, 3) := by decide +kernel
theorem dX0_begin_18 : decode cX0_begin 18 = .ok (.aload_n 0, 1) := by decide +kernel
theorem dX0_begin_19 : decode cX0_begin 19 = .ok (.iconst 0, 1) := by decide +kernel
theorem dX0_begin_20 : decode cX0_begin 20 = .ok (.putfield 21, 3) := by decide +kernel
theorem dX0_begin_23 : decode cX0_begin 23 = .ok (.return_, 1) := by decide +kernel
theorem dX0_groupsLeft_0 : decode cX0_groupsLeft 0 = .ok (.aload_n 0, 1) := by decide +kernel
theorem dX0_groupsLeft_1 : decode cX0_groupsLeft 1 = .ok (.getfield 18, 3) := by decide +kernel
theorem dX0_groupsLeft_4 : decode cX0_groupsLeft 4 = .ok (.ireturn, 1) := by decide +kernel
theorem dX0_group_0 : decode cX0_group 0 = .ok (.aload_n 0, 1) := by decide +kernel
theorem dX0_group_1 : decode cX0_group 1 = .ok (.getfield 14, 3) := by decide +kernel
theorem dX0_group_4 : decode cX0_group 4 = .ok (.ireturn, 1) := by decide +kernel
theorem dX0_groupHasBegun_0 : decode cX0_groupHasBegun 0 = .ok (.aload_n 0, 1) := by decide +kernel
theorem dX0_groupHasBegun_1 : decode cX0_groupHasBegun 1 = .ok (.getfield 18, 3) := by decide +kernel
theorem dX0_groupHasBegun_4 : decode cX0_groupHasBegun 4 = .ok (.ifCond .le 14, 3) := by decide +kernel
theorem dX0_groupHasBegun_7 : decode cX0_groupHasBegun 7 = .ok (.aload_n 0, 1) := by decide +kernel
theorem dX0_groupHasBegun_8 : decode cX0_groupHasBegun 8 = .ok (.getfield 21, 3) := by decide +kernel
theorem dX0_groupHasBegun_11 : decode cX0_groupHasBegun 11 = .ok (.ifCond .le 7, 3) := by decide +kernel
theorem dX0_groupHasBegun_14 : decode cX0_groupHasBegun 14 = .ok (.iconst 1, 1) := by decide +kernel
theorem dX0_groupHasBegun_15 : decode cX0_groupHasBegun 15 = .ok (.goto 4, 3) := by decide +kernel
theorem dX0_groupHasBegun_18 : decode cX0_groupHasBegun 18 = .ok (.iconst 0, 1) := by decide +kernel
theorem dX0_groupHasBegun_19 : decode cX0_groupHasBegun 19 = .ok (.ireturn, 1) := by decide +kernel
theorem dX0_tickGroup_0 : decode cX0_tickGroup 0 = .ok (.aload_n 0, 1) := by decide +kernel
theorem dX0_tickGroup_1 : decode cX0_tickGroup 1 = .ok (.dup, 1) := by decide +kernel
theorem dX0_tickGroup_2 : decode cX0_tickGroup 2 = .ok (.getfield 21, 3) := by decide +kernel
theorem dX0_tickGroup_5 : decode cX0_tickGroup 5 = .ok (.iconst 1, 1) := by decide +kernel
theorem dX0_tickGroup_6 : decode cX0_tickGroup 6 = .ok (.iadd, 1) := by decide +kernel
theorem dX0_tickGroup_7 : decode cX0_tickGroup 7 = .ok (.putfield 21, 3) := by decide +kernel
theorem dX0_tickGroup_10 : decode cX0_tickGroup 10 = .ok (.aload_n 0, 1) := by decide +kernel
theorem dX0_tickGroup_11 : decode cX0_tickGroup 11 = .ok (.getfield 21, 3) := by decide +kernel
theorem dX0_tickGroup_14 : decode cX0_tickGroup 14 = .ok (.iconst 2, 1) := by decide +kernel
theorem dX0_tickGroup_15 : decode cX0_tickGroup 15 = .ok (.if_icmp .ge 5, 3) := by decide +kernel
theorem dX0_tickGroup_18 : decode cX0_tickGroup 18 = .ok (.iconst 0, 1) := by decide +kernel
theorem dX0_tickGroup_19 : decode cX0_tickGroup 19 = .ok (.ireturn, 1) := by decide +kernel
theorem dX0_tickGroup_20 : decode cX0_tickGroup 20 = .ok (.aload_n 0, 1) := by decide +kernel
theorem dX0_tickGroup_21 : decode cX0_tickGroup 21 = .ok (.dup, 1) := by decide +kernel
theorem dX0_tickGroup_22 : decode cX0_tickGroup 22 = .ok (.getfield 14, 3) := by decide +kernel
theorem dX0_tickGroup_25 : decode cX0_tickGroup 25 = .ok (.iconst 1, 1) := by decide +kernel
theorem dX0_tickGroup_26 : decode cX0_tickGroup 26 = .ok (.iadd, 1) := by decide +kernel
theorem dX0_tickGroup_27 : decode cX0_tickGroup 27 = .ok (.putfield 14, 3) := by decide +kernel
theorem dX0_tickGroup_30 : decode cX0_tickGroup 30 = .ok (.aload_n 0, 1) := by decide +kernel
theorem dX0_tickGroup_31 : decode cX0_tickGroup 31 = .ok (.dup, 1) := by decide +kernel
theorem dX0_tickGroup_32 : decode cX0_tickGroup 32 = .ok (.getfield 18, 3) := by decide +kernel
theorem dX0_tickGroup_35 : decode cX0_tickGroup 35 = .ok (.iconst 1, 1) := by decide +kernel
theorem dX0_tickGroup_36 : decode cX0_tickGroup 36 = .ok (.isub, 1) := by decide +kernel
theorem dX0_tickGroup_37 : decode cX0_tickGroup 37 = .ok (.putfield 18, 3) := by decide +kernel
theorem dX0_tickGroup_40 : decode cX0_tickGroup 40 = .ok (.aload_n 0, 1) := by decide +kernel
theorem dX0_tickGroup_41 : decode cX0_tickGroup 41 = .ok (.iconst 0, 1) := by decide +kernel
theorem dX0_tickGroup_42 : decode cX0_tickGroup 42 = .ok (.putfield 21, 3) := by decide +kernel
theorem dX0_tickGroup_45 : decode cX0_tickGroup 45 = .ok (.iconst 1, 1) := by decide +kernel
theorem dX0_tickGroup_46 : decode cX0_tickGroup 46 = .ok (.ireturn, 1) := by decide +kernel
theorem dX1_init_0 : decode cX1_init 0 = .ok (.aload_n 0, 1) := by decide +kernel
theorem dX1_init_1 : decode cX1_init 1 = .ok (.invokespecial 3, 3) := by decide +kernel
theorem dX1_init_4 : decode cX1_init 4 = .ok (.aload_n 0, 1) := by decide +kernel
theorem dX1_init_5 : decode cX1_init 5 = .ok (.iconst 0, 1) := by decide +kernel
theorem dX1_init_6 : decode cX1_init 6 = .ok (.iload_n 1, 1) := by decide +kernel
theorem dX1_init_7 : decode cX1_init 7 = .ok (.invokestatic 9, 3) := by decide +kernel
theorem dX1_init_10 : decode cX1_init 10 = .ok (.newarray .int, 2) := by decide +kernel
theorem dX1_init_12 : decode cX1_init 12 = .ok (.putfield 15, 3) := by decide +kernel
theorem dX1_init_15 : decode cX1_init 15 = .ok (.return_, 1) := by decide +kernel
theorem dX1_length_0 : decode cX1_length 0 = .ok (.aload_n 0, 1) := by decide +kernel
theorem dX1_length_1 : decode cX1_length 1 = .ok (.getfield 21, 3) := by decide +kernel
theorem dX1_length_4 : decode cX1_length 4 = .ok (.ireturn, 1) := by decide +kernel
theorem dX1_empty_0 : decode cX1_empty 0 = .ok (.aload_n 0, 1) := by decide +kernel
theorem dX1_empty_1 : decode cX1_empty 1 = .ok (.iconst 0, 1) := by decide +kernel
theorem dX1_empty_2 : decode cX1_empty 2 = .ok (.putfield 21, 3) := by decide +kernel
theorem dX1_empty_5 : decode cX1_empty 5 = .ok (.return_, 1) := by decide +kernel
theorem dX1_append_0 : decode cX1_append 0 = .ok (.aload_n 0, 1) := by decide +kernel
theorem dX1_append_1 : decode cX1_append 1 = .ok (.getfield 21, 3) := by decide +kernel
theorem dX1_append_4 : decode cX1_append 4 = .ok (.ifCond .lt 15, 3) := by decide +kernel
theorem dX1_append_7 : decode cX1_append 7 = .ok (.aload_n 0, 1) := by decide +kernel
theorem dX1_append_8 : decode cX1_append 8 = .ok (.getfield 21, 3) := by decide +kernel
theorem dX1_append_11 : decode cX1_append 11 = .ok (.aload_n 0, 1) := by decide +kernel
theorem dX1_append_12 : decode cX1_append 12 = .ok (.getfield 15, 3) := by decide +kernel
theorem dX1_append_15 : decode cX1_append 15 = .ok (.arraylength, 1) := by decide +kernel
theorem dX1_append_16 : decode cX1_append 16 = .ok (.if_icmp .lt 5, 3) := by decide +kernel
theorem dX1_append_19 : decode cX1_append 19 = .ok (.iconst 0, 1) := by decide +kernel
theorem dX1_append_20 : decode cX1_append 20 = .ok (.ireturn, 1) := by decide +kernel
theorem dX1_append_21 : decode cX1_append 21 = .ok (.aload_n 0, 1) := by decide +kernel
theorem dX1_append_22 : decode cX1_append 22 = .ok (.getfield 15, 3) := by decide +kernel
theorem dX1_append_25 : decode cX1_append 25 = .ok (.aload_n 0, 1) := by decide +kernel
theorem dX1_append_26 : decode cX1_append 26 = .ok (.getfield 21, 3) := by decide +kernel
theorem dX1_append_29 : decode cX1_append 29 = .ok (.iload_n 1, 1) := by decide +kernel
theorem dX1_append_30 : decode cX1_append 30 = .ok (.iastore, 1) := by decide +kernel
theorem dX1_append_31 : decode cX1_append 31 = .ok (.aload_n 0, 1) := by decide +kernel
theorem dX1_append_32 : decode cX1_append 32 = .ok (.dup, 1) := by decide +kernel
theorem dX1_append_33 : decode cX1_append 33 = .ok (.getfield 21, 3) := by decide +kernel
theorem dX1_append_36 : decode cX1_append 36 = .ok (.iconst 1, 1) := by decide +kernel
theorem dX1_append_37 : decode cX1_append 37 = .ok (.iadd, 1) := by decide +kernel
theorem dX1_append_38 : decode cX1_append 38 = .ok (.putfield 21, 3) := by decide +kernel
theorem dX1_append_41 : decode cX1_append 41 = .ok (.iconst 1, 1) := by decide +kernel
theorem dX1_append_42 : decode cX1_append 42 = .ok (.ireturn, 1) := by decide +kernel
theorem dX1_at_0 : decode cX1_at 0 = .ok (.iload_n 1, 1) := by decide +kernel
theorem dX1_at_1 : decode cX1_at 1 = .ok (.ifCond .lt 29, 3) := by decide +kernel
theorem dX1_at_4 : decode cX1_at 4 = .ok (.iload_n 1, 1) := by decide +kernel
theorem dX1_at_5 : decode cX1_at 5 = .ok (.aload_n 0, 1) := by decide +kernel
theorem dX1_at_6 : decode cX1_at 6 = .ok (.getfield 21, 3) := by decide +kernel
theorem dX1_at_9 : decode cX1_at 9 = .ok (.if_icmp .ge 21, 3) := by decide +kernel
theorem dX1_at_12 : decode cX1_at 12 = .ok (.iload_n 1, 1) := by decide +kernel
theorem dX1_at_13 : decode cX1_at 13 = .ok (.aload_n 0, 1) := by decide +kernel
theorem dX1_at_14 : decode cX1_at 14 = .ok (.getfield 15, 3) := by decide +kernel
theorem dX1_at_17 : decode cX1_at 17 = .ok (.arraylength, 1) := by decide +kernel
theorem dX1_at_18 : decode cX1_at 18 = .ok (.if_icmp .ge 12, 3) := by decide +kernel
theorem dX1_at_21 : decode cX1_at 21 = .ok (.aload_n 0, 1) := by decide +kernel
theorem dX1_at_22 : decode cX1_at 22 = .ok (.getfield 15, 3) := by decide +kernel
theorem dX1_at_25 : decode cX1_at 25 = .ok (.iload_n 1, 1) := by decide +kernel
theorem dX1_at_26 : decode cX1_at 26 = .ok (.iaload, 1) := by decide +kernel
theorem dX1_at_27 : decode cX1_at 27 = .ok (.goto 5, 3) := by decide +kernel
theorem dX1_at_30 : decode cX1_at 30 = .ok (.bipush (-4), 2) := by decide +kernel
theorem dX1_at_32 : decode cX1_at 32 = .ok (.ireturn, 1) := by decide +kernel
set_option maxRecDepth 20000 in
theorem ggX1_startsWith_X1_at : GoodIn wsX1_startsWith wsX1_at := goodIn_r _ [6, 1, 7, 8, 9] (by decide +kernel) (by decide +kernel)
set_option maxRecDepth 20000 in
theorem gX1_startsWith_X1_at : GoodIn wsX1_startsWith (wsV RX1 25 RX1 yX1_at wsX1_at) := goodIn_app (goodIn_of _ (by decide +kernel)) ggX1_startsWith_X1_at
theorem dX1_startsWith_0 : decode cX1_startsWith 0 = .ok (.aload_n 1, 1) := by decide +kernel
theorem dX1_startsWith_1 : decode cX1_startsWith 1 = .ok (.getfield 21, 3) := by decide +kernel
theorem dX1_startsWith_4 : decode cX1_startsWith 4 = .ok (.aload_n 0, 1) := by decide +kernel
theorem dX1_startsWith_5 : decode cX1_startsWith 5 = .ok (.getfield 21, 3) := by decide +kernel
theorem dX1_startsWith_8 : decode cX1_startsWith 8 = .ok (.if_icmp .le 5, 3) := by decide +kernel
theorem dX1_startsWith_11 : decode cX1_startsWith 11 = .ok (.iconst 0, 1) := by decide +kernel
theorem dX1_startsWith_12 : decode cX1_startsWith 12 = .ok (.ireturn, 1) := by decide +kernel
theorem dX1_startsWith_13 : decode cX1_startsWith 13 = .ok (.iconst 0, 1) := by decide +kernel
theorem dX1_startsWith_14 : decode cX1_startsWith 14 = .ok (.istore_n 2, 1) := by decide +kernel
theorem dX1_startsWith_15 : decode cX1_startsWith 15 = .ok (.iload_n 2, 1) := by decide +kernel
theorem dX1_startsWith_16 : decode cX1_startsWith 16 = .ok (.aload_n 1, 1) := by decide +kernel
theorem dX1_startsWith_17 : decode cX1_startsWith 17 = .ok (.getfield 21, 3) := by decide +kernel
theorem dX1_startsWith_20 : decode cX1_startsWith 20 = .ok (.if_icmp .ge 24, 3) := by decide +kernel
theorem dX1_startsWith_23 : decode cX1_startsWith 23 = .ok (.aload_n 0, 1) := by decide +kernel
theorem dX1_startsWith_24 : decode cX1_startsWith 24 = .ok (.iload_n 2, 1) := by decide +kernel
theorem dX1_startsWith_25 : decode cX1_startsWith 25 = .ok (.invokevirtual 25, 3) := by decide +kernel
theorem dX1_startsWith_28 : decode cX1_startsWith 28 = .ok (.aload_n 1, 1) := by decide +kernel
theorem dX1_startsWith_29 : decode cX1_startsWith 29 = .ok (.iload_n 2, 1) := by decide +kernel
theorem dX1_startsWith_30 : decode cX1_startsWith 30 = .ok (.invokevirtual 25, 3) := by decide +kernel
theorem dX1_startsWith_33 : decode cX1_startsWith 33 = .ok (.if_icmp .eq 5, 3) := by decide +kernel
theorem dX1_startsWith_36 : decode cX1_startsWith 36 = .ok (.iconst 0, 1) := by decide +kernel
theorem dX1_startsWith_37 : decode cX1_startsWith 37 = .ok (.ireturn, 1) := by decide +kernel
theorem dX1_startsWith_38 : decode cX1_startsWith 38 = .ok (.iinc 2 1, 3) := by decide +kernel
theorem dX1_startsWith_41 : decode cX1_startsWith 41 = .ok (.goto (-26), 3) := by decide +kernel
theorem dX1_startsWith_44 : decode cX1_startsWith 44 = .ok (.iconst 1, 1) := by decide +kernel
theorem dX1_startsWith_45 : decode cX1_startsWith 45 = .ok (.ireturn, 1) := by decide +kernel
set_option maxRecDepth 20000 in
theorem ggX1_becomeTail_X1_empty : GoodIn wsX1_becomeTail wsX1_empty := goodIn_r _ [6, 1, 16, 17] (by decide +kernel) (by decide +kernel)
set_option maxRecDepth 20000 in
theorem gX1_becomeTail_X1_empty : GoodIn wsX1_becomeTail (wsV RX1 29 RX1 yX1_empty wsX1_empty) := goodIn_app (goodIn_of _ (by decide +kernel)) ggX1_becomeTail_X1_empty
set_option maxRecDepth 20000 in
theorem ggX1_becomeTail_X1_at : GoodIn wsX1_becomeTail wsX1_at := goodIn_r _ [10, 1, 11, 16, 17] (by decide +kernel) (by decide +kernel)
set_option maxRecDepth 20000 in
theorem gX1_becomeTail_X1_at : GoodIn wsX1_becomeTail (wsV RX1 25 RX1 yX1_at wsX1_at) := goodIn_app (goodIn_of _ (by decide +kernel)) ggX1_becomeTail_X1_at
set_option maxRecDepth 20000 in
theorem ggX1_becomeTail_X1_append : GoodIn wsX1_becomeTail wsX1_append := goodIn_r _ [15, 1, 11, 16, 17] (by decide +kernel) (by decide +kernel)
set_option maxRecDepth 20000 in
theorem gX1_becomeTail_X1_append : GoodIn wsX1_becomeTail (wsV RX1 32 RX1 yX1_append wsX1_append) := goodIn_app (goodIn_of _ (by decide +kernel)) ggX1_becomeTail_X1_append
theorem dX1_becomeTail_0 : decode cX1_becomeTail 0 = .ok (.aload_n 0, 1) := by decide +kernel
theorem dX1_becomeTail_1 : decode cX1_becomeTail 1 = .ok (.invokevirtual 29, 3) := by decide +kernel
theorem dX1_becomeTail_4 : decode cX1_becomeTail 4 = .ok (.iload_n 2, 1) := by decide +kernel
theorem dX1_becomeTail_5 : decode cX1_becomeTail 5 = .ok (.istore_n 3, 1) := by decide +kernel
theorem dX1_becomeTail_6 : decode cX1_becomeTail 6 = .ok (.iload_n 3, 1) := by decide +kernel
theorem dX1_becomeTail_7 : decode cX1_becomeTail 7 = .ok (.aload_n 1, 1) := by decide +kernel
theorem dX1_becomeTail_8 : decode cX1_becomeTail 8 = .ok (.getfield 21, 3) := by decide +kernel
theorem dX1_becomeTail_11 : decode cX1_becomeTail 11 = .ok (.if_icmp .ge 19, 3) := by decide +kernel
theorem dX1_becomeTail_14 : decode cX1_becomeTail 14 = .ok (.aload_n 0, 1) := by decide +kernel
theorem dX1_becomeTail_15 : decode cX1_becomeTail 15 = .ok (.aload_n 1, 1) := by decide +kernel
theorem dX1_becomeTail_16 : decode cX1_becomeTail 16 = .ok (.iload_n 3, 1) := by decide +kernel
theorem dX1_becomeTail_17 : decode cX1_becomeTail 17 = .ok (.invokevirtual 25, 3) := by decide +kernel
theorem dX1_becomeTail_20 : decode cX1_becomeTail 20 = .ok (.invokevirtual 32, 3) := by decide +kernel
theorem dX1_becomeTail_23 : decode cX1_becomeTail 23 = .ok (.pop, 1) := by decide +kernel
theorem dX1_becomeTail_24 : decode cX1_becomeTail 24 = .ok (.iinc 3 1, 3) := by decide +kernel
theorem dX1_becomeTail_27 : decode cX1_becomeTail 27 = .ok (.goto (-21), 3) := by decide +kernel
theorem dX1_becomeTail_30 : decode cX1_becomeTail 30 = .ok (.return_, 1) := by decide +kernel
theorem dX2_init_0 : decode cX2_init 0 = .ok (.aload_n 0, 1) := by decide +kernel
theorem dX2_init_1 : decode cX2_init 1 = .ok (.invokespecial 3, 3) := by decide +kernel
theorem dX2_init_4 : decode cX2_init 4 = .ok (.return_, 1) := by decide +kernel
theorem dX2_clear_0 : decode cX2_clear 0 = .ok (.aload_n 0, 1) := by decide +kernel
theorem dX2_clear_1 : decode cX2_clear 1 = .ok (.iconst 0, 1) := by decide +kernel
theorem dX2_clear_2 : decode cX2_clear 2 = .ok (.putfield 9, 3) := by decide +kernel
theorem dX2_clear_5 : decode cX2_clear 5 = .ok (.aload_n 0, 1) := by decide +kernel
theorem dX2_clear_6 : decode cX2_clear 6 = .ok (.iconst 0, 1) := by decide +kernel
theorem dX2_clear_7 : decode cX2_clear 7 = .ok (.putfield 15, 3) := by decide +kernel
theorem dX2_clear_10 : decode cX2_clear 10 = .ok (.aload_n 0, 1) := by decide +kernel
theorem dX2_clear_11 : decode cX2_clear 11 = .ok (.iconst 0, 1) := by decide +kernel
theorem dX2_clear_12 : decode cX2_clear 12 = .ok (.putfield 18, 3) := by decide +kernel
theorem dX2_clear_15 : decode cX2_clear 15 = .ok (.return_, 1) := by decide +kernel
theorem dX2_lines_0 : decode cX2_lines 0 = .ok (.aload_n 0, 1) := by decide +kernel
theorem dX2_lines_1 : decode cX2_lines 1 = .ok (.getfield 9, 3) := by decide +kernel
theorem dX2_lines_4 : decode cX2_lines 4 = .ok (.ireturn, 1) := by decide +kernel
theorem dX2_speed_0 : decode cX2_speed 0 = .ok (.aload_n 0, 1) := by decide +kernel
theorem dX2_speed_1 : decode cX2_speed 1 = .ok (.getfield 15, 3) := by decide +kernel
theorem dX2_speed_4 : decode cX2_speed 4 = .ok (.ireturn, 1) := by decide +kernel
theorem dX2_point_0 : decode cX2_point 0 = .ok (.aload_n 0, 1) := by decide +kernel
theorem dX2_point_1 : decode cX2_point 1 = .ok (.getfield 18, 3) := by decide +kernel
theorem dX2_point_4 : decode cX2_point 4 = .ok (.ireturn, 1) := by decide +kernel
theorem dX2_change_0 : decode cX2_change 0 = .ok (.iload_n 1, 1) := by decide +kernel
theorem dX2_change_1 : decode cX2_change 1 = .ok (.iconst 3, 1) := by decide +kernel
theorem dX2_change_2 : decode cX2_change 2 = .ok (.if_icmp .gt 17, 3) := by decide +kernel
theorem dX2_change_5 : decode cX2_change 5 = .ok (.iload_n 2, 1) := by decide +kernel
theorem dX2_change_6 : decode cX2_change 6 = .ok (.iconst 2, 1) := by decide +kernel
theorem dX2_change_7 : decode cX2_change 7 = .ok (.if_icmp .gt 12, 3) := by decide +kernel
theorem dX2_change_10 : decode cX2_change 10 = .ok (.iload_n 2, 1) := by decide +kernel
theorem dX2_change_11 : decode cX2_change 11 = .ok (.ifCond .ne 10, 3) := by decide +kernel
theorem dX2_change_14 : decode cX2_change 14 = .ok (.iload_n 1, 1) := by decide +kernel
theorem dX2_change_15 : decode cX2_change 15 = .ok (.iconst 1, 1) := by decide +kernel
theorem dX2_change_16 : decode cX2_change 16 = .ok (.if_icmp .le 5, 3) := by decide +kernel
theorem dX2_change_19 : decode cX2_change 19 = .ok (.iconst 0, 1) := by decide +kernel
theorem dX2_change_20 : decode cX2_change 20 = .ok (.ireturn, 1) := by decide +kernel
theorem dX2_change_21 : decode cX2_change 21 = .ok (.aload_n 0, 1) := by decide +kernel
theorem dX2_change_22 : decode cX2_change 22 = .ok (.iload_n 1, 1) := by decide +kernel
theorem dX2_change_23 : decode cX2_change 23 = .ok (.putfield 15, 3) := by decide +kernel
theorem dX2_change_26 : decode cX2_change 26 = .ok (.aload_n 0, 1) := by decide +kernel
theorem dX2_change_27 : decode cX2_change 27 = .ok (.iload_n 2, 1) := by decide +kernel
theorem dX2_change_28 : decode cX2_change 28 = .ok (.putfield 9, 3) := by decide +kernel
theorem dX2_change_31 : decode cX2_change 31 = .ok (.iconst 1, 1) := by decide +kernel
theorem dX2_change_32 : decode cX2_change 32 = .ok (.ireturn, 1) := by decide +kernel
theorem dX2_look_0 : decode cX2_look 0 = .ok (.aload_n 0, 1) := by decide +kernel
theorem dX2_look_1 : decode cX2_look 1 = .ok (.iload_n 1, 1) := by decide +kernel
theorem dX2_look_2 : decode cX2_look 2 = .ok (.putfield 18, 3) := by decide +kernel
theorem dX2_look_5 : decode cX2_look 5 = .ok (.return_, 1) := by decide +kernel
theorem dX2_ticksOfBlock_0 : decode cX2_ticksOfBlock 0 = .ok (.iconst 4, 1) := by decide +kernel
theorem dX2_ticksOfBlock_1 : decode cX2_ticksOfBlock 1 = .ok (.aload_n 0, 1) := by decide +kernel
theorem dX2_ticksOfBlock_2 : decode cX2_ticksOfBlock 2 = .ok (.getfield 9, 3) := by decide +kernel
theorem dX2_ticksOfBlock_5 : decode cX2_ticksOfBlock 5 = .ok (.ishr, 1) := by decide +kernel
theorem dX2_ticksOfBlock_6 : decode cX2_ticksOfBlock 6 = .ok (.ireturn, 1) := by decide +kernel
set_option maxRecDepth 20000 in
theorem ggX2_isInWindow_J9_floorMod_7cf53 : GoodIn wsX2_isInWindow wsJ9_floorMod_7cf53 := goodIn_r _ [10] (by decide +kernel) (by decide +kernel)
set_option maxRecDepth 20000 in
theorem gX2_isInWindow_J9_floorMod_7cf53 : GoodIn wsX2_isInWindow (va_wsS RX2 21 yJ9_floorMod_7cf53 wsJ9_floorMod_7cf53) := goodIn_app (goodIn_of _ (by decide +kernel)) ggX2_isInWindow_J9_floorMod_7cf53
theorem dX2_isInWindow_0 : decode cX2_isInWindow 0 = .ok (.iconst 3, 1) := by decide +kernel
theorem dX2_isInWindow_1 : decode cX2_isInWindow 1 = .ok (.iconst 5, 1) := by decide +kernel
theorem dX2_isInWindow_2 : decode cX2_isInWindow 2 = .ok (.aload_n 0, 1) := by decide +kernel
theorem dX2_isInWindow_3 : decode cX2_isInWindow 3 = .ok (.getfield 15, 3) := by decide +kernel
theorem dX2_isInWindow_6 : decode cX2_isInWindow 6 = .ok (.imul, 1) := by decide +kernel
theorem dX2_isInWindow_7 : decode cX2_isInWindow 7 = .ok (.iadd, 1) := by decide +kernel
theorem dX2_isInWindow_8 : decode cX2_isInWindow 8 = .ok (.iload_n 1, 1) := by decide +kernel
theorem dX2_isInWindow_9 : decode cX2_isInWindow 9 = .ok (.iadd, 1) := by decide +kernel
theorem dX2_isInWindow_10 : decode cX2_isInWindow 10 = .ok (.bipush 16, 2) := by decide +kernel
theorem dX2_isInWindow_12 : decode cX2_isInWindow 12 = .ok (.irem, 1) := by decide +kernel
theorem dX2_isInWindow_13 : decode cX2_isInWindow 13 = .ok (.istore_n 2, 1) := by decide +kernel
theorem dX2_isInWindow_14 : decode cX2_isInWindow 14 = .ok (.aload_n 0, 1) := by decide +kernel
theorem dX2_isInWindow_15 : decode cX2_isInWindow 15 = .ok (.getfield 18, 3) := by decide +kernel
theorem dX2_isInWindow_18 : decode cX2_isInWindow 18 = .ok (.iload_n 2, 1) := by decide +kernel
theorem dX2_isInWindow_19 : decode cX2_isInWindow 19 = .ok (.isub, 1) := by decide +kernel
theorem dX2_isInWindow_20 : decode cX2_isInWindow 20 = .ok (.bipush 16, 2) := by decide +kernel
theorem dX2_isInWindow_22 : decode cX2_isInWindow 22 = .ok (.invokestatic 21, 3) := by decide +kernel
theorem dX2_isInWindow_25 : decode cX2_isInWindow 25 = .ok (.istore_n 3, 1) := by decide +kernel
theorem dX2_isInWindow_26 : decode cX2_isInWindow 26 = .ok (.iload_n 3, 1) := by decide +kernel
theorem dX2_isInWindow_27 : decode cX2_isInWindow 27 = .ok (.bipush 16, 2) := by decide +kernel
theorem dX2_isInWindow_29 : decode cX2_isInWindow 29 = .ok (.iload_n 3, 1) := by decide +kernel
theorem dX2_isInWindow_30 : decode cX2_isInWindow 30 = .ok (.isub, 1) := by decide +kernel
theorem dX2_isInWindow_31 : decode cX2_isInWindow 31 = .ok (.invokestatic 27, 3) := by decide +kernel
theorem dX2_isInWindow_34 : decode cX2_isInWindow 34 = .ok (.istore 4, 2) := by decide +kernel
theorem dX2_isInWindow_36 : decode cX2_isInWindow 36 = .ok (.iload 4, 2) := by decide +kernel
theorem dX2_isInWindow_38 : decode cX2_isInWindow 38 = .ok (.bipush 7, 2) := by decide +kernel
theorem dX2_isInWindow_40 : decode cX2_isInWindow 40 = .ok (.iconst 2, 1) := by decide +kernel
theorem dX2_isInWindow_41 : decode cX2_isInWindow 41 = .ok (.aload_n 0, 1) := by decide +kernel
theorem dX2_isInWindow_42 : decode cX2_isInWindow 42 = .ok (.getfield 15, 3) := by decide +kernel
theorem dX2_isInWindow_45 : decode cX2_isInWindow 45 = .ok (.imul, 1) := by decide +kernel
theorem dX2_isInWindow_46 : decode cX2_isInWindow 46 = .ok (.isub, 1) := by decide +kernel
theorem dX2_isInWindow_47 : decode cX2_isInWindow 47 = .ok (.if_icmp .gt 7, 3) := by decide +kernel
theorem dX2_isInWindow_50 : decode cX2_isInWindow 50 = .ok (.iconst 1, 1) := by decide +kernel
theorem dX2_isInWindow_51 : decode cX2_isInWindow 51 = .ok (.goto 4, 3) := by decide +kernel
theorem dX2_isInWindow_54 : decode cX2_isInWindow 54 = .ok (.iconst 0, 1) := by decide +kernel
theorem dX2_isInWindow_55 : decode cX2_isInWindow 55 = .ok (.ireturn, 1) := by decide +kernel
theorem dX3_init_0 : decode cX3_init 0 = .ok (.aload_n 0, 1) := by decide +kernel
theorem dX3_init_1 : decode cX3_init 1 = .ok (.invokespecial 3, 3) := by decide +kernel
theorem dX3_init_4 : decode cX3_init 4 = .ok (.aload_n 0, 1) := by decide +kernel
theorem dX3_init_5 : decode cX3_init 5 = .ok (.bipush 64, 2) := by decide +kernel
theorem dX3_init_7 : decode cX3_init 7 = .ok (.newarray .int, 2) := by decide +kernel
theorem dX3_init_9 : decode cX3_init 9 = .ok (.putfield 9, 3) := by decide +kernel
theorem dX3_init_12 : decode cX3_init 12 = .ok (.aload_n 0, 1) := by decide +kernel
theorem dX3_init_13 : decode cX3_init 13 = .ok (.bipush 64, 2) := by decide +kernel
theorem dX3_init_15 : decode cX3_init 15 = .ok (.newarray .boolean, 2) := by decide +kernel
theorem dX3_init_17 : decode cX3_init 17 = .ok (.putfield 15, 3) := by decide +kernel
theorem dX3_init_20 : decode cX3_init 20 = .ok (.aload_n 0, 1) := by decide +kernel
theorem dX3_init_21 : decode cX3_init 21 = .ok (.bipush 64, 2) := by decide +kernel
theorem dX3_init_23 : decode cX3_init 23 = .ok (.newarray .int, 2) := by decide +kernel
theorem dX3_init_25 : decode cX3_init 25 = .ok (.putfield 19, 3) := by decide +kernel
theorem dX3_init_28 : decode cX3_init 28 = .ok (.return_, 1) := by decide +kernel
theorem dX3_clear_0 : decode cX3_clear 0 = .ok (.aload_n 0, 1) := by decide +kernel
theorem dX3_clear_1 : decode cX3_clear 1 = .ok (.iconst 0, 1) := by decide +kernel
theorem dX3_clear_2 : decode cX3_clear 2 = .ok (.iload_n 1, 1) := by decide +kernel
theorem dX3_clear_3 : decode cX3_clear 3 = .ok (.bipush 64, 2) := by decide +kernel
theorem dX3_clear_5 : decode cX3_clear 5 = .ok (.invokestatic 22, 3) := by decide +kernel
theorem dX3_clear_8 : decode cX3_clear 8 = .ok (.invokestatic 28, 3) := by decide +kernel
theorem dX3_clear_11 : decode cX3_clear 11 = .ok (.putfield 31, 3) := by decide +kernel
theorem dX3_clear_14 : decode cX3_clear 14 = .ok (.aload_n 0, 1) := by decide +kernel
theorem dX3_clear_15 : decode cX3_clear 15 = .ok (.iconst 1, 1) := by decide +kernel
theorem dX3_clear_16 : decode cX3_clear 16 = .ok (.iload_n 2, 1) := by decide +kernel
theorem dX3_clear_17 : decode cX3_clear 17 = .ok (.invokestatic 28, 3) := by decide +kernel
theorem dX3_clear_20 : decode cX3_clear 20 = .ok (.putfield 35, 3) := by decide +kernel
theorem dX3_clear_23 : decode cX3_clear 23 = .ok (.aload_n 0, 1) := by decide +kernel
theorem dX3_clear_24 : decode cX3_clear 24 = .ok (.iconst 0, 1) := by decide +kernel
theorem dX3_clear_25 : decode cX3_clear 25 = .ok (.putfield 38, 3) := by decide +kernel
theorem dX3_clear_28 : decode cX3_clear 28 = .ok (.iconst 0, 1) := by decide +kernel
theorem dX3_clear_29 : decode cX3_clear 29 = .ok (.istore_n 3, 1) := by decide +kernel
theorem dX3_clear_30 : decode cX3_clear 30 = .ok (.iload_n 3, 1) := by decide +kernel
theorem dX3_clear_31 : decode cX3_clear 31 = .ok (.bipush 64, 2) := by decide +kernel
theorem dX3_clear_33 : decode cX3_clear 33 = .ok (.if_icmp .ge 24, 3) := by decide +kernel
theorem dX3_clear_36 : decode cX3_clear 36 = .ok (.aload_n 0, 1) := by decide +kernel
theorem dX3_clear_37 : decode cX3_clear 37 = .ok (.getfield 9, 3) := by decide +kernel
theorem dX3_clear_40 : decode cX3_clear 40 = .ok (.iload_n 3, 1) := by decide +kernel
theorem dX3_clear_41 : decode cX3_clear 41 = .ok (.ldc 41, 2) := by decide +kernel
theorem dX3_clear_43 : decode cX3_clear 43 = .ok (.iastore, 1) := by decide +kernel
theorem dX3_clear_44 : decode cX3_clear 44 = .ok (.aload_n 0, 1) := by decide +kernel
theorem dX3_clear_45 : decode cX3_clear 45 = .ok (.getfield 15, 3) := by decide +kernel
theorem dX3_clear_48 : decode cX3_clear 48 = .ok (.iload_n 3, 1) := by decide +kernel
theorem dX3_clear_49 : decode cX3_clear 49 = .ok (.iconst 0, 1) := by decide +kernel
theorem dX3_clear_50 : decode cX3_clear 50 = .ok (.bastore, 1) := by decide +kernel
theorem dX3_clear_51 : decode cX3_clear 51 = .ok (.iinc 3 1, 3) := by decide +kernel
theorem dX3_clear_54 : decode cX3_clear 54 = .ok (.goto (-24), 3) := by decide +kernel
theorem dX3_clear_57 : decode cX3_clear 57 = .ok (.return_, 1) := by decide +kernel
theorem dX3_size_0 : decode cX3_size 0 = .ok (.aload_n 0, 1) := by decide +kernel
theorem dX3_size_1 : decode cX3_size 1 = .ok (.getfield 31, 3) := by decide +kernel
theorem dX3_size_4 : decode cX3_size 4 = .ok (.ireturn, 1) := by decide +kernel
theorem dX3_groupSize_0 : decode cX3_groupSize 0 = .ok (.aload_n 0, 1) := by decide +kernel
theorem dX3_groupSize_1 : decode cX3_groupSize 1 = .ok (.getfield 35, 3) := by decide +kernel
theorem dX3_groupSize_4 : decode cX3_groupSize 4 = .ok (.ireturn, 1) := by decide +kernel
theorem dX3_has_0 : decode cX3_has 0 = .ok (.iload_n 1, 1) := by decide +kernel
theorem dX3_has_1 : decode cX3_has 1 = .ok (.ifCond .lt 15, 3) := by decide +kernel
theorem dX3_has_4 : decode cX3_has 4 = .ok (.iload_n 1, 1) := by decide +kernel
theorem dX3_has_5 : decode cX3_has 5 = .ok (.aload_n 0, 1) := by decide +kernel
theorem dX3_has_6 : decode cX3_has 6 = .ok (.getfield 31, 3) := by decide +kernel
theorem dX3_has_9 : decode cX3_has 9 = .ok (.if_icmp .ge 7, 3) := by decide +kernel
theorem dX3_has_12 : decode cX3_has 12 = .ok (.iconst 1, 1) := by decide +kernel
theorem dX3_has_13 : decode cX3_has 13 = .ok (.goto 4, 3) := by decide +kernel
theorem dX3_has_16 : decode cX3_has 16 = .ok (.iconst 0, 1) := by decide +kernel
theorem dX3_has_17 : decode cX3_has 17 = .ok (.ireturn, 1) := by decide +kernel
theorem dX3_groupOf_0 : decode cX3_groupOf 0 = .ok (.aload_n 0, 1) := by decide +kernel
theorem dX3_groupOf_1 : decode cX3_groupOf 1 = .ok (.getfield 35, 3) := by decide +kernel
theorem dX3_groupOf_4 : decode cX3_groupOf 4 = .ok (.ifCond .le 12, 3) := by decide +kernel
theorem dX3_groupOf_7 : decode cX3_groupOf 7 = .ok (.iload_n 1, 1) := by decide +kernel
theorem dX3_groupOf_8 : decode cX3_groupOf 8 = .ok (.aload_n 0, 1) := by decide +kernel
theorem dX3_groupOf_9 : decode cX3_groupOf 9 = .ok (.getfield 35, 3) := by decide +kernel
theorem dX3_groupOf_12 : decode cX3_groupOf 12 = .ok (.idiv, 1) := by decide +kernel
theorem dX3_groupOf_13 : decode cX3_groupOf 13 = .ok (.goto 4, 3) := by decide +kernel
theorem dX3_groupOf_16 : decode cX3_groupOf 16 = .ok (.iconst 0, 1) := by decide +kernel
theorem dX3_groupOf_17 : decode cX3_groupOf 17 = .ok (.ireturn, 1) := by decide +kernel
set_option maxRecDepth 20000 in
theorem ggX3_contentOf_X3_has : GoodIn wsX3_contentOf wsX3_has := goodIn_r _ [7, 8, 9, 10, 11, 12, 13, 14] (by decide +kernel) (by decide +kernel)
set_option maxRecDepth 20000 in
theorem gX3_contentOf_X3_has : GoodIn wsX3_contentOf (wsV RX3 42 RX3 yX3_has wsX3_has) := goodIn_app (goodIn_of _ (by decide +kernel)) ggX3_contentOf_X3_has
theorem dX3_contentOf_0 : decode cX3_contentOf 0 = .ok (.aload_n 0, 1) := by decide +kernel
theorem dX3_contentOf_1 : decode cX3_contentOf 1 = .ok (.iload_n 1, 1) := by decide +kernel
theorem dX3_contentOf_2 : decode cX3_contentOf 2 = .ok (.invokevirtual 42, 3) := by decide +kernel
theorem dX3_contentOf_5 : decode cX3_contentOf 5 = .ok (.ifCond .eq 12, 3) := by decide +kernel
theorem dX3_contentOf_8 : decode cX3_contentOf 8 = .ok (.aload_n 0, 1) := by decide +kernel
theorem dX3_contentOf_9 : decode cX3_contentOf 9 = .ok (.getfield 9, 3) := by decide +kernel
theorem dX3_contentOf_12 : decode cX3_contentOf 12 = .ok (.iload_n 1, 1) := by decide +kernel
theorem dX3_contentOf_13 : decode cX3_contentOf 13 = .ok (.iaload, 1) := by decide +kernel
theorem dX3_contentOf_14 : decode cX3_contentOf 14 = .ok (.goto 5, 3) := by decide +kernel
theorem dX3_contentOf_17 : decode cX3_contentOf 17 = .ok (.ldc 41, 2) := by decide +kernel
theorem dX3_contentOf_19 : decode cX3_contentOf 19 = .ok (.ireturn, 1) := by decide +kernel
set_option maxRecDepth 20000 in
theorem ggX3_isTorn_X3_has : GoodIn wsX3_isTorn wsX3_has := goodIn_r _ [6, 7, 8, 9, 10, 11, 12, 13] (by decide +kernel) (by decide +kernel)
set_option maxRecDepth 20000 in
theorem gX3_isTorn_X3_has : GoodIn wsX3_isTorn (wsV RX3 42 RX3 yX3_has wsX3_has) := goodIn_app (goodIn_of _ (by decide +kernel)) ggX3_isTorn_X3_has
theorem dX3_isTorn_0 : decode cX3_isTorn 0 = .ok (.aload_n 0, 1) := by decide +kernel
theorem dX3_isTorn_1 : decode cX3_isTorn 1 = .ok (.iload_n 1, 1) := by decide +kernel
theorem dX3_isTorn_2 : decode cX3_isTorn 2 = .ok (.invokevirtual 42, 3) := by decide +kernel
theorem dX3_isTorn_5 : decode cX3_isTorn 5 = .ok (.ifCond .eq 16, 3) := by decide +kernel
theorem dX3_isTorn_8 : decode cX3_isTorn 8 = .ok (.aload_n 0, 1) := by decide +kernel
theorem dX3_isTorn_9 : decode cX3_isTorn 9 = .ok (.getfield 15, 3) := by decide +kernel
theorem dX3_isTorn_12 : decode cX3_isTorn 12 = .ok (.iload_n 1, 1) := by decide +kernel
theorem dX3_isTorn_13 : decode cX3_isTorn 13 = .ok (.baload, 1) := by decide +kernel
theorem dX3_isTorn_14 : decode cX3_isTorn 14 = .ok (.ifCond .eq 7, 3) := by decide +kernel
theorem dX3_isTorn_17 : decode cX3_isTorn 17 = .ok (.iconst 1, 1) := by decide +kernel
theorem dX3_isTorn_18 : decode cX3_isTorn 18 = .ok (.goto 4, 3) := by decide +kernel
theorem dX3_isTorn_21 : decode cX3_isTorn 21 = .ok (.iconst 0, 1) := by decide +kernel
theorem dX3_isTorn_22 : decode cX3_isTorn 22 = .ok (.ireturn, 1) := by decide +kernel
theorem dX3_writtenAt_0 : decode cX3_writtenAt 0 = .ok (.iload_n 1, 1) := by decide +kernel
theorem dX3_writtenAt_1 : decode cX3_writtenAt 1 = .ok (.ifCond .lt 26, 3) := by decide +kernel
theorem dX3_writtenAt_4 : decode cX3_writtenAt 4 = .ok (.iload_n 1, 1) := by decide +kernel
theorem dX3_writtenAt_5 : decode cX3_writtenAt 5 = .ok (.aload_n 0, 1) := by decide +kernel
theorem dX3_writtenAt_6 : decode cX3_writtenAt 6 = .ok (.getfield 38, 3) := by decide +kernel
theorem dX3_writtenAt_9 : decode cX3_writtenAt 9 = .ok (.if_icmp .ge 18, 3) := by decide +kernel
theorem dX3_writtenAt_12 : decode cX3_writtenAt 12 = .ok (.iload_n 1, 1) := by decide +kernel
theorem dX3_writtenAt_13 : decode cX3_writtenAt 13 = .ok (.bipush 64, 2) := by decide +kernel
theorem dX3_writtenAt_15 : decode cX3_writtenAt 15 = .ok (.if_icmp .ge 12, 3) := by decide +kernel
theorem dX3_writtenAt_18 : decode cX3_writtenAt 18 = .ok (.aload_n 0, 1) := by decide +kernel
theorem dX3_writtenAt_19 : decode cX3_writtenAt 19 = .ok (.getfield 19, 3) := by decide +kernel
theorem dX3_writtenAt_22 : decode cX3_writtenAt 22 = .ok (.iload_n 1, 1) := by decide +kernel
theorem dX3_writtenAt_23 : decode cX3_writtenAt 23 = .ok (.iaload, 1) := by decide +kernel
theorem dX3_writtenAt_24 : decode cX3_writtenAt 24 = .ok (.goto 5, 3) := by decide +kernel
theorem dX3_writtenAt_27 : decode cX3_writtenAt 27 = .ok (.bipush (-4), 2) := by decide +kernel
theorem dX3_writtenAt_29 : decode cX3_writtenAt 29 = .ok (.ireturn, 1) := by decide +kernel
set_option maxRecDepth 20000 in
theorem ggX3_put_X3_has : GoodIn wsX3_put wsX3_has := goodIn_r _ [7, 8, 19, 20, 21, 22, 23, 24] (by decide +kernel) (by decide +kernel)
set_option maxRecDepth 20000 in
theorem gX3_put_X3_has : GoodIn wsX3_put (wsV RX3 42 RX3 yX3_has wsX3_has) := goodIn_app (goodIn_of _ (by decide +kernel)) ggX3_put_X3_has
set_option maxRecDepth 20000 in
theorem ggX3_put_X3_dropWritten : GoodIn wsX3_put wsX3_dropWritten := goodIn_r _ [12, 13, 14, 19, 20, 21, 22, 23, 24] (by decide +kernel) (by decide +kernel)
set_option maxRecDepth 20000 in
theorem gX3_put_X3_dropWritten : GoodIn wsX3_put (wsV RX3 46 RX3 yX3_dropWritten wsX3_dropWritten) := goodIn_app (goodIn_of _ (by decide +kernel)) ggX3_put_X3_dropWritten
set_option maxRecDepth 20000 in
theorem ggX3_put_X3_addWrittenFirst : GoodIn wsX3_put wsX3_addWrittenFirst := goodIn_r _ [18, 13, 14, 19, 20, 21, 22, 23, 24] (by decide +kernel) (by decide +kernel)
set_option maxRecDepth 20000 in
theorem gX3_put_X3_addWrittenFirst : GoodIn wsX3_put (wsV RX3 50 RX3 yX3_addWrittenFirst wsX3_addWrittenFirst) := goodIn_app (goodIn_of _ (by decide +kernel)) ggX3_put_X3_addWrittenFirst
theorem dX3_put_0 : decode cX3_put 0 = .ok (.aload_n 0, 1) := by decide +kernel
theorem dX3_put_1 : decode cX3_put 1 = .ok (.iload_n 1, 1) := by decide +kernel
theorem dX3_put_2 : decode cX3_put 2 = .ok (.invokevirtual 42, 3) := by decide +kernel
theorem dX3_put_5 : decode cX3_put 5 = .ok (.ifCond .ne 4, 3) := by decide +kernel
theorem dX3_put_8 : decode cX3_put 8 = .ok (.return_, 1) := by decide +kernel
theorem dX3_put_9 : decode cX3_put 9 = .ok (.aload_n 0, 1) := by decide +kernel
theorem dX3_put_10 : decode cX3_put 10 = .ok (.getfield 9, 3) := by decide +kernel
theorem dX3_put_13 : decode cX3_put 13 = .ok (.iload_n 1, 1) := by decide +kernel
theorem dX3_put_14 : decode cX3_put 14 = .ok (.iload_n 2, 1) := by decide +kernel
theorem dX3_put_15 : decode cX3_put 15 = .ok (.iastore, 1) := by decide +kernel
theorem dX3_put_16 : decode cX3_put 16 = .ok (.aload_n 0, 1) := by decide +kernel
theorem dX3_put_17 : decode cX3_put 17 = .ok (.getfield 15, 3) := by decide +kernel
theorem dX3_put_20 : decode cX3_put 20 = .ok (.iload_n 1, 1) := by decide +kernel
theorem dX3_put_21 : decode cX3_put 21 = .ok (.iconst 0, 1) := by decide +kernel
theorem dX3_put_22 : decode cX3_put 22 = .ok (.bastore, 1) := by decide +kernel
theorem dX3_put_23 : decode cX3_put 23 = .ok (.aload_n 0, 1) := by decide +kernel
theorem dX3_put_24 : decode cX3_put 24 = .ok (.iload_n 1, 1) := by decide +kernel
theorem dX3_put_25 : decode cX3_put 25 = .ok (.iload_n 1, 1) := by decide +kernel
theorem dX3_put_26 : decode cX3_put 26 = .ok (.iconst 1, 1) := by decide +kernel
theorem dX3_put_27 : decode cX3_put 27 = .ok (.iadd, 1) := by decide +kernel
theorem dX3_put_28 : decode cX3_put 28 = .ok (.invokevirtual 46, 3) := by decide +kernel
theorem dX3_put_31 : decode cX3_put 31 = .ok (.aload_n 0, 1) := by decide +kernel
theorem dX3_put_32 : decode cX3_put 32 = .ok (.iload_n 1, 1) := by decide +kernel
theorem dX3_put_33 : decode cX3_put 33 = .ok (.invokevirtual 50, 3) := by decide +kernel
theorem dX3_put_36 : decode cX3_put 36 = .ok (.return_, 1) := by decide +kernel
set_option maxRecDepth 20000 in
theorem ggX3_tear_X3_blank : GoodIn wsX3_tear wsX3_blank := goodIn_r _ [5, 6, 7, 8, 9, 10, 11, 12, 13, 14, 15, 16, 17, 18, 19, 4, 20, 21, 22, 23, 24, 25, 26, 27, 28] (by decide +kernel) (by decide +kernel)
set_option maxRecDepth 20000 in
theorem gX3_tear_X3_blank : GoodIn wsX3_tear (wsV RX3 54 RX3 yX3_blank wsX3_blank) := goodIn_app (goodIn_of _ (by decide +kernel)) ggX3_tear_X3_blank
theorem dX3_tear_0 : decode cX3_tear 0 = .ok (.aload_n 0, 1) := by decide +kernel
theorem dX3_tear_1 : decode cX3_tear 1 = .ok (.iload_n 1, 1) := by decide +kernel
theorem dX3_tear_2 : decode cX3_tear 2 = .ok (.iconst 1, 1) := by decide +kernel
theorem dX3_tear_3 : decode cX3_tear 3 = .ok (.iconst 1, 1) := by decide +kernel
theorem dX3_tear_4 : decode cX3_tear 4 = .ok (.invokevirtual 54, 3) := by decide +kernel
theorem dX3_tear_7 : decode cX3_tear 7 = .ok (.return_, 1) := by decide +kernel
set_option maxRecDepth 20000 in
theorem ggX3_tearGroup_X3_blank : GoodIn wsX3_tearGroup wsX3_blank := goodIn_r _ [6, 7, 8, 9, 10, 11, 12, 13, 14, 15, 16, 17, 18, 19, 20, 5, 21, 22, 23, 24, 25, 26, 27, 28, 29] (by decide +kernel) (by decide +kernel)
set_option maxRecDepth 20000 in
theorem gX3_tearGroup_X3_blank : GoodIn wsX3_tearGroup (wsV RX3 54 RX3 yX3_blank wsX3_blank) := goodIn_app (goodIn_of _ (by decide +kernel)) ggX3_tearGroup_X3_blank
theorem dX3_tearGroup_0 : decode cX3_tearGroup 0 = .ok (.aload_n 0, 1) := by decide +kernel
theorem dX3_tearGroup_1 : decode cX3_tearGroup 1 = .ok (.iload_n 1, 1) := by decide +kernel
theorem dX3_tearGroup_2 : decode cX3_tearGroup 2 = .ok (.aload_n 0, 1) := by decide +kernel
theorem dX3_tearGroup_3 : decode cX3_tearGroup 3 = .ok (.getfield 35, 3) := by decide +kernel
theorem dX3_tearGroup_6 : decode cX3_tearGroup 6 = .ok (.imul, 1) := by decide +kernel
theorem dX3_tearGroup_7 : decode cX3_tearGroup 7 = .ok (.aload_n 0, 1) := by decide +kernel
theorem dX3_tearGroup_8 : decode cX3_tearGroup 8 = .ok (.getfield 35, 3) := by decide +kernel
theorem dX3_tearGroup_11 : decode cX3_tearGroup 11 = .ok (.iconst 1, 1) := by decide +kernel
theorem dX3_tearGroup_12 : decode cX3_tearGroup 12 = .ok (.invokevirtual 54, 3) := by decide +kernel
theorem dX3_tearGroup_15 : decode cX3_tearGroup 15 = .ok (.return_, 1) := by decide +kernel
set_option maxRecDepth 20000 in
theorem ggX3_eraseGroup_X3_blank : GoodIn wsX3_eraseGroup wsX3_blank := goodIn_r _ [6, 7, 8, 9, 10, 11, 12, 13, 14, 15, 16, 17, 18, 19, 20, 5, 21, 22, 23, 24, 25, 26, 27, 28, 29] (by decide +kernel) (by decide +kernel)
set_option maxRecDepth 20000 in
theorem gX3_eraseGroup_X3_blank : GoodIn wsX3_eraseGroup (wsV RX3 54 RX3 yX3_blank wsX3_blank) := goodIn_app (goodIn_of _ (by decide +kernel)) ggX3_eraseGroup_X3_blank
theorem dX3_eraseGroup_0 : decode cX3_eraseGroup 0 = .ok (.aload_n 0, 1) := by decide +kernel
theorem dX3_eraseGroup_1 : decode cX3_eraseGroup 1 = .ok (.iload_n 1, 1) := by decide +kernel
theorem dX3_eraseGroup_2 : decode cX3_eraseGroup 2 = .ok (.aload_n 0, 1) := by decide +kernel
theorem dX3_eraseGroup_3 : decode cX3_eraseGroup 3 = .ok (.getfield 35, 3) := by decide +kernel
theorem dX3_eraseGroup_6 : decode cX3_eraseGroup 6 = .ok (.imul, 1) := by decide +kernel
theorem dX3_eraseGroup_7 : decode cX3_eraseGroup 7 = .ok (.aload_n 0, 1) := by decide +kernel
theorem dX3_eraseGroup_8 : decode cX3_eraseGroup 8 = .ok (.getfield 35, 3) := by decide +kernel
theorem dX3_eraseGroup_11 : decode cX3_eraseGroup 11 = .ok (.iconst 0, 1) := by decide +kernel
theorem dX3_eraseGroup_12 : decode cX3_eraseGroup 12 = .ok (.invokevirtual 54, 3) := by decide +kernel
theorem dX3_eraseGroup_15 : decode cX3_eraseGroup 15 = .ok (.return_, 1) := by decide +kernel
set_option maxRecDepth 20000 in
theorem ggX3_tornBlocks_X3_isTorn : GoodIn wsX3_tornBlocks wsX3_isTorn := goodIn_r _ [6, 7, 8, 9, 10, 5, 11, 1, 15, 16, 17, 18, 19, 20] (by decide +kernel) (by decide +kernel)
set_option maxRecDepth 20000 in
theorem gX3_tornBlocks_X3_isTorn : GoodIn wsX3_tornBlocks (wsV RX3 58 RX3 yX3_isTorn wsX3_isTorn) := goodIn_app (goodIn_of _ (by decide +kernel)) ggX3_tornBlocks_X3_isTorn
set_option maxRecDepth 20000 in
theorem ggX3_tornBlocks_X6_asNumber : GoodIn wsX3_tornBlocks wsX6_asNumber := goodIn_r _ [14] (by decide +kernel) (by decide +kernel)
set_option maxRecDepth 20000 in
theorem gX3_tornBlocks_X6_asNumber_n61 : GoodIn wsX3_tornBlocks (wsX6_asNumber) := ggX3_tornBlocks_X6_asNumber
theorem dX3_tornBlocks_0 : decode cX3_tornBlocks 0 = .ok (.iconst 0, 1) := by decide +kernel
theorem dX3_tornBlocks_1 : decode cX3_tornBlocks 1 = .ok (.istore_n 1, 1) := by decide +kernel
theorem dX3_tornBlocks_2 : decode cX3_tornBlocks 2 = .ok (.iconst 0, 1) := by decide +kernel
theorem dX3_tornBlocks_3 : decode cX3_tornBlocks 3 = .ok (.istore_n 2, 1) := by decide +kernel
theorem dX3_tornBlocks_4 : decode cX3_tornBlocks 4 = .ok (.iload_n 2, 1) := by decide +kernel
theorem dX3_tornBlocks_5 : decode cX3_tornBlocks 5 = .ok (.aload_n 0, 1) := by decide +kernel
theorem dX3_tornBlocks_6 : decode cX3_tornBlocks 6 = .ok (.getfield 31, 3) := by decide +kernel
theorem dX3_tornBlocks_9 : decode cX3_tornBlocks 9 = .ok (.if_icmp .ge 20, 3) := by decide +kernel
theorem dX3_tornBlocks_12 : decode cX3_tornBlocks 12 = .ok (.iload_n 1, 1) := by decide +kernel
theorem dX3_tornBlocks_13 : decode cX3_tornBlocks 13 = .ok (.aload_n 0, 1) := by decide +kernel
theorem dX3_tornBlocks_14 : decode cX3_tornBlocks 14 = .ok (.iload_n 2, 1) := by decide +kernel
theorem dX3_tornBlocks_15 : decode cX3_tornBlocks 15 = .ok (.invokevirtual 58, 3) := by decide +kernel
theorem dX3_tornBlocks_18 : decode cX3_tornBlocks 18 = .ok (.invokestatic 61, 3) := by decide +kernel
theorem dX3_tornBlocks_21 : decode cX3_tornBlocks 21 = .ok (.iadd, 1) := by decide +kernel
theorem dX3_tornBlocks_22 : decode cX3_tornBlocks 22 = .ok (.istore_n 1, 1) := by decide +kernel
theorem dX3_tornBlocks_23 : decode cX3_tornBlocks 23 = .ok (.iinc 2 1, 3) := by decide +kernel
theorem dX3_tornBlocks_26 : decode cX3_tornBlocks 26 = .ok (.goto (-22), 3) := by decide +kernel
theorem dX3_tornBlocks_29 : decode cX3_tornBlocks 29 = .ok (.iload_n 1, 1) := by decide +kernel
theorem dX3_tornBlocks_30 : decode cX3_tornBlocks 30 = .ok (.ireturn, 1) := by decide +kernel
set_option maxRecDepth 20000 in
theorem ggX3_filledBlocks_X3_contentOf : GoodIn wsX3_filledBlocks wsX3_contentOf := goodIn_r _ [7, 8, 2, 9, 10, 11, 6, 12, 1, 16, 17, 18, 19, 20, 21] (by decide +kernel) (by decide +kernel)
set_option maxRecDepth 20000 in
theorem gX3_filledBlocks_X3_contentOf : GoodIn wsX3_filledBlocks (wsV RX3 65 RX3 yX3_contentOf wsX3_contentOf) := goodIn_app (goodIn_of _ (by decide +kernel)) ggX3_filledBlocks_X3_contentOf
set_option maxRecDepth 20000 in
theorem ggX3_filledBlocks_X6_asNumber : GoodIn wsX3_filledBlocks wsX6_asNumber := goodIn_r _ [15] (by decide +kernel) (by decide +kernel)
set_option maxRecDepth 20000 in
theorem gX3_filledBlocks_X6_asNumber_n61 : GoodIn wsX3_filledBlocks (wsX6_asNumber) := ggX3_filledBlocks_X6_asNumber
theorem dX3_filledBlocks_0 : decode cX3_filledBlocks 0 = .ok (.iconst 0, 1) := by decide +kernel
theorem dX3_filledBlocks_1 : decode cX3_filledBlocks 1 = .ok (.istore_n 1, 1) := by decide +kernel
theorem dX3_filledBlocks_2 : decode cX3_filledBlocks 2 = .ok (.iconst 0, 1) := by decide +kernel
theorem dX3_filledBlocks_3 : decode cX3_filledBlocks 3 = .ok (.istore_n 2, 1) := by decide +kernel
theorem dX3_filledBlocks_4 : decode cX3_filledBlocks 4 = .ok (.iload_n 2, 1) := by decide +kernel
theorem dX3_filledBlocks_5 : decode cX3_filledBlocks 5 = .ok (.aload_n 0, 1) := by decide +kernel
theorem dX3_filledBlocks_6 : decode cX3_filledBlocks 6 = .ok (.getfield 31, 3) := by decide +kernel
theorem dX3_filledBlocks_9 : decode cX3_filledBlocks 9 = .ok (.if_icmp .ge 30, 3) := by decide +kernel
theorem dX3_filledBlocks_12 : decode cX3_filledBlocks 12 = .ok (.iload_n 1, 1) := by decide +kernel
theorem dX3_filledBlocks_13 : decode cX3_filledBlocks 13 = .ok (.aload_n 0, 1) := by decide +kernel
theorem dX3_filledBlocks_14 : decode cX3_filledBlocks 14 = .ok (.iload_n 2, 1) := by decide +kernel
theorem dX3_filledBlocks_15 : decode cX3_filledBlocks 15 = .ok (.invokevirtual 65, 3) := by decide +kernel
theorem dX3_filledBlocks_18 : decode cX3_filledBlocks 18 = .ok (.ldc 41, 2) := by decide +kernel
theorem dX3_filledBlocks_20 : decode cX3_filledBlocks 20 = .ok (.if_icmp .eq 7, 3) := by decide +kernel
theorem dX3_filledBlocks_23 : decode cX3_filledBlocks 23 = .ok (.iconst 1, 1) := by decide +kernel
theorem dX3_filledBlocks_24 : decode cX3_filledBlocks 24 = .ok (.goto 4, 3) := by decide +kernel
theorem dX3_filledBlocks_27 : decode cX3_filledBlocks 27 = .ok (.iconst 0, 1) := by decide +kernel
theorem dX3_filledBlocks_28 : decode cX3_filledBlocks 28 = .ok (.invokestatic 61, 3) := by decide +kernel
theorem dX3_filledBlocks_31 : decode cX3_filledBlocks 31 = .ok (.iadd, 1) := by decide +kernel
theorem dX3_filledBlocks_32 : decode cX3_filledBlocks 32 = .ok (.istore_n 1, 1) := by decide +kernel
theorem dX3_filledBlocks_33 : decode cX3_filledBlocks 33 = .ok (.iinc 2 1, 3) := by decide +kernel
theorem dX3_filledBlocks_36 : decode cX3_filledBlocks 36 = .ok (.goto (-32), 3) := by decide +kernel
theorem dX3_filledBlocks_39 : decode cX3_filledBlocks 39 = .ok (.iload_n 1, 1) := by decide +kernel
theorem dX3_filledBlocks_40 : decode cX3_filledBlocks 40 = .ok (.ireturn, 1) := by decide +kernel
set_option maxRecDepth 20000 in
theorem ggX3_blank_X3_dropWritten : GoodIn wsX3_blank wsX3_dropWritten := goodIn_r _ [16, 17, 18, 19, 20, 21, 22, 23, 24] (by decide +kernel) (by decide +kernel)
set_option maxRecDepth 20000 in
theorem gX3_blank_X3_dropWritten : GoodIn wsX3_blank (wsV RX3 46 RX3 yX3_dropWritten wsX3_dropWritten) := goodIn_app (goodIn_of _ (by decide +kernel)) ggX3_blank_X3_dropWritten
theorem dX3_blank_0 : decode cX3_blank 0 = .ok (.iload_n 1, 1) := by decide +kernel
theorem dX3_blank_1 : decode cX3_blank 1 = .ok (.iload_n 2, 1) := by decide +kernel
theorem dX3_blank_2 : decode cX3_blank 2 = .ok (.iadd, 1) := by decide +kernel
theorem dX3_blank_3 : decode cX3_blank 3 = .ok (.aload_n 0, 1) := by decide +kernel
theorem dX3_blank_4 : decode cX3_blank 4 = .ok (.getfield 31, 3) := by decide +kernel
theorem dX3_blank_7 : decode cX3_blank 7 = .ok (.invokestatic 22, 3) := by decide +kernel
theorem dX3_blank_10 : decode cX3_blank 10 = .ok (.istore 4, 2) := by decide +kernel
theorem dX3_blank_12 : decode cX3_blank 12 = .ok (.iconst 0, 1) := by decide +kernel
theorem dX3_blank_13 : decode cX3_blank 13 = .ok (.iload_n 1, 1) := by decide +kernel
theorem dX3_blank_14 : decode cX3_blank 14 = .ok (.invokestatic 28, 3) := by decide +kernel
theorem dX3_blank_17 : decode cX3_blank 17 = .ok (.istore 5, 2) := by decide +kernel
theorem dX3_blank_19 : decode cX3_blank 19 = .ok (.iload 5, 2) := by decide +kernel
theorem dX3_blank_21 : decode cX3_blank 21 = .ok (.iload 4, 2) := by decide +kernel
theorem dX3_blank_23 : decode cX3_blank 23 = .ok (.if_icmp .ge 26, 3) := by decide +kernel
theorem dX3_blank_26 : decode cX3_blank 26 = .ok (.aload_n 0, 1) := by decide +kernel
theorem dX3_blank_27 : decode cX3_blank 27 = .ok (.getfield 9, 3) := by decide +kernel
theorem dX3_blank_30 : decode cX3_blank 30 = .ok (.iload 5, 2) := by decide +kernel
theorem dX3_blank_32 : decode cX3_blank 32 = .ok (.ldc 41, 2) := by decide +kernel
theorem dX3_blank_34 : decode cX3_blank 34 = .ok (.iastore, 1) := by decide +kernel
theorem dX3_blank_35 : decode cX3_blank 35 = .ok (.aload_n 0, 1) := by decide +kernel
theorem dX3_blank_36 : decode cX3_blank 36 = .ok (.getfield 15, 3) := by decide +kernel
theorem dX3_blank_39 : decode cX3_blank 39 = .ok (.iload 5, 2) := by decide +kernel
theorem dX3_blank_41 : decode cX3_blank 41 = .ok (.iload_n 3, 1) := by decide +kernel
theorem dX3_blank_42 : decode cX3_blank 42 = .ok (.bastore, 1) := by decide +kernel
theorem dX3_blank_43 : decode cX3_blank 43 = .ok (.iinc 5 1, 3) := by decide +kernel
theorem dX3_blank_46 : decode cX3_blank 46 = .ok (.goto (-27), 3) := by decide +kernel
theorem dX3_blank_49 : decode cX3_blank 49 = .ok (.aload_n 0, 1) := by decide +kernel
theorem dX3_blank_50 : decode cX3_blank 50 = .ok (.iload_n 1, 1) := by decide +kernel
theorem dX3_blank_51 : decode cX3_blank 51 = .ok (.iload 4, 2) := by decide +kernel
theorem dX3_blank_53 : decode cX3_blank 53 = .ok (.invokevirtual 46, 3) := by decide +kernel
theorem dX3_blank_56 : decode cX3_blank 56 = .ok (.return_, 1) := by decide +kernel
theorem dX3_dropWritten_0 : decode cX3_dropWritten 0 = .ok (.iconst 0, 1) := by decide +kernel
theorem dX3_dropWritten_1 : decode cX3_dropWritten 1 = .ok (.istore_n 3, 1) := by decide +kernel
theorem dX3_dropWritten_2 : decode cX3_dropWritten 2 = .ok (.iconst 0, 1) := by decide +kernel
theorem dX3_dropWritten_3 : decode cX3_dropWritten 3 = .ok (.istore 4, 2) := by decide +kernel
theorem dX3_dropWritten_5 : decode cX3_dropWritten 5 = .ok (.iload 4, 2) := by decide +kernel
theorem dX3_dropWritten_7 : decode cX3_dropWritten 7 = .ok (.aload_n 0, 1) := by decide +kernel
theorem dX3_dropWritten_8 : decode cX3_dropWritten 8 = .ok (.getfield 38, 3) := by decide +kernel
theorem dX3_dropWritten_11 : decode cX3_dropWritten 11 = .ok (.if_icmp .ge 54, 3) := by decide +kernel
theorem dX3_dropWritten_14 : decode cX3_dropWritten 14 = .ok (.iload 4, 2) := by decide +kernel
theorem dX3_dropWritten_16 : decode cX3_dropWritten 16 = .ok (.bipush 64, 2) := by decide +kernel
theorem dX3_dropWritten_18 : decode cX3_dropWritten 18 = .ok (.if_icmp .ge 47, 3) := by decide +kernel
theorem dX3_dropWritten_21 : decode cX3_dropWritten 21 = .ok (.aload_n 0, 1) := by decide +kernel
theorem dX3_dropWritten_22 : decode cX3_dropWritten 22 = .ok (.getfield 19, 3) := by decide +kernel
theorem dX3_dropWritten_25 : decode cX3_dropWritten 25 = .ok (.iload 4, 2) := by decide +kernel
theorem dX3_dropWritten_27 : decode cX3_dropWritten 27 = .ok (.iaload, 1) := by decide +kernel
theorem dX3_dropWritten_28 : decode cX3_dropWritten 28 = .ok (.iload_n 1, 1) := by decide +kernel
theorem dX3_dropWritten_29 : decode cX3_dropWritten 29 = .ok (.if_icmp .lt 14, 3) := by decide +kernel
theorem dX3_dropWritten_32 : decode cX3_dropWritten 32 = .ok (.aload_n 0, 1) := by decide +kernel
theorem dX3_dropWritten_33 : decode cX3_dropWritten 33 = .ok (.getfield 19, 3) := by decide +kernel
theorem dX3_dropWritten_36 : decode cX3_dropWritten 36 = .ok (.iload 4, 2) := by decide +kernel
theorem dX3_dropWritten_38 : decode cX3_dropWritten 38 = .ok (.iaload, 1) := by decide +kernel
theorem dX3_dropWritten_39 : decode cX3_dropWritten 39 = .ok (.iload_n 2, 1) := by decide +kernel
theorem dX3_dropWritten_40 : decode cX3_dropWritten 40 = .ok (.if_icmp .lt 19, 3) := by decide +kernel
theorem dX3_dropWritten_43 : decode cX3_dropWritten 43 = .ok (.aload_n 0, 1) := by decide +kernel
theorem dX3_dropWritten_44 : decode cX3_dropWritten 44 = .ok (.getfield 19, 3) := by decide +kernel
theorem dX3_dropWritten_47 : decode cX3_dropWritten 47 = .ok (.iload_n 3, 1) := by decide +kernel
theorem dX3_dropWritten_48 : decode cX3_dropWritten 48 = .ok (.aload_n 0, 1) := by decide +kernel
theorem dX3_dropWritten_49 : decode cX3_dropWritten 49 = .ok (.getfield 19, 3) := by decide +kernel
theorem dX3_dropWritten_52 : decode cX3_dropWritten 52 = .ok (.iload 4, 2) := by decide +kernel
theorem dX3_dropWritten_54 : decode cX3_dropWritten 54 = .ok (.iaload, 1) := by decide +kernel
theorem dX3_dropWritten_55 : decode cX3_dropWritten 55 = .ok (.iastore, 1) := by decide +kernel
theorem dX3_dropWritten_56 : decode cX3_dropWritten 56 = .ok (.iinc 3 1, 3) := by decide +kernel
theorem dX3_dropWritten_59 : decode cX3_dropWritten 59 = .ok (.iinc 4 1, 3) := by decide +kernel
theorem dX3_dropWritten_62 : decode cX3_dropWritten 62 = .ok (.goto (-57), 3) := by decide +kernel
theorem dX3_dropWritten_65 : decode cX3_dropWritten 65 = .ok (.aload_n 0, 1) := by decide +kernel
theorem dX3_dropWritten_66 : decode cX3_dropWritten 66 = .ok (.iload_n 3, 1) := by decide +kernel
theorem dX3_dropWritten_67 : decode cX3_dropWritten 67 = .ok (.putfield 38, 3) := by decide +kernel
theorem dX3_dropWritten_70 : decode cX3_dropWritten 70 = .ok (.return_, 1) := by decide +kernel
theorem dX3_addWrittenFirst_0 : decode cX3_addWrittenFirst 0 = .ok (.aload_n 0, 1) := by decide +kernel
theorem dX3_addWrittenFirst_1 : decode cX3_addWrittenFirst 1 = .ok (.getfield 38, 3) := by decide +kernel
theorem dX3_addWrittenFirst_4 : decode cX3_addWrittenFirst 4 = .ok (.bipush 64, 2) := by decide +kernel
theorem dX3_addWrittenFirst_6 : decode cX3_addWrittenFirst 6 = .ok (.if_icmp .lt 4, 3) := by decide +kernel
theorem dX3_addWrittenFirst_9 : decode cX3_addWrittenFirst 9 = .ok (.return_, 1) := by decide +kernel
theorem dX3_addWrittenFirst_10 : decode cX3_addWrittenFirst 10 = .ok (.aload_n 0, 1) := by decide +kernel
theorem dX3_addWrittenFirst_11 : decode cX3_addWrittenFirst 11 = .ok (.getfield 38, 3) := by decide +kernel
theorem dX3_addWrittenFirst_14 : decode cX3_addWrittenFirst 14 = .ok (.istore_n 2, 1) := by decide +kernel
theorem dX3_addWrittenFirst_15 : decode cX3_addWrittenFirst 15 = .ok (.iload_n 2, 1) := by decide +kernel
theorem dX3_addWrittenFirst_16 : decode cX3_addWrittenFirst 16 = .ok (.ifCond .le 23, 3) := by decide +kernel
theorem dX3_addWrittenFirst_19 : decode cX3_addWrittenFirst 19 = .ok (.aload_n 0, 1) := by decide +kernel
theorem dX3_addWrittenFirst_20 : decode cX3_addWrittenFirst 20 = .ok (.getfield 19, 3) := by decide +kernel
theorem dX3_addWrittenFirst_23 : decode cX3_addWrittenFirst 23 = .ok (.iload_n 2, 1) := by decide +kernel
theorem dX3_addWrittenFirst_24 : decode cX3_addWrittenFirst 24 = .ok (.aload_n 0, 1) := by decide +kernel
theorem dX3_addWrittenFirst_25 : decode cX3_addWrittenFirst 25 = .ok (.getfield 19, 3) := by decide +kernel
theorem dX3_addWrittenFirst_28 : decode cX3_addWrittenFirst 28 = .ok (.iload_n 2, 1) := by decide +kernel
theorem dX3_addWrittenFirst_29 : decode cX3_addWrittenFirst 29 = .ok (.iconst 1, 1) := by decide +kernel
theorem dX3_addWrittenFirst_30 : decode cX3_addWrittenFirst 30 = .ok (.isub, 1) := by decide +kernel
theorem dX3_addWrittenFirst_31 : decode cX3_addWrittenFirst 31 = .ok (.iaload, 1) := by decide +kernel
theorem dX3_addWrittenFirst_32 : decode cX3_addWrittenFirst 32 = .ok (.iastore, 1) := by decide +kernel
theorem dX3_addWrittenFirst_33 : decode cX3_addWrittenFirst 33 = .ok (.iinc 2 (-1), 3) := by decide +kernel
theorem dX3_addWrittenFirst_36 : decode cX3_addWrittenFirst 36 = .ok (.goto (-21), 3) := by decide +kernel
theorem dX3_addWrittenFirst_39 : decode cX3_addWrittenFirst 39 = .ok (.aload_n 0, 1) := by decide +kernel
theorem dX3_addWrittenFirst_40 : decode cX3_addWrittenFirst 40 = .ok (.getfield 19, 3) := by decide +kernel
theorem dX3_addWrittenFirst_43 : decode cX3_addWrittenFirst 43 = .ok (.iconst 0, 1) := by decide +kernel
theorem dX3_addWrittenFirst_44 : decode cX3_addWrittenFirst 44 = .ok (.iload_n 1, 1) := by decide +kernel
theorem dX3_addWrittenFirst_45 : decode cX3_addWrittenFirst 45 = .ok (.iastore, 1) := by decide +kernel
theorem dX3_addWrittenFirst_46 : decode cX3_addWrittenFirst 46 = .ok (.aload_n 0, 1) := by decide +kernel
theorem dX3_addWrittenFirst_47 : decode cX3_addWrittenFirst 47 = .ok (.dup, 1) := by decide +kernel
theorem dX3_addWrittenFirst_48 : decode cX3_addWrittenFirst 48 = .ok (.getfield 38, 3) := by decide +kernel
theorem dX3_addWrittenFirst_51 : decode cX3_addWrittenFirst 51 = .ok (.iconst 1, 1) := by decide +kernel
theorem dX3_addWrittenFirst_52 : decode cX3_addWrittenFirst 52 = .ok (.iadd, 1) := by decide +kernel
theorem dX3_addWrittenFirst_53 : decode cX3_addWrittenFirst 53 = .ok (.putfield 38, 3) := by decide +kernel
theorem dX3_addWrittenFirst_56 : decode cX3_addWrittenFirst 56 = .ok (.return_, 1) := by decide +kernel
theorem dX4_init_0 : decode cX4_init 0 = .ok (.aload_n 0, 1) := by decide +kernel
theorem dX4_init_1 : decode cX4_init 1 = .ok (.invokespecial 3, 3) := by decide +kernel
theorem dX4_init_4 : decode cX4_init 4 = .ok (.aload_n 0, 1) := by decide +kernel
theorem dX4_init_5 : decode cX4_init 5 = .ok (.iconst 2, 1) := by decide +kernel
theorem dX4_init_6 : decode cX4_init 6 = .ok (.newarray .int, 2) := by decide +kernel
theorem dX4_init_8 : decode cX4_init 8 = .ok (.putfield 9, 3) := by decide +kernel
theorem dX4_init_11 : decode cX4_init 11 = .ok (.aload_n 0, 1) := by decide +kernel
theorem dX4_init_12 : decode cX4_init 12 = .ok (.iconst 2, 1) := by decide +kernel
theorem dX4_init_13 : decode cX4_init 13 = .ok (.newarray .int, 2) := by decide +kernel
theorem dX4_init_15 : decode cX4_init 15 = .ok (.putfield 15, 3) := by decide +kernel
theorem dX4_init_18 : decode cX4_init 18 = .ok (.return_, 1) := by decide +kernel
theorem dX4_clear_0 : decode cX4_clear 0 = .ok (.aload_n 0, 1) := by decide +kernel
theorem dX4_clear_1 : decode cX4_clear 1 = .ok (.iconst 0, 1) := by decide +kernel
theorem dX4_clear_2 : decode cX4_clear 2 = .ok (.putfield 18, 3) := by decide +kernel
theorem dX4_clear_5 : decode cX4_clear 5 = .ok (.aload_n 0, 1) := by decide +kernel
theorem dX4_clear_6 : decode cX4_clear 6 = .ok (.iconst 0, 1) := by decide +kernel
theorem dX4_clear_7 : decode cX4_clear 7 = .ok (.putfield 22, 3) := by decide +kernel
theorem dX4_clear_10 : decode cX4_clear 10 = .ok (.return_, 1) := by decide +kernel
theorem dX4_size_0 : decode cX4_size 0 = .ok (.aload_n 0, 1) := by decide +kernel
theorem dX4_size_1 : decode cX4_size 1 = .ok (.getfield 18, 3) := by decide +kernel
theorem dX4_size_4 : decode cX4_size 4 = .ok (.ireturn, 1) := by decide +kernel
theorem dX4_isFull_0 : decode cX4_isFull 0 = .ok (.aload_n 0, 1) := by decide +kernel
theorem dX4_isFull_1 : decode cX4_isFull 1 = .ok (.getfield 18, 3) := by decide +kernel
theorem dX4_isFull_4 : decode cX4_isFull 4 = .ok (.iconst 2, 1) := by decide +kernel
theorem dX4_isFull_5 : decode cX4_isFull 5 = .ok (.if_icmp .lt 7, 3) := by decide +kernel
theorem dX4_isFull_8 : decode cX4_isFull 8 = .ok (.iconst 1, 1) := by decide +kernel
theorem dX4_isFull_9 : decode cX4_isFull 9 = .ok (.goto 4, 3) := by decide +kernel
theorem dX4_isFull_12 : decode cX4_isFull 12 = .ok (.iconst 0, 1) := by decide +kernel
theorem dX4_isFull_13 : decode cX4_isFull 13 = .ok (.ireturn, 1) := by decide +kernel
theorem dX4_append_0 : decode cX4_append 0 = .ok (.aload_n 0, 1) := by decide +kernel
theorem dX4_append_1 : decode cX4_append 1 = .ok (.getfield 18, 3) := by decide +kernel
theorem dX4_append_4 : decode cX4_append 4 = .ok (.ifCond .lt 11, 3) := by decide +kernel
theorem dX4_append_7 : decode cX4_append 7 = .ok (.aload_n 0, 1) := by decide +kernel
theorem dX4_append_8 : decode cX4_append 8 = .ok (.getfield 18, 3) := by decide +kernel
theorem dX4_append_11 : decode cX4_append 11 = .ok (.iconst 2, 1) := by decide +kernel
theorem dX4_append_12 : decode cX4_append 12 = .ok (.if_icmp .lt 4, 3) := by decide +kernel
theorem dX4_append_15 : decode cX4_append 15 = .ok (.return_, 1) := by decide +kernel
theorem dX4_append_16 : decode cX4_append 16 = .ok (.aload_n 0, 1) := by decide +kernel
theorem dX4_append_17 : decode cX4_append 17 = .ok (.getfield 9, 3) := by decide +kernel
theorem dX4_append_20 : decode cX4_append 20 = .ok (.aload_n 0, 1) := by decide +kernel
theorem dX4_append_21 : decode cX4_append 21 = .ok (.getfield 18, 3) := by decide +kernel
theorem dX4_append_24 : decode cX4_append 24 = .ok (.iload_n 1, 1) := by decide +kernel
theorem dX4_append_25 : decode cX4_append 25 = .ok (.iastore, 1) := by decide +kernel
theorem dX4_append_26 : decode cX4_append 26 = .ok (.aload_n 0, 1) := by decide +kernel
theorem dX4_append_27 : decode cX4_append 27 = .ok (.getfield 15, 3) := by decide +kernel
theorem dX4_append_30 : decode cX4_append 30 = .ok (.aload_n 0, 1) := by decide +kernel
theorem dX4_append_31 : decode cX4_append 31 = .ok (.getfield 18, 3) := by decide +kernel
theorem dX4_append_34 : decode cX4_append 34 = .ok (.iload_n 2, 1) := by decide +kernel
theorem dX4_append_35 : decode cX4_append 35 = .ok (.iastore, 1) := by decide +kernel
theorem dX4_append_36 : decode cX4_append 36 = .ok (.aload_n 0, 1) := by decide +kernel
theorem dX4_append_37 : decode cX4_append 37 = .ok (.dup, 1) := by decide +kernel
theorem dX4_append_38 : decode cX4_append 38 = .ok (.getfield 18, 3) := by decide +kernel
theorem dX4_append_41 : decode cX4_append 41 = .ok (.iconst 1, 1) := by decide +kernel
theorem dX4_append_42 : decode cX4_append 42 = .ok (.iadd, 1) := by decide +kernel
theorem dX4_append_43 : decode cX4_append 43 = .ok (.putfield 18, 3) := by decide +kernel
theorem dX4_append_46 : decode cX4_append 46 = .ok (.return_, 1) := by decide +kernel
theorem dX4_tellOf_0 : decode cX4_tellOf 0 = .ok (.iload_n 1, 1) := by decide +kernel
theorem dX4_tellOf_1 : decode cX4_tellOf 1 = .ok (.ifCond .lt 16, 3) := by decide +kernel
theorem dX4_tellOf_4 : decode cX4_tellOf 4 = .ok (.iload_n 1, 1) := by decide +kernel
theorem dX4_tellOf_5 : decode cX4_tellOf 5 = .ok (.aload_n 0, 1) := by decide +kernel
theorem dX4_tellOf_6 : decode cX4_tellOf 6 = .ok (.getfield 18, 3) := by decide +kernel
theorem dX4_tellOf_9 : decode cX4_tellOf 9 = .ok (.if_icmp .ge 8, 3) := by decide +kernel
theorem dX4_tellOf_12 : decode cX4_tellOf 12 = .ok (.iload_n 1, 1) := by decide +kernel
theorem dX4_tellOf_13 : decode cX4_tellOf 13 = .ok (.iconst 2, 1) := by decide +kernel
theorem dX4_tellOf_14 : decode cX4_tellOf 14 = .ok (.if_icmp .lt 6, 3) := by decide +kernel
theorem dX4_tellOf_17 : decode cX4_tellOf 17 = .ok (.bipush (-4), 2) := by decide +kernel
theorem dX4_tellOf_19 : decode cX4_tellOf 19 = .ok (.ireturn, 1) := by decide +kernel
theorem dX4_tellOf_20 : decode cX4_tellOf 20 = .ok (.iload_n 2, 1) := by decide +kernel
theorem dX4_tellOf_21 : decode cX4_tellOf 21 = .ok (.ifCond .ne 10, 3) := by decide +kernel
theorem dX4_tellOf_24 : decode cX4_tellOf 24 = .ok (.aload_n 0, 1) := by decide +kernel
theorem dX4_tellOf_25 : decode cX4_tellOf 25 = .ok (.getfield 9, 3) := by decide +kernel
theorem dX4_tellOf_28 : decode cX4_tellOf 28 = .ok (.iload_n 1, 1) := by decide +kernel
theorem dX4_tellOf_29 : decode cX4_tellOf 29 = .ok (.iaload, 1) := by decide +kernel
theorem dX4_tellOf_30 : decode cX4_tellOf 30 = .ok (.ireturn, 1) := by decide +kernel
theorem dX4_tellOf_31 : decode cX4_tellOf 31 = .ok (.iload_n 2, 1) := by decide +kernel
theorem dX4_tellOf_32 : decode cX4_tellOf 32 = .ok (.iconst 1, 1) := by decide +kernel
theorem dX4_tellOf_33 : decode cX4_tellOf 33 = .ok (.if_icmp .ne 10, 3) := by decide +kernel
theorem dX4_tellOf_36 : decode cX4_tellOf 36 = .ok (.aload_n 0, 1) := by decide +kernel
theorem dX4_tellOf_37 : decode cX4_tellOf 37 = .ok (.getfield 15, 3) := by decide +kernel
theorem dX4_tellOf_40 : decode cX4_tellOf 40 = .ok (.iload_n 1, 1) := by decide +kernel
theorem dX4_tellOf_41 : decode cX4_tellOf 41 = .ok (.iaload, 1) := by decide +kernel
theorem dX4_tellOf_42 : decode cX4_tellOf 42 = .ok (.ireturn, 1) := by decide +kernel
theorem dX4_tellOf_43 : decode cX4_tellOf 43 = .ok (.iload_n 1, 1) := by decide +kernel
theorem dX4_tellOf_44 : decode cX4_tellOf 44 = .ok (.ifCond .ne 10, 3) := by decide +kernel
theorem dX4_tellOf_47 : decode cX4_tellOf 47 = .ok (.aload_n 0, 1) := by decide +kernel
theorem dX4_tellOf_48 : decode cX4_tellOf 48 = .ok (.getfield 22, 3) := by decide +kernel
theorem dX4_tellOf_51 : decode cX4_tellOf 51 = .ok (.goto 4, 3) := by decide +kernel
theorem dX4_tellOf_54 : decode cX4_tellOf 54 = .ok (.iconst 0, 1) := by decide +kernel
theorem dX4_tellOf_55 : decode cX4_tellOf 55 = .ok (.ireturn, 1) := by decide +kernel
theorem dX4_firstHasBegun_0 : decode cX4_firstHasBegun 0 = .ok (.aload_n 0, 1) := by decide +kernel
theorem dX4_firstHasBegun_1 : decode cX4_firstHasBegun 1 = .ok (.getfield 18, 3) := by decide +kernel
theorem dX4_firstHasBegun_4 : decode cX4_firstHasBegun 4 = .ok (.ifCond .le 14, 3) := by decide +kernel
theorem dX4_firstHasBegun_7 : decode cX4_firstHasBegun 7 = .ok (.aload_n 0, 1) := by decide +kernel
theorem dX4_firstHasBegun_8 : decode cX4_firstHasBegun 8 = .ok (.getfield 22, 3) := by decide +kernel
theorem dX4_firstHasBegun_11 : decode cX4_firstHasBegun 11 = .ok (.ifCond .le 7, 3) := by decide +kernel
theorem dX4_firstHasBegun_14 : decode cX4_firstHasBegun 14 = .ok (.iconst 1, 1) := by decide +kernel
theorem dX4_firstHasBegun_15 : decode cX4_firstHasBegun 15 = .ok (.goto 4, 3) := by decide +kernel
theorem dX4_firstHasBegun_18 : decode cX4_firstHasBegun 18 = .ok (.iconst 0, 1) := by decide +kernel
theorem dX4_firstHasBegun_19 : decode cX4_firstHasBegun 19 = .ok (.ireturn, 1) := by decide +kernel
theorem dX4_tickFirst_0 : decode cX4_tickFirst 0 = .ok (.aload_n 0, 1) := by decide +kernel
theorem dX4_tickFirst_1 : decode cX4_tickFirst 1 = .ok (.dup, 1) := by decide +kernel
theorem dX4_tickFirst_2 : decode cX4_tickFirst 2 = .ok (.getfield 22, 3) := by decide +kernel
theorem dX4_tickFirst_5 : decode cX4_tickFirst 5 = .ok (.iconst 1, 1) := by decide +kernel
theorem dX4_tickFirst_6 : decode cX4_tickFirst 6 = .ok (.iadd, 1) := by decide +kernel
theorem dX4_tickFirst_7 : decode cX4_tickFirst 7 = .ok (.putfield 22, 3) := by decide +kernel
theorem dX4_tickFirst_10 : decode cX4_tickFirst 10 = .ok (.return_, 1) := by decide +kernel
theorem dX4_dropFirst_0 : decode cX4_dropFirst 0 = .ok (.iconst 1, 1) := by decide +kernel
theorem dX4_dropFirst_1 : decode cX4_dropFirst 1 = .ok (.istore_n 1, 1) := by decide +kernel
theorem dX4_dropFirst_2 : decode cX4_dropFirst 2 = .ok (.iload_n 1, 1) := by decide +kernel
theorem dX4_dropFirst_3 : decode cX4_dropFirst 3 = .ok (.aload_n 0, 1) := by decide +kernel
theorem dX4_dropFirst_4 : decode cX4_dropFirst 4 = .ok (.getfield 18, 3) := by decide +kernel
theorem dX4_dropFirst_7 : decode cX4_dropFirst 7 = .ok (.if_icmp .ge 42, 3) := by decide +kernel
theorem dX4_dropFirst_10 : decode cX4_dropFirst 10 = .ok (.iload_n 1, 1) := by decide +kernel
theorem dX4_dropFirst_11 : decode cX4_dropFirst 11 = .ok (.iconst 2, 1) := by decide +kernel
theorem dX4_dropFirst_12 : decode cX4_dropFirst 12 = .ok (.if_icmp .ge 37, 3) := by decide +kernel
theorem dX4_dropFirst_15 : decode cX4_dropFirst 15 = .ok (.aload_n 0, 1) := by decide +kernel
theorem dX4_dropFirst_16 : decode cX4_dropFirst 16 = .ok (.getfield 9, 3) := by decide +kernel
theorem dX4_dropFirst_19 : decode cX4_dropFirst 19 = .ok (.iload_n 1, 1) := by decide +kernel
theorem dX4_dropFirst_20 : decode cX4_dropFirst 20 = .ok (.iconst 1, 1) := by decide +kernel
theorem dX4_dropFirst_21 : decode cX4_dropFirst 21 = .ok (.isub, 1) := by decide +kernel
theorem dX4_dropFirst_22 : decode cX4_dropFirst 22 = .ok (.aload_n 0, 1) := by decide +kernel
theorem dX4_dropFirst_23 : decode cX4_dropFirst 23 = .ok (.getfield 9, 3) := by decide +kernel
theorem dX4_dropFirst_26 : decode cX4_dropFirst 26 = .ok (.iload_n 1, 1) := by decide +kernel
theorem dX4_dropFirst_27 : decode cX4_dropFirst 27 = .ok (.iaload, 1) := by decide +kernel
theorem dX4_dropFirst_28 : decode cX4_dropFirst 28 = .ok (.iastore, 1) := by decide +kernel
theorem dX4_dropFirst_29 : decode cX4_dropFirst 29 = .ok (.aload_n 0, 1) := by decide +kernel
theorem dX4_dropFirst_30 : decode cX4_dropFirst 30 = .ok (.getfield 15, 3) := by decide +kernel
theorem dX4_dropFirst_33 : decode cX4_dropFirst 33 = .ok (.iload_n 1, 1) := by decide +kernel
theorem dX4_dropFirst_34 : decode cX4_dropFirst 34 = .ok (.iconst 1, 1) := by decide +kernel
theorem dX4_dropFirst_35 : decode cX4_dropFirst 35 = .ok (.isub, 1) := by decide +kernel
theorem dX4_dropFirst_36 : decode cX4_dropFirst 36 = .ok (.aload_n 0, 1) := by decide +kernel
theorem dX4_dropFirst_37 : decode cX4_dropFirst 37 = .ok (.getfield 15, 3) := by decide +kernel
theorem dX4_dropFirst_40 : decode cX4_dropFirst 40 = .ok (.iload_n 1, 1) := by decide +kernel
theorem dX4_dropFirst_41 : decode cX4_dropFirst 41 = .ok (.iaload, 1) := by decide +kernel
theorem dX4_dropFirst_42 : decode cX4_dropFirst 42 = .ok (.iastore, 1) := by decide +kernel
theorem dX4_dropFirst_43 : decode cX4_dropFirst 43 = .ok (.iinc 1 1, 3) := by decide +kernel
theorem dX4_dropFirst_46 : decode cX4_dropFirst 46 = .ok (.goto (-44), 3) := by decide +kernel
theorem dX4_dropFirst_49 : decode cX4_dropFirst 49 = .ok (.aload_n 0, 1) := by decide +kernel
theorem dX4_dropFirst_50 : decode cX4_dropFirst 50 = .ok (.iconst 0, 1) := by decide +kernel
theorem dX4_dropFirst_51 : decode cX4_dropFirst 51 = .ok (.aload_n 0, 1) := by decide +kernel
theorem dX4_dropFirst_52 : decode cX4_dropFirst 52 = .ok (.getfield 18, 3) := by decide +kernel
theorem dX4_dropFirst_55 : decode cX4_dropFirst 55 = .ok (.iconst 1, 1) := by decide +kernel
theorem dX4_dropFirst_56 : decode cX4_dropFirst 56 = .ok (.isub, 1) := by decide +kernel
theorem dX4_dropFirst_57 : decode cX4_dropFirst 57 = .ok (.invokestatic 25, 3) := by decide +kernel
theorem dX4_dropFirst_60 : decode cX4_dropFirst 60 = .ok (.putfield 18, 3) := by decide +kernel
theorem dX4_dropFirst_63 : decode cX4_dropFirst 63 = .ok (.aload_n 0, 1) := by decide +kernel
theorem dX4_dropFirst_64 : decode cX4_dropFirst 64 = .ok (.iconst 0, 1) := by decide +kernel
theorem dX4_dropFirst_65 : decode cX4_dropFirst 65 = .ok (.putfield 22, 3) := by decide +kernel
theorem dX4_dropFirst_68 : decode cX4_dropFirst 68 = .ok (.return_, 1) := by decide +kernel
theorem dX5_init_0 : decode cX5_init 0 = .ok (.aload_n 0, 1) := by decide +kernel
theorem dX5_init_1 : decode cX5_init 1 = .ok (.invokespecial 1, 3) := by decide +kernel
theorem dX5_init_4 : decode cX5_init 4 = .ok (.return_, 1) := by decide +kernel
theorem dX5_clear_0 : decode cX5_clear 0 = .ok (.aload_n 0, 1) := by decide +kernel
theorem dX5_clear_1 : decode cX5_clear 1 = .ok (.iconst 0, 1) := by decide +kernel
theorem dX5_clear_2 : decode cX5_clear 2 = .ok (.putfield 7, 3) := by decide +kernel
theorem dX5_clear_5 : decode cX5_clear 5 = .ok (.aload_n 0, 1) := by decide +kernel
theorem dX5_clear_6 : decode cX5_clear 6 = .ok (.iconst 0, 1) := by decide +kernel
theorem dX5_clear_7 : decode cX5_clear 7 = .ok (.putfield 13, 3) := by decide +kernel
theorem dX5_clear_10 : decode cX5_clear 10 = .ok (.aload_n 0, 1) := by decide +kernel
theorem dX5_clear_11 : decode cX5_clear 11 = .ok (.iconst 0, 1) := by decide +kernel
theorem dX5_clear_12 : decode cX5_clear 12 = .ok (.putfield 16, 3) := by decide +kernel
theorem dX5_clear_15 : decode cX5_clear 15 = .ok (.aload_n 0, 1) := by decide +kernel
