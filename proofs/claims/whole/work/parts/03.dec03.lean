set_option maxRecDepth 20000 in
theorem gX6_beginStream_X6_refuse : GoodIn wsX6_beginStream (wsV RX6 126 RX6 yX6_refuse wsX6_refuse) := goodIn_app (goodIn_of _ (by decide +kernel)) ggX6_beginStream_X6_refuse
set_option maxRecDepth 20000 in
theorem ggX6_beginStream_X5_begin : GoodIn wsX6_beginStream wsX5_begin := goodIn_r _ [25, 26, 27, 28, 29, 30, 54, 55, 56, 57, 58] (by decide +kernel) (by decide +kernel)
set_option maxRecDepth 20000 in
theorem gX6_beginStream_X5_begin : GoodIn wsX6_beginStream (wsV RX6 333 RX5 yX5_begin wsX5_begin) := goodIn_app (goodIn_of _ (by decide +kernel)) ggX6_beginStream_X5_begin
theorem dX6_beginStream_0 : decode cX6_beginStream 0 = .ok (.aload_n 0, 1) := by decide +kernel
theorem dX6_beginStream_1 : decode cX6_beginStream 1 = .ok (.getfield 10, 3) := by decide +kernel
theorem dX6_beginStream_4 : decode cX6_beginStream 4 = .ok (.iload_n 2, 1) := by decide +kernel
theorem dX6_beginStream_5 : decode cX6_beginStream 5 = .ok (.invokevirtual 123, 3) := by decide +kernel
theorem dX6_beginStream_8 : decode cX6_beginStream 8 = .ok (.ifCond .ne 9, 3) := by decide +kernel
theorem dX6_beginStream_11 : decode cX6_beginStream 11 = .ok (.aload_n 0, 1) := by decide +kernel
theorem dX6_beginStream_12 : decode cX6_beginStream 12 = .ok (.iconst 4, 1) := by decide +kernel
theorem dX6_beginStream_13 : decode cX6_beginStream 13 = .ok (.invokevirtual 126, 3) := by decide +kernel
theorem dX6_beginStream_16 : decode cX6_beginStream 16 = .ok (.ireturn, 1) := by decide +kernel
theorem dX6_beginStream_17 : decode cX6_beginStream 17 = .ok (.aload_n 0, 1) := by decide +kernel
theorem dX6_beginStream_18 : decode cX6_beginStream 18 = .ok (.getfield 45, 3) := by decide +kernel
theorem dX6_beginStream_21 : decode cX6_beginStream 21 = .ok (.iload_n 2, 1) := by decide +kernel
theorem dX6_beginStream_22 : decode cX6_beginStream 22 = .ok (.iload_n 3, 1) := by decide +kernel
theorem dX6_beginStream_23 : decode cX6_beginStream 23 = .ok (.invokevirtual 333, 3) := by decide +kernel
theorem dX6_beginStream_26 : decode cX6_beginStream 26 = .ok (.aload_n 0, 1) := by decide +kernel
theorem dX6_beginStream_27 : decode cX6_beginStream 27 = .ok (.iload_n 1, 1) := by decide +kernel
theorem dX6_beginStream_28 : decode cX6_beginStream 28 = .ok (.putfield 111, 3) := by decide +kernel
theorem dX6_beginStream_31 : decode cX6_beginStream 31 = .ok (.iload_n 1, 1) := by decide +kernel
theorem dX6_beginStream_32 : decode cX6_beginStream 32 = .ok (.bipush 6, 2) := by decide +kernel
theorem dX6_beginStream_34 : decode cX6_beginStream 34 = .ok (.if_icmp .ne 8, 3) := by decide +kernel
theorem dX6_beginStream_37 : decode cX6_beginStream 37 = .ok (.aload_n 0, 1) := by decide +kernel
theorem dX6_beginStream_38 : decode cX6_beginStream 38 = .ok (.iconst 0, 1) := by decide +kernel
theorem dX6_beginStream_39 : decode cX6_beginStream 39 = .ok (.putfield 204, 3) := by decide +kernel
theorem dX6_beginStream_42 : decode cX6_beginStream 42 = .ok (.iconst 0, 1) := by decide +kernel
theorem dX6_beginStream_43 : decode cX6_beginStream 43 = .ok (.ireturn, 1) := by decide +kernel
set_option maxRecDepth 20000 in
theorem ggX6_stop_X4_size : GoodIn wsX6_stop wsX4_size := goodIn_r _ [7, 8, 26, 27, 28, 29] (by decide +kernel) (by decide +kernel)
set_option maxRecDepth 20000 in
theorem gX6_stop_X4_size : GoodIn wsX6_stop (wsV RX6 175 RX4 yX4_size wsX4_size) := goodIn_app (goodIn_of _ (by decide +kernel)) ggX6_stop_X4_size
theorem dX6_stop_0 : decode cX6_stop 0 = .ok (.aload_n 0, 1) := by decide +kernel
theorem dX6_stop_1 : decode cX6_stop 1 = .ok (.getfield 31, 3) := by decide +kernel
theorem dX6_stop_4 : decode cX6_stop 4 = .ok (.invokevirtual 175, 3) := by decide +kernel
theorem dX6_stop_7 : decode cX6_stop 7 = .ok (.istore_n 1, 1) := by decide +kernel
theorem dX6_stop_8 : decode cX6_stop 8 = .ok (.aload_n 0, 1) := by decide +kernel
theorem dX6_stop_9 : decode cX6_stop 9 = .ok (.iload_n 1, 1) := by decide +kernel
theorem dX6_stop_10 : decode cX6_stop 10 = .ok (.ifCond .le 8, 3) := by decide +kernel
theorem dX6_stop_13 : decode cX6_stop 13 = .ok (.bipush 7, 2) := by decide +kernel
theorem dX6_stop_15 : decode cX6_stop 15 = .ok (.goto 4, 3) := by decide +kernel
theorem dX6_stop_18 : decode cX6_stop 18 = .ok (.iconst 4, 1) := by decide +kernel
theorem dX6_stop_19 : decode cX6_stop 19 = .ok (.putfield 111, 3) := by decide +kernel
theorem dX6_stop_22 : decode cX6_stop 22 = .ok (.iload_n 1, 1) := by decide +kernel
theorem dX6_stop_23 : decode cX6_stop 23 = .ok (.ireturn, 1) := by decide +kernel
set_option maxRecDepth 20000 in
theorem ggX6_eraseFrom_X3_has : GoodIn wsX6_eraseFrom wsX3_has := goodIn_r _ [7, 8, 43, 44, 45, 46, 47, 48] (by decide +kernel) (by decide +kernel)
set_option maxRecDepth 20000 in
theorem gX6_eraseFrom_X3_has : GoodIn wsX6_eraseFrom (wsV RX6 123 RX3 yX3_has wsX3_has) := goodIn_app (goodIn_of _ (by decide +kernel)) ggX6_eraseFrom_X3_has
set_option maxRecDepth 20000 in
theorem ggX6_eraseFrom_X6_refuse : GoodIn wsX6_eraseFrom wsX6_refuse := goodIn_r _ [13, 14, 15, 16, 12, 17, 18, 26, 27, 28, 29, 30, 31, 32, 33, 34, 35, 36, 37, 38, 39, 40, 41, 42] (by decide +kernel) (by decide +kernel)
set_option maxRecDepth 20000 in
theorem gX6_eraseFrom_X6_refuse : GoodIn wsX6_eraseFrom (wsV RX6 126 RX6 yX6_refuse wsX6_refuse) := goodIn_app (goodIn_of _ (by decide +kernel)) ggX6_eraseFrom_X6_refuse
set_option maxRecDepth 20000 in
theorem ggX6_eraseFrom_X0_beginFrom : GoodIn wsX6_eraseFrom wsX0_beginFrom := goodIn_r _ [23, 24, 25, 49, 50, 51, 52, 53, 54] (by decide +kernel) (by decide +kernel)
set_option maxRecDepth 20000 in
theorem gX6_eraseFrom_X0_beginFrom : GoodIn wsX6_eraseFrom (wsV RX6 337 RX0 yX0_beginFrom wsX0_beginFrom) := goodIn_app (goodIn_of _ (by decide +kernel)) ggX6_eraseFrom_X0_beginFrom
theorem dX6_eraseFrom_0 : decode cX6_eraseFrom 0 = .ok (.aload_n 0, 1) := by decide +kernel
theorem dX6_eraseFrom_1 : decode cX6_eraseFrom 1 = .ok (.getfield 10, 3) := by decide +kernel
theorem dX6_eraseFrom_4 : decode cX6_eraseFrom 4 = .ok (.iload_n 1, 1) := by decide +kernel
theorem dX6_eraseFrom_5 : decode cX6_eraseFrom 5 = .ok (.invokevirtual 123, 3) := by decide +kernel
theorem dX6_eraseFrom_8 : decode cX6_eraseFrom 8 = .ok (.ifCond .ne 9, 3) := by decide +kernel
theorem dX6_eraseFrom_11 : decode cX6_eraseFrom 11 = .ok (.aload_n 0, 1) := by decide +kernel
theorem dX6_eraseFrom_12 : decode cX6_eraseFrom 12 = .ok (.iconst 4, 1) := by decide +kernel
theorem dX6_eraseFrom_13 : decode cX6_eraseFrom 13 = .ok (.invokevirtual 126, 3) := by decide +kernel
theorem dX6_eraseFrom_16 : decode cX6_eraseFrom 16 = .ok (.ireturn, 1) := by decide +kernel
theorem dX6_eraseFrom_17 : decode cX6_eraseFrom 17 = .ok (.aload_n 0, 1) := by decide +kernel
theorem dX6_eraseFrom_18 : decode cX6_eraseFrom 18 = .ok (.getfield 38, 3) := by decide +kernel
theorem dX6_eraseFrom_21 : decode cX6_eraseFrom 21 = .ok (.iload_n 1, 1) := by decide +kernel
theorem dX6_eraseFrom_22 : decode cX6_eraseFrom 22 = .ok (.invokevirtual 337, 3) := by decide +kernel
theorem dX6_eraseFrom_25 : decode cX6_eraseFrom 25 = .ok (.iconst 0, 1) := by decide +kernel
theorem dX6_eraseFrom_26 : decode cX6_eraseFrom 26 = .ok (.ireturn, 1) := by decide +kernel
set_option maxRecDepth 20000 in
theorem ggX6_eraseTo_X3_has : GoodIn wsX6_eraseTo wsX3_has := goodIn_r _ [7, 8, 48, 49, 50, 51, 52, 53] (by decide +kernel) (by decide +kernel)
set_option maxRecDepth 20000 in
theorem gX6_eraseTo_X3_has : GoodIn wsX6_eraseTo (wsV RX6 123 RX3 yX3_has wsX3_has) := goodIn_app (goodIn_of _ (by decide +kernel)) ggX6_eraseTo_X3_has
set_option maxRecDepth 20000 in
theorem ggX6_eraseTo_X0_forget : GoodIn wsX6_eraseTo wsX0_forget := goodIn_r _ [13, 14, 15, 16, 54, 55, 56, 57, 58, 59] (by decide +kernel) (by decide +kernel)
set_option maxRecDepth 20000 in
theorem gX6_eraseTo_X0_forget : GoodIn wsX6_eraseTo (wsV RX6 273 RX0 yX0_forget wsX0_forget) := goodIn_app (goodIn_of _ (by decide +kernel)) ggX6_eraseTo_X0_forget
set_option maxRecDepth 20000 in
theorem ggX6_eraseTo_X6_refuse : GoodIn wsX6_eraseTo wsX6_refuse := goodIn_r _ [21, 22, 23, 24, 20, 25, 26, 31, 32, 33, 34, 35, 36, 37, 38, 39, 40, 41, 42, 43, 44, 45, 46, 47] (by decide +kernel) (by decide +kernel)
set_option maxRecDepth 20000 in
theorem gX6_eraseTo_X6_refuse : GoodIn wsX6_eraseTo (wsV RX6 126 RX6 yX6_refuse wsX6_refuse) := goodIn_app (goodIn_of _ (by decide +kernel)) ggX6_eraseTo_X6_refuse
set_option maxRecDepth 20000 in
theorem ggX6_eraseTo_X0_continueTo : GoodIn wsX6_eraseTo wsX0_continueTo := goodIn_r _ [30, 14, 15, 16, 54, 55, 56, 57, 58, 59] (by decide +kernel) (by decide +kernel)
set_option maxRecDepth 20000 in
theorem gX6_eraseTo_X0_continueTo : GoodIn wsX6_eraseTo (wsV RX6 340 RX0 yX0_continueTo wsX0_continueTo) := goodIn_app (goodIn_of _ (by decide +kernel)) ggX6_eraseTo_X0_continueTo
theorem dX6_eraseTo_0 : decode cX6_eraseTo 0 = .ok (.aload_n 0, 1) := by decide +kernel
theorem dX6_eraseTo_1 : decode cX6_eraseTo 1 = .ok (.getfield 10, 3) := by decide +kernel
theorem dX6_eraseTo_4 : decode cX6_eraseTo 4 = .ok (.iload_n 1, 1) := by decide +kernel
theorem dX6_eraseTo_5 : decode cX6_eraseTo 5 = .ok (.invokevirtual 123, 3) := by decide +kernel
theorem dX6_eraseTo_8 : decode cX6_eraseTo 8 = .ok (.ifCond .ne 16, 3) := by decide +kernel
theorem dX6_eraseTo_11 : decode cX6_eraseTo 11 = .ok (.aload_n 0, 1) := by decide +kernel
theorem dX6_eraseTo_12 : decode cX6_eraseTo 12 = .ok (.getfield 38, 3) := by decide +kernel
theorem dX6_eraseTo_15 : decode cX6_eraseTo 15 = .ok (.invokevirtual 273, 3) := by decide +kernel
theorem dX6_eraseTo_18 : decode cX6_eraseTo 18 = .ok (.aload_n 0, 1) := by decide +kernel
theorem dX6_eraseTo_19 : decode cX6_eraseTo 19 = .ok (.iconst 4, 1) := by decide +kernel
theorem dX6_eraseTo_20 : decode cX6_eraseTo 20 = .ok (.invokevirtual 126, 3) := by decide +kernel
theorem dX6_eraseTo_23 : decode cX6_eraseTo 23 = .ok (.ireturn, 1) := by decide +kernel
theorem dX6_eraseTo_24 : decode cX6_eraseTo 24 = .ok (.aload_n 0, 1) := by decide +kernel
theorem dX6_eraseTo_25 : decode cX6_eraseTo 25 = .ok (.getfield 38, 3) := by decide +kernel
theorem dX6_eraseTo_28 : decode cX6_eraseTo 28 = .ok (.iload_n 1, 1) := by decide +kernel
theorem dX6_eraseTo_29 : decode cX6_eraseTo 29 = .ok (.invokevirtual 340, 3) := by decide +kernel
theorem dX6_eraseTo_32 : decode cX6_eraseTo 32 = .ok (.ifCond .ne 17, 3) := by decide +kernel
theorem dX6_eraseTo_35 : decode cX6_eraseTo 35 = .ok (.aload_n 0, 1) := by decide +kernel
theorem dX6_eraseTo_36 : decode cX6_eraseTo 36 = .ok (.getfield 38, 3) := by decide +kernel
theorem dX6_eraseTo_39 : decode cX6_eraseTo 39 = .ok (.invokevirtual 273, 3) := by decide +kernel
theorem dX6_eraseTo_42 : decode cX6_eraseTo 42 = .ok (.aload_n 0, 1) := by decide +kernel
theorem dX6_eraseTo_43 : decode cX6_eraseTo 43 = .ok (.bipush 8, 2) := by decide +kernel
theorem dX6_eraseTo_45 : decode cX6_eraseTo 45 = .ok (.invokevirtual 126, 3) := by decide +kernel
theorem dX6_eraseTo_48 : decode cX6_eraseTo 48 = .ok (.ireturn, 1) := by decide +kernel
theorem dX6_eraseTo_49 : decode cX6_eraseTo 49 = .ok (.iconst 0, 1) := by decide +kernel
theorem dX6_eraseTo_50 : decode cX6_eraseTo 50 = .ok (.ireturn, 1) := by decide +kernel
set_option maxRecDepth 20000 in
theorem ggX6_erase_X0_isReady : GoodIn wsX6_erase wsX0_isReady := goodIn_r _ [7, 8, 72, 73, 74, 75, 76, 77] (by decide +kernel) (by decide +kernel)
set_option maxRecDepth 20000 in
theorem gX6_erase_X0_isReady : GoodIn wsX6_erase (wsV RX6 343 RX0 yX0_isReady wsX0_isReady) := goodIn_app (goodIn_of _ (by decide +kernel)) ggX6_erase_X0_isReady
set_option maxRecDepth 20000 in
theorem ggX6_erase_X6_refuse : GoodIn wsX6_erase wsX6_refuse := goodIn_r _ [13, 14, 15, 16, 12, 17, 18, 55, 56, 57, 58, 59, 60, 61, 62, 63, 64, 65, 66, 67, 68, 69, 70, 71] (by decide +kernel) (by decide +kernel)
set_option maxRecDepth 20000 in
theorem gX6_erase_X6_refuse : GoodIn wsX6_erase (wsV RX6 126 RX6 yX6_refuse wsX6_refuse) := goodIn_app (goodIn_of _ (by decide +kernel)) ggX6_erase_X6_refuse
set_option maxRecDepth 20000 in
theorem ggX6_erase_X0_from : GoodIn wsX6_erase wsX0_from := goodIn_r _ [22, 23, 72, 73, 74, 75, 76, 77] (by decide +kernel) (by decide +kernel)
set_option maxRecDepth 20000 in
theorem gX6_erase_X0_from : GoodIn wsX6_erase (wsV RX6 346 RX0 yX0_from wsX0_from) := goodIn_app (goodIn_of _ (by decide +kernel)) ggX6_erase_X0_from
set_option maxRecDepth 20000 in
theorem ggX6_erase_X3_groupOf : GoodIn wsX6_erase wsX3_groupOf := goodIn_r _ [28, 29, 78, 79, 80, 81, 82, 83] (by decide +kernel) (by decide +kernel)
set_option maxRecDepth 20000 in
theorem gX6_erase_X3_groupOf : GoodIn wsX6_erase (wsV RX6 166 RX3 yX3_groupOf wsX3_groupOf) := goodIn_app (goodIn_of _ (by decide +kernel)) ggX6_erase_X3_groupOf
set_option maxRecDepth 20000 in
theorem ggX6_erase_X0_to : GoodIn wsX6_erase wsX0_to := goodIn_r _ [33, 34, 72, 73, 74, 75, 76, 77] (by decide +kernel) (by decide +kernel)
set_option maxRecDepth 20000 in
theorem gX6_erase_X0_to : GoodIn wsX6_erase (wsV RX6 349 RX0 yX0_to wsX0_to) := goodIn_app (goodIn_of _ (by decide +kernel)) ggX6_erase_X0_to
set_option maxRecDepth 20000 in
theorem ggX6_erase_X6_beginErasing : GoodIn wsX6_erase wsX6_beginErasing := goodIn_r _ [38, 1, 39, 40, 41, 42, 6, 43, 44, 45, 46, 47, 48, 49, 50, 8, 23, 34, 51, 52, 53, 54, 55, 56, 57, 58, 59, 60, 61, 62, 63, 64, 65, 66, 67, 68, 69, 70, 71, 72, 73, 74, 75, 76, 77] (by decide +kernel) (by decide +kernel)
set_option maxRecDepth 20000 in
theorem gX6_erase_X6_beginErasing : GoodIn wsX6_erase (wsV RX6 352 RX6 yX6_beginErasing wsX6_beginErasing) := goodIn_app (goodIn_of _ (by decide +kernel)) ggX6_erase_X6_beginErasing
theorem dX6_erase_0 : decode cX6_erase 0 = .ok (.aload_n 0, 1) := by decide +kernel
theorem dX6_erase_1 : decode cX6_erase 1 = .ok (.getfield 38, 3) := by decide +kernel
theorem dX6_erase_4 : decode cX6_erase 4 = .ok (.invokevirtual 343, 3) := by decide +kernel
theorem dX6_erase_7 : decode cX6_erase 7 = .ok (.ifCond .ne 10, 3) := by decide +kernel
theorem dX6_erase_10 : decode cX6_erase 10 = .ok (.aload_n 0, 1) := by decide +kernel
theorem dX6_erase_11 : decode cX6_erase 11 = .ok (.bipush 8, 2) := by decide +kernel
theorem dX6_erase_13 : decode cX6_erase 13 = .ok (.invokevirtual 126, 3) := by decide +kernel
theorem dX6_erase_16 : decode cX6_erase 16 = .ok (.ireturn, 1) := by decide +kernel
theorem dX6_erase_17 : decode cX6_erase 17 = .ok (.aload_n 0, 1) := by decide +kernel
theorem dX6_erase_18 : decode cX6_erase 18 = .ok (.aload_n 0, 1) := by decide +kernel
theorem dX6_erase_19 : decode cX6_erase 19 = .ok (.getfield 10, 3) := by decide +kernel
theorem dX6_erase_22 : decode cX6_erase 22 = .ok (.aload_n 0, 1) := by decide +kernel
theorem dX6_erase_23 : decode cX6_erase 23 = .ok (.getfield 38, 3) := by decide +kernel
theorem dX6_erase_26 : decode cX6_erase 26 = .ok (.invokevirtual 346, 3) := by decide +kernel
theorem dX6_erase_29 : decode cX6_erase 29 = .ok (.invokevirtual 166, 3) := by decide +kernel
theorem dX6_erase_32 : decode cX6_erase 32 = .ok (.aload_n 0, 1) := by decide +kernel
theorem dX6_erase_33 : decode cX6_erase 33 = .ok (.getfield 10, 3) := by decide +kernel
theorem dX6_erase_36 : decode cX6_erase 36 = .ok (.aload_n 0, 1) := by decide +kernel
theorem dX6_erase_37 : decode cX6_erase 37 = .ok (.getfield 38, 3) := by decide +kernel
theorem dX6_erase_40 : decode cX6_erase 40 = .ok (.invokevirtual 349, 3) := by decide +kernel
theorem dX6_erase_43 : decode cX6_erase 43 = .ok (.invokevirtual 166, 3) := by decide +kernel
theorem dX6_erase_46 : decode cX6_erase 46 = .ok (.invokevirtual 352, 3) := by decide +kernel
theorem dX6_erase_49 : decode cX6_erase 49 = .ok (.ireturn, 1) := by decide +kernel
set_option maxRecDepth 20000 in
theorem ggX6_beginErasing_X0_begin : GoodIn wsX6_beginErasing wsX0_begin := goodIn_r _ [7, 8, 9, 10, 11, 12, 13, 6, 14, 15, 16, 17, 39, 40, 41, 42, 43, 44] (by decide +kernel) (by decide +kernel)
set_option maxRecDepth 20000 in
theorem gX6_beginErasing_X0_begin : GoodIn wsX6_beginErasing (wsV RX6 355 RX0 yX0_begin wsX0_begin) := goodIn_app (goodIn_of _ (by decide +kernel)) ggX6_beginErasing_X0_begin
set_option maxRecDepth 20000 in
theorem ggX6_beginErasing_X0_groupsLeft : GoodIn wsX6_beginErasing wsX0_groupsLeft := goodIn_r _ [21, 9, 39, 40, 41, 42, 43, 44] (by decide +kernel) (by decide +kernel)
set_option maxRecDepth 20000 in
theorem gX6_beginErasing_X0_groupsLeft : GoodIn wsX6_beginErasing (wsV RX6 207 RX0 yX0_groupsLeft wsX0_groupsLeft) := goodIn_app (goodIn_of _ (by decide +kernel)) ggX6_beginErasing_X0_groupsLeft
theorem dX6_beginErasing_0 : decode cX6_beginErasing 0 = .ok (.aload_n 0, 1) := by decide +kernel
theorem dX6_beginErasing_1 : decode cX6_beginErasing 1 = .ok (.getfield 38, 3) := by decide +kernel
theorem dX6_beginErasing_4 : decode cX6_beginErasing 4 = .ok (.iload_n 1, 1) := by decide +kernel
theorem dX6_beginErasing_5 : decode cX6_beginErasing 5 = .ok (.iload_n 2, 1) := by decide +kernel
theorem dX6_beginErasing_6 : decode cX6_beginErasing 6 = .ok (.invokevirtual 355, 3) := by decide +kernel
theorem dX6_beginErasing_9 : decode cX6_beginErasing 9 = .ok (.aload_n 0, 1) := by decide +kernel
theorem dX6_beginErasing_10 : decode cX6_beginErasing 10 = .ok (.bipush 7, 2) := by decide +kernel
theorem dX6_beginErasing_12 : decode cX6_beginErasing 12 = .ok (.putfield 111, 3) := by decide +kernel
theorem dX6_beginErasing_15 : decode cX6_beginErasing 15 = .ok (.aload_n 0, 1) := by decide +kernel
theorem dX6_beginErasing_16 : decode cX6_beginErasing 16 = .ok (.getfield 38, 3) := by decide +kernel
theorem dX6_beginErasing_19 : decode cX6_beginErasing 19 = .ok (.invokevirtual 207, 3) := by decide +kernel
theorem dX6_beginErasing_22 : decode cX6_beginErasing 22 = .ok (.ireturn, 1) := by decide +kernel
set_option maxRecDepth 20000 in
theorem ggX6_changeLock_X6_unlock : GoodIn wsX6_changeLock wsX6_unlock := goodIn_r _ [5, 6, 7, 8, 9, 4, 10, 11, 12, 13, 14, 15, 16, 17, 18, 19, 20, 21, 22, 23, 24, 25, 26, 27, 28, 29, 30, 31, 32, 33, 34, 35, 36, 106, 107, 108, 109, 110, 111, 112, 113, 114, 115, 116, 117, 118, 119, 120, 121, 122, 123, 124] (by decide +kernel) (by decide +kernel)
set_option maxRecDepth 20000 in
theorem gX6_changeLock_X6_unlock : GoodIn wsX6_changeLock (wsV RX6 357 RX6 yX6_unlock wsX6_unlock) := goodIn_app (goodIn_of _ (by decide +kernel)) ggX6_changeLock_X6_unlock
set_option maxRecDepth 20000 in
theorem ggX6_changeLock_X6_setSecret : GoodIn wsX6_changeLock wsX6_setSecret := goodIn_r _ [40, 12, 11, 6, 13, 14, 15, 16, 17, 18, 41, 42, 4, 43, 19, 20, 21, 22, 23, 24, 25, 26, 27, 28, 29, 30, 31, 32, 33, 34, 35, 36, 44, 45, 46, 47, 48, 49, 50, 51, 52, 53, 54, 55, 106, 107, 108, 109, 110, 111, 112, 113, 114, 115, 116, 117, 118, 119, 120, 121, 122, 123, 124] (by decide +kernel) (by decide +kernel)
set_option maxRecDepth 20000 in
theorem gX6_changeLock_X6_setSecret : GoodIn wsX6_changeLock (wsV RX6 360 RX6 yX6_setSecret wsX6_setSecret) := goodIn_app (goodIn_of _ (by decide +kernel)) ggX6_changeLock_X6_setSecret
set_option maxRecDepth 20000 in
theorem ggX6_changeLock_X6_clearSecret : GoodIn wsX6_changeLock wsX6_clearSecret := goodIn_r _ [59, 6, 11, 7, 8, 9, 4, 10, 12, 13, 14, 15, 16, 17, 18, 19, 20, 21, 22, 23, 24, 25, 26, 27, 28, 29, 30, 31, 32, 33, 34, 35, 36, 60, 49, 50, 51, 106, 107, 108, 109, 110, 111, 112, 113, 114, 115, 116, 117, 118, 119, 120, 121, 122, 123, 124] (by decide +kernel) (by decide +kernel)
set_option maxRecDepth 20000 in
theorem gX6_changeLock_X6_clearSecret : GoodIn wsX6_changeLock (wsV RX6 363 RX6 yX6_clearSecret wsX6_clearSecret) := goodIn_app (goodIn_of _ (by decide +kernel)) ggX6_changeLock_X6_clearSecret
set_option maxRecDepth 20000 in
theorem ggX6_changeLock_X6_lock : GoodIn wsX6_changeLock wsX6_lock := goodIn_r _ [64, 6, 7, 8, 9, 4, 10, 11, 12, 13, 14, 15, 16, 17, 18, 19, 20, 21, 22, 23, 24, 25, 26, 27, 28, 29, 30, 31, 32, 33, 34, 35, 36, 106, 107, 108, 109, 110, 111, 112, 113, 114, 115, 116, 117, 118, 119, 120, 121, 122, 123, 124] (by decide +kernel) (by decide +kernel)
set_option maxRecDepth 20000 in
theorem gX6_changeLock_X6_lock : GoodIn wsX6_changeLock (wsV RX6 366 RX6 yX6_lock wsX6_lock) := goodIn_app (goodIn_of _ (by decide +kernel)) ggX6_changeLock_X6_lock
set_option maxRecDepth 20000 in
theorem ggX6_changeLock_X6_force : GoodIn wsX6_changeLock wsX6_force := goodIn_r _ [68, 6, 11, 69, 28, 29, 30, 4, 31, 32, 33, 34, 35, 36, 60, 49, 50, 16, 51, 18, 70, 71, 72, 73, 74, 75, 76, 77, 78, 79, 80, 81, 82, 83, 84, 85, 86, 87, 88, 89, 90, 91, 92, 93, 94, 95, 96, 97, 98, 99, 100, 101, 102, 103, 104, 105, 106, 107, 108, 109, 110, 111, 112, 113, 114, 115, 116, 117, 118, 119, 120, 121, 122, 123, 124, 125, 126, 127, 128, 129, 130, 131, 132, 133, 134, 135, 136] (by decide +kernel) (by decide +kernel)
set_option maxRecDepth 20000 in
theorem gX6_changeLock_X6_force : GoodIn wsX6_changeLock (wsV RX6 369 RX6 yX6_force wsX6_force) := goodIn_app (goodIn_of _ (by decide +kernel)) ggX6_changeLock_X6_force
set_option maxRecDepth 20000 in
theorem ggX6_changeLock_X6_refuse : GoodIn wsX6_changeLock wsX6_refuse := goodIn_r _ [31, 32, 33, 34, 4, 35, 36, 106, 107, 108, 109, 110, 111, 112, 113, 114, 115, 116, 117, 118, 119, 120, 121, 122] (by decide +kernel) (by decide +kernel)
set_option maxRecDepth 20000 in
theorem gX6_changeLock_X6_refuse : GoodIn wsX6_changeLock (wsV RX6 126 RX6 yX6_refuse wsX6_refuse) := goodIn_app (goodIn_of _ (by decide +kernel)) ggX6_changeLock_X6_refuse
theorem dX6_changeLock_0 : decode cX6_changeLock 0 = .ok (.iload_n 1, 1) := by decide +kernel
theorem dX6_changeLock_1 : decode cX6_changeLock 1 = .ok (.tableswitch 83 0 8 #[51, 56, 62, 83, 67, 72, 83, 83, 78], 51) := by decide +kernel
theorem dX6_changeLock_52 : decode cX6_changeLock 52 = .ok (.aload_n 0, 1) := by decide +kernel
theorem dX6_changeLock_53 : decode cX6_changeLock 53 = .ok (.invokevirtual 357, 3) := by decide +kernel
theorem dX6_changeLock_56 : decode cX6_changeLock 56 = .ok (.ireturn, 1) := by decide +kernel
theorem dX6_changeLock_57 : decode cX6_changeLock 57 = .ok (.aload_n 0, 1) := by decide +kernel
theorem dX6_changeLock_58 : decode cX6_changeLock 58 = .ok (.iconst 0, 1) := by decide +kernel
theorem dX6_changeLock_59 : decode cX6_changeLock 59 = .ok (.invokevirtual 360, 3) := by decide +kernel
theorem dX6_changeLock_62 : decode cX6_changeLock 62 = .ok (.ireturn, 1) := by decide +kernel
theorem dX6_changeLock_63 : decode cX6_changeLock 63 = .ok (.aload_n 0, 1) := by decide +kernel
theorem dX6_changeLock_64 : decode cX6_changeLock 64 = .ok (.invokevirtual 363, 3) := by decide +kernel
theorem dX6_changeLock_67 : decode cX6_changeLock 67 = .ok (.ireturn, 1) := by decide +kernel
theorem dX6_changeLock_68 : decode cX6_changeLock 68 = .ok (.aload_n 0, 1) := by decide +kernel
theorem dX6_changeLock_69 : decode cX6_changeLock 69 = .ok (.invokevirtual 366, 3) := by decide +kernel
theorem dX6_changeLock_72 : decode cX6_changeLock 72 = .ok (.ireturn, 1) := by decide +kernel
theorem dX6_changeLock_73 : decode cX6_changeLock 73 = .ok (.aload_n 0, 1) := by decide +kernel
theorem dX6_changeLock_74 : decode cX6_changeLock 74 = .ok (.iconst 1, 1) := by decide +kernel
theorem dX6_changeLock_75 : decode cX6_changeLock 75 = .ok (.invokevirtual 360, 3) := by decide +kernel
theorem dX6_changeLock_78 : decode cX6_changeLock 78 = .ok (.ireturn, 1) := by decide +kernel
theorem dX6_changeLock_79 : decode cX6_changeLock 79 = .ok (.aload_n 0, 1) := by decide +kernel
theorem dX6_changeLock_80 : decode cX6_changeLock 80 = .ok (.invokevirtual 369, 3) := by decide +kernel
theorem dX6_changeLock_83 : decode cX6_changeLock 83 = .ok (.ireturn, 1) := by decide +kernel
theorem dX6_changeLock_84 : decode cX6_changeLock 84 = .ok (.aload_n 0, 1) := by decide +kernel
theorem dX6_changeLock_85 : decode cX6_changeLock 85 = .ok (.bipush 16, 2) := by decide +kernel
theorem dX6_changeLock_87 : decode cX6_changeLock 87 = .ok (.invokevirtual 126, 3) := by decide +kernel
theorem dX6_changeLock_90 : decode cX6_changeLock 90 = .ok (.ireturn, 1) := by decide +kernel
set_option maxRecDepth 20000 in
theorem ggX6_textIsSecret_X1_length : GoodIn wsX6_textIsSecret wsX1_length := goodIn_r _ [7, 8, 35, 36] (by decide +kernel) (by decide +kernel)
set_option maxRecDepth 20000 in
theorem gX6_textIsSecret_X1_length : GoodIn wsX6_textIsSecret (wsV RX6 86 RX1 yX1_length wsX1_length) := goodIn_app (goodIn_of _ (by decide +kernel)) ggX6_textIsSecret_X1_length
set_option maxRecDepth 20000 in
theorem ggX6_textIsSecret_X1_startsWith : GoodIn wsX6_textIsSecret wsX1_startsWith := goodIn_r _ [12, 8, 13, 14, 15, 6, 16, 17, 35, 36] (by decide +kernel) (by decide +kernel)
set_option maxRecDepth 20000 in
theorem gX6_textIsSecret_X1_startsWith : GoodIn wsX6_textIsSecret (wsV RX6 372 RX1 yX1_startsWith wsX1_startsWith) := goodIn_app (goodIn_of _ (by decide +kernel)) ggX6_textIsSecret_X1_startsWith
theorem dX6_textIsSecret_0 : decode cX6_textIsSecret 0 = .ok (.aload_n 0, 1) := by decide +kernel
theorem dX6_textIsSecret_1 : decode cX6_textIsSecret 1 = .ok (.getfield 25, 3) := by decide +kernel
theorem dX6_textIsSecret_4 : decode cX6_textIsSecret 4 = .ok (.invokevirtual 86, 3) := by decide +kernel
theorem dX6_textIsSecret_7 : decode cX6_textIsSecret 7 = .ok (.ifCond .le 38, 3) := by decide +kernel
theorem dX6_textIsSecret_10 : decode cX6_textIsSecret 10 = .ok (.aload_n 0, 1) := by decide +kernel
theorem dX6_textIsSecret_11 : decode cX6_textIsSecret 11 = .ok (.getfield 21, 3) := by decide +kernel
theorem dX6_textIsSecret_14 : decode cX6_textIsSecret 14 = .ok (.invokevirtual 86, 3) := by decide +kernel
theorem dX6_textIsSecret_17 : decode cX6_textIsSecret 17 = .ok (.aload_n 0, 1) := by decide +kernel
theorem dX6_textIsSecret_18 : decode cX6_textIsSecret 18 = .ok (.getfield 25, 3) := by decide +kernel
theorem dX6_textIsSecret_21 : decode cX6_textIsSecret 21 = .ok (.invokevirtual 86, 3) := by decide +kernel
theorem dX6_textIsSecret_24 : decode cX6_textIsSecret 24 = .ok (.if_icmp .ne 21, 3) := by decide +kernel
theorem dX6_textIsSecret_27 : decode cX6_textIsSecret 27 = .ok (.aload_n 0, 1) := by decide +kernel
theorem dX6_textIsSecret_28 : decode cX6_textIsSecret 28 = .ok (.getfield 21, 3) := by decide +kernel
theorem dX6_textIsSecret_31 : decode cX6_textIsSecret 31 = .ok (.aload_n 0, 1) := by decide +kernel
theorem dX6_textIsSecret_32 : decode cX6_textIsSecret 32 = .ok (.getfield 25, 3) := by decide +kernel
theorem dX6_textIsSecret_35 : decode cX6_textIsSecret 35 = .ok (.invokevirtual 372, 3) := by decide +kernel
theorem dX6_textIsSecret_38 : decode cX6_textIsSecret 38 = .ok (.ifCond .eq 7, 3) := by decide +kernel
theorem dX6_textIsSecret_41 : decode cX6_textIsSecret 41 = .ok (.iconst 1, 1) := by decide +kernel
theorem dX6_textIsSecret_42 : decode cX6_textIsSecret 42 = .ok (.goto 4, 3) := by decide +kernel
theorem dX6_textIsSecret_45 : decode cX6_textIsSecret 45 = .ok (.iconst 0, 1) := by decide +kernel
theorem dX6_textIsSecret_46 : decode cX6_textIsSecret 46 = .ok (.ireturn, 1) := by decide +kernel
set_option maxRecDepth 20000 in
theorem ggX6_unlock_X6_textIsSecret : GoodIn wsX6_unlock wsX6_textIsSecret := goodIn_r _ [6, 7, 8, 9, 10, 11, 12, 13, 14, 15, 16, 17, 18, 19, 20, 21, 22, 23, 33, 34, 35, 36, 37, 38, 39, 40, 41, 42, 43, 44, 45, 46, 47, 48, 49, 50, 51] (by decide +kernel) (by decide +kernel)
set_option maxRecDepth 20000 in
theorem gX6_unlock_X6_textIsSecret : GoodIn wsX6_unlock (wsV RX6 376 RX6 yX6_textIsSecret wsX6_textIsSecret) := goodIn_app (goodIn_of _ (by decide +kernel)) ggX6_unlock_X6_textIsSecret
set_option maxRecDepth 20000 in
theorem ggX6_unlock_X6_refuse : GoodIn wsX6_unlock wsX6_refuse := goodIn_r _ [27, 28, 29, 30, 5, 31, 32, 33, 34, 35, 36, 37, 38, 39, 40, 41, 42, 43, 44, 45, 46, 47, 48, 49] (by decide +kernel) (by decide +kernel)
set_option maxRecDepth 20000 in
theorem gX6_unlock_X6_refuse : GoodIn wsX6_unlock (wsV RX6 126 RX6 yX6_refuse wsX6_refuse) := goodIn_app (goodIn_of _ (by decide +kernel)) ggX6_unlock_X6_refuse
theorem dX6_unlock_0 : decode cX6_unlock 0 = .ok (.aload_n 0, 1) := by decide +kernel
theorem dX6_unlock_1 : decode cX6_unlock 1 = .ok (.getfield 197, 3) := by decide +kernel
theorem dX6_unlock_4 : decode cX6_unlock 4 = .ok (.ifCond .eq 10, 3) := by decide +kernel
theorem dX6_unlock_7 : decode cX6_unlock 7 = .ok (.aload_n 0, 1) := by decide +kernel
theorem dX6_unlock_8 : decode cX6_unlock 8 = .ok (.invokevirtual 376, 3) := by decide +kernel
theorem dX6_unlock_11 : decode cX6_unlock 11 = .ok (.ifCond .ne 10, 3) := by decide +kernel
theorem dX6_unlock_14 : decode cX6_unlock 14 = .ok (.aload_n 0, 1) := by decide +kernel
theorem dX6_unlock_15 : decode cX6_unlock 15 = .ok (.bipush 16, 2) := by decide +kernel
theorem dX6_unlock_17 : decode cX6_unlock 17 = .ok (.invokevirtual 126, 3) := by decide +kernel
theorem dX6_unlock_20 : decode cX6_unlock 20 = .ok (.ireturn, 1) := by decide +kernel
theorem dX6_unlock_21 : decode cX6_unlock 21 = .ok (.aload_n 0, 1) := by decide +kernel
theorem dX6_unlock_22 : decode cX6_unlock 22 = .ok (.iconst 0, 1) := by decide +kernel
theorem dX6_unlock_23 : decode cX6_unlock 23 = .ok (.putfield 197, 3) := by decide +kernel
theorem dX6_unlock_26 : decode cX6_unlock 26 = .ok (.iconst 1, 1) := by decide +kernel
theorem dX6_unlock_27 : decode cX6_unlock 27 = .ok (.ireturn, 1) := by decide +kernel
set_option maxRecDepth 20000 in
theorem ggX6_setSecret_X1_length : GoodIn wsX6_setSecret wsX1_length := goodIn_r _ [8, 9, 61, 62] (by decide +kernel) (by decide +kernel)
set_option maxRecDepth 20000 in
theorem gX6_setSecret_X1_length : GoodIn wsX6_setSecret (wsV RX6 86 RX1 yX1_length wsX1_length) := goodIn_app (goodIn_of _ (by decide +kernel)) ggX6_setSecret_X1_length
set_option maxRecDepth 20000 in
theorem ggX6_setSecret_X6_isOutside : GoodIn wsX6_setSecret wsX6_isOutside := goodIn_r _ [13] (by decide +kernel) (by decide +kernel)
set_option maxRecDepth 20000 in
theorem gX6_setSecret_X6_isOutside : GoodIn wsX6_setSecret (va_wsS RX6 60 yX6_isOutside wsX6_isOutside) := goodIn_app (goodIn_of _ (by decide +kernel)) ggX6_setSecret_X6_isOutside
set_option maxRecDepth 20000 in
theorem ggX6_setSecret_X1_startsWith : GoodIn wsX6_setSecret wsX1_startsWith := goodIn_r _ [17, 9, 18, 19, 20, 7, 21, 22, 61, 62] (by decide +kernel) (by decide +kernel)
set_option maxRecDepth 20000 in
theorem gX6_setSecret_X1_startsWith : GoodIn wsX6_setSecret (wsV RX6 372 RX1 yX1_startsWith wsX1_startsWith) := goodIn_app (goodIn_of _ (by decide +kernel)) ggX6_setSecret_X1_startsWith
set_option maxRecDepth 20000 in
theorem ggX6_setSecret_X6_refuse : GoodIn wsX6_setSecret wsX6_refuse := goodIn_r _ [26, 27, 28, 29, 12, 30, 31, 44, 45, 46, 47, 48, 49, 50, 51, 52, 53, 54, 55, 56, 57, 58, 59, 60] (by decide +kernel) (by decide +kernel)
set_option maxRecDepth 20000 in
theorem gX6_setSecret_X6_refuse : GoodIn wsX6_setSecret (wsV RX6 126 RX6 yX6_refuse wsX6_refuse) := goodIn_app (goodIn_of _ (by decide +kernel)) ggX6_setSecret_X6_refuse
set_option maxRecDepth 20000 in
theorem ggX6_setSecret_X1_becomeTail : GoodIn wsX6_setSecret wsX1_becomeTail := goodIn_r _ [35, 9, 36, 37, 38, 7, 39, 18, 19, 20, 21, 22, 40, 41, 42, 43, 61, 62] (by decide +kernel) (by decide +kernel)
set_option maxRecDepth 20000 in
theorem gX6_setSecret_X1_becomeTail : GoodIn wsX6_setSecret (wsV RX6 379 RX1 yX1_becomeTail wsX1_becomeTail) := goodIn_app (goodIn_of _ (by decide +kernel)) ggX6_setSecret_X1_becomeTail
theorem dX6_setSecret_0 : decode cX6_setSecret 0 = .ok (.aload_n 0, 1) := by decide +kernel
theorem dX6_setSecret_1 : decode cX6_setSecret 1 = .ok (.getfield 21, 3) := by decide +kernel
theorem dX6_setSecret_4 : decode cX6_setSecret 4 = .ok (.invokevirtual 86, 3) := by decide +kernel
theorem dX6_setSecret_7 : decode cX6_setSecret 7 = .ok (.aload_n 0, 1) := by decide +kernel
theorem dX6_setSecret_8 : decode cX6_setSecret 8 = .ok (.getfield 25, 3) := by decide +kernel
theorem dX6_setSecret_11 : decode cX6_setSecret 11 = .ok (.invokevirtual 86, 3) := by decide +kernel
theorem dX6_setSecret_14 : decode cX6_setSecret 14 = .ok (.isub, 1) := by decide +kernel
theorem dX6_setSecret_15 : decode cX6_setSecret 15 = .ok (.istore_n 2, 1) := by decide +kernel
theorem dX6_setSecret_16 : decode cX6_setSecret 16 = .ok (.aload_n 0, 1) := by decide +kernel
theorem dX6_setSecret_17 : decode cX6_setSecret 17 = .ok (.getfield 197, 3) := by decide +kernel
theorem dX6_setSecret_20 : decode cX6_setSecret 20 = .ok (.ifCond .ne 27, 3) := by decide +kernel
theorem dX6_setSecret_23 : decode cX6_setSecret 23 = .ok (.iload_n 2, 1) := by decide +kernel
theorem dX6_setSecret_24 : decode cX6_setSecret 24 = .ok (.iconst 1, 1) := by decide +kernel
theorem dX6_setSecret_25 : decode cX6_setSecret 25 = .ok (.bipush 8, 2) := by decide +kernel
theorem dX6_setSecret_27 : decode cX6_setSecret 27 = .ok (.invokestatic 60, 3) := by decide +kernel
theorem dX6_setSecret_30 : decode cX6_setSecret 30 = .ok (.ifCond .ne 17, 3) := by decide +kernel
theorem dX6_setSecret_33 : decode cX6_setSecret 33 = .ok (.aload_n 0, 1) := by decide +kernel
theorem dX6_setSecret_34 : decode cX6_setSecret 34 = .ok (.getfield 21, 3) := by decide +kernel
theorem dX6_setSecret_37 : decode cX6_setSecret 37 = .ok (.aload_n 0, 1) := by decide +kernel
theorem dX6_setSecret_38 : decode cX6_setSecret 38 = .ok (.getfield 25, 3) := by decide +kernel
theorem dX6_setSecret_41 : decode cX6_setSecret 41 = .ok (.invokevirtual 372, 3) := by decide +kernel
theorem dX6_setSecret_44 : decode cX6_setSecret 44 = .ok (.ifCond .ne 10, 3) := by decide +kernel
theorem dX6_setSecret_47 : decode cX6_setSecret 47 = .ok (.aload_n 0, 1) := by decide +kernel
theorem dX6_setSecret_48 : decode cX6_setSecret 48 = .ok (.bipush 16, 2) := by decide +kernel
theorem dX6_setSecret_50 : decode cX6_setSecret 50 = .ok (.invokevirtual 126, 3) := by decide +kernel
theorem dX6_setSecret_53 : decode cX6_setSecret 53 = .ok (.ireturn, 1) := by decide +kernel
theorem dX6_setSecret_54 : decode cX6_setSecret 54 = .ok (.aload_n 0, 1) := by decide +kernel
theorem dX6_setSecret_55 : decode cX6_setSecret 55 = .ok (.getfield 25, 3) := by decide +kernel
theorem dX6_setSecret_58 : decode cX6_setSecret 58 = .ok (.aload_n 0, 1) := by decide +kernel
theorem dX6_setSecret_59 : decode cX6_setSecret 59 = .ok (.getfield 21, 3) := by decide +kernel
theorem dX6_setSecret_62 : decode cX6_setSecret 62 = .ok (.aload_n 0, 1) := by decide +kernel
theorem dX6_setSecret_63 : decode cX6_setSecret 63 = .ok (.getfield 25, 3) := by decide +kernel
theorem dX6_setSecret_66 : decode cX6_setSecret 66 = .ok (.invokevirtual 86, 3) := by decide +kernel
theorem dX6_setSecret_69 : decode cX6_setSecret 69 = .ok (.invokevirtual 379, 3) := by decide +kernel
theorem dX6_setSecret_72 : decode cX6_setSecret 72 = .ok (.aload_n 0, 1) := by decide +kernel
theorem dX6_setSecret_73 : decode cX6_setSecret 73 = .ok (.iload_n 1, 1) := by decide +kernel
theorem dX6_setSecret_74 : decode cX6_setSecret 74 = .ok (.putfield 197, 3) := by decide +kernel
theorem dX6_setSecret_77 : decode cX6_setSecret 77 = .ok (.iconst 1, 1) := by decide +kernel
theorem dX6_setSecret_78 : decode cX6_setSecret 78 = .ok (.ireturn, 1) := by decide +kernel
set_option maxRecDepth 20000 in
theorem ggX6_clearSecret_X6_textIsSecret : GoodIn wsX6_clearSecret wsX6_textIsSecret := goodIn_r _ [7, 2, 8, 9, 10, 11, 12, 13, 14, 15, 16, 17, 18, 19, 20, 21, 22, 23, 37, 38, 39, 40, 41, 42, 43, 44, 45, 46, 47, 48, 49, 50, 51, 52, 53, 54, 55] (by decide +kernel) (by decide +kernel)
set_option maxRecDepth 20000 in
theorem gX6_clearSecret_X6_textIsSecret : GoodIn wsX6_clearSecret (wsV RX6 376 RX6 yX6_textIsSecret wsX6_textIsSecret) := goodIn_app (goodIn_of _ (by decide +kernel)) ggX6_clearSecret_X6_textIsSecret
set_option maxRecDepth 20000 in
theorem ggX6_clearSecret_X6_refuse : GoodIn wsX6_clearSecret wsX6_refuse := goodIn_r _ [27, 28, 29, 30, 6, 31, 32, 37, 38, 39, 40, 41, 42, 43, 44, 45, 46, 47, 48, 49, 50, 51, 52, 53] (by decide +kernel) (by decide +kernel)
set_option maxRecDepth 20000 in
theorem gX6_clearSecret_X6_refuse : GoodIn wsX6_clearSecret (wsV RX6 126 RX6 yX6_refuse wsX6_refuse) := goodIn_app (goodIn_of _ (by decide +kernel)) ggX6_clearSecret_X6_refuse
set_option maxRecDepth 20000 in
theorem ggX6_clearSecret_X1_empty : GoodIn wsX6_clearSecret wsX1_empty := goodIn_r _ [36, 14, 54, 55] (by decide +kernel) (by decide +kernel)
set_option maxRecDepth 20000 in
theorem gX6_clearSecret_X1_empty : GoodIn wsX6_clearSecret (wsV RX6 90 RX1 yX1_empty wsX1_empty) := goodIn_app (goodIn_of _ (by decide +kernel)) ggX6_clearSecret_X1_empty
theorem dX6_clearSecret_0 : decode cX6_clearSecret 0 = .ok (.aload_n 0, 1) := by decide +kernel
theorem dX6_clearSecret_1 : decode cX6_clearSecret 1 = .ok (.getfield 197, 3) := by decide +kernel
theorem dX6_clearSecret_4 : decode cX6_clearSecret 4 = .ok (.ifCond .ne 10, 3) := by decide +kernel
theorem dX6_clearSecret_7 : decode cX6_clearSecret 7 = .ok (.aload_n 0, 1) := by decide +kernel
theorem dX6_clearSecret_8 : decode cX6_clearSecret 8 = .ok (.invokevirtual 376, 3) := by decide +kernel
theorem dX6_clearSecret_11 : decode cX6_clearSecret 11 = .ok (.ifCond .ne 10, 3) := by decide +kernel
theorem dX6_clearSecret_14 : decode cX6_clearSecret 14 = .ok (.aload_n 0, 1) := by decide +kernel
theorem dX6_clearSecret_15 : decode cX6_clearSecret 15 = .ok (.bipush 16, 2) := by decide +kernel
theorem dX6_clearSecret_17 : decode cX6_clearSecret 17 = .ok (.invokevirtual 126, 3) := by decide +kernel
theorem dX6_clearSecret_20 : decode cX6_clearSecret 20 = .ok (.ireturn, 1) := by decide +kernel
theorem dX6_clearSecret_21 : decode cX6_clearSecret 21 = .ok (.aload_n 0, 1) := by decide +kernel
theorem dX6_clearSecret_22 : decode cX6_clearSecret 22 = .ok (.getfield 25, 3) := by decide +kernel
theorem dX6_clearSecret_25 : decode cX6_clearSecret 25 = .ok (.invokevirtual 90, 3) := by decide +kernel
theorem dX6_clearSecret_28 : decode cX6_clearSecret 28 = .ok (.iconst 1, 1) := by decide +kernel
theorem dX6_clearSecret_29 : decode cX6_clearSecret 29 = .ok (.ireturn, 1) := by decide +kernel
set_option maxRecDepth 20000 in
theorem ggX6_lock_X6_textIsSecret : GoodIn wsX6_lock wsX6_textIsSecret := goodIn_r _ [6, 7, 8, 9, 10, 11, 12, 13, 14, 15, 16, 17, 18, 19, 20, 21, 22, 23, 33, 34, 35, 36, 37, 38, 39, 40, 41, 42, 43, 44, 45, 46, 47, 48, 49, 50, 51] (by decide +kernel) (by decide +kernel)
set_option maxRecDepth 20000 in
theorem gX6_lock_X6_textIsSecret : GoodIn wsX6_lock (wsV RX6 376 RX6 yX6_textIsSecret wsX6_textIsSecret) := goodIn_app (goodIn_of _ (by decide +kernel)) ggX6_lock_X6_textIsSecret
set_option maxRecDepth 20000 in
theorem ggX6_lock_X6_refuse : GoodIn wsX6_lock wsX6_refuse := goodIn_r _ [27, 28, 29, 30, 5, 31, 32, 33, 34, 35, 36, 37, 38, 39, 40, 41, 42, 43, 44, 45, 46, 47, 48, 49] (by decide +kernel) (by decide +kernel)
set_option maxRecDepth 20000 in
theorem gX6_lock_X6_refuse : GoodIn wsX6_lock (wsV RX6 126 RX6 yX6_refuse wsX6_refuse) := goodIn_app (goodIn_of _ (by decide +kernel)) ggX6_lock_X6_refuse
theorem dX6_lock_0 : decode cX6_lock 0 = .ok (.aload_n 0, 1) := by decide +kernel
theorem dX6_lock_1 : decode cX6_lock 1 = .ok (.getfield 197, 3) := by decide +kernel
theorem dX6_lock_4 : decode cX6_lock 4 = .ok (.ifCond .ne 10, 3) := by decide +kernel
theorem dX6_lock_7 : decode cX6_lock 7 = .ok (.aload_n 0, 1) := by decide +kernel
theorem dX6_lock_8 : decode cX6_lock 8 = .ok (.invokevirtual 376, 3) := by decide +kernel
theorem dX6_lock_11 : decode cX6_lock 11 = .ok (.ifCond .ne 10, 3) := by decide +kernel
theorem dX6_lock_14 : decode cX6_lock 14 = .ok (.aload_n 0, 1) := by decide +kernel
theorem dX6_lock_15 : decode cX6_lock 15 = .ok (.bipush 16, 2) := by decide +kernel
theorem dX6_lock_17 : decode cX6_lock 17 = .ok (.invokevirtual 126, 3) := by decide +kernel
theorem dX6_lock_20 : decode cX6_lock 20 = .ok (.ireturn, 1) := by decide +kernel
theorem dX6_lock_21 : decode cX6_lock 21 = .ok (.aload_n 0, 1) := by decide +kernel
theorem dX6_lock_22 : decode cX6_lock 22 = .ok (.iconst 1, 1) := by decide +kernel
theorem dX6_lock_23 : decode cX6_lock 23 = .ok (.putfield 197, 3) := by decide +kernel
theorem dX6_lock_26 : decode cX6_lock 26 = .ok (.iconst 1, 1) := by decide +kernel
theorem dX6_lock_27 : decode cX6_lock 27 = .ok (.ireturn, 1) := by decide +kernel
set_option maxRecDepth 20000 in
theorem ggX6_force_X6_refuse : GoodIn wsX6_force wsX6_refuse := goodIn_r _ [8, 9, 10, 11, 7, 12, 13, 56, 57, 58, 59, 60, 61, 62, 63, 64, 65, 66, 67, 68, 69, 70, 71, 72] (by decide +kernel) (by decide +kernel)
set_option maxRecDepth 20000 in
theorem gX6_force_X6_refuse : GoodIn wsX6_force (wsV RX6 126 RX6 yX6_refuse wsX6_refuse) := goodIn_app (goodIn_of _ (by decide +kernel)) ggX6_force_X6_refuse
set_option maxRecDepth 20000 in
theorem ggX6_force_X1_empty : GoodIn wsX6_force wsX1_empty := goodIn_r _ [18, 19, 73, 74] (by decide +kernel) (by decide +kernel)
set_option maxRecDepth 20000 in
theorem gX6_force_X1_empty : GoodIn wsX6_force (wsV RX6 90 RX1 yX1_empty wsX1_empty) := goodIn_app (goodIn_of _ (by decide +kernel)) ggX6_force_X1_empty
set_option maxRecDepth 20000 in
theorem ggX6_force_X3_size : GoodIn wsX6_force wsX3_size := goodIn_r _ [24, 25, 75, 76, 77, 78, 79, 80] (by decide +kernel) (by decide +kernel)
set_option maxRecDepth 20000 in
theorem gX6_force_X3_size : GoodIn wsX6_force (wsV RX6 181 RX3 yX3_size wsX3_size) := goodIn_app (goodIn_of _ (by decide +kernel)) ggX6_force_X3_size
set_option maxRecDepth 20000 in
theorem ggX6_force_X3_groupOf : GoodIn wsX6_force wsX3_groupOf := goodIn_r _ [29, 30, 75, 76, 77, 78, 79, 80] (by decide +kernel) (by decide +kernel)
set_option maxRecDepth 20000 in
theorem gX6_force_X3_groupOf : GoodIn wsX6_force (wsV RX6 166 RX3 yX3_groupOf wsX3_groupOf) := goodIn_app (goodIn_of _ (by decide +kernel)) ggX6_force_X3_groupOf
set_option maxRecDepth 20000 in
theorem ggX6_force_X6_beginErasing : GoodIn wsX6_force wsX6_beginErasing := goodIn_r _ [34, 35, 36, 37, 38, 39, 40, 41, 42, 43, 44, 45, 46, 47, 48, 49, 50, 51, 52, 53, 54, 55, 56, 57, 58, 59, 60, 61, 62, 63, 64, 65, 66, 67, 68, 69, 70, 71, 72, 81, 82, 83, 84, 85, 86] (by decide +kernel) (by decide +kernel)
set_option maxRecDepth 20000 in
theorem gX6_force_X6_beginErasing : GoodIn wsX6_force (wsV RX6 352 RX6 yX6_beginErasing wsX6_beginErasing) := goodIn_app (goodIn_of _ (by decide +kernel)) ggX6_force_X6_beginErasing
theorem dX6_force_0 : decode cX6_force 0 = .ok (.aload_n 0, 1) := by decide +kernel
theorem dX6_force_1 : decode cX6_force 1 = .ok (.getfield 197, 3) := by decide +kernel
theorem dX6_force_4 : decode cX6_force 4 = .ok (.ifCond .ne 10, 3) := by decide +kernel
theorem dX6_force_7 : decode cX6_force 7 = .ok (.aload_n 0, 1) := by decide +kernel
theorem dX6_force_8 : decode cX6_force 8 = .ok (.bipush 16, 2) := by decide +kernel
theorem dX6_force_10 : decode cX6_force 10 = .ok (.invokevirtual 126, 3) := by decide +kernel
theorem dX6_force_13 : decode cX6_force 13 = .ok (.ireturn, 1) := by decide +kernel
theorem dX6_force_14 : decode cX6_force 14 = .ok (.aload_n 0, 1) := by decide +kernel
theorem dX6_force_15 : decode cX6_force 15 = .ok (.getfield 25, 3) := by decide +kernel
theorem dX6_force_18 : decode cX6_force 18 = .ok (.invokevirtual 90, 3) := by decide +kernel
theorem dX6_force_21 : decode cX6_force 21 = .ok (.aload_n 0, 1) := by decide +kernel
theorem dX6_force_22 : decode cX6_force 22 = .ok (.iconst 0, 1) := by decide +kernel
theorem dX6_force_23 : decode cX6_force 23 = .ok (.putfield 197, 3) := by decide +kernel
theorem dX6_force_26 : decode cX6_force 26 = .ok (.aload_n 0, 1) := by decide +kernel
theorem dX6_force_27 : decode cX6_force 27 = .ok (.iconst 0, 1) := by decide +kernel
theorem dX6_force_28 : decode cX6_force 28 = .ok (.aload_n 0, 1) := by decide +kernel
theorem dX6_force_29 : decode cX6_force 29 = .ok (.getfield 10, 3) := by decide +kernel
theorem dX6_force_32 : decode cX6_force 32 = .ok (.aload_n 0, 1) := by decide +kernel
theorem dX6_force_33 : decode cX6_force 33 = .ok (.getfield 10, 3) := by decide +kernel
theorem dX6_force_36 : decode cX6_force 36 = .ok (.invokevirtual 181, 3) := by decide +kernel
theorem dX6_force_39 : decode cX6_force 39 = .ok (.iconst 1, 1) := by decide +kernel
theorem dX6_force_40 : decode cX6_force 40 = .ok (.isub, 1) := by decide +kernel
theorem dX6_force_41 : decode cX6_force 41 = .ok (.invokevirtual 166, 3) := by decide +kernel
theorem dX6_force_44 : decode cX6_force 44 = .ok (.invokevirtual 352, 3) := by decide +kernel
theorem dX6_force_47 : decode cX6_force 47 = .ok (.ireturn, 1) := by decide +kernel
set_option maxRecDepth 20000 in
theorem ggX6_work_X4_size : GoodIn wsX6_work wsX4_size := goodIn_r _ [8, 9, 116, 117, 118, 119] (by decide +kernel) (by decide +kernel)
set_option maxRecDepth 20000 in
theorem gX6_work_X4_size : GoodIn wsX6_work (wsV RX6 175 RX4 yX4_size wsX4_size) := goodIn_app (goodIn_of _ (by decide +kernel)) ggX6_work_X4_size
set_option maxRecDepth 20000 in
theorem ggX6_work_X6_writeFurther : GoodIn wsX6_work wsX6_writeFurther := goodIn_r _ [14, 2, 15, 16, 17, 18, 19, 20, 7, 21, 22, 23, 24, 25, 26, 9, 27, 28, 29, 30, 31, 32, 33, 34, 35, 36, 37, 38, 39, 40, 41, 42, 43, 44, 45, 46, 47, 48, 49, 50, 51, 52, 53, 54, 55, 56, 57, 58, 59, 60, 61, 62, 63, 64, 99, 100, 101, 102, 103, 104, 105, 106, 107, 108, 109, 110, 111, 112, 113, 114, 115, 116, 117, 118, 119, 120, 121, 122, 123, 124, 125, 126, 127, 128] (by decide +kernel) (by decide +kernel)
set_option maxRecDepth 20000 in
theorem gX6_work_X6_writeFurther : GoodIn wsX6_work (wsV RX6 383 RX6 yX6_writeFurther wsX6_writeFurther) := goodIn_app (goodIn_of _ (by decide +kernel)) ggX6_work_X6_writeFurther
set_option maxRecDepth 20000 in
theorem ggX6_work_X0_groupsLeft : GoodIn wsX6_work wsX0_groupsLeft := goodIn_r _ [69, 70, 129, 130, 131, 132, 133, 134] (by decide +kernel) (by decide +kernel)
set_option maxRecDepth 20000 in
theorem gX6_work_X0_groupsLeft : GoodIn wsX6_work (wsV RX6 207 RX0 yX0_groupsLeft wsX0_groupsLeft) := goodIn_app (goodIn_of _ (by decide +kernel)) ggX6_work_X0_groupsLeft
set_option maxRecDepth 20000 in
theorem ggX6_work_X6_eraseFurther : GoodIn wsX6_work wsX6_eraseFurther := goodIn_r _ [74, 3, 16, 75, 76, 77, 68, 78, 79, 80, 81, 82, 83, 84, 70, 85, 86, 87, 38, 88, 89, 90, 91, 92, 93, 46, 94, 95, 63, 96, 97, 62, 64, 40, 98, 41, 47, 48, 49, 50, 51, 52, 99, 100, 101, 102, 103, 104, 105, 106, 107, 108, 109, 110, 111, 112, 113, 114, 115, 129, 130, 131, 132, 133, 134, 123, 124, 125, 126, 127, 128] (by decide +kernel) (by decide +kernel)
set_option maxRecDepth 20000 in
theorem gX6_work_X6_eraseFurther : GoodIn wsX6_work (wsV RX6 386 RX6 yX6_eraseFurther wsX6_eraseFurther) := goodIn_app (goodIn_of _ (by decide +kernel)) ggX6_work_X6_eraseFurther
theorem dX6_work_0 : decode cX6_work 0 = .ok (.aload_n 0, 1) := by decide +kernel
theorem dX6_work_1 : decode cX6_work 1 = .ok (.getfield 111, 3) := by decide +kernel
theorem dX6_work_4 : decode cX6_work 4 = .ok (.bipush 6, 2) := by decide +kernel
theorem dX6_work_6 : decode cX6_work 6 = .ok (.if_icmp .eq 13, 3) := by decide +kernel
theorem dX6_work_9 : decode cX6_work 9 = .ok (.aload_n 0, 1) := by decide +kernel
theorem dX6_work_10 : decode cX6_work 10 = .ok (.getfield 111, 3) := by decide +kernel
theorem dX6_work_13 : decode cX6_work 13 = .ok (.bipush 7, 2) := by decide +kernel
theorem dX6_work_15 : decode cX6_work 15 = .ok (.if_icmp .eq 4, 3) := by decide +kernel
theorem dX6_work_18 : decode cX6_work 18 = .ok (.return_, 1) := by decide +kernel
theorem dX6_work_19 : decode cX6_work 19 = .ok (.aload_n 0, 1) := by decide +kernel
theorem dX6_work_20 : decode cX6_work 20 = .ok (.getfield 31, 3) := by decide +kernel
theorem dX6_work_23 : decode cX6_work 23 = .ok (.invokevirtual 175, 3) := by decide +kernel
theorem dX6_work_26 : decode cX6_work 26 = .ok (.ifCond .le 10, 3) := by decide +kernel
theorem dX6_work_29 : decode cX6_work 29 = .ok (.aload_n 0, 1) := by decide +kernel
theorem dX6_work_30 : decode cX6_work 30 = .ok (.invokevirtual 383, 3) := by decide +kernel
theorem dX6_work_33 : decode cX6_work 33 = .ok (.goto 17, 3) := by decide +kernel
theorem dX6_work_36 : decode cX6_work 36 = .ok (.aload_n 0, 1) := by decide +kernel
theorem dX6_work_37 : decode cX6_work 37 = .ok (.getfield 38, 3) := by decide +kernel
theorem dX6_work_40 : decode cX6_work 40 = .ok (.invokevirtual 207, 3) := by decide +kernel
theorem dX6_work_43 : decode cX6_work 43 = .ok (.ifCond .le 7, 3) := by decide +kernel
theorem dX6_work_46 : decode cX6_work 46 = .ok (.aload_n 0, 1) := by decide +kernel
theorem dX6_work_47 : decode cX6_work 47 = .ok (.invokevirtual 386, 3) := by decide +kernel
theorem dX6_work_50 : decode cX6_work 50 = .ok (.aload_n 0, 1) := by decide +kernel
theorem dX6_work_51 : decode cX6_work 51 = .ok (.getfield 111, 3) := by decide +kernel
theorem dX6_work_54 : decode cX6_work 54 = .ok (.bipush 7, 2) := by decide +kernel
theorem dX6_work_56 : decode cX6_work 56 = .ok (.if_icmp .ne 28, 3) := by decide +kernel
theorem dX6_work_59 : decode cX6_work 59 = .ok (.aload_n 0, 1) := by decide +kernel
theorem dX6_work_60 : decode cX6_work 60 = .ok (.getfield 31, 3) := by decide +kernel
theorem dX6_work_63 : decode cX6_work 63 = .ok (.invokevirtual 175, 3) := by decide +kernel
theorem dX6_work_66 : decode cX6_work 66 = .ok (.ifCond .ne 18, 3) := by decide +kernel
theorem dX6_work_69 : decode cX6_work 69 = .ok (.aload_n 0, 1) := by decide +kernel
theorem dX6_work_70 : decode cX6_work 70 = .ok (.getfield 38, 3) := by decide +kernel
theorem dX6_work_73 : decode cX6_work 73 = .ok (.invokevirtual 207, 3) := by decide +kernel
theorem dX6_work_76 : decode cX6_work 76 = .ok (.ifCond .ne 8, 3) := by decide +kernel
theorem dX6_work_79 : decode cX6_work 79 = .ok (.aload_n 0, 1) := by decide +kernel
theorem dX6_work_80 : decode cX6_work 80 = .ok (.iconst 4, 1) := by decide +kernel
theorem dX6_work_81 : decode cX6_work 81 = .ok (.putfield 111, 3) := by decide +kernel
theorem dX6_work_84 : decode cX6_work 84 = .ok (.return_, 1) := by decide +kernel
set_option maxRecDepth 20000 in
theorem ggX6_writeFurther_X4_tickFirst : GoodIn wsX6_writeFurther wsX4_tickFirst := goodIn_r _ [9, 10, 71, 72, 73, 74] (by decide +kernel) (by decide +kernel)
set_option maxRecDepth 20000 in
theorem gX6_writeFurther_X4_tickFirst : GoodIn wsX6_writeFurther (wsV RX6 389 RX4 yX4_tickFirst wsX4_tickFirst) := goodIn_app (goodIn_of _ (by decide +kernel)) ggX6_writeFurther_X4_tickFirst
set_option maxRecDepth 20000 in
theorem ggX6_writeFurther_X4_tellOf : GoodIn wsX6_writeFurther wsX4_tellOf := goodIn_r _ [14, 15, 16, 17, 10, 71, 72, 73, 74] (by decide +kernel) (by decide +kernel)
set_option maxRecDepth 20000 in
theorem gX6_writeFurther_X4_tellOf : GoodIn wsX6_writeFurther (wsV RX6 178 RX4 yX4_tellOf wsX4_tellOf) := goodIn_app (goodIn_of _ (by decide +kernel)) ggX6_writeFurther_X4_tellOf
set_option maxRecDepth 20000 in
theorem ggX6_writeFurther_X2_ticksOfBlock : GoodIn wsX6_writeFurther wsX2_ticksOfBlock := goodIn_r _ [22, 23, 75, 76, 77] (by decide +kernel) (by decide +kernel)
set_option maxRecDepth 20000 in
theorem gX6_writeFurther_X2_ticksOfBlock : GoodIn wsX6_writeFurther (wsV RX6 392 RX2 yX2_ticksOfBlock wsX2_ticksOfBlock) := goodIn_app (goodIn_of _ (by decide +kernel)) ggX6_writeFurther_X2_ticksOfBlock
set_option maxRecDepth 20000 in
theorem ggX6_writeFurther_X3_put : GoodIn wsX6_writeFurther wsX3_put := goodIn_r _ [28, 29, 30, 31, 32, 33, 27, 34, 35, 36, 37, 38, 39, 40, 41, 42, 43, 44, 45, 78, 79, 80, 81, 82, 83] (by decide +kernel) (by decide +kernel)
set_option maxRecDepth 20000 in
theorem gX6_writeFurther_X3_put : GoodIn wsX6_writeFurther (wsV RX6 395 RX3 yX3_put wsX3_put) := goodIn_app (goodIn_of _ (by decide +kernel)) ggX6_writeFurther_X3_put
set_option maxRecDepth 20000 in
theorem ggX6_writeFurther_X4_dropFirst : GoodIn wsX6_writeFurther wsX4_dropFirst := goodIn_r _ [49, 15, 16, 17, 50, 51, 52, 53, 10, 71, 72, 73, 74] (by decide +kernel) (by decide +kernel)
set_option maxRecDepth 20000 in
theorem gX6_writeFurther_X4_dropFirst : GoodIn wsX6_writeFurther (wsV RX6 398 RX4 yX4_dropFirst wsX4_dropFirst) := goodIn_app (goodIn_of _ (by decide +kernel)) ggX6_writeFurther_X4_dropFirst
theorem dX6_writeFurther_0 : decode cX6_writeFurther 0 = .ok (.aload_n 0, 1) := by decide +kernel
theorem dX6_writeFurther_1 : decode cX6_writeFurther 1 = .ok (.getfield 31, 3) := by decide +kernel
theorem dX6_writeFurther_4 : decode cX6_writeFurther 4 = .ok (.invokevirtual 389, 3) := by decide +kernel
theorem dX6_writeFurther_7 : decode cX6_writeFurther 7 = .ok (.aload_n 0, 1) := by decide +kernel
theorem dX6_writeFurther_8 : decode cX6_writeFurther 8 = .ok (.getfield 31, 3) := by decide +kernel
theorem dX6_writeFurther_11 : decode cX6_writeFurther 11 = .ok (.iconst 0, 1) := by decide +kernel
theorem dX6_writeFurther_12 : decode cX6_writeFurther 12 = .ok (.iconst 2, 1) := by decide +kernel
theorem dX6_writeFurther_13 : decode cX6_writeFurther 13 = .ok (.invokevirtual 178, 3) := by decide +kernel
theorem dX6_writeFurther_16 : decode cX6_writeFurther 16 = .ok (.aload_n 0, 1) := by decide +kernel
theorem dX6_writeFurther_17 : decode cX6_writeFurther 17 = .ok (.getfield 52, 3) := by decide +kernel
theorem dX6_writeFurther_20 : decode cX6_writeFurther 20 = .ok (.invokevirtual 392, 3) := by decide +kernel
theorem dX6_writeFurther_23 : decode cX6_writeFurther 23 = .ok (.if_icmp .ge 4, 3) := by decide +kernel
theorem dX6_writeFurther_26 : decode cX6_writeFurther 26 = .ok (.return_, 1) := by decide +kernel
theorem dX6_writeFurther_27 : decode cX6_writeFurther 27 = .ok (.aload_n 0, 1) := by decide +kernel
theorem dX6_writeFurther_28 : decode cX6_writeFurther 28 = .ok (.getfield 10, 3) := by decide +kernel
theorem dX6_writeFurther_31 : decode cX6_writeFurther 31 = .ok (.aload_n 0, 1) := by decide +kernel
theorem dX6_writeFurther_32 : decode cX6_writeFurther 32 = .ok (.getfield 31, 3) := by decide +kernel
theorem dX6_writeFurther_35 : decode cX6_writeFurther 35 = .ok (.iconst 0, 1) := by decide +kernel
theorem dX6_writeFurther_36 : decode cX6_writeFurther 36 = .ok (.iconst 0, 1) := by decide +kernel
theorem dX6_writeFurther_37 : decode cX6_writeFurther 37 = .ok (.invokevirtual 178, 3) := by decide +kernel
theorem dX6_writeFurther_40 : decode cX6_writeFurther 40 = .ok (.aload_n 0, 1) := by decide +kernel
theorem dX6_writeFurther_41 : decode cX6_writeFurther 41 = .ok (.getfield 31, 3) := by decide +kernel
theorem dX6_writeFurther_44 : decode cX6_writeFurther 44 = .ok (.iconst 0, 1) := by decide +kernel
theorem dX6_writeFurther_45 : decode cX6_writeFurther 45 = .ok (.iconst 1, 1) := by decide +kernel
theorem dX6_writeFurther_46 : decode cX6_writeFurther 46 = .ok (.invokevirtual 178, 3) := by decide +kernel
theorem dX6_writeFurther_49 : decode cX6_writeFurther 49 = .ok (.invokevirtual 395, 3) := by decide +kernel
theorem dX6_writeFurther_52 : decode cX6_writeFurther 52 = .ok (.aload_n 0, 1) := by decide +kernel
theorem dX6_writeFurther_53 : decode cX6_writeFurther 53 = .ok (.dup, 1) := by decide +kernel
theorem dX6_writeFurther_54 : decode cX6_writeFurther 54 = .ok (.getfield 204, 3) := by decide +kernel
theorem dX6_writeFurther_57 : decode cX6_writeFurther 57 = .ok (.iconst 1, 1) := by decide +kernel
theorem dX6_writeFurther_58 : decode cX6_writeFurther 58 = .ok (.iadd, 1) := by decide +kernel
theorem dX6_writeFurther_59 : decode cX6_writeFurther 59 = .ok (.putfield 204, 3) := by decide +kernel
theorem dX6_writeFurther_62 : decode cX6_writeFurther 62 = .ok (.aload_n 0, 1) := by decide +kernel
theorem dX6_writeFurther_63 : decode cX6_writeFurther 63 = .ok (.getfield 31, 3) := by decide +kernel
theorem dX6_writeFurther_66 : decode cX6_writeFurther 66 = .ok (.invokevirtual 398, 3) := by decide +kernel
theorem dX6_writeFurther_69 : decode cX6_writeFurther 69 = .ok (.return_, 1) := by decide +kernel
set_option maxRecDepth 20000 in
theorem ggX6_eraseFurther_X0_group : GoodIn wsX6_eraseFurther wsX0_group := goodIn_r _ [7, 8, 59, 60, 61, 62, 63, 64] (by decide +kernel) (by decide +kernel)
set_option maxRecDepth 20000 in
theorem gX6_eraseFurther_X0_group : GoodIn wsX6_eraseFurther (wsV RX6 261 RX0 yX0_group wsX0_group) := goodIn_app (goodIn_of _ (by decide +kernel)) ggX6_eraseFurther_X0_group
set_option maxRecDepth 20000 in
theorem ggX6_eraseFurther_X0_tickGroup : GoodIn wsX6_eraseFurther wsX0_tickGroup := goodIn_r _ [12, 13, 8, 14, 59, 60, 61, 62, 63, 64] (by decide +kernel) (by decide +kernel)
set_option maxRecDepth 20000 in
theorem gX6_eraseFurther_X0_tickGroup : GoodIn wsX6_eraseFurther (wsV RX6 401 RX0 yX0_tickGroup wsX0_tickGroup) := goodIn_app (goodIn_of _ (by decide +kernel)) ggX6_eraseFurther_X0_tickGroup
set_option maxRecDepth 20000 in
theorem ggX6_eraseFurther_X3_eraseGroup : GoodIn wsX6_eraseFurther wsX3_eraseGroup := goodIn_r _ [19, 20, 21, 22, 23, 18, 24, 25, 26, 27, 28, 29, 30, 31, 32, 33, 34, 35, 36, 37, 38, 39, 40, 41, 65, 66, 67, 68, 69, 70] (by decide +kernel) (by decide +kernel)
set_option maxRecDepth 20000 in
theorem gX6_eraseFurther_X3_eraseGroup : GoodIn wsX6_eraseFurther (wsV RX6 404 RX3 yX3_eraseGroup wsX3_eraseGroup) := goodIn_app (goodIn_of _ (by decide +kernel)) ggX6_eraseFurther_X3_eraseGroup
theorem dX6_eraseFurther_0 : decode cX6_eraseFurther 0 = .ok (.aload_n 0, 1) := by decide +kernel
theorem dX6_eraseFurther_1 : decode cX6_eraseFurther 1 = .ok (.getfield 38, 3) := by decide +kernel
theorem dX6_eraseFurther_4 : decode cX6_eraseFurther 4 = .ok (.invokevirtual 261, 3) := by decide +kernel
theorem dX6_eraseFurther_7 : decode cX6_eraseFurther 7 = .ok (.istore_n 1, 1) := by decide +kernel
theorem dX6_eraseFurther_8 : decode cX6_eraseFurther 8 = .ok (.aload_n 0, 1) := by decide +kernel
theorem dX6_eraseFurther_9 : decode cX6_eraseFurther 9 = .ok (.getfield 38, 3) := by decide +kernel
theorem dX6_eraseFurther_12 : decode cX6_eraseFurther 12 = .ok (.invokevirtual 401, 3) := by decide +kernel
theorem dX6_eraseFurther_15 : decode cX6_eraseFurther 15 = .ok (.ifCond .eq 11, 3) := by decide +kernel
theorem dX6_eraseFurther_18 : decode cX6_eraseFurther 18 = .ok (.aload_n 0, 1) := by decide +kernel
theorem dX6_eraseFurther_19 : decode cX6_eraseFurther 19 = .ok (.getfield 10, 3) := by decide +kernel
theorem dX6_eraseFurther_22 : decode cX6_eraseFurther 22 = .ok (.iload_n 1, 1) := by decide +kernel
theorem dX6_eraseFurther_23 : decode cX6_eraseFurther 23 = .ok (.invokevirtual 404, 3) := by decide +kernel
theorem dX6_eraseFurther_26 : decode cX6_eraseFurther 26 = .ok (.return_, 1) := by decide +kernel
set_option maxRecDepth 20000 in
theorem ggX7_init_X7_make : GoodIn wsX7_init wsX7_make := goodIn_r _ [17, 18, 19, 20, 21, 22, 23, 24, 25, 26, 27, 28, 29, 30, 6, 31, 7, 32, 33, 34, 16, 35, 36, 37, 38, 39, 40, 41, 42, 43, 44, 45, 46, 47, 48, 49, 50, 51, 52, 53, 54, 55, 56, 57, 58, 59, 60, 61, 62, 63, 64, 65, 66, 67, 68, 69, 70, 71, 72, 73, 74, 75, 76, 77, 78, 79, 80, 81, 82, 83, 84, 85, 86, 87, 88, 89, 90, 91, 92, 93] (by decide +kernel) (by decide +kernel)
set_option maxRecDepth 20000 in
theorem gX7_init_X7_make : GoodIn wsX7_init (wsV RX7 34 RX7 yX7_make wsX7_make) := goodIn_app (goodIn_of _ (by decide +kernel)) ggX7_init_X7_make
theorem dX7_init_0 : decode cX7_init 0 = .ok (.aload_n 0, 1) := by decide +kernel
theorem dX7_init_1 : decode cX7_init 1 = .ok (.invokespecial 1, 3) := by decide +kernel
theorem dX7_init_4 : decode cX7_init 4 = .ok (.aload_n 0, 1) := by decide +kernel
theorem dX7_init_5 : decode cX7_init 5 = .ok (.sipush 200, 3) := by decide +kernel
theorem dX7_init_8 : decode cX7_init 8 = .ok (.newarray .int, 2) := by decide +kernel
theorem dX7_init_10 : decode cX7_init 10 = .ok (.putfield 7, 3) := by decide +kernel
theorem dX7_init_13 : decode cX7_init 13 = .ok (.aload_n 0, 1) := by decide +kernel
theorem dX7_init_14 : decode cX7_init 14 = .ok (.bipush 64, 2) := by decide +kernel
theorem dX7_init_16 : decode cX7_init 16 = .ok (.newarray .int, 2) := by decide +kernel
theorem dX7_init_18 : decode cX7_init 18 = .ok (.putfield 13, 3) := by decide +kernel
theorem dX7_init_21 : decode cX7_init 21 = .ok (.aload_n 0, 1) := by decide +kernel
theorem dX7_init_22 : decode cX7_init 22 = .ok (.bipush 64, 2) := by decide +kernel
theorem dX7_init_24 : decode cX7_init 24 = .ok (.newarray .int, 2) := by decide +kernel
theorem dX7_init_26 : decode cX7_init 26 = .ok (.putfield 16, 3) := by decide +kernel
theorem dX7_init_29 : decode cX7_init 29 = .ok (.aload_n 0, 1) := by decide +kernel
theorem dX7_init_30 : decode cX7_init 30 = .ok (.bipush 8, 2) := by decide +kernel
theorem dX7_init_32 : decode cX7_init 32 = .ok (.newarray .int, 2) := by decide +kernel
theorem dX7_init_34 : decode cX7_init 34 = .ok (.putfield 19, 3) := by decide +kernel
theorem dX7_init_37 : decode cX7_init 37 = .ok (.aload_n 0, 1) := by decide +kernel
theorem dX7_init_38 : decode cX7_init 38 = .ok (.bipush 64, 2) := by decide +kernel
theorem dX7_init_40 : decode cX7_init 40 = .ok (.newarray .int, 2) := by decide +kernel
theorem dX7_init_42 : decode cX7_init 42 = .ok (.putfield 22, 3) := by decide +kernel
theorem dX7_init_45 : decode cX7_init 45 = .ok (.aload_n 0, 1) := by decide +kernel
theorem dX7_init_46 : decode cX7_init 46 = .ok (.iconst 2, 1) := by decide +kernel
theorem dX7_init_47 : decode cX7_init 47 = .ok (.newarray .int, 2) := by decide +kernel
theorem dX7_init_49 : decode cX7_init 49 = .ok (.putfield 25, 3) := by decide +kernel
theorem dX7_init_52 : decode cX7_init 52 = .ok (.aload_n 0, 1) := by decide +kernel
theorem dX7_init_53 : decode cX7_init 53 = .ok (.iconst 2, 1) := by decide +kernel
theorem dX7_init_54 : decode cX7_init 54 = .ok (.newarray .int, 2) := by decide +kernel
theorem dX7_init_56 : decode cX7_init 56 = .ok (.putfield 28, 3) := by decide +kernel
theorem dX7_init_59 : decode cX7_init 59 = .ok (.aload_n 0, 1) := by decide +kernel
theorem dX7_init_60 : decode cX7_init 60 = .ok (.iconst 2, 1) := by decide +kernel
theorem dX7_init_61 : decode cX7_init 61 = .ok (.newarray .int, 2) := by decide +kernel
theorem dX7_init_63 : decode cX7_init 63 = .ok (.putfield 31, 3) := by decide +kernel
theorem dX7_init_66 : decode cX7_init 66 = .ok (.aload_n 0, 1) := by decide +kernel
theorem dX7_init_67 : decode cX7_init 67 = .ok (.bipush 32, 2) := by decide +kernel
theorem dX7_init_69 : decode cX7_init 69 = .ok (.iconst 4, 1) := by decide +kernel
theorem dX7_init_70 : decode cX7_init 70 = .ok (.iconst 2, 1) := by decide +kernel
theorem dX7_init_71 : decode cX7_init 71 = .ok (.sipush 1000, 3) := by decide +kernel
theorem dX7_init_74 : decode cX7_init 74 = .ok (.invokevirtual 34, 3) := by decide +kernel
theorem dX7_init_77 : decode cX7_init 77 = .ok (.pop, 1) := by decide +kernel
theorem dX7_init_78 : decode cX7_init 78 = .ok (.return_, 1) := by decide +kernel
theorem dX7_in_0 : decode cX7_in 0 = .ok (.lload_n 0, 1) := by decide +kernel
theorem dX7_in_1 : decode cX7_in 1 = .ok (.lload_n 2, 1) := by decide +kernel
theorem dX7_in_2 : decode cX7_in 2 = .ok (.lcmp, 1) := by decide +kernel
theorem dX7_in_3 : decode cX7_in 3 = .ok (.ifCond .lt 14, 3) := by decide +kernel
theorem dX7_in_6 : decode cX7_in 6 = .ok (.lload_n 0, 1) := by decide +kernel
theorem dX7_in_7 : decode cX7_in 7 = .ok (.lload 4, 2) := by decide +kernel
theorem dX7_in_9 : decode cX7_in 9 = .ok (.lcmp, 1) := by decide +kernel
theorem dX7_in_10 : decode cX7_in 10 = .ok (.ifCond .gt 7, 3) := by decide +kernel
theorem dX7_in_13 : decode cX7_in 13 = .ok (.iconst 1, 1) := by decide +kernel
theorem dX7_in_14 : decode cX7_in 14 = .ok (.goto 4, 3) := by decide +kernel
theorem dX7_in_17 : decode cX7_in 17 = .ok (.iconst 0, 1) := by decide +kernel
theorem dX7_in_18 : decode cX7_in 18 = .ok (.ireturn, 1) := by decide +kernel
set_option maxRecDepth 20000 in
theorem ggX7_make_X7_in : GoodIn wsX7_make wsX7_in := goodIn_r _ [21] (by decide +kernel) (by decide +kernel)
set_option maxRecDepth 20000 in
theorem gX7_make_X7_in : GoodIn wsX7_make (va_wsS RX7 42 yX7_in wsX7_in) := goodIn_app (goodIn_of _ (by decide +kernel)) ggX7_make_X7_in
set_option maxRecDepth 20000 in
theorem ggX7_make_X7_begins : GoodIn wsX7_make wsX7_begins := goodIn_r _ [25, 26, 27, 28, 29, 30, 12, 31, 32, 33, 34, 35, 36, 37, 38, 39, 40, 41, 42, 43, 44, 45, 46, 47, 48, 49, 50, 51, 52, 53, 54, 55, 56, 57, 58, 59, 60, 61, 62, 63, 64, 65, 66, 67, 68, 69, 70, 71, 72, 73, 74, 75, 76, 77, 78, 79] (by decide +kernel) (by decide +kernel)
set_option maxRecDepth 20000 in
theorem gX7_make_X7_begins : GoodIn wsX7_make (wsV RX7 82 RX7 yX7_begins wsX7_begins) := goodIn_app (goodIn_of _ (by decide +kernel)) ggX7_make_X7_begins
theorem dX7_make_0 : decode cX7_make 0 = .ok (.iload_n 1, 1) := by decide +kernel
theorem dX7_make_1 : decode cX7_make 1 = .ok (.i2l, 1) := by decide +kernel
theorem dX7_make_2 : decode cX7_make 2 = .ok (.ldc2_w 38, 3) := by decide +kernel
theorem dX7_make_5 : decode cX7_make 5 = .ok (.ldc2_w 40, 3) := by decide +kernel
theorem dX7_make_8 : decode cX7_make 8 = .ok (.invokestatic 42, 3) := by decide +kernel
theorem dX7_make_11 : decode cX7_make 11 = .ok (.ifCond .eq 40, 3) := by decide +kernel
theorem dX7_make_14 : decode cX7_make 14 = .ok (.iload_n 2, 1) := by decide +kernel
theorem dX7_make_15 : decode cX7_make 15 = .ok (.i2l, 1) := by decide +kernel
theorem dX7_make_16 : decode cX7_make 16 = .ok (.lconst 1, 1) := by decide +kernel
theorem dX7_make_17 : decode cX7_make 17 = .ok (.ldc2_w 46, 3) := by decide +kernel
theorem dX7_make_20 : decode cX7_make 20 = .ok (.invokestatic 42, 3) := by decide +kernel
theorem dX7_make_23 : decode cX7_make 23 = .ok (.ifCond .eq 28, 3) := by decide +kernel
theorem dX7_make_26 : decode cX7_make 26 = .ok (.iload_n 3, 1) := by decide +kernel
theorem dX7_make_27 : decode cX7_make 27 = .ok (.i2l, 1) := by decide +kernel
theorem dX7_make_28 : decode cX7_make 28 = .ok (.lconst 0, 1) := by decide +kernel
theorem dX7_make_29 : decode cX7_make 29 = .ok (.ldc2_w 48, 3) := by decide +kernel
theorem dX7_make_32 : decode cX7_make 32 = .ok (.invokestatic 42, 3) := by decide +kernel
theorem dX7_make_35 : decode cX7_make 35 = .ok (.ifCond .eq 16, 3) := by decide +kernel
theorem dX7_make_38 : decode cX7_make 38 = .ok (.iload 4, 2) := by decide +kernel
theorem dX7_make_40 : decode cX7_make 40 = .ok (.i2l, 1) := by decide +kernel
theorem dX7_make_41 : decode cX7_make 41 = .ok (.lconst 0, 1) := by decide +kernel
theorem dX7_make_42 : decode cX7_make 42 = .ok (.ldc2_w 50, 3) := by decide +kernel
theorem dX7_make_45 : decode cX7_make 45 = .ok (.invokestatic 42, 3) := by decide +kernel
theorem dX7_make_48 : decode cX7_make 48 = .ok (.ifCond .ne 5, 3) := by decide +kernel
theorem dX7_make_51 : decode cX7_make 51 = .ok (.iconst (-1), 1) := by decide +kernel
theorem dX7_make_52 : decode cX7_make 52 = .ok (.ireturn, 1) := by decide +kernel
theorem dX7_make_53 : decode cX7_make 53 = .ok (.aload_n 0, 1) := by decide +kernel
theorem dX7_make_54 : decode cX7_make 54 = .ok (.iload_n 1, 1) := by decide +kernel
theorem dX7_make_55 : decode cX7_make 55 = .ok (.putfield 52, 3) := by decide +kernel
theorem dX7_make_58 : decode cX7_make 58 = .ok (.aload_n 0, 1) := by decide +kernel
theorem dX7_make_59 : decode cX7_make 59 = .ok (.iload_n 2, 1) := by decide +kernel
theorem dX7_make_60 : decode cX7_make 60 = .ok (.putfield 56, 3) := by decide +kernel
theorem dX7_make_63 : decode cX7_make 63 = .ok (.aload_n 0, 1) := by decide +kernel
theorem dX7_make_64 : decode cX7_make 64 = .ok (.iload_n 3, 1) := by decide +kernel
theorem dX7_make_65 : decode cX7_make 65 = .ok (.putfield 59, 3) := by decide +kernel
theorem dX7_make_68 : decode cX7_make 68 = .ok (.aload_n 0, 1) := by decide +kernel
theorem dX7_make_69 : decode cX7_make 69 = .ok (.iload 4, 2) := by decide +kernel
theorem dX7_make_71 : decode cX7_make 71 = .ok (.putfield 62, 3) := by decide +kernel
theorem dX7_make_74 : decode cX7_make 74 = .ok (.aload_n 0, 1) := by decide +kernel
theorem dX7_make_75 : decode cX7_make 75 = .ok (.iconst 0, 1) := by decide +kernel
theorem dX7_make_76 : decode cX7_make 76 = .ok (.putfield 65, 3) := by decide +kernel
theorem dX7_make_79 : decode cX7_make 79 = .ok (.aload_n 0, 1) := by decide +kernel
theorem dX7_make_80 : decode cX7_make 80 = .ok (.iconst 0, 1) := by decide +kernel
theorem dX7_make_81 : decode cX7_make 81 = .ok (.putfield 68, 3) := by decide +kernel
theorem dX7_make_84 : decode cX7_make 84 = .ok (.aload_n 0, 1) := by decide +kernel
theorem dX7_make_85 : decode cX7_make 85 = .ok (.iconst 0, 1) := by decide +kernel
theorem dX7_make_86 : decode cX7_make 86 = .ok (.putfield 71, 3) := by decide +kernel
theorem dX7_make_89 : decode cX7_make 89 = .ok (.aload_n 0, 1) := by decide +kernel
theorem dX7_make_90 : decode cX7_make 90 = .ok (.iconst 0, 1) := by decide +kernel
theorem dX7_make_91 : decode cX7_make 91 = .ok (.putfield 74, 3) := by decide +kernel
theorem dX7_make_94 : decode cX7_make 94 = .ok (.iconst 0, 1) := by decide +kernel
theorem dX7_make_95 : decode cX7_make 95 = .ok (.istore 5, 2) := by decide +kernel
theorem dX7_make_97 : decode cX7_make 97 = .ok (.iload 5, 2) := by decide +kernel
theorem dX7_make_99 : decode cX7_make 99 = .ok (.bipush 64, 2) := by decide +kernel
theorem dX7_make_101 : decode cX7_make 101 = .ok (.if_icmp .ge 26, 3) := by decide +kernel
theorem dX7_make_104 : decode cX7_make 104 = .ok (.aload_n 0, 1) := by decide +kernel
theorem dX7_make_105 : decode cX7_make 105 = .ok (.getfield 13, 3) := by decide +kernel
theorem dX7_make_108 : decode cX7_make 108 = .ok (.iload 5, 2) := by decide +kernel
theorem dX7_make_110 : decode cX7_make 110 = .ok (.ldc 77, 2) := by decide +kernel
theorem dX7_make_112 : decode cX7_make 112 = .ok (.iastore, 1) := by decide +kernel
theorem dX7_make_113 : decode cX7_make 113 = .ok (.aload_n 0, 1) := by decide +kernel
theorem dX7_make_114 : decode cX7_make 114 = .ok (.getfield 16, 3) := by decide +kernel
theorem dX7_make_117 : decode cX7_make 117 = .ok (.iload 5, 2) := by decide +kernel
theorem dX7_make_119 : decode cX7_make 119 = .ok (.iconst 0, 1) := by decide +kernel
theorem dX7_make_120 : decode cX7_make 120 = .ok (.iastore, 1) := by decide +kernel
theorem dX7_make_121 : decode cX7_make 121 = .ok (.iinc 5 1, 3) := by decide +kernel
theorem dX7_make_124 : decode cX7_make 124 = .ok (.goto (-27), 3) := by decide +kernel
theorem dX7_make_127 : decode cX7_make 127 = .ok (.aload_n 0, 1) := by decide +kernel
theorem dX7_make_128 : decode cX7_make 128 = .ok (.iconst 0, 1) := by decide +kernel
theorem dX7_make_129 : decode cX7_make 129 = .ok (.putfield 78, 3) := by decide +kernel
theorem dX7_make_132 : decode cX7_make 132 = .ok (.aload_n 0, 1) := by decide +kernel
theorem dX7_make_133 : decode cX7_make 133 = .ok (.invokevirtual 82, 3) := by decide +kernel
theorem dX7_make_136 : decode cX7_make 136 = .ok (.iload_n 1, 1) := by decide +kernel
theorem dX7_make_137 : decode cX7_make 137 = .ok (.ireturn, 1) := by decide +kernel
theorem dX7_begins_0 : decode cX7_begins 0 = .ok (.aload_n 0, 1) := by decide +kernel
theorem dX7_begins_1 : decode cX7_begins 1 = .ok (.iconst 0, 1) := by decide +kernel
theorem dX7_begins_2 : decode cX7_begins 2 = .ok (.putfield 85, 3) := by decide +kernel
theorem dX7_begins_5 : decode cX7_begins 5 = .ok (.aload_n 0, 1) := by decide +kernel
theorem dX7_begins_6 : decode cX7_begins 6 = .ok (.iconst 0, 1) := by decide +kernel
theorem dX7_begins_7 : decode cX7_begins 7 = .ok (.putfield 88, 3) := by decide +kernel
theorem dX7_begins_10 : decode cX7_begins 10 = .ok (.aload_n 0, 1) := by decide +kernel
theorem dX7_begins_11 : decode cX7_begins 11 = .ok (.iconst 0, 1) := by decide +kernel
theorem dX7_begins_12 : decode cX7_begins 12 = .ok (.putfield 91, 3) := by decide +kernel
theorem dX7_begins_15 : decode cX7_begins 15 = .ok (.aload_n 0, 1) := by decide +kernel
theorem dX7_begins_16 : decode cX7_begins 16 = .ok (.iconst 0, 1) := by decide +kernel
theorem dX7_begins_17 : decode cX7_begins 17 = .ok (.putfield 94, 3) := by decide +kernel
theorem dX7_begins_20 : decode cX7_begins 20 = .ok (.aload_n 0, 1) := by decide +kernel
theorem dX7_begins_21 : decode cX7_begins 21 = .ok (.iconst 0, 1) := by decide +kernel
theorem dX7_begins_22 : decode cX7_begins 22 = .ok (.putfield 97, 3) := by decide +kernel
theorem dX7_begins_25 : decode cX7_begins 25 = .ok (.aload_n 0, 1) := by decide +kernel
theorem dX7_begins_26 : decode cX7_begins 26 = .ok (.aload_n 0, 1) := by decide +kernel
theorem dX7_begins_27 : decode cX7_begins 27 = .ok (.getfield 71, 3) := by decide +kernel
theorem dX7_begins_30 : decode cX7_begins 30 = .ok (.ifCond .le 7, 3) := by decide +kernel
theorem dX7_begins_33 : decode cX7_begins 33 = .ok (.iconst 1, 1) := by decide +kernel
theorem dX7_begins_34 : decode cX7_begins 34 = .ok (.goto 4, 3) := by decide +kernel
theorem dX7_begins_37 : decode cX7_begins 37 = .ok (.iconst 0, 1) := by decide +kernel
theorem dX7_begins_38 : decode cX7_begins 38 = .ok (.putfield 100, 3) := by decide +kernel
theorem dX7_begins_41 : decode cX7_begins 41 = .ok (.aload_n 0, 1) := by decide +kernel
theorem dX7_begins_42 : decode cX7_begins 42 = .ok (.iconst 0, 1) := by decide +kernel
theorem dX7_begins_43 : decode cX7_begins 43 = .ok (.putfield 103, 3) := by decide +kernel
theorem dX7_begins_46 : decode cX7_begins 46 = .ok (.aload_n 0, 1) := by decide +kernel
theorem dX7_begins_47 : decode cX7_begins 47 = .ok (.iconst 0, 1) := by decide +kernel
theorem dX7_begins_48 : decode cX7_begins 48 = .ok (.putfield 106, 3) := by decide +kernel
theorem dX7_begins_51 : decode cX7_begins 51 = .ok (.aload_n 0, 1) := by decide +kernel
theorem dX7_begins_52 : decode cX7_begins 52 = .ok (.iconst 0, 1) := by decide +kernel
theorem dX7_begins_53 : decode cX7_begins 53 = .ok (.putfield 109, 3) := by decide +kernel
theorem dX7_begins_56 : decode cX7_begins 56 = .ok (.aload_n 0, 1) := by decide +kernel
theorem dX7_begins_57 : decode cX7_begins 57 = .ok (.iconst 0, 1) := by decide +kernel
theorem dX7_begins_58 : decode cX7_begins 58 = .ok (.putfield 112, 3) := by decide +kernel
theorem dX7_begins_61 : decode cX7_begins 61 = .ok (.aload_n 0, 1) := by decide +kernel
theorem dX7_begins_62 : decode cX7_begins 62 = .ok (.bipush (-4), 2) := by decide +kernel
theorem dX7_begins_64 : decode cX7_begins 64 = .ok (.putfield 115, 3) := by decide +kernel
theorem dX7_begins_67 : decode cX7_begins 67 = .ok (.aload_n 0, 1) := by decide +kernel
theorem dX7_begins_68 : decode cX7_begins 68 = .ok (.iconst 0, 1) := by decide +kernel
theorem dX7_begins_69 : decode cX7_begins 69 = .ok (.putfield 118, 3) := by decide +kernel
theorem dX7_begins_72 : decode cX7_begins 72 = .ok (.aload_n 0, 1) := by decide +kernel
theorem dX7_begins_73 : decode cX7_begins 73 = .ok (.iconst 0, 1) := by decide +kernel
theorem dX7_begins_74 : decode cX7_begins 74 = .ok (.putfield 121, 3) := by decide +kernel
theorem dX7_begins_77 : decode cX7_begins 77 = .ok (.aload_n 0, 1) := by decide +kernel
theorem dX7_begins_78 : decode cX7_begins 78 = .ok (.iconst 0, 1) := by decide +kernel
theorem dX7_begins_79 : decode cX7_begins 79 = .ok (.putfield 124, 3) := by decide +kernel
theorem dX7_begins_82 : decode cX7_begins 82 = .ok (.aload_n 0, 1) := by decide +kernel
theorem dX7_begins_83 : decode cX7_begins 83 = .ok (.bipush (-4), 2) := by decide +kernel
theorem dX7_begins_85 : decode cX7_begins 85 = .ok (.putfield 127, 3) := by decide +kernel
theorem dX7_begins_88 : decode cX7_begins 88 = .ok (.aload_n 0, 1) := by decide +kernel
theorem dX7_begins_89 : decode cX7_begins 89 = .ok (.iconst 0, 1) := by decide +kernel
theorem dX7_begins_90 : decode cX7_begins 90 = .ok (.putfield 130, 3) := by decide +kernel
theorem dX7_begins_93 : decode cX7_begins 93 = .ok (.return_, 1) := by decide +kernel
theorem dX7_forgets_0 : decode cX7_forgets 0 = .ok (.iconst 0, 1) := by decide +kernel
theorem dX7_forgets_1 : decode cX7_forgets 1 = .ok (.istore_n 2, 1) := by decide +kernel
theorem dX7_forgets_2 : decode cX7_forgets 2 = .ok (.iconst 0, 1) := by decide +kernel
theorem dX7_forgets_3 : decode cX7_forgets 3 = .ok (.istore_n 3, 1) := by decide +kernel
theorem dX7_forgets_4 : decode cX7_forgets 4 = .ok (.iload_n 3, 1) := by decide +kernel
theorem dX7_forgets_5 : decode cX7_forgets 5 = .ok (.aload_n 0, 1) := by decide +kernel
theorem dX7_forgets_6 : decode cX7_forgets 6 = .ok (.getfield 74, 3) := by decide +kernel
theorem dX7_forgets_9 : decode cX7_forgets 9 = .ok (.if_icmp .ge 34, 3) := by decide +kernel
theorem dX7_forgets_12 : decode cX7_forgets 12 = .ok (.aload_n 0, 1) := by decide +kernel
theorem dX7_forgets_13 : decode cX7_forgets 13 = .ok (.getfield 22, 3) := by decide +kernel
theorem dX7_forgets_16 : decode cX7_forgets 16 = .ok (.iload_n 3, 1) := by decide +kernel
theorem dX7_forgets_17 : decode cX7_forgets 17 = .ok (.iaload, 1) := by decide +kernel
theorem dX7_forgets_18 : decode cX7_forgets 18 = .ok (.iload_n 1, 1) := by decide +kernel
theorem dX7_forgets_19 : decode cX7_forgets 19 = .ok (.if_icmp .eq 18, 3) := by decide +kernel
theorem dX7_forgets_22 : decode cX7_forgets 22 = .ok (.aload_n 0, 1) := by decide +kernel
theorem dX7_forgets_23 : decode cX7_forgets 23 = .ok (.getfield 22, 3) := by decide +kernel
theorem dX7_forgets_26 : decode cX7_forgets 26 = .ok (.iload_n 2, 1) := by decide +kernel
theorem dX7_forgets_27 : decode cX7_forgets 27 = .ok (.aload_n 0, 1) := by decide +kernel
theorem dX7_forgets_28 : decode cX7_forgets 28 = .ok (.getfield 22, 3) := by decide +kernel
theorem dX7_forgets_31 : decode cX7_forgets 31 = .ok (.iload_n 3, 1) := by decide +kernel
theorem dX7_forgets_32 : decode cX7_forgets 32 = .ok (.iaload, 1) := by decide +kernel
theorem dX7_forgets_33 : decode cX7_forgets 33 = .ok (.iastore, 1) := by decide +kernel
theorem dX7_forgets_34 : decode cX7_forgets 34 = .ok (.iinc 2 1, 3) := by decide +kernel
theorem dX7_forgets_37 : decode cX7_forgets 37 = .ok (.iinc 3 1, 3) := by decide +kernel
theorem dX7_forgets_40 : decode cX7_forgets 40 = .ok (.goto (-36), 3) := by decide +kernel
theorem dX7_forgets_43 : decode cX7_forgets 43 = .ok (.aload_n 0, 1) := by decide +kernel
theorem dX7_forgets_44 : decode cX7_forgets 44 = .ok (.iload_n 2, 1) := by decide +kernel
theorem dX7_forgets_45 : decode cX7_forgets 45 = .ok (.putfield 74, 3) := by decide +kernel
theorem dX7_forgets_48 : decode cX7_forgets 48 = .ok (.return_, 1) := by decide +kernel
set_option maxRecDepth 20000 in
theorem ggX7_empties_X7_forgets : GoodIn wsX7_empties wsX7_forgets := goodIn_r _ [8, 9, 10, 11, 12, 13, 14, 15, 16, 17, 18, 19, 20, 21, 22, 23, 24, 25, 26, 27, 28, 29, 30, 31, 32, 33, 34, 35, 36, 37, 38, 39, 40, 41, 42, 43, 44, 45, 46, 47, 48] (by decide +kernel) (by decide +kernel)
set_option maxRecDepth 20000 in
theorem gX7_empties_X7_forgets : GoodIn wsX7_empties (wsV RX7 133 RX7 yX7_forgets wsX7_forgets) := goodIn_app (goodIn_of _ (by decide +kernel)) ggX7_empties_X7_forgets
theorem dX7_empties_0 : decode cX7_empties 0 = .ok (.aload_n 0, 1) := by decide +kernel
theorem dX7_empties_1 : decode cX7_empties 1 = .ok (.getfield 13, 3) := by decide +kernel
theorem dX7_empties_4 : decode cX7_empties 4 = .ok (.iload_n 1, 1) := by decide +kernel
theorem dX7_empties_5 : decode cX7_empties 5 = .ok (.ldc 77, 2) := by decide +kernel
theorem dX7_empties_7 : decode cX7_empties 7 = .ok (.iastore, 1) := by decide +kernel
theorem dX7_empties_8 : decode cX7_empties 8 = .ok (.aload_n 0, 1) := by decide +kernel
theorem dX7_empties_9 : decode cX7_empties 9 = .ok (.getfield 16, 3) := by decide +kernel
theorem dX7_empties_12 : decode cX7_empties 12 = .ok (.iload_n 1, 1) := by decide +kernel
theorem dX7_empties_13 : decode cX7_empties 13 = .ok (.iload_n 2, 1) := by decide +kernel
theorem dX7_empties_14 : decode cX7_empties 14 = .ok (.iastore, 1) := by decide +kernel
theorem dX7_empties_15 : decode cX7_empties 15 = .ok (.aload_n 0, 1) := by decide +kernel
theorem dX7_empties_16 : decode cX7_empties 16 = .ok (.iload_n 1, 1) := by decide +kernel
theorem dX7_empties_17 : decode cX7_empties 17 = .ok (.invokevirtual 133, 3) := by decide +kernel
theorem dX7_empties_20 : decode cX7_empties 20 = .ok (.return_, 1) := by decide +kernel
set_option maxRecDepth 20000 in
theorem ggX7_groupEmpties_X7_empties : GoodIn wsX7_groupEmpties wsX7_empties := goodIn_r _ [7, 8, 9, 10, 11, 12, 13, 6, 14, 15, 16, 17, 18, 19, 20, 21, 22, 23, 24, 25, 26, 27, 28, 29, 30, 31, 32, 33, 34, 35, 36, 37, 38, 39, 40, 41, 42, 43, 44, 45, 46, 47, 48, 49, 50, 51, 52, 53, 54] (by decide +kernel) (by decide +kernel)
set_option maxRecDepth 20000 in
theorem gX7_groupEmpties_X7_empties : GoodIn wsX7_groupEmpties (wsV RX7 137 RX7 yX7_empties wsX7_empties) := goodIn_app (goodIn_of _ (by decide +kernel)) ggX7_groupEmpties_X7_empties
theorem dX7_groupEmpties_0 : decode cX7_groupEmpties 0 = .ok (.iload_n 1, 1) := by decide +kernel
theorem dX7_groupEmpties_1 : decode cX7_groupEmpties 1 = .ok (.aload_n 0, 1) := by decide +kernel
theorem dX7_groupEmpties_2 : decode cX7_groupEmpties 2 = .ok (.getfield 56, 3) := by decide +kernel
theorem dX7_groupEmpties_5 : decode cX7_groupEmpties 5 = .ok (.imul, 1) := by decide +kernel
theorem dX7_groupEmpties_6 : decode cX7_groupEmpties 6 = .ok (.istore_n 3, 1) := by decide +kernel
theorem dX7_groupEmpties_7 : decode cX7_groupEmpties 7 = .ok (.iload_n 3, 1) := by decide +kernel
theorem dX7_groupEmpties_8 : decode cX7_groupEmpties 8 = .ok (.iload_n 1, 1) := by decide +kernel
theorem dX7_groupEmpties_9 : decode cX7_groupEmpties 9 = .ok (.iconst 1, 1) := by decide +kernel
theorem dX7_groupEmpties_10 : decode cX7_groupEmpties 10 = .ok (.iadd, 1) := by decide +kernel
theorem dX7_groupEmpties_11 : decode cX7_groupEmpties 11 = .ok (.aload_n 0, 1) := by decide +kernel
theorem dX7_groupEmpties_12 : decode cX7_groupEmpties 12 = .ok (.getfield 56, 3) := by decide +kernel
theorem dX7_groupEmpties_15 : decode cX7_groupEmpties 15 = .ok (.imul, 1) := by decide +kernel
theorem dX7_groupEmpties_16 : decode cX7_groupEmpties 16 = .ok (.if_icmp .ge 23, 3) := by decide +kernel
theorem dX7_groupEmpties_19 : decode cX7_groupEmpties 19 = .ok (.iload_n 3, 1) := by decide +kernel
theorem dX7_groupEmpties_20 : decode cX7_groupEmpties 20 = .ok (.aload_n 0, 1) := by decide +kernel
theorem dX7_groupEmpties_21 : decode cX7_groupEmpties 21 = .ok (.getfield 52, 3) := by decide +kernel
theorem dX7_groupEmpties_24 : decode cX7_groupEmpties 24 = .ok (.if_icmp .ge 15, 3) := by decide +kernel
theorem dX7_groupEmpties_27 : decode cX7_groupEmpties 27 = .ok (.aload_n 0, 1) := by decide +kernel
theorem dX7_groupEmpties_28 : decode cX7_groupEmpties 28 = .ok (.iload_n 3, 1) := by decide +kernel
theorem dX7_groupEmpties_29 : decode cX7_groupEmpties 29 = .ok (.iload_n 2, 1) := by decide +kernel
theorem dX7_groupEmpties_30 : decode cX7_groupEmpties 30 = .ok (.invokevirtual 137, 3) := by decide +kernel
theorem dX7_groupEmpties_33 : decode cX7_groupEmpties 33 = .ok (.iinc 3 1, 3) := by decide +kernel
theorem dX7_groupEmpties_36 : decode cX7_groupEmpties 36 = .ok (.goto (-29), 3) := by decide +kernel
theorem dX7_groupEmpties_39 : decode cX7_groupEmpties 39 = .ok (.return_, 1) := by decide +kernel
theorem dX7_groups_0 : decode cX7_groups 0 = .ok (.aload_n 0, 1) := by decide +kernel
theorem dX7_groups_1 : decode cX7_groups 1 = .ok (.getfield 52, 3) := by decide +kernel
theorem dX7_groups_4 : decode cX7_groups 4 = .ok (.aload_n 0, 1) := by decide +kernel
theorem dX7_groups_5 : decode cX7_groups 5 = .ok (.getfield 56, 3) := by decide +kernel
theorem dX7_groups_8 : decode cX7_groups 8 = .ok (.iadd, 1) := by decide +kernel
theorem dX7_groups_9 : decode cX7_groups 9 = .ok (.iconst 1, 1) := by decide +kernel
theorem dX7_groups_10 : decode cX7_groups 10 = .ok (.isub, 1) := by decide +kernel
theorem dX7_groups_11 : decode cX7_groups 11 = .ok (.aload_n 0, 1) := by decide +kernel
theorem dX7_groups_12 : decode cX7_groups 12 = .ok (.getfield 56, 3) := by decide +kernel
theorem dX7_groups_15 : decode cX7_groups 15 = .ok (.idiv, 1) := by decide +kernel
theorem dX7_groups_16 : decode cX7_groups 16 = .ok (.ireturn, 1) := by decide +kernel
set_option maxRecDepth 20000 in
theorem ggX7_cuts_X7_empties : GoodIn wsX7_cuts wsX7_empties := goodIn_r _ [11, 12, 13, 14, 15, 16, 17, 10, 18, 19, 20, 27, 28, 29, 30, 31, 32, 33, 34, 35, 36, 37, 38, 39, 40, 41, 42, 43, 44, 45, 46, 47, 48, 49, 50, 51, 52, 53, 54, 55, 56, 57, 58, 59, 60, 61, 62, 63, 64] (by decide +kernel) (by decide +kernel)
set_option maxRecDepth 20000 in
theorem gX7_cuts_X7_empties : GoodIn wsX7_cuts (wsV RX7 137 RX7 yX7_empties wsX7_empties) := goodIn_app (goodIn_of _ (by decide +kernel)) ggX7_cuts_X7_empties
set_option maxRecDepth 20000 in
theorem ggX7_cuts_X7_groupEmpties : GoodIn wsX7_cuts wsX7_groupEmpties := goodIn_r _ [24, 25, 26, 7, 8, 9, 10, 11, 12, 13, 14, 15, 16, 17, 18, 19, 20, 27, 28, 29, 30, 31, 32, 33, 34, 35, 36, 37, 38, 39, 40, 41, 42, 43, 44, 45, 46, 47, 48, 49, 50, 51, 52, 53, 54, 55, 56, 57, 58, 59, 60, 61, 62, 63, 64] (by decide +kernel) (by decide +kernel)
set_option maxRecDepth 20000 in
theorem gX7_cuts_X7_groupEmpties : GoodIn wsX7_cuts (wsV RX7 144 RX7 yX7_groupEmpties wsX7_groupEmpties) := goodIn_app (goodIn_of _ (by decide +kernel)) ggX7_cuts_X7_groupEmpties
theorem dX7_cuts_0 : decode cX7_cuts 0 = .ok (.aload_n 0, 1) := by decide +kernel
theorem dX7_cuts_1 : decode cX7_cuts 1 = .ok (.getfield 106, 3) := by decide +kernel
theorem dX7_cuts_4 : decode cX7_cuts 4 = .ok (.ifCond .le 23, 3) := by decide +kernel
theorem dX7_cuts_7 : decode cX7_cuts 7 = .ok (.aload_n 0, 1) := by decide +kernel
theorem dX7_cuts_8 : decode cX7_cuts 8 = .ok (.getfield 31, 3) := by decide +kernel
theorem dX7_cuts_11 : decode cX7_cuts 11 = .ok (.iconst 0, 1) := by decide +kernel
theorem dX7_cuts_12 : decode cX7_cuts 12 = .ok (.iaload, 1) := by decide +kernel
theorem dX7_cuts_13 : decode cX7_cuts 13 = .ok (.ifCond .le 14, 3) := by decide +kernel
theorem dX7_cuts_16 : decode cX7_cuts 16 = .ok (.aload_n 0, 1) := by decide +kernel
theorem dX7_cuts_17 : decode cX7_cuts 17 = .ok (.aload_n 0, 1) := by decide +kernel
theorem dX7_cuts_18 : decode cX7_cuts 18 = .ok (.getfield 25, 3) := by decide +kernel
theorem dX7_cuts_21 : decode cX7_cuts 21 = .ok (.iconst 0, 1) := by decide +kernel
theorem dX7_cuts_22 : decode cX7_cuts 22 = .ok (.iaload, 1) := by decide +kernel
theorem dX7_cuts_23 : decode cX7_cuts 23 = .ok (.iconst 1, 1) := by decide +kernel
theorem dX7_cuts_24 : decode cX7_cuts 24 = .ok (.invokevirtual 137, 3) := by decide +kernel
theorem dX7_cuts_27 : decode cX7_cuts 27 = .ok (.aload_n 0, 1) := by decide +kernel
theorem dX7_cuts_28 : decode cX7_cuts 28 = .ok (.getfield 109, 3) := by decide +kernel
theorem dX7_cuts_31 : decode cX7_cuts 31 = .ok (.ifCond .le 19, 3) := by decide +kernel
theorem dX7_cuts_34 : decode cX7_cuts 34 = .ok (.aload_n 0, 1) := by decide +kernel
theorem dX7_cuts_35 : decode cX7_cuts 35 = .ok (.getfield 112, 3) := by decide +kernel
theorem dX7_cuts_38 : decode cX7_cuts 38 = .ok (.ifCond .le 12, 3) := by decide +kernel
theorem dX7_cuts_41 : decode cX7_cuts 41 = .ok (.aload_n 0, 1) := by decide +kernel
theorem dX7_cuts_42 : decode cX7_cuts 42 = .ok (.aload_n 0, 1) := by decide +kernel
theorem dX7_cuts_43 : decode cX7_cuts 43 = .ok (.getfield 141, 3) := by decide +kernel
theorem dX7_cuts_46 : decode cX7_cuts 46 = .ok (.iconst 1, 1) := by decide +kernel
theorem dX7_cuts_47 : decode cX7_cuts 47 = .ok (.invokevirtual 144, 3) := by decide +kernel
theorem dX7_cuts_50 : decode cX7_cuts 50 = .ok (.return_, 1) := by decide +kernel
set_option maxRecDepth 20000 in
theorem ggX7_power_X7_in : GoodIn wsX7_power wsX7_in := goodIn_r _ [5] (by decide +kernel) (by decide +kernel)
set_option maxRecDepth 20000 in
theorem gX7_power_X7_in : GoodIn wsX7_power (va_wsS RX7 42 yX7_in wsX7_in) := goodIn_app (goodIn_of _ (by decide +kernel)) ggX7_power_X7_in
set_option maxRecDepth 20000 in
theorem ggX7_power_X7_cuts : GoodIn wsX7_power wsX7_cuts := goodIn_r _ [9, 10, 11, 12, 13, 14, 15, 16, 17, 18, 4, 19, 20, 21, 22, 23, 24, 25, 26, 27, 28, 29, 30, 31, 32, 33, 34, 53, 54, 55, 56, 57, 58, 59, 60, 61, 62, 63, 64, 65, 66, 67, 68, 69, 70, 71, 72, 73, 74, 75, 76, 77, 78, 79, 80, 81, 82, 83, 84, 85, 86, 87, 88, 89, 90] (by decide +kernel) (by decide +kernel)
set_option maxRecDepth 20000 in
theorem gX7_power_X7_cuts : GoodIn wsX7_power (wsV RX7 147 RX7 yX7_cuts wsX7_cuts) := goodIn_app (goodIn_of _ (by decide +kernel)) ggX7_power_X7_cuts
set_option maxRecDepth 20000 in
theorem ggX7_power_X7_begins : GoodIn wsX7_power wsX7_begins := goodIn_r _ [38, 39, 40, 41, 42, 43, 44, 45, 46, 10, 13, 14, 47, 48, 49, 50, 51, 52, 53, 54, 55, 56, 57, 58, 59, 60, 61, 62, 63, 64, 65, 66, 67, 68, 69, 70, 71, 72, 73, 74, 75, 76, 77, 78, 79, 80, 81, 82, 83, 84, 85, 86, 87, 88, 89, 90] (by decide +kernel) (by decide +kernel)
