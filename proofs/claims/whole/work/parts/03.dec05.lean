theorem dX7_endsAt_24 : decode cX7_endsAt 24 = .ok (.if_icmp .lt 9, 3) := by decide +kernel
theorem dX7_endsAt_27 : decode cX7_endsAt 27 = .ok (.aload_n 0, 1) := by decide +kernel
theorem dX7_endsAt_28 : decode cX7_endsAt 28 = .ok (.iconst 4, 1) := by decide +kernel
theorem dX7_endsAt_29 : decode cX7_endsAt 29 = .ok (.invokevirtual 219, 3) := by decide +kernel
theorem dX7_endsAt_32 : decode cX7_endsAt 32 = .ok (.ireturn, 1) := by decide +kernel
theorem dX7_endsAt_33 : decode cX7_endsAt 33 = .ok (.iload_n 2, 1) := by decide +kernel
theorem dX7_endsAt_34 : decode cX7_endsAt 34 = .ok (.ifCond .eq 11, 3) := by decide +kernel
theorem dX7_endsAt_37 : decode cX7_endsAt 37 = .ok (.iload_n 1, 1) := by decide +kernel
theorem dX7_endsAt_38 : decode cX7_endsAt 38 = .ok (.aload_n 0, 1) := by decide +kernel
theorem dX7_endsAt_39 : decode cX7_endsAt 39 = .ok (.getfield 222, 3) := by decide +kernel
theorem dX7_endsAt_42 : decode cX7_endsAt 42 = .ok (.if_icmp .ge 10, 3) := by decide +kernel
theorem dX7_endsAt_45 : decode cX7_endsAt 45 = .ok (.aload_n 0, 1) := by decide +kernel
theorem dX7_endsAt_46 : decode cX7_endsAt 46 = .ok (.bipush 8, 2) := by decide +kernel
theorem dX7_endsAt_48 : decode cX7_endsAt 48 = .ok (.invokevirtual 219, 3) := by decide +kernel
theorem dX7_endsAt_51 : decode cX7_endsAt 51 = .ok (.ireturn, 1) := by decide +kernel
theorem dX7_endsAt_52 : decode cX7_endsAt 52 = .ok (.aload_n 0, 1) := by decide +kernel
theorem dX7_endsAt_53 : decode cX7_endsAt 53 = .ok (.iload_n 1, 1) := by decide +kernel
theorem dX7_endsAt_54 : decode cX7_endsAt 54 = .ok (.putfield 228, 3) := by decide +kernel
theorem dX7_endsAt_57 : decode cX7_endsAt 57 = .ok (.aload_n 0, 1) := by decide +kernel
theorem dX7_endsAt_58 : decode cX7_endsAt 58 = .ok (.iconst 2, 1) := by decide +kernel
theorem dX7_endsAt_59 : decode cX7_endsAt 59 = .ok (.putfield 121, 3) := by decide +kernel
theorem dX7_endsAt_62 : decode cX7_endsAt 62 = .ok (.iconst 0, 1) := by decide +kernel
theorem dX7_endsAt_63 : decode cX7_endsAt 63 = .ok (.ireturn, 1) := by decide +kernel
theorem dX7_erasesGroups_0 : decode cX7_erasesGroups 0 = .ok (.aload_n 0, 1) := by decide +kernel
theorem dX7_erasesGroups_1 : decode cX7_erasesGroups 1 = .ok (.iload_n 1, 1) := by decide +kernel
theorem dX7_erasesGroups_2 : decode cX7_erasesGroups 2 = .ok (.putfield 141, 3) := by decide +kernel
theorem dX7_erasesGroups_5 : decode cX7_erasesGroups 5 = .ok (.aload_n 0, 1) := by decide +kernel
theorem dX7_erasesGroups_6 : decode cX7_erasesGroups 6 = .ok (.iload_n 2, 1) := by decide +kernel
theorem dX7_erasesGroups_7 : decode cX7_erasesGroups 7 = .ok (.putfield 109, 3) := by decide +kernel
theorem dX7_erasesGroups_10 : decode cX7_erasesGroups 10 = .ok (.aload_n 0, 1) := by decide +kernel
theorem dX7_erasesGroups_11 : decode cX7_erasesGroups 11 = .ok (.iconst 0, 1) := by decide +kernel
theorem dX7_erasesGroups_12 : decode cX7_erasesGroups 12 = .ok (.putfield 112, 3) := by decide +kernel
theorem dX7_erasesGroups_15 : decode cX7_erasesGroups 15 = .ok (.aload_n 0, 1) := by decide +kernel
theorem dX7_erasesGroups_16 : decode cX7_erasesGroups 16 = .ok (.bipush 7, 2) := by decide +kernel
theorem dX7_erasesGroups_18 : decode cX7_erasesGroups 18 = .ok (.putfield 85, 3) := by decide +kernel
theorem dX7_erasesGroups_21 : decode cX7_erasesGroups 21 = .ok (.iload_n 2, 1) := by decide +kernel
theorem dX7_erasesGroups_22 : decode cX7_erasesGroups 22 = .ok (.ireturn, 1) := by decide +kernel
set_option maxRecDepth 20000 in
theorem ggX7_isWord_X7_in : GoodIn wsX7_isWord wsX7_in := goodIn_r _ [8] (by decide +kernel) (by decide +kernel)
set_option maxRecDepth 20000 in
theorem gX7_isWord_X7_in : GoodIn wsX7_isWord (va_wsS RX7 42 yX7_in wsX7_in) := goodIn_app (goodIn_of _ (by decide +kernel)) ggX7_isWord_X7_in
theorem dX7_isWord_0 : decode cX7_isWord 0 = .ok (.aload_n 0, 1) := by decide +kernel
theorem dX7_isWord_1 : decode cX7_isWord 1 = .ok (.getfield 159, 3) := by decide +kernel
theorem dX7_isWord_4 : decode cX7_isWord 4 = .ok (.aload_n 0, 1) := by decide +kernel
theorem dX7_isWord_5 : decode cX7_isWord 5 = .ok (.getfield 71, 3) := by decide +kernel
theorem dX7_isWord_8 : decode cX7_isWord 8 = .ok (.isub, 1) := by decide +kernel
theorem dX7_isWord_9 : decode cX7_isWord 9 = .ok (.i2l, 1) := by decide +kernel
theorem dX7_isWord_10 : decode cX7_isWord 10 = .ok (.iload_n 1, 1) := by decide +kernel
theorem dX7_isWord_11 : decode cX7_isWord 11 = .ok (.i2l, 1) := by decide +kernel
theorem dX7_isWord_12 : decode cX7_isWord 12 = .ok (.iload_n 2, 1) := by decide +kernel
theorem dX7_isWord_13 : decode cX7_isWord 13 = .ok (.i2l, 1) := by decide +kernel
theorem dX7_isWord_14 : decode cX7_isWord 14 = .ok (.invokestatic 42, 3) := by decide +kernel
theorem dX7_isWord_17 : decode cX7_isWord 17 = .ok (.istore_n 3, 1) := by decide +kernel
theorem dX7_isWord_18 : decode cX7_isWord 18 = .ok (.iconst 0, 1) := by decide +kernel
theorem dX7_isWord_19 : decode cX7_isWord 19 = .ok (.istore 4, 2) := by decide +kernel
theorem dX7_isWord_21 : decode cX7_isWord 21 = .ok (.iload 4, 2) := by decide +kernel
theorem dX7_isWord_23 : decode cX7_isWord 23 = .ok (.aload_n 0, 1) := by decide +kernel
theorem dX7_isWord_24 : decode cX7_isWord 24 = .ok (.getfield 71, 3) := by decide +kernel
theorem dX7_isWord_27 : decode cX7_isWord 27 = .ok (.if_icmp .ge 36, 3) := by decide +kernel
theorem dX7_isWord_30 : decode cX7_isWord 30 = .ok (.iload_n 3, 1) := by decide +kernel
theorem dX7_isWord_31 : decode cX7_isWord 31 = .ok (.ifCond .eq 32, 3) := by decide +kernel
theorem dX7_isWord_34 : decode cX7_isWord 34 = .ok (.aload_n 0, 1) := by decide +kernel
theorem dX7_isWord_35 : decode cX7_isWord 35 = .ok (.getfield 7, 3) := by decide +kernel
theorem dX7_isWord_38 : decode cX7_isWord 38 = .ok (.iload 4, 2) := by decide +kernel
theorem dX7_isWord_40 : decode cX7_isWord 40 = .ok (.iaload, 1) := by decide +kernel
theorem dX7_isWord_41 : decode cX7_isWord 41 = .ok (.aload_n 0, 1) := by decide +kernel
theorem dX7_isWord_42 : decode cX7_isWord 42 = .ok (.getfield 19, 3) := by decide +kernel
theorem dX7_isWord_45 : decode cX7_isWord 45 = .ok (.iload 4, 2) := by decide +kernel
theorem dX7_isWord_47 : decode cX7_isWord 47 = .ok (.iaload, 1) := by decide +kernel
theorem dX7_isWord_48 : decode cX7_isWord 48 = .ok (.if_icmp .ne 7, 3) := by decide +kernel
theorem dX7_isWord_51 : decode cX7_isWord 51 = .ok (.iconst 1, 1) := by decide +kernel
theorem dX7_isWord_52 : decode cX7_isWord 52 = .ok (.goto 4, 3) := by decide +kernel
theorem dX7_isWord_55 : decode cX7_isWord 55 = .ok (.iconst 0, 1) := by decide +kernel
theorem dX7_isWord_56 : decode cX7_isWord 56 = .ok (.istore_n 3, 1) := by decide +kernel
theorem dX7_isWord_57 : decode cX7_isWord 57 = .ok (.iinc 4 1, 3) := by decide +kernel
theorem dX7_isWord_60 : decode cX7_isWord 60 = .ok (.goto (-39), 3) := by decide +kernel
theorem dX7_isWord_63 : decode cX7_isWord 63 = .ok (.iload_n 3, 1) := by decide +kernel
theorem dX7_isWord_64 : decode cX7_isWord 64 = .ok (.ireturn, 1) := by decide +kernel
set_option maxRecDepth 20000 in
theorem ggX7_sets_X7_isWord : GoodIn wsX7_sets wsX7_isWord := goodIn_r _ [10, 3, 2, 5, 4, 11, 12, 9, 13, 14, 15, 16, 17, 18, 19, 20, 21, 22, 23, 24, 25, 26, 27, 28, 29, 30, 31, 32, 33, 34, 35, 36, 37, 38, 39, 40, 41, 42, 43, 44, 45, 46, 47, 48, 49, 50, 51] (by decide +kernel) (by decide +kernel)
set_option maxRecDepth 20000 in
theorem gX7_sets_X7_isWord : GoodIn wsX7_sets (wsV RX7 237 RX7 yX7_isWord wsX7_isWord) := goodIn_app (goodIn_of _ (by decide +kernel)) ggX7_sets_X7_isWord
theorem dX7_sets_0 : decode cX7_sets 0 = .ok (.aload_n 0, 1) := by decide +kernel
theorem dX7_sets_1 : decode cX7_sets 1 = .ok (.getfield 100, 3) := by decide +kernel
theorem dX7_sets_4 : decode cX7_sets 4 = .ok (.ifCond .ne 13, 3) := by decide +kernel
theorem dX7_sets_7 : decode cX7_sets 7 = .ok (.aload_n 0, 1) := by decide +kernel
theorem dX7_sets_8 : decode cX7_sets 8 = .ok (.iconst 1, 1) := by decide +kernel
theorem dX7_sets_9 : decode cX7_sets 9 = .ok (.bipush 8, 2) := by decide +kernel
theorem dX7_sets_11 : decode cX7_sets 11 = .ok (.invokevirtual 237, 3) := by decide +kernel
theorem dX7_sets_14 : decode cX7_sets 14 = .ok (.ifCond .ne 5, 3) := by decide +kernel
theorem dX7_sets_17 : decode cX7_sets 17 = .ok (.iconst 0, 1) := by decide +kernel
theorem dX7_sets_18 : decode cX7_sets 18 = .ok (.ireturn, 1) := by decide +kernel
theorem dX7_sets_19 : decode cX7_sets 19 = .ok (.aload_n 0, 1) := by decide +kernel
theorem dX7_sets_20 : decode cX7_sets 20 = .ok (.getfield 71, 3) := by decide +kernel
theorem dX7_sets_23 : decode cX7_sets 23 = .ok (.istore_n 1, 1) := by decide +kernel
theorem dX7_sets_24 : decode cX7_sets 24 = .ok (.aload_n 0, 1) := by decide +kernel
theorem dX7_sets_25 : decode cX7_sets 25 = .ok (.aload_n 0, 1) := by decide +kernel
theorem dX7_sets_26 : decode cX7_sets 26 = .ok (.getfield 159, 3) := by decide +kernel
theorem dX7_sets_29 : decode cX7_sets 29 = .ok (.iload_n 1, 1) := by decide +kernel
theorem dX7_sets_30 : decode cX7_sets 30 = .ok (.isub, 1) := by decide +kernel
theorem dX7_sets_31 : decode cX7_sets 31 = .ok (.putfield 71, 3) := by decide +kernel
theorem dX7_sets_34 : decode cX7_sets 34 = .ok (.iconst 0, 1) := by decide +kernel
theorem dX7_sets_35 : decode cX7_sets 35 = .ok (.istore_n 2, 1) := by decide +kernel
theorem dX7_sets_36 : decode cX7_sets 36 = .ok (.iload_n 2, 1) := by decide +kernel
theorem dX7_sets_37 : decode cX7_sets 37 = .ok (.aload_n 0, 1) := by decide +kernel
theorem dX7_sets_38 : decode cX7_sets 38 = .ok (.getfield 71, 3) := by decide +kernel
theorem dX7_sets_41 : decode cX7_sets 41 = .ok (.if_icmp .ge 23, 3) := by decide +kernel
theorem dX7_sets_44 : decode cX7_sets 44 = .ok (.aload_n 0, 1) := by decide +kernel
theorem dX7_sets_45 : decode cX7_sets 45 = .ok (.getfield 19, 3) := by decide +kernel
theorem dX7_sets_48 : decode cX7_sets 48 = .ok (.iload_n 2, 1) := by decide +kernel
theorem dX7_sets_49 : decode cX7_sets 49 = .ok (.aload_n 0, 1) := by decide +kernel
theorem dX7_sets_50 : decode cX7_sets 50 = .ok (.getfield 7, 3) := by decide +kernel
theorem dX7_sets_53 : decode cX7_sets 53 = .ok (.iload_n 1, 1) := by decide +kernel
theorem dX7_sets_54 : decode cX7_sets 54 = .ok (.iload_n 2, 1) := by decide +kernel
theorem dX7_sets_55 : decode cX7_sets 55 = .ok (.iadd, 1) := by decide +kernel
theorem dX7_sets_56 : decode cX7_sets 56 = .ok (.iaload, 1) := by decide +kernel
theorem dX7_sets_57 : decode cX7_sets 57 = .ok (.iastore, 1) := by decide +kernel
theorem dX7_sets_58 : decode cX7_sets 58 = .ok (.iinc 2 1, 3) := by decide +kernel
theorem dX7_sets_61 : decode cX7_sets 61 = .ok (.goto (-25), 3) := by decide +kernel
theorem dX7_sets_64 : decode cX7_sets 64 = .ok (.iconst 1, 1) := by decide +kernel
theorem dX7_sets_65 : decode cX7_sets 65 = .ok (.ireturn, 1) := by decide +kernel
set_option maxRecDepth 20000 in
theorem ggX7_locks_X7_isWord : GoodIn wsX7_locks wsX7_isWord := goodIn_r _ [7, 8, 2, 9, 10, 11, 12, 6, 13, 37, 38, 39, 40, 41, 42, 43, 44, 45, 46, 47, 48, 49, 50, 51, 52, 53, 54, 55, 56, 57, 58, 59, 60, 61, 62, 63, 64, 65, 66, 67, 68, 69, 70, 71, 72, 73, 74] (by decide +kernel) (by decide +kernel)
set_option maxRecDepth 20000 in
theorem gX7_locks_X7_isWord : GoodIn wsX7_locks (wsV RX7 237 RX7 yX7_isWord wsX7_isWord) := goodIn_app (goodIn_of _ (by decide +kernel)) ggX7_locks_X7_isWord
set_option maxRecDepth 20000 in
theorem ggX7_locks_X7_sets : GoodIn wsX7_locks wsX7_sets := goodIn_r _ [17, 1, 2, 8, 10, 9, 3, 4, 5, 6, 7, 11, 12, 13, 37, 38, 39, 40, 41, 42, 43, 44, 45, 46, 47, 48, 49, 50, 51, 52, 53, 54, 55, 56, 57, 58, 59, 60, 61, 62, 63, 64, 65, 66, 67, 68, 69, 70, 71, 72, 73, 74] (by decide +kernel) (by decide +kernel)
set_option maxRecDepth 20000 in
theorem gX7_locks_X7_sets : GoodIn wsX7_locks (wsV RX7 241 RX7 yX7_sets wsX7_sets) := goodIn_app (goodIn_of _ (by decide +kernel)) ggX7_locks_X7_sets
set_option maxRecDepth 20000 in
theorem ggX7_locks_X7_groups : GoodIn wsX7_locks wsX7_groups := goodIn_r _ [21, 22, 23, 37, 38, 39, 40, 41, 42, 43, 44, 45, 46, 47, 48, 49, 50, 51, 52, 53, 54, 55, 56, 57, 58, 59, 60, 61, 62, 63, 64, 65, 66, 67, 68, 69, 70, 71, 72, 73, 74] (by decide +kernel) (by decide +kernel)
set_option maxRecDepth 20000 in
theorem gX7_locks_X7_groups : GoodIn wsX7_locks (wsV RX7 244 RX7 yX7_groups wsX7_groups) := goodIn_app (goodIn_of _ (by decide +kernel)) ggX7_locks_X7_groups
set_option maxRecDepth 20000 in
theorem ggX7_locks_X7_erasesGroups : GoodIn wsX7_locks wsX7_erasesGroups := goodIn_r _ [27, 28, 29, 30, 31, 37, 38, 39, 40, 41, 42, 43, 44, 45, 46, 47, 48, 49, 50, 51, 52, 53, 54, 55, 56, 57, 58, 59, 60, 61, 62, 63, 64, 65, 66, 67, 68, 69, 70, 71, 72, 73, 74] (by decide +kernel) (by decide +kernel)
set_option maxRecDepth 20000 in
theorem gX7_locks_X7_erasesGroups : GoodIn wsX7_locks (wsV RX7 231 RX7 yX7_erasesGroups wsX7_erasesGroups) := goodIn_app (goodIn_of _ (by decide +kernel)) ggX7_locks_X7_erasesGroups
set_option maxRecDepth 20000 in
theorem ggX7_locks_X7_noting : GoodIn wsX7_locks wsX7_noting := goodIn_r _ [35, 36, 37, 38, 39, 40, 41, 42, 43, 44, 45, 46, 47, 48, 49, 50, 51, 52, 53, 54, 55, 56, 57, 58, 59, 60, 61, 62, 63, 64, 65, 66, 67, 68, 69, 70, 71, 72, 73, 74] (by decide +kernel) (by decide +kernel)
set_option maxRecDepth 20000 in
theorem gX7_locks_X7_noting : GoodIn wsX7_locks (wsV RX7 219 RX7 yX7_noting wsX7_noting) := goodIn_app (goodIn_of _ (by decide +kernel)) ggX7_locks_X7_noting
theorem dX7_locks_0 : decode cX7_locks 0 = .ok (.iconst 0, 1) := by decide +kernel
theorem dX7_locks_1 : decode cX7_locks 1 = .ok (.istore_n 2, 1) := by decide +kernel
theorem dX7_locks_2 : decode cX7_locks 2 = .ok (.iload_n 1, 1) := by decide +kernel
theorem dX7_locks_3 : decode cX7_locks 3 = .ok (.tableswitch 232 0 8 #[49, 94, 127, 232, 127, 94, 232, 232, 205], 49) := by decide +kernel
theorem dX7_locks_52 : decode cX7_locks 52 = .ok (.aload_n 0, 1) := by decide +kernel
theorem dX7_locks_53 : decode cX7_locks 53 = .ok (.getfield 100, 3) := by decide +kernel
theorem dX7_locks_56 : decode cX7_locks 56 = .ok (.ifCond .eq 16, 3) := by decide +kernel
theorem dX7_locks_59 : decode cX7_locks 59 = .ok (.aload_n 0, 1) := by decide +kernel
theorem dX7_locks_60 : decode cX7_locks 60 = .ok (.iconst 0, 1) := by decide +kernel
theorem dX7_locks_61 : decode cX7_locks 61 = .ok (.iconst 0, 1) := by decide +kernel
theorem dX7_locks_62 : decode cX7_locks 62 = .ok (.invokevirtual 237, 3) := by decide +kernel
theorem dX7_locks_65 : decode cX7_locks 65 = .ok (.ifCond .eq 7, 3) := by decide +kernel
theorem dX7_locks_68 : decode cX7_locks 68 = .ok (.iconst 1, 1) := by decide +kernel
theorem dX7_locks_69 : decode cX7_locks 69 = .ok (.goto 4, 3) := by decide +kernel
theorem dX7_locks_72 : decode cX7_locks 72 = .ok (.iconst 0, 1) := by decide +kernel
theorem dX7_locks_73 : decode cX7_locks 73 = .ok (.istore_n 2, 1) := by decide +kernel
theorem dX7_locks_74 : decode cX7_locks 74 = .ok (.aload_n 0, 1) := by decide +kernel
theorem dX7_locks_75 : decode cX7_locks 75 = .ok (.aload_n 0, 1) := by decide +kernel
theorem dX7_locks_76 : decode cX7_locks 76 = .ok (.getfield 100, 3) := by decide +kernel
theorem dX7_locks_79 : decode cX7_locks 79 = .ok (.ifCond .eq 11, 3) := by decide +kernel
theorem dX7_locks_82 : decode cX7_locks 82 = .ok (.iload_n 2, 1) := by decide +kernel
theorem dX7_locks_83 : decode cX7_locks 83 = .ok (.ifCond .ne 7, 3) := by decide +kernel
theorem dX7_locks_86 : decode cX7_locks 86 = .ok (.iconst 1, 1) := by decide +kernel
theorem dX7_locks_87 : decode cX7_locks 87 = .ok (.goto 4, 3) := by decide +kernel
theorem dX7_locks_90 : decode cX7_locks 90 = .ok (.iconst 0, 1) := by decide +kernel
theorem dX7_locks_91 : decode cX7_locks 91 = .ok (.putfield 100, 3) := by decide +kernel
theorem dX7_locks_94 : decode cX7_locks 94 = .ok (.goto 141, 3) := by decide +kernel
theorem dX7_locks_97 : decode cX7_locks 97 = .ok (.aload_n 0, 1) := by decide +kernel
theorem dX7_locks_98 : decode cX7_locks 98 = .ok (.invokevirtual 241, 3) := by decide +kernel
theorem dX7_locks_101 : decode cX7_locks 101 = .ok (.istore_n 2, 1) := by decide +kernel
theorem dX7_locks_102 : decode cX7_locks 102 = .ok (.aload_n 0, 1) := by decide +kernel
theorem dX7_locks_103 : decode cX7_locks 103 = .ok (.aload_n 0, 1) := by decide +kernel
theorem dX7_locks_104 : decode cX7_locks 104 = .ok (.getfield 100, 3) := by decide +kernel
theorem dX7_locks_107 : decode cX7_locks 107 = .ok (.ifCond .ne 12, 3) := by decide +kernel
theorem dX7_locks_110 : decode cX7_locks 110 = .ok (.iload_n 2, 1) := by decide +kernel
theorem dX7_locks_111 : decode cX7_locks 111 = .ok (.ifCond .eq 12, 3) := by decide +kernel
theorem dX7_locks_114 : decode cX7_locks 114 = .ok (.iload_n 1, 1) := by decide +kernel
theorem dX7_locks_115 : decode cX7_locks 115 = .ok (.iconst 5, 1) := by decide +kernel
theorem dX7_locks_116 : decode cX7_locks 116 = .ok (.if_icmp .ne 7, 3) := by decide +kernel
theorem dX7_locks_119 : decode cX7_locks 119 = .ok (.iconst 1, 1) := by decide +kernel
theorem dX7_locks_120 : decode cX7_locks 120 = .ok (.goto 4, 3) := by decide +kernel
theorem dX7_locks_123 : decode cX7_locks 123 = .ok (.iconst 0, 1) := by decide +kernel
theorem dX7_locks_124 : decode cX7_locks 124 = .ok (.putfield 100, 3) := by decide +kernel
theorem dX7_locks_127 : decode cX7_locks 127 = .ok (.goto 108, 3) := by decide +kernel
theorem dX7_locks_130 : decode cX7_locks 130 = .ok (.aload_n 0, 1) := by decide +kernel
theorem dX7_locks_131 : decode cX7_locks 131 = .ok (.getfield 100, 3) := by decide +kernel
theorem dX7_locks_134 : decode cX7_locks 134 = .ok (.ifCond .ne 23, 3) := by decide +kernel
theorem dX7_locks_137 : decode cX7_locks 137 = .ok (.aload_n 0, 1) := by decide +kernel
theorem dX7_locks_138 : decode cX7_locks 138 = .ok (.getfield 71, 3) := by decide +kernel
theorem dX7_locks_141 : decode cX7_locks 141 = .ok (.ifCond .le 16, 3) := by decide +kernel
theorem dX7_locks_144 : decode cX7_locks 144 = .ok (.aload_n 0, 1) := by decide +kernel
theorem dX7_locks_145 : decode cX7_locks 145 = .ok (.iconst 0, 1) := by decide +kernel
theorem dX7_locks_146 : decode cX7_locks 146 = .ok (.iconst 0, 1) := by decide +kernel
theorem dX7_locks_147 : decode cX7_locks 147 = .ok (.invokevirtual 237, 3) := by decide +kernel
theorem dX7_locks_150 : decode cX7_locks 150 = .ok (.ifCond .eq 7, 3) := by decide +kernel
theorem dX7_locks_153 : decode cX7_locks 153 = .ok (.iconst 1, 1) := by decide +kernel
theorem dX7_locks_154 : decode cX7_locks 154 = .ok (.goto 4, 3) := by decide +kernel
theorem dX7_locks_157 : decode cX7_locks 157 = .ok (.iconst 0, 1) := by decide +kernel
theorem dX7_locks_158 : decode cX7_locks 158 = .ok (.istore_n 2, 1) := by decide +kernel
theorem dX7_locks_159 : decode cX7_locks 159 = .ok (.aload_n 0, 1) := by decide +kernel
theorem dX7_locks_160 : decode cX7_locks 160 = .ok (.aload_n 0, 1) := by decide +kernel
theorem dX7_locks_161 : decode cX7_locks 161 = .ok (.getfield 100, 3) := by decide +kernel
theorem dX7_locks_164 : decode cX7_locks 164 = .ok (.ifCond .ne 12, 3) := by decide +kernel
theorem dX7_locks_167 : decode cX7_locks 167 = .ok (.iload_n 2, 1) := by decide +kernel
theorem dX7_locks_168 : decode cX7_locks 168 = .ok (.ifCond .eq 12, 3) := by decide +kernel
theorem dX7_locks_171 : decode cX7_locks 171 = .ok (.iload_n 1, 1) := by decide +kernel
theorem dX7_locks_172 : decode cX7_locks 172 = .ok (.iconst 4, 1) := by decide +kernel
theorem dX7_locks_173 : decode cX7_locks 173 = .ok (.if_icmp .ne 7, 3) := by decide +kernel
theorem dX7_locks_176 : decode cX7_locks 176 = .ok (.iconst 1, 1) := by decide +kernel
theorem dX7_locks_177 : decode cX7_locks 177 = .ok (.goto 4, 3) := by decide +kernel
theorem dX7_locks_180 : decode cX7_locks 180 = .ok (.iconst 0, 1) := by decide +kernel
theorem dX7_locks_181 : decode cX7_locks 181 = .ok (.putfield 100, 3) := by decide +kernel
theorem dX7_locks_184 : decode cX7_locks 184 = .ok (.aload_n 0, 1) := by decide +kernel
theorem dX7_locks_185 : decode cX7_locks 185 = .ok (.iload_n 2, 1) := by decide +kernel
theorem dX7_locks_186 : decode cX7_locks 186 = .ok (.ifCond .eq 12, 3) := by decide +kernel
theorem dX7_locks_189 : decode cX7_locks 189 = .ok (.iload_n 1, 1) := by decide +kernel
theorem dX7_locks_190 : decode cX7_locks 190 = .ok (.iconst 2, 1) := by decide +kernel
theorem dX7_locks_191 : decode cX7_locks 191 = .ok (.if_icmp .ne 7, 3) := by decide +kernel
theorem dX7_locks_194 : decode cX7_locks 194 = .ok (.iconst 0, 1) := by decide +kernel
theorem dX7_locks_195 : decode cX7_locks 195 = .ok (.goto 7, 3) := by decide +kernel
theorem dX7_locks_198 : decode cX7_locks 198 = .ok (.aload_n 0, 1) := by decide +kernel
theorem dX7_locks_199 : decode cX7_locks 199 = .ok (.getfield 71, 3) := by decide +kernel
theorem dX7_locks_202 : decode cX7_locks 202 = .ok (.putfield 71, 3) := by decide +kernel
theorem dX7_locks_205 : decode cX7_locks 205 = .ok (.goto 30, 3) := by decide +kernel
theorem dX7_locks_208 : decode cX7_locks 208 = .ok (.aload_n 0, 1) := by decide +kernel
theorem dX7_locks_209 : decode cX7_locks 209 = .ok (.getfield 100, 3) := by decide +kernel
theorem dX7_locks_212 : decode cX7_locks 212 = .ok (.ifCond .eq 23, 3) := by decide +kernel
theorem dX7_locks_215 : decode cX7_locks 215 = .ok (.aload_n 0, 1) := by decide +kernel
theorem dX7_locks_216 : decode cX7_locks 216 = .ok (.iconst 0, 1) := by decide +kernel
theorem dX7_locks_217 : decode cX7_locks 217 = .ok (.putfield 71, 3) := by decide +kernel
theorem dX7_locks_220 : decode cX7_locks 220 = .ok (.aload_n 0, 1) := by decide +kernel
theorem dX7_locks_221 : decode cX7_locks 221 = .ok (.iconst 0, 1) := by decide +kernel
theorem dX7_locks_222 : decode cX7_locks 222 = .ok (.putfield 100, 3) := by decide +kernel
theorem dX7_locks_225 : decode cX7_locks 225 = .ok (.aload_n 0, 1) := by decide +kernel
theorem dX7_locks_226 : decode cX7_locks 226 = .ok (.iconst 0, 1) := by decide +kernel
theorem dX7_locks_227 : decode cX7_locks 227 = .ok (.aload_n 0, 1) := by decide +kernel
theorem dX7_locks_228 : decode cX7_locks 228 = .ok (.invokevirtual 244, 3) := by decide +kernel
theorem dX7_locks_231 : decode cX7_locks 231 = .ok (.invokevirtual 231, 3) := by decide +kernel
theorem dX7_locks_234 : decode cX7_locks 234 = .ok (.ireturn, 1) := by decide +kernel
theorem dX7_locks_235 : decode cX7_locks 235 = .ok (.iload_n 2, 1) := by decide +kernel
theorem dX7_locks_236 : decode cX7_locks 236 = .ok (.ifCond .eq 7, 3) := by decide +kernel
theorem dX7_locks_239 : decode cX7_locks 239 = .ok (.iconst 1, 1) := by decide +kernel
theorem dX7_locks_240 : decode cX7_locks 240 = .ok (.goto 9, 3) := by decide +kernel
theorem dX7_locks_243 : decode cX7_locks 243 = .ok (.aload_n 0, 1) := by decide +kernel
theorem dX7_locks_244 : decode cX7_locks 244 = .ok (.bipush 16, 2) := by decide +kernel
theorem dX7_locks_246 : decode cX7_locks 246 = .ok (.invokevirtual 219, 3) := by decide +kernel
theorem dX7_locks_249 : decode cX7_locks 249 = .ok (.ireturn, 1) := by decide +kernel
set_option maxRecDepth 20000 in
theorem ggX7_give_X7_in : GoodIn wsX7_give wsX7_in := goodIn_r _ [17] (by decide +kernel) (by decide +kernel)
set_option maxRecDepth 20000 in
theorem gX7_give_X7_in : GoodIn wsX7_give (va_wsS RX7 42 yX7_in wsX7_in) := goodIn_app (goodIn_of _ (by decide +kernel)) ggX7_give_X7_in
set_option maxRecDepth 20000 in
theorem ggX7_give_X7_noting : GoodIn wsX7_give wsX7_noting := goodIn_r _ [21, 10, 36, 37, 38, 39, 40, 41, 42, 43, 44, 45, 46, 47, 48, 49, 50, 51, 52, 53, 54, 55, 56, 57, 58, 59, 60, 61, 62, 63, 64, 65, 66, 67, 68, 69, 70, 71, 72, 73] (by decide +kernel) (by decide +kernel)
set_option maxRecDepth 20000 in
theorem gX7_give_X7_noting : GoodIn wsX7_give (wsV RX7 219 RX7 yX7_noting wsX7_noting) := goodIn_app (goodIn_of _ (by decide +kernel)) ggX7_give_X7_noting
set_option maxRecDepth 20000 in
theorem ggX7_give_X7_isInWindow : GoodIn wsX7_give wsX7_isInWindow := goodIn_r _ [25, 26, 27, 28, 36, 37, 38, 39, 40, 41, 42, 43, 44, 45, 46, 47, 48, 49, 50, 51, 52, 53, 54, 55, 56, 57, 58, 59, 60, 61, 62, 63, 64, 65, 66, 67, 68, 69, 70, 71, 72, 73] (by decide +kernel) (by decide +kernel)
set_option maxRecDepth 20000 in
theorem gX7_give_X7_isInWindow : GoodIn wsX7_give (wsV RX7 212 RX7 yX7_isInWindow wsX7_isInWindow) := goodIn_app (goodIn_of _ (by decide +kernel)) ggX7_give_X7_isInWindow
set_option maxRecDepth 20000 in
theorem ggX7_give_X7_checkOf : GoodIn wsX7_give wsX7_checkOf := goodIn_r _ [32, 1, 14, 15, 16, 17, 33, 34, 35] (by decide +kernel) (by decide +kernel)
set_option maxRecDepth 20000 in
theorem gX7_give_X7_checkOf : GoodIn wsX7_give (wsV RX7 247 RX7 yX7_checkOf wsX7_checkOf) := goodIn_app (goodIn_of _ (by decide +kernel)) ggX7_give_X7_checkOf
theorem dX7_give_0 : decode cX7_give 0 = .ok (.iload_n 1, 1) := by decide +kernel
theorem dX7_give_1 : decode cX7_give 1 = .ok (.i2l, 1) := by decide +kernel
theorem dX7_give_2 : decode cX7_give 2 = .ok (.lconst 0, 1) := by decide +kernel
theorem dX7_give_3 : decode cX7_give 3 = .ok (.ldc2_w 50, 3) := by decide +kernel
theorem dX7_give_6 : decode cX7_give 6 = .ok (.invokestatic 42, 3) := by decide +kernel
theorem dX7_give_9 : decode cX7_give 9 = .ok (.ifCond .eq 15, 3) := by decide +kernel
theorem dX7_give_12 : decode cX7_give 12 = .ok (.iload_n 2, 1) := by decide +kernel
theorem dX7_give_13 : decode cX7_give 13 = .ok (.i2l, 1) := by decide +kernel
theorem dX7_give_14 : decode cX7_give 14 = .ok (.lconst 0, 1) := by decide +kernel
theorem dX7_give_15 : decode cX7_give 15 = .ok (.ldc2_w 177, 3) := by decide +kernel
theorem dX7_give_18 : decode cX7_give 18 = .ok (.invokestatic 42, 3) := by decide +kernel
theorem dX7_give_21 : decode cX7_give 21 = .ok (.ifCond .ne 5, 3) := by decide +kernel
theorem dX7_give_24 : decode cX7_give 24 = .ok (.iconst (-1), 1) := by decide +kernel
theorem dX7_give_25 : decode cX7_give 25 = .ok (.ireturn, 1) := by decide +kernel
theorem dX7_give_26 : decode cX7_give 26 = .ok (.aload_n 0, 1) := by decide +kernel
theorem dX7_give_27 : decode cX7_give 27 = .ok (.getfield 78, 3) := by decide +kernel
theorem dX7_give_30 : decode cX7_give 30 = .ok (.ifCond .eq 26, 3) := by decide +kernel
theorem dX7_give_33 : decode cX7_give 33 = .ok (.aload_n 0, 1) := by decide +kernel
theorem dX7_give_34 : decode cX7_give 34 = .ok (.getfield 85, 3) := by decide +kernel
theorem dX7_give_37 : decode cX7_give 37 = .ok (.bipush 6, 2) := by decide +kernel
theorem dX7_give_39 : decode cX7_give 39 = .ok (.if_icmp .ne 17, 3) := by decide +kernel
theorem dX7_give_42 : decode cX7_give 42 = .ok (.aload_n 0, 1) := by decide +kernel
theorem dX7_give_43 : decode cX7_give 43 = .ok (.getfield 130, 3) := by decide +kernel
theorem dX7_give_46 : decode cX7_give 46 = .ok (.ifCond .ne 10, 3) := by decide +kernel
theorem dX7_give_49 : decode cX7_give 49 = .ok (.aload_n 0, 1) := by decide +kernel
theorem dX7_give_50 : decode cX7_give 50 = .ok (.getfield 127, 3) := by decide +kernel
theorem dX7_give_53 : decode cX7_give 53 = .ok (.ifCond .ne 6, 3) := by decide +kernel
theorem dX7_give_56 : decode cX7_give 56 = .ok (.bipush (-2), 2) := by decide +kernel
theorem dX7_give_58 : decode cX7_give 58 = .ok (.ireturn, 1) := by decide +kernel
theorem dX7_give_59 : decode cX7_give 59 = .ok (.aload_n 0, 1) := by decide +kernel
theorem dX7_give_60 : decode cX7_give 60 = .ok (.getfield 124, 3) := by decide +kernel
theorem dX7_give_63 : decode cX7_give 63 = .ok (.aload_n 0, 1) := by decide +kernel
theorem dX7_give_64 : decode cX7_give 64 = .ok (.getfield 52, 3) := by decide +kernel
theorem dX7_give_67 : decode cX7_give 67 = .ok (.if_icmp .lt 9, 3) := by decide +kernel
theorem dX7_give_70 : decode cX7_give 70 = .ok (.aload_n 0, 1) := by decide +kernel
theorem dX7_give_71 : decode cX7_give 71 = .ok (.iconst 4, 1) := by decide +kernel
theorem dX7_give_72 : decode cX7_give 72 = .ok (.invokevirtual 219, 3) := by decide +kernel
theorem dX7_give_75 : decode cX7_give 75 = .ok (.ireturn, 1) := by decide +kernel
theorem dX7_give_76 : decode cX7_give 76 = .ok (.aload_n 0, 1) := by decide +kernel
theorem dX7_give_77 : decode cX7_give 77 = .ok (.getfield 106, 3) := by decide +kernel
theorem dX7_give_80 : decode cX7_give 80 = .ok (.iconst 2, 1) := by decide +kernel
theorem dX7_give_81 : decode cX7_give 81 = .ok (.if_icmp .ne 6, 3) := by decide +kernel
theorem dX7_give_84 : decode cX7_give 84 = .ok (.bipush (-3), 2) := by decide +kernel
theorem dX7_give_86 : decode cX7_give 86 = .ok (.ireturn, 1) := by decide +kernel
theorem dX7_give_87 : decode cX7_give 87 = .ok (.aload_n 0, 1) := by decide +kernel
theorem dX7_give_88 : decode cX7_give 88 = .ok (.invokevirtual 212, 3) := by decide +kernel
theorem dX7_give_91 : decode cX7_give 91 = .ok (.ifCond .eq 12, 3) := by decide +kernel
theorem dX7_give_94 : decode cX7_give 94 = .ok (.iload_n 2, 1) := by decide +kernel
theorem dX7_give_95 : decode cX7_give 95 = .ok (.aload_n 0, 1) := by decide +kernel
theorem dX7_give_96 : decode cX7_give 96 = .ok (.iload_n 1, 1) := by decide +kernel
theorem dX7_give_97 : decode cX7_give 97 = .ok (.invokevirtual 247, 3) := by decide +kernel
theorem dX7_give_100 : decode cX7_give 100 = .ok (.if_icmp .eq 21, 3) := by decide +kernel
theorem dX7_give_103 : decode cX7_give 103 = .ok (.aload_n 0, 1) := by decide +kernel
theorem dX7_give_104 : decode cX7_give 104 = .ok (.dup, 1) := by decide +kernel
theorem dX7_give_105 : decode cX7_give 105 = .ok (.getfield 103, 3) := by decide +kernel
theorem dX7_give_108 : decode cX7_give 108 = .ok (.bipush 64, 2) := by decide +kernel
theorem dX7_give_110 : decode cX7_give 110 = .ok (.ior, 1) := by decide +kernel
theorem dX7_give_111 : decode cX7_give 111 = .ok (.putfield 103, 3) := by decide +kernel
theorem dX7_give_114 : decode cX7_give 114 = .ok (.aload_n 0, 1) := by decide +kernel
theorem dX7_give_115 : decode cX7_give 115 = .ok (.iconst 1, 1) := by decide +kernel
theorem dX7_give_116 : decode cX7_give 116 = .ok (.putfield 130, 3) := by decide +kernel
theorem dX7_give_119 : decode cX7_give 119 = .ok (.iconst 0, 1) := by decide +kernel
theorem dX7_give_120 : decode cX7_give 120 = .ok (.ireturn, 1) := by decide +kernel
theorem dX7_give_121 : decode cX7_give 121 = .ok (.aload_n 0, 1) := by decide +kernel
theorem dX7_give_122 : decode cX7_give 122 = .ok (.getfield 25, 3) := by decide +kernel
theorem dX7_give_125 : decode cX7_give 125 = .ok (.aload_n 0, 1) := by decide +kernel
theorem dX7_give_126 : decode cX7_give 126 = .ok (.getfield 106, 3) := by decide +kernel
theorem dX7_give_129 : decode cX7_give 129 = .ok (.aload_n 0, 1) := by decide +kernel
theorem dX7_give_130 : decode cX7_give 130 = .ok (.getfield 124, 3) := by decide +kernel
theorem dX7_give_133 : decode cX7_give 133 = .ok (.iastore, 1) := by decide +kernel
theorem dX7_give_134 : decode cX7_give 134 = .ok (.aload_n 0, 1) := by decide +kernel
theorem dX7_give_135 : decode cX7_give 135 = .ok (.getfield 28, 3) := by decide +kernel
theorem dX7_give_138 : decode cX7_give 138 = .ok (.aload_n 0, 1) := by decide +kernel
theorem dX7_give_139 : decode cX7_give 139 = .ok (.getfield 106, 3) := by decide +kernel
theorem dX7_give_142 : decode cX7_give 142 = .ok (.iload_n 1, 1) := by decide +kernel
theorem dX7_give_143 : decode cX7_give 143 = .ok (.iastore, 1) := by decide +kernel
theorem dX7_give_144 : decode cX7_give 144 = .ok (.aload_n 0, 1) := by decide +kernel
theorem dX7_give_145 : decode cX7_give 145 = .ok (.getfield 31, 3) := by decide +kernel
theorem dX7_give_148 : decode cX7_give 148 = .ok (.aload_n 0, 1) := by decide +kernel
theorem dX7_give_149 : decode cX7_give 149 = .ok (.getfield 106, 3) := by decide +kernel
theorem dX7_give_152 : decode cX7_give 152 = .ok (.iconst 0, 1) := by decide +kernel
theorem dX7_give_153 : decode cX7_give 153 = .ok (.iastore, 1) := by decide +kernel
theorem dX7_give_154 : decode cX7_give 154 = .ok (.aload_n 0, 1) := by decide +kernel
theorem dX7_give_155 : decode cX7_give 155 = .ok (.dup, 1) := by decide +kernel
theorem dX7_give_156 : decode cX7_give 156 = .ok (.getfield 106, 3) := by decide +kernel
theorem dX7_give_159 : decode cX7_give 159 = .ok (.iconst 1, 1) := by decide +kernel
theorem dX7_give_160 : decode cX7_give 160 = .ok (.iadd, 1) := by decide +kernel
theorem dX7_give_161 : decode cX7_give 161 = .ok (.putfield 106, 3) := by decide +kernel
theorem dX7_give_164 : decode cX7_give 164 = .ok (.aload_n 0, 1) := by decide +kernel
theorem dX7_give_165 : decode cX7_give 165 = .ok (.dup, 1) := by decide +kernel
theorem dX7_give_166 : decode cX7_give 166 = .ok (.getfield 124, 3) := by decide +kernel
theorem dX7_give_169 : decode cX7_give 169 = .ok (.iconst 1, 1) := by decide +kernel
theorem dX7_give_170 : decode cX7_give 170 = .ok (.iadd, 1) := by decide +kernel
theorem dX7_give_171 : decode cX7_give 171 = .ok (.putfield 124, 3) := by decide +kernel
theorem dX7_give_174 : decode cX7_give 174 = .ok (.aload_n 0, 1) := by decide +kernel
theorem dX7_give_175 : decode cX7_give 175 = .ok (.aload_n 0, 1) := by decide +kernel
theorem dX7_give_176 : decode cX7_give 176 = .ok (.getfield 127, 3) := by decide +kernel
theorem dX7_give_179 : decode cX7_give 179 = .ok (.bipush (-4), 2) := by decide +kernel
theorem dX7_give_181 : decode cX7_give 181 = .ok (.if_icmp .ne 8, 3) := by decide +kernel
theorem dX7_give_184 : decode cX7_give 184 = .ok (.bipush (-4), 2) := by decide +kernel
theorem dX7_give_186 : decode cX7_give 186 = .ok (.goto 9, 3) := by decide +kernel
theorem dX7_give_189 : decode cX7_give 189 = .ok (.aload_n 0, 1) := by decide +kernel
theorem dX7_give_190 : decode cX7_give 190 = .ok (.getfield 127, 3) := by decide +kernel
theorem dX7_give_193 : decode cX7_give 193 = .ok (.iconst 1, 1) := by decide +kernel
theorem dX7_give_194 : decode cX7_give 194 = .ok (.isub, 1) := by decide +kernel
theorem dX7_give_195 : decode cX7_give 195 = .ok (.putfield 127, 3) := by decide +kernel
theorem dX7_give_198 : decode cX7_give 198 = .ok (.aload_n 0, 1) := by decide +kernel
theorem dX7_give_199 : decode cX7_give 199 = .ok (.aload_n 0, 1) := by decide +kernel
theorem dX7_give_200 : decode cX7_give 200 = .ok (.getfield 127, 3) := by decide +kernel
theorem dX7_give_203 : decode cX7_give 203 = .ok (.ifCond .ne 8, 3) := by decide +kernel
theorem dX7_give_206 : decode cX7_give 206 = .ok (.bipush 7, 2) := by decide +kernel
theorem dX7_give_208 : decode cX7_give 208 = .ok (.goto 5, 3) := by decide +kernel
theorem dX7_give_211 : decode cX7_give 211 = .ok (.bipush 6, 2) := by decide +kernel
theorem dX7_give_213 : decode cX7_give 213 = .ok (.putfield 85, 3) := by decide +kernel
theorem dX7_give_216 : decode cX7_give 216 = .ok (.iconst 1, 1) := by decide +kernel
theorem dX7_give_217 : decode cX7_give 217 = .ok (.ireturn, 1) := by decide +kernel
set_option maxRecDepth 20000 in
theorem ggX7_get_X7_isInWindow : GoodIn wsX7_get wsX7_isInWindow := goodIn_r _ [12, 13, 14, 15, 16, 17, 18, 19, 20, 21, 22, 23, 24, 25, 26, 27, 28, 29, 30, 31, 32, 33, 34, 35, 36, 37, 38, 39, 40, 41, 42, 43, 44, 45, 46, 47, 48, 49, 50, 51, 52, 53] (by decide +kernel) (by decide +kernel)
set_option maxRecDepth 20000 in
theorem gX7_get_X7_isInWindow : GoodIn wsX7_get (wsV RX7 212 RX7 yX7_isInWindow wsX7_isInWindow) := goodIn_app (goodIn_of _ (by decide +kernel)) ggX7_get_X7_isInWindow
theorem dX7_get_0 : decode cX7_get 0 = .ok (.aload_n 0, 1) := by decide +kernel
theorem dX7_get_1 : decode cX7_get 1 = .ok (.getfield 78, 3) := by decide +kernel
theorem dX7_get_4 : decode cX7_get 4 = .ok (.ifCond .eq 11, 3) := by decide +kernel
theorem dX7_get_7 : decode cX7_get 7 = .ok (.aload_n 0, 1) := by decide +kernel
theorem dX7_get_8 : decode cX7_get 8 = .ok (.getfield 85, 3) := by decide +kernel
theorem dX7_get_11 : decode cX7_get 11 = .ok (.iconst 5, 1) := by decide +kernel
theorem dX7_get_12 : decode cX7_get 12 = .ok (.if_icmp .eq 6, 3) := by decide +kernel
theorem dX7_get_15 : decode cX7_get 15 = .ok (.bipush (-2), 2) := by decide +kernel
theorem dX7_get_17 : decode cX7_get 17 = .ok (.ireturn, 1) := by decide +kernel
theorem dX7_get_18 : decode cX7_get 18 = .ok (.aload_n 0, 1) := by decide +kernel
theorem dX7_get_19 : decode cX7_get 19 = .ok (.invokevirtual 212, 3) := by decide +kernel
theorem dX7_get_22 : decode cX7_get 22 = .ok (.ifCond .eq 16, 3) := by decide +kernel
theorem dX7_get_25 : decode cX7_get 25 = .ok (.aload_n 0, 1) := by decide +kernel
theorem dX7_get_26 : decode cX7_get 26 = .ok (.getfield 16, 3) := by decide +kernel
theorem dX7_get_29 : decode cX7_get 29 = .ok (.aload_n 0, 1) := by decide +kernel
theorem dX7_get_30 : decode cX7_get 30 = .ok (.getfield 124, 3) := by decide +kernel
theorem dX7_get_33 : decode cX7_get 33 = .ok (.iaload, 1) := by decide +kernel
theorem dX7_get_34 : decode cX7_get 34 = .ok (.iconst 1, 1) := by decide +kernel
theorem dX7_get_35 : decode cX7_get 35 = .ok (.if_icmp .ne 6, 3) := by decide +kernel
theorem dX7_get_38 : decode cX7_get 38 = .ok (.bipush (-4), 2) := by decide +kernel
theorem dX7_get_40 : decode cX7_get 40 = .ok (.ireturn, 1) := by decide +kernel
theorem dX7_get_41 : decode cX7_get 41 = .ok (.aload_n 0, 1) := by decide +kernel
theorem dX7_get_42 : decode cX7_get 42 = .ok (.getfield 13, 3) := by decide +kernel
theorem dX7_get_45 : decode cX7_get 45 = .ok (.aload_n 0, 1) := by decide +kernel
theorem dX7_get_46 : decode cX7_get 46 = .ok (.getfield 124, 3) := by decide +kernel
theorem dX7_get_49 : decode cX7_get 49 = .ok (.iaload, 1) := by decide +kernel
theorem dX7_get_50 : decode cX7_get 50 = .ok (.istore_n 1, 1) := by decide +kernel
theorem dX7_get_51 : decode cX7_get 51 = .ok (.aload_n 0, 1) := by decide +kernel
theorem dX7_get_52 : decode cX7_get 52 = .ok (.dup, 1) := by decide +kernel
theorem dX7_get_53 : decode cX7_get 53 = .ok (.getfield 124, 3) := by decide +kernel
theorem dX7_get_56 : decode cX7_get 56 = .ok (.iconst 1, 1) := by decide +kernel
theorem dX7_get_57 : decode cX7_get 57 = .ok (.iadd, 1) := by decide +kernel
theorem dX7_get_58 : decode cX7_get 58 = .ok (.putfield 124, 3) := by decide +kernel
theorem dX7_get_61 : decode cX7_get 61 = .ok (.aload_n 0, 1) := by decide +kernel
theorem dX7_get_62 : decode cX7_get 62 = .ok (.aload_n 0, 1) := by decide +kernel
theorem dX7_get_63 : decode cX7_get 63 = .ok (.getfield 127, 3) := by decide +kernel
theorem dX7_get_66 : decode cX7_get 66 = .ok (.bipush (-4), 2) := by decide +kernel
theorem dX7_get_68 : decode cX7_get 68 = .ok (.if_icmp .ne 8, 3) := by decide +kernel
theorem dX7_get_71 : decode cX7_get 71 = .ok (.bipush (-4), 2) := by decide +kernel
theorem dX7_get_73 : decode cX7_get 73 = .ok (.goto 9, 3) := by decide +kernel
theorem dX7_get_76 : decode cX7_get 76 = .ok (.aload_n 0, 1) := by decide +kernel
theorem dX7_get_77 : decode cX7_get 77 = .ok (.getfield 127, 3) := by decide +kernel
theorem dX7_get_80 : decode cX7_get 80 = .ok (.iconst 1, 1) := by decide +kernel
theorem dX7_get_81 : decode cX7_get 81 = .ok (.isub, 1) := by decide +kernel
theorem dX7_get_82 : decode cX7_get 82 = .ok (.putfield 127, 3) := by decide +kernel
theorem dX7_get_85 : decode cX7_get 85 = .ok (.aload_n 0, 1) := by decide +kernel
theorem dX7_get_86 : decode cX7_get 86 = .ok (.aload_n 0, 1) := by decide +kernel
theorem dX7_get_87 : decode cX7_get 87 = .ok (.getfield 127, 3) := by decide +kernel
theorem dX7_get_90 : decode cX7_get 90 = .ok (.ifCond .eq 14, 3) := by decide +kernel
theorem dX7_get_93 : decode cX7_get 93 = .ok (.aload_n 0, 1) := by decide +kernel
theorem dX7_get_94 : decode cX7_get 94 = .ok (.getfield 124, 3) := by decide +kernel
theorem dX7_get_97 : decode cX7_get 97 = .ok (.aload_n 0, 1) := by decide +kernel
theorem dX7_get_98 : decode cX7_get 98 = .ok (.getfield 52, 3) := by decide +kernel
theorem dX7_get_101 : decode cX7_get 101 = .ok (.if_icmp .ne 7, 3) := by decide +kernel
theorem dX7_get_104 : decode cX7_get 104 = .ok (.iconst 4, 1) := by decide +kernel
theorem dX7_get_105 : decode cX7_get 105 = .ok (.goto 4, 3) := by decide +kernel
theorem dX7_get_108 : decode cX7_get 108 = .ok (.iconst 5, 1) := by decide +kernel
theorem dX7_get_109 : decode cX7_get 109 = .ok (.putfield 85, 3) := by decide +kernel
theorem dX7_get_112 : decode cX7_get 112 = .ok (.iload_n 1, 1) := by decide +kernel
theorem dX7_get_113 : decode cX7_get 113 = .ok (.ireturn, 1) := by decide +kernel
set_option maxRecDepth 20000 in
theorem ggX7_writes_X7_forgets : GoodIn wsX7_writes wsX7_forgets := goodIn_r _ [15, 7, 8, 16, 17, 18, 19, 20, 21, 22, 23, 24, 25, 26, 27, 28, 29, 30, 31, 32, 33, 34, 35, 36, 37, 38, 39, 40, 41, 42, 43, 44, 45, 46, 47, 48, 49, 50, 51, 52, 53] (by decide +kernel) (by decide +kernel)
set_option maxRecDepth 20000 in
theorem gX7_writes_X7_forgets : GoodIn wsX7_writes (wsV RX7 133 RX7 yX7_forgets wsX7_forgets) := goodIn_app (goodIn_of _ (by decide +kernel)) ggX7_writes_X7_forgets
theorem dX7_writes_0 : decode cX7_writes 0 = .ok (.aload_n 0, 1) := by decide +kernel
theorem dX7_writes_1 : decode cX7_writes 1 = .ok (.getfield 31, 3) := by decide +kernel
theorem dX7_writes_4 : decode cX7_writes 4 = .ok (.iconst 0, 1) := by decide +kernel
theorem dX7_writes_5 : decode cX7_writes 5 = .ok (.dup2, 1) := by decide +kernel
theorem dX7_writes_6 : decode cX7_writes 6 = .ok (.iaload, 1) := by decide +kernel
theorem dX7_writes_7 : decode cX7_writes 7 = .ok (.iconst 1, 1) := by decide +kernel
theorem dX7_writes_8 : decode cX7_writes 8 = .ok (.iadd, 1) := by decide +kernel
theorem dX7_writes_9 : decode cX7_writes 9 = .ok (.iastore, 1) := by decide +kernel
theorem dX7_writes_10 : decode cX7_writes 10 = .ok (.aload_n 0, 1) := by decide +kernel
theorem dX7_writes_11 : decode cX7_writes 11 = .ok (.getfield 31, 3) := by decide +kernel
theorem dX7_writes_14 : decode cX7_writes 14 = .ok (.iconst 0, 1) := by decide +kernel
theorem dX7_writes_15 : decode cX7_writes 15 = .ok (.iaload, 1) := by decide +kernel
theorem dX7_writes_16 : decode cX7_writes 16 = .ok (.aload_n 0, 1) := by decide +kernel
theorem dX7_writes_17 : decode cX7_writes 17 = .ok (.getfield 91, 3) := by decide +kernel
theorem dX7_writes_20 : decode cX7_writes 20 = .ok (.ifCond .ne 7, 3) := by decide +kernel
theorem dX7_writes_23 : decode cX7_writes 23 = .ok (.iconst 4, 1) := by decide +kernel
theorem dX7_writes_24 : decode cX7_writes 24 = .ok (.goto 16, 3) := by decide +kernel
theorem dX7_writes_27 : decode cX7_writes 27 = .ok (.aload_n 0, 1) := by decide +kernel
theorem dX7_writes_28 : decode cX7_writes 28 = .ok (.getfield 91, 3) := by decide +kernel
theorem dX7_writes_31 : decode cX7_writes 31 = .ok (.iconst 1, 1) := by decide +kernel
theorem dX7_writes_32 : decode cX7_writes 32 = .ok (.if_icmp .ne 7, 3) := by decide +kernel
theorem dX7_writes_35 : decode cX7_writes 35 = .ok (.iconst 2, 1) := by decide +kernel
theorem dX7_writes_36 : decode cX7_writes 36 = .ok (.goto 4, 3) := by decide +kernel
theorem dX7_writes_39 : decode cX7_writes 39 = .ok (.iconst 1, 1) := by decide +kernel
theorem dX7_writes_40 : decode cX7_writes 40 = .ok (.if_icmp .ge 4, 3) := by decide +kernel
theorem dX7_writes_43 : decode cX7_writes 43 = .ok (.return_, 1) := by decide +kernel
theorem dX7_writes_44 : decode cX7_writes 44 = .ok (.aload_n 0, 1) := by decide +kernel
theorem dX7_writes_45 : decode cX7_writes 45 = .ok (.getfield 25, 3) := by decide +kernel
theorem dX7_writes_48 : decode cX7_writes 48 = .ok (.iconst 0, 1) := by decide +kernel
theorem dX7_writes_49 : decode cX7_writes 49 = .ok (.iaload, 1) := by decide +kernel
theorem dX7_writes_50 : decode cX7_writes 50 = .ok (.istore_n 1, 1) := by decide +kernel
theorem dX7_writes_51 : decode cX7_writes 51 = .ok (.aload_n 0, 1) := by decide +kernel
theorem dX7_writes_52 : decode cX7_writes 52 = .ok (.iload_n 1, 1) := by decide +kernel
theorem dX7_writes_53 : decode cX7_writes 53 = .ok (.invokevirtual 133, 3) := by decide +kernel
theorem dX7_writes_56 : decode cX7_writes 56 = .ok (.aload_n 0, 1) := by decide +kernel
theorem dX7_writes_57 : decode cX7_writes 57 = .ok (.getfield 13, 3) := by decide +kernel
theorem dX7_writes_60 : decode cX7_writes 60 = .ok (.iload_n 1, 1) := by decide +kernel
theorem dX7_writes_61 : decode cX7_writes 61 = .ok (.aload_n 0, 1) := by decide +kernel
theorem dX7_writes_62 : decode cX7_writes 62 = .ok (.getfield 28, 3) := by decide +kernel
theorem dX7_writes_65 : decode cX7_writes 65 = .ok (.iconst 0, 1) := by decide +kernel
theorem dX7_writes_66 : decode cX7_writes 66 = .ok (.iaload, 1) := by decide +kernel
theorem dX7_writes_67 : decode cX7_writes 67 = .ok (.iastore, 1) := by decide +kernel
theorem dX7_writes_68 : decode cX7_writes 68 = .ok (.aload_n 0, 1) := by decide +kernel
theorem dX7_writes_69 : decode cX7_writes 69 = .ok (.getfield 16, 3) := by decide +kernel
theorem dX7_writes_72 : decode cX7_writes 72 = .ok (.iload_n 1, 1) := by decide +kernel
theorem dX7_writes_73 : decode cX7_writes 73 = .ok (.iconst 0, 1) := by decide +kernel
theorem dX7_writes_74 : decode cX7_writes 74 = .ok (.iastore, 1) := by decide +kernel
theorem dX7_writes_75 : decode cX7_writes 75 = .ok (.aload_n 0, 1) := by decide +kernel
theorem dX7_writes_76 : decode cX7_writes 76 = .ok (.getfield 74, 3) := by decide +kernel
theorem dX7_writes_79 : decode cX7_writes 79 = .ok (.istore_n 2, 1) := by decide +kernel
theorem dX7_writes_80 : decode cX7_writes 80 = .ok (.iload_n 2, 1) := by decide +kernel
theorem dX7_writes_81 : decode cX7_writes 81 = .ok (.ifCond .le 23, 3) := by decide +kernel
theorem dX7_writes_84 : decode cX7_writes 84 = .ok (.aload_n 0, 1) := by decide +kernel
theorem dX7_writes_85 : decode cX7_writes 85 = .ok (.getfield 22, 3) := by decide +kernel
theorem dX7_writes_88 : decode cX7_writes 88 = .ok (.iload_n 2, 1) := by decide +kernel
theorem dX7_writes_89 : decode cX7_writes 89 = .ok (.aload_n 0, 1) := by decide +kernel
theorem dX7_writes_90 : decode cX7_writes 90 = .ok (.getfield 22, 3) := by decide +kernel
theorem dX7_writes_93 : decode cX7_writes 93 = .ok (.iload_n 2, 1) := by decide +kernel
theorem dX7_writes_94 : decode cX7_writes 94 = .ok (.iconst 1, 1) := by decide +kernel
theorem dX7_writes_95 : decode cX7_writes 95 = .ok (.isub, 1) := by decide +kernel
theorem dX7_writes_96 : decode cX7_writes 96 = .ok (.iaload, 1) := by decide +kernel
theorem dX7_writes_97 : decode cX7_writes 97 = .ok (.iastore, 1) := by decide +kernel
theorem dX7_writes_98 : decode cX7_writes 98 = .ok (.iinc 2 (-1), 3) := by decide +kernel
theorem dX7_writes_101 : decode cX7_writes 101 = .ok (.goto (-21), 3) := by decide +kernel
theorem dX7_writes_104 : decode cX7_writes 104 = .ok (.aload_n 0, 1) := by decide +kernel
theorem dX7_writes_105 : decode cX7_writes 105 = .ok (.getfield 22, 3) := by decide +kernel
theorem dX7_writes_108 : decode cX7_writes 108 = .ok (.iconst 0, 1) := by decide +kernel
theorem dX7_writes_109 : decode cX7_writes 109 = .ok (.iload_n 1, 1) := by decide +kernel
theorem dX7_writes_110 : decode cX7_writes 110 = .ok (.iastore, 1) := by decide +kernel
theorem dX7_writes_111 : decode cX7_writes 111 = .ok (.aload_n 0, 1) := by decide +kernel
theorem dX7_writes_112 : decode cX7_writes 112 = .ok (.dup, 1) := by decide +kernel
theorem dX7_writes_113 : decode cX7_writes 113 = .ok (.getfield 74, 3) := by decide +kernel
theorem dX7_writes_116 : decode cX7_writes 116 = .ok (.iconst 1, 1) := by decide +kernel
theorem dX7_writes_117 : decode cX7_writes 117 = .ok (.iadd, 1) := by decide +kernel
theorem dX7_writes_118 : decode cX7_writes 118 = .ok (.putfield 74, 3) := by decide +kernel
theorem dX7_writes_121 : decode cX7_writes 121 = .ok (.aload_n 0, 1) := by decide +kernel
theorem dX7_writes_122 : decode cX7_writes 122 = .ok (.dup, 1) := by decide +kernel
theorem dX7_writes_123 : decode cX7_writes 123 = .ok (.getfield 68, 3) := by decide +kernel
theorem dX7_writes_126 : decode cX7_writes 126 = .ok (.iconst 1, 1) := by decide +kernel
theorem dX7_writes_127 : decode cX7_writes 127 = .ok (.iadd, 1) := by decide +kernel
theorem dX7_writes_128 : decode cX7_writes 128 = .ok (.putfield 68, 3) := by decide +kernel
theorem dX7_writes_131 : decode cX7_writes 131 = .ok (.aload_n 0, 1) := by decide +kernel
theorem dX7_writes_132 : decode cX7_writes 132 = .ok (.dup, 1) := by decide +kernel
theorem dX7_writes_133 : decode cX7_writes 133 = .ok (.getfield 106, 3) := by decide +kernel
theorem dX7_writes_136 : decode cX7_writes 136 = .ok (.iconst 1, 1) := by decide +kernel
theorem dX7_writes_137 : decode cX7_writes 137 = .ok (.isub, 1) := by decide +kernel
theorem dX7_writes_138 : decode cX7_writes 138 = .ok (.putfield 106, 3) := by decide +kernel
theorem dX7_writes_141 : decode cX7_writes 141 = .ok (.aload_n 0, 1) := by decide +kernel
theorem dX7_writes_142 : decode cX7_writes 142 = .ok (.getfield 25, 3) := by decide +kernel
theorem dX7_writes_145 : decode cX7_writes 145 = .ok (.iconst 0, 1) := by decide +kernel
theorem dX7_writes_146 : decode cX7_writes 146 = .ok (.aload_n 0, 1) := by decide +kernel
theorem dX7_writes_147 : decode cX7_writes 147 = .ok (.getfield 25, 3) := by decide +kernel
theorem dX7_writes_150 : decode cX7_writes 150 = .ok (.iconst 1, 1) := by decide +kernel
theorem dX7_writes_151 : decode cX7_writes 151 = .ok (.iaload, 1) := by decide +kernel
theorem dX7_writes_152 : decode cX7_writes 152 = .ok (.iastore, 1) := by decide +kernel
theorem dX7_writes_153 : decode cX7_writes 153 = .ok (.aload_n 0, 1) := by decide +kernel
theorem dX7_writes_154 : decode cX7_writes 154 = .ok (.getfield 28, 3) := by decide +kernel
theorem dX7_writes_157 : decode cX7_writes 157 = .ok (.iconst 0, 1) := by decide +kernel
theorem dX7_writes_158 : decode cX7_writes 158 = .ok (.aload_n 0, 1) := by decide +kernel
theorem dX7_writes_159 : decode cX7_writes 159 = .ok (.getfield 28, 3) := by decide +kernel
theorem dX7_writes_162 : decode cX7_writes 162 = .ok (.iconst 1, 1) := by decide +kernel
theorem dX7_writes_163 : decode cX7_writes 163 = .ok (.iaload, 1) := by decide +kernel
theorem dX7_writes_164 : decode cX7_writes 164 = .ok (.iastore, 1) := by decide +kernel
theorem dX7_writes_165 : decode cX7_writes 165 = .ok (.aload_n 0, 1) := by decide +kernel
theorem dX7_writes_166 : decode cX7_writes 166 = .ok (.getfield 31, 3) := by decide +kernel
theorem dX7_writes_169 : decode cX7_writes 169 = .ok (.iconst 0, 1) := by decide +kernel
theorem dX7_writes_170 : decode cX7_writes 170 = .ok (.aload_n 0, 1) := by decide +kernel
theorem dX7_writes_171 : decode cX7_writes 171 = .ok (.getfield 31, 3) := by decide +kernel
theorem dX7_writes_174 : decode cX7_writes 174 = .ok (.iconst 1, 1) := by decide +kernel
theorem dX7_writes_175 : decode cX7_writes 175 = .ok (.iaload, 1) := by decide +kernel
theorem dX7_writes_176 : decode cX7_writes 176 = .ok (.iastore, 1) := by decide +kernel
theorem dX7_writes_177 : decode cX7_writes 177 = .ok (.return_, 1) := by decide +kernel
set_option maxRecDepth 20000 in
theorem ggX7_oneTick_X7_writes : GoodIn wsX7_oneTick wsX7_writes := goodIn_r _ [12, 13, 14, 15, 16, 17, 18, 19, 20, 21, 4, 22, 23, 24, 11, 25, 37, 38, 39, 40, 41, 42, 43, 44, 45, 46, 47, 48, 49, 50, 51, 52, 53, 54, 55, 56, 57, 58, 59, 60, 61, 62, 63, 64, 65, 66, 67, 68, 69, 70, 71, 72, 73, 74] (by decide +kernel) (by decide +kernel)
set_option maxRecDepth 20000 in
theorem gX7_oneTick_X7_writes : GoodIn wsX7_oneTick (wsV RX7 250 RX7 yX7_writes wsX7_writes) := goodIn_app (goodIn_of _ (by decide +kernel)) ggX7_oneTick_X7_writes
set_option maxRecDepth 20000 in
theorem ggX7_oneTick_X7_groupEmpties : GoodIn wsX7_oneTick wsX7_groupEmpties := goodIn_r _ [29, 30, 31, 32, 33, 34, 11, 35, 16, 36, 18, 22, 23, 24, 25, 19, 20, 37, 38, 39, 40, 41, 42, 43, 44, 45, 46, 47, 48, 49, 50, 51, 52, 53, 54, 55, 56, 57, 58, 59, 60, 61, 62, 63, 64, 65, 66, 67, 68, 69, 70, 71, 72, 73, 74] (by decide +kernel) (by decide +kernel)
set_option maxRecDepth 20000 in
theorem gX7_oneTick_X7_groupEmpties : GoodIn wsX7_oneTick (wsV RX7 144 RX7 yX7_groupEmpties wsX7_groupEmpties) := goodIn_app (goodIn_of _ (by decide +kernel)) ggX7_oneTick_X7_groupEmpties
theorem dX7_oneTick_0 : decode cX7_oneTick 0 = .ok (.aload_n 0, 1) := by decide +kernel
theorem dX7_oneTick_1 : decode cX7_oneTick 1 = .ok (.dup, 1) := by decide +kernel
theorem dX7_oneTick_2 : decode cX7_oneTick 2 = .ok (.getfield 65, 3) := by decide +kernel
theorem dX7_oneTick_5 : decode cX7_oneTick 5 = .ok (.iconst 1, 1) := by decide +kernel
theorem dX7_oneTick_6 : decode cX7_oneTick 6 = .ok (.iadd, 1) := by decide +kernel
theorem dX7_oneTick_7 : decode cX7_oneTick 7 = .ok (.putfield 65, 3) := by decide +kernel
theorem dX7_oneTick_10 : decode cX7_oneTick 10 = .ok (.aload_n 0, 1) := by decide +kernel
theorem dX7_oneTick_11 : decode cX7_oneTick 11 = .ok (.getfield 78, 3) := by decide +kernel
theorem dX7_oneTick_14 : decode cX7_oneTick 14 = .ok (.ifCond .eq 21, 3) := by decide +kernel
theorem dX7_oneTick_17 : decode cX7_oneTick 17 = .ok (.aload_n 0, 1) := by decide +kernel
theorem dX7_oneTick_18 : decode cX7_oneTick 18 = .ok (.getfield 85, 3) := by decide +kernel
theorem dX7_oneTick_21 : decode cX7_oneTick 21 = .ok (.bipush 6, 2) := by decide +kernel
theorem dX7_oneTick_23 : decode cX7_oneTick 23 = .ok (.if_icmp .eq 13, 3) := by decide +kernel
theorem dX7_oneTick_26 : decode cX7_oneTick 26 = .ok (.aload_n 0, 1) := by decide +kernel
theorem dX7_oneTick_27 : decode cX7_oneTick 27 = .ok (.getfield 85, 3) := by decide +kernel
theorem dX7_oneTick_30 : decode cX7_oneTick 30 = .ok (.bipush 7, 2) := by decide +kernel
theorem dX7_oneTick_32 : decode cX7_oneTick 32 = .ok (.if_icmp .eq 4, 3) := by decide +kernel
theorem dX7_oneTick_35 : decode cX7_oneTick 35 = .ok (.return_, 1) := by decide +kernel
theorem dX7_oneTick_36 : decode cX7_oneTick 36 = .ok (.aload_n 0, 1) := by decide +kernel
theorem dX7_oneTick_37 : decode cX7_oneTick 37 = .ok (.getfield 106, 3) := by decide +kernel
theorem dX7_oneTick_40 : decode cX7_oneTick 40 = .ok (.ifCond .le 10, 3) := by decide +kernel
theorem dX7_oneTick_43 : decode cX7_oneTick 43 = .ok (.aload_n 0, 1) := by decide +kernel
theorem dX7_oneTick_44 : decode cX7_oneTick 44 = .ok (.invokevirtual 250, 3) := by decide +kernel
theorem dX7_oneTick_47 : decode cX7_oneTick 47 = .ok (.goto 62, 3) := by decide +kernel
theorem dX7_oneTick_50 : decode cX7_oneTick 50 = .ok (.aload_n 0, 1) := by decide +kernel
theorem dX7_oneTick_51 : decode cX7_oneTick 51 = .ok (.getfield 109, 3) := by decide +kernel
theorem dX7_oneTick_54 : decode cX7_oneTick 54 = .ok (.ifCond .le 55, 3) := by decide +kernel
theorem dX7_oneTick_57 : decode cX7_oneTick 57 = .ok (.aload_n 0, 1) := by decide +kernel
theorem dX7_oneTick_58 : decode cX7_oneTick 58 = .ok (.dup, 1) := by decide +kernel
theorem dX7_oneTick_59 : decode cX7_oneTick 59 = .ok (.getfield 112, 3) := by decide +kernel
theorem dX7_oneTick_62 : decode cX7_oneTick 62 = .ok (.iconst 1, 1) := by decide +kernel
theorem dX7_oneTick_63 : decode cX7_oneTick 63 = .ok (.iadd, 1) := by decide +kernel
theorem dX7_oneTick_64 : decode cX7_oneTick 64 = .ok (.putfield 112, 3) := by decide +kernel
theorem dX7_oneTick_67 : decode cX7_oneTick 67 = .ok (.aload_n 0, 1) := by decide +kernel
theorem dX7_oneTick_68 : decode cX7_oneTick 68 = .ok (.getfield 112, 3) := by decide +kernel
theorem dX7_oneTick_71 : decode cX7_oneTick 71 = .ok (.iconst 2, 1) := by decide +kernel
theorem dX7_oneTick_72 : decode cX7_oneTick 72 = .ok (.if_icmp .ne 37, 3) := by decide +kernel
theorem dX7_oneTick_75 : decode cX7_oneTick 75 = .ok (.aload_n 0, 1) := by decide +kernel
theorem dX7_oneTick_76 : decode cX7_oneTick 76 = .ok (.aload_n 0, 1) := by decide +kernel
theorem dX7_oneTick_77 : decode cX7_oneTick 77 = .ok (.getfield 141, 3) := by decide +kernel
theorem dX7_oneTick_80 : decode cX7_oneTick 80 = .ok (.iconst 0, 1) := by decide +kernel
theorem dX7_oneTick_81 : decode cX7_oneTick 81 = .ok (.invokevirtual 144, 3) := by decide +kernel
theorem dX7_oneTick_84 : decode cX7_oneTick 84 = .ok (.aload_n 0, 1) := by decide +kernel
theorem dX7_oneTick_85 : decode cX7_oneTick 85 = .ok (.dup, 1) := by decide +kernel
theorem dX7_oneTick_86 : decode cX7_oneTick 86 = .ok (.getfield 141, 3) := by decide +kernel
theorem dX7_oneTick_89 : decode cX7_oneTick 89 = .ok (.iconst 1, 1) := by decide +kernel
theorem dX7_oneTick_90 : decode cX7_oneTick 90 = .ok (.iadd, 1) := by decide +kernel
theorem dX7_oneTick_91 : decode cX7_oneTick 91 = .ok (.putfield 141, 3) := by decide +kernel
theorem dX7_oneTick_94 : decode cX7_oneTick 94 = .ok (.aload_n 0, 1) := by decide +kernel
theorem dX7_oneTick_95 : decode cX7_oneTick 95 = .ok (.dup, 1) := by decide +kernel
theorem dX7_oneTick_96 : decode cX7_oneTick 96 = .ok (.getfield 109, 3) := by decide +kernel
theorem dX7_oneTick_99 : decode cX7_oneTick 99 = .ok (.iconst 1, 1) := by decide +kernel
theorem dX7_oneTick_100 : decode cX7_oneTick 100 = .ok (.isub, 1) := by decide +kernel
theorem dX7_oneTick_101 : decode cX7_oneTick 101 = .ok (.putfield 109, 3) := by decide +kernel
theorem dX7_oneTick_104 : decode cX7_oneTick 104 = .ok (.aload_n 0, 1) := by decide +kernel
theorem dX7_oneTick_105 : decode cX7_oneTick 105 = .ok (.iconst 0, 1) := by decide +kernel
theorem dX7_oneTick_106 : decode cX7_oneTick 106 = .ok (.putfield 112, 3) := by decide +kernel
theorem dX7_oneTick_109 : decode cX7_oneTick 109 = .ok (.aload_n 0, 1) := by decide +kernel
theorem dX7_oneTick_110 : decode cX7_oneTick 110 = .ok (.aload_n 0, 1) := by decide +kernel
theorem dX7_oneTick_111 : decode cX7_oneTick 111 = .ok (.getfield 85, 3) := by decide +kernel
theorem dX7_oneTick_114 : decode cX7_oneTick 114 = .ok (.bipush 7, 2) := by decide +kernel
theorem dX7_oneTick_116 : decode cX7_oneTick 116 = .ok (.if_icmp .ne 21, 3) := by decide +kernel
theorem dX7_oneTick_119 : decode cX7_oneTick 119 = .ok (.aload_n 0, 1) := by decide +kernel
theorem dX7_oneTick_120 : decode cX7_oneTick 120 = .ok (.getfield 106, 3) := by decide +kernel
theorem dX7_oneTick_123 : decode cX7_oneTick 123 = .ok (.ifCond .ne 14, 3) := by decide +kernel
theorem dX7_oneTick_126 : decode cX7_oneTick 126 = .ok (.aload_n 0, 1) := by decide +kernel
theorem dX7_oneTick_127 : decode cX7_oneTick 127 = .ok (.getfield 109, 3) := by decide +kernel
theorem dX7_oneTick_130 : decode cX7_oneTick 130 = .ok (.ifCond .ne 7, 3) := by decide +kernel
theorem dX7_oneTick_133 : decode cX7_oneTick 133 = .ok (.iconst 4, 1) := by decide +kernel
theorem dX7_oneTick_134 : decode cX7_oneTick 134 = .ok (.goto 7, 3) := by decide +kernel
theorem dX7_oneTick_137 : decode cX7_oneTick 137 = .ok (.aload_n 0, 1) := by decide +kernel
theorem dX7_oneTick_138 : decode cX7_oneTick 138 = .ok (.getfield 85, 3) := by decide +kernel
theorem dX7_oneTick_141 : decode cX7_oneTick 141 = .ok (.putfield 85, 3) := by decide +kernel
theorem dX7_oneTick_144 : decode cX7_oneTick 144 = .ok (.return_, 1) := by decide +kernel
set_option maxRecDepth 20000 in
theorem ggX7_tick_X7_in : GoodIn wsX7_tick wsX7_in := goodIn_r _ [6] (by decide +kernel) (by decide +kernel)
set_option maxRecDepth 20000 in
theorem gX7_tick_X7_in : GoodIn wsX7_tick (va_wsS RX7 42 yX7_in wsX7_in) := goodIn_app (goodIn_of _ (by decide +kernel)) ggX7_tick_X7_in
set_option maxRecDepth 20000 in
theorem ggX7_tick_X7_oneTick : GoodIn wsX7_tick wsX7_oneTick := goodIn_r _ [10, 2, 11, 12, 13, 14, 15, 16, 17, 18, 19, 5, 20, 21, 22, 23, 24, 25, 26, 27, 28, 29, 30, 31, 32, 33, 34, 35, 36, 37, 38, 39, 40, 41, 42, 43, 44, 45, 46, 47, 48, 49, 50, 51, 52, 53, 54, 55, 56, 57, 58, 59, 60, 61, 62, 63, 64, 65, 66, 67, 68, 69, 70, 71, 72, 73, 74, 75, 76, 77, 78, 79, 80, 81, 82] (by decide +kernel) (by decide +kernel)
set_option maxRecDepth 20000 in
theorem gX7_tick_X7_oneTick : GoodIn wsX7_tick (wsV RX7 255 RX7 yX7_oneTick wsX7_oneTick) := goodIn_app (goodIn_of _ (by decide +kernel)) ggX7_tick_X7_oneTick
theorem dX7_tick_0 : decode cX7_tick 0 = .ok (.iload_n 1, 1) := by decide +kernel
theorem dX7_tick_1 : decode cX7_tick 1 = .ok (.i2l, 1) := by decide +kernel
theorem dX7_tick_2 : decode cX7_tick 2 = .ok (.lconst 1, 1) := by decide +kernel
theorem dX7_tick_3 : decode cX7_tick 3 = .ok (.ldc2_w 253, 3) := by decide +kernel
theorem dX7_tick_6 : decode cX7_tick 6 = .ok (.invokestatic 42, 3) := by decide +kernel
theorem dX7_tick_9 : decode cX7_tick 9 = .ok (.ifCond .ne 5, 3) := by decide +kernel
theorem dX7_tick_12 : decode cX7_tick 12 = .ok (.iconst (-1), 1) := by decide +kernel
theorem dX7_tick_13 : decode cX7_tick 13 = .ok (.ireturn, 1) := by decide +kernel
theorem dX7_tick_14 : decode cX7_tick 14 = .ok (.iconst 0, 1) := by decide +kernel
theorem dX7_tick_15 : decode cX7_tick 15 = .ok (.istore_n 2, 1) := by decide +kernel
theorem dX7_tick_16 : decode cX7_tick 16 = .ok (.iload_n 2, 1) := by decide +kernel
theorem dX7_tick_17 : decode cX7_tick 17 = .ok (.iload_n 1, 1) := by decide +kernel
theorem dX7_tick_18 : decode cX7_tick 18 = .ok (.if_icmp .ge 13, 3) := by decide +kernel
theorem dX7_tick_21 : decode cX7_tick 21 = .ok (.aload_n 0, 1) := by decide +kernel
theorem dX7_tick_22 : decode cX7_tick 22 = .ok (.invokevirtual 255, 3) := by decide +kernel
theorem dX7_tick_25 : decode cX7_tick 25 = .ok (.iinc 2 1, 3) := by decide +kernel
theorem dX7_tick_28 : decode cX7_tick 28 = .ok (.goto (-12), 3) := by decide +kernel
theorem dX7_tick_31 : decode cX7_tick 31 = .ok (.aload_n 0, 1) := by decide +kernel
theorem dX7_tick_32 : decode cX7_tick 32 = .ok (.getfield 65, 3) := by decide +kernel
theorem dX7_tick_35 : decode cX7_tick 35 = .ok (.ireturn, 1) := by decide +kernel
set_option maxRecDepth 20000 in
theorem ggX7_tune_X7_tell : GoodIn wsX7_tune wsX7_tell := goodIn_r _ [5, 6, 7, 8, 9, 4, 10, 11, 12, 13, 14, 15, 16, 17, 18, 19, 20, 21, 22, 23, 24, 25, 26, 27, 28, 29, 30, 31, 32, 33, 34, 35, 36, 37, 38, 39, 40, 41, 42, 43, 44, 45, 46, 47, 48, 49, 50, 51, 52, 53, 54, 55, 56, 57, 58, 59, 60, 61, 62, 63, 64, 65, 66, 67, 68, 69, 70, 71, 72, 73, 74, 75, 76, 77, 78, 79, 80, 81, 82, 83, 84, 85, 86, 87, 88, 89, 90, 91, 92, 93, 94, 95, 96, 97, 98, 99, 100, 101, 102, 103, 104, 105, 106, 107, 108, 109, 110, 111, 112, 113, 114, 115, 116, 117, 118, 119, 120, 121, 122, 123, 124, 125, 126, 127, 128, 129, 130, 131, 132, 133, 134, 135, 136, 137, 138, 139, 140, 141, 142, 143, 144, 145, 146, 147, 148, 149, 150, 151, 152, 153, 154, 155, 156, 157, 158, 159, 160, 161, 162, 163, 164, 165, 166, 167, 168, 169, 170, 171, 172, 173, 174, 175, 176, 177, 178, 179, 180, 181, 182, 183, 184, 185, 186, 187, 188, 189, 190, 191] (by decide +kernel) (by decide +kernel)
set_option maxRecDepth 20000 in
theorem gX7_tune_X7_tell : GoodIn wsX7_tune (wsV RX7 258 RX7 yX7_tell wsX7_tell) := goodIn_app (goodIn_of _ (by decide +kernel)) ggX7_tune_X7_tell
theorem dX7_tune_0 : decode cX7_tune 0 = .ok (.iconst 0, 1) := by decide +kernel
theorem dX7_tune_1 : decode cX7_tune 1 = .ok (.istore_n 1, 1) := by decide +kernel
theorem dX7_tune_2 : decode cX7_tune 2 = .ok (.iconst 0, 1) := by decide +kernel
theorem dX7_tune_3 : decode cX7_tune 3 = .ok (.istore_n 2, 1) := by decide +kernel
theorem dX7_tune_4 : decode cX7_tune 4 = .ok (.iload_n 2, 1) := by decide +kernel
theorem dX7_tune_5 : decode cX7_tune 5 = .ok (.bipush 16, 2) := by decide +kernel
theorem dX7_tune_7 : decode cX7_tune 7 = .ok (.if_icmp .ge 32, 3) := by decide +kernel
theorem dX7_tune_10 : decode cX7_tune 10 = .ok (.aload_n 0, 1) := by decide +kernel
theorem dX7_tune_11 : decode cX7_tune 11 = .ok (.bipush 21, 2) := by decide +kernel
theorem dX7_tune_13 : decode cX7_tune 13 = .ok (.iload_n 2, 1) := by decide +kernel
theorem dX7_tune_14 : decode cX7_tune 14 = .ok (.invokevirtual 258, 3) := by decide +kernel
theorem dX7_tune_17 : decode cX7_tune 17 = .ok (.istore_n 3, 1) := by decide +kernel
theorem dX7_tune_18 : decode cX7_tune 18 = .ok (.iload_n 3, 1) := by decide +kernel
theorem dX7_tune_19 : decode cX7_tune 19 = .ok (.bipush (-4), 2) := by decide +kernel
theorem dX7_tune_21 : decode cX7_tune 21 = .ok (.if_icmp .ne 6, 3) := by decide +kernel
theorem dX7_tune_24 : decode cX7_tune 24 = .ok (.bipush (-4), 2) := by decide +kernel
theorem dX7_tune_26 : decode cX7_tune 26 = .ok (.ireturn, 1) := by decide +kernel
theorem dX7_tune_27 : decode cX7_tune 27 = .ok (.iload_n 1, 1) := by decide +kernel
theorem dX7_tune_28 : decode cX7_tune 28 = .ok (.iload_n 3, 1) := by decide +kernel
theorem dX7_tune_29 : decode cX7_tune 29 = .ok (.iload_n 2, 1) := by decide +kernel
theorem dX7_tune_30 : decode cX7_tune 30 = .ok (.ishl, 1) := by decide +kernel
theorem dX7_tune_31 : decode cX7_tune 31 = .ok (.ior, 1) := by decide +kernel
theorem dX7_tune_32 : decode cX7_tune 32 = .ok (.istore_n 1, 1) := by decide +kernel
theorem dX7_tune_33 : decode cX7_tune 33 = .ok (.iinc 2 1, 3) := by decide +kernel
theorem dX7_tune_36 : decode cX7_tune 36 = .ok (.goto (-32), 3) := by decide +kernel
theorem dX7_tune_39 : decode cX7_tune 39 = .ok (.iload_n 1, 1) := by decide +kernel
theorem dX7_tune_40 : decode cX7_tune 40 = .ok (.ifCond .ne 6, 3) := by decide +kernel
theorem dX7_tune_43 : decode cX7_tune 43 = .ok (.bipush (-2), 2) := by decide +kernel
theorem dX7_tune_45 : decode cX7_tune 45 = .ok (.ireturn, 1) := by decide +kernel
theorem dX7_tune_46 : decode cX7_tune 46 = .ok (.iconst 0, 1) := by decide +kernel
theorem dX7_tune_47 : decode cX7_tune 47 = .ok (.istore_n 2, 1) := by decide +kernel
theorem dX7_tune_48 : decode cX7_tune 48 = .ok (.iconst 0, 1) := by decide +kernel
theorem dX7_tune_49 : decode cX7_tune 49 = .ok (.istore_n 3, 1) := by decide +kernel
theorem dX7_tune_50 : decode cX7_tune 50 = .ok (.iconst 0, 1) := by decide +kernel
theorem dX7_tune_51 : decode cX7_tune 51 = .ok (.istore 4, 2) := by decide +kernel
theorem dX7_tune_53 : decode cX7_tune 53 = .ok (.iload 4, 2) := by decide +kernel
theorem dX7_tune_55 : decode cX7_tune 55 = .ok (.bipush 16, 2) := by decide +kernel
theorem dX7_tune_57 : decode cX7_tune 57 = .ok (.if_icmp .ge 67, 3) := by decide +kernel
theorem dX7_tune_60 : decode cX7_tune 60 = .ok (.iconst 0, 1) := by decide +kernel
theorem dX7_tune_61 : decode cX7_tune 61 = .ok (.istore 5, 2) := by decide +kernel
theorem dX7_tune_63 : decode cX7_tune 63 = .ok (.iload 5, 2) := by decide +kernel
theorem dX7_tune_65 : decode cX7_tune 65 = .ok (.bipush 16, 2) := by decide +kernel
theorem dX7_tune_67 : decode cX7_tune 67 = .ok (.if_icmp .ge 25, 3) := by decide +kernel
theorem dX7_tune_70 : decode cX7_tune 70 = .ok (.iload_n 1, 1) := by decide +kernel
theorem dX7_tune_71 : decode cX7_tune 71 = .ok (.iload 4, 2) := by decide +kernel
theorem dX7_tune_73 : decode cX7_tune 73 = .ok (.iload 5, 2) := by decide +kernel
theorem dX7_tune_75 : decode cX7_tune 75 = .ok (.iadd, 1) := by decide +kernel
theorem dX7_tune_76 : decode cX7_tune 76 = .ok (.bipush 16, 2) := by decide +kernel
theorem dX7_tune_78 : decode cX7_tune 78 = .ok (.irem, 1) := by decide +kernel
theorem dX7_tune_79 : decode cX7_tune 79 = .ok (.ishr, 1) := by decide +kernel
theorem dX7_tune_80 : decode cX7_tune 80 = .ok (.iconst 1, 1) := by decide +kernel
theorem dX7_tune_81 : decode cX7_tune 81 = .ok (.iand, 1) := by decide +kernel
theorem dX7_tune_82 : decode cX7_tune 82 = .ok (.iconst 1, 1) := by decide +kernel
theorem dX7_tune_83 : decode cX7_tune 83 = .ok (.if_icmp .ne 9, 3) := by decide +kernel
theorem dX7_tune_86 : decode cX7_tune 86 = .ok (.iinc 5 1, 3) := by decide +kernel
theorem dX7_tune_89 : decode cX7_tune 89 = .ok (.goto (-26), 3) := by decide +kernel
theorem dX7_tune_92 : decode cX7_tune 92 = .ok (.iload 5, 2) := by decide +kernel
theorem dX7_tune_94 : decode cX7_tune 94 = .ok (.iload_n 3, 1) := by decide +kernel
theorem dX7_tune_95 : decode cX7_tune 95 = .ok (.if_icmp .le 8, 3) := by decide +kernel
theorem dX7_tune_98 : decode cX7_tune 98 = .ok (.iload 4, 2) := by decide +kernel
theorem dX7_tune_100 : decode cX7_tune 100 = .ok (.goto 4, 3) := by decide +kernel
theorem dX7_tune_103 : decode cX7_tune 103 = .ok (.iload_n 2, 1) := by decide +kernel
theorem dX7_tune_104 : decode cX7_tune 104 = .ok (.istore_n 2, 1) := by decide +kernel
theorem dX7_tune_105 : decode cX7_tune 105 = .ok (.iload 5, 2) := by decide +kernel
theorem dX7_tune_107 : decode cX7_tune 107 = .ok (.iload_n 3, 1) := by decide +kernel
theorem dX7_tune_108 : decode cX7_tune 108 = .ok (.if_icmp .le 8, 3) := by decide +kernel
theorem dX7_tune_111 : decode cX7_tune 111 = .ok (.iload 5, 2) := by decide +kernel
theorem dX7_tune_113 : decode cX7_tune 113 = .ok (.goto 4, 3) := by decide +kernel
theorem dX7_tune_116 : decode cX7_tune 116 = .ok (.iload_n 3, 1) := by decide +kernel
theorem dX7_tune_117 : decode cX7_tune 117 = .ok (.istore_n 3, 1) := by decide +kernel
theorem dX7_tune_118 : decode cX7_tune 118 = .ok (.iinc 4 1, 3) := by decide +kernel
theorem dX7_tune_121 : decode cX7_tune 121 = .ok (.goto (-68), 3) := by decide +kernel
theorem dX7_tune_124 : decode cX7_tune 124 = .ok (.iload_n 2, 1) := by decide +kernel
theorem dX7_tune_125 : decode cX7_tune 125 = .ok (.iload_n 3, 1) := by decide +kernel
theorem dX7_tune_126 : decode cX7_tune 126 = .ok (.iconst 1, 1) := by decide +kernel
theorem dX7_tune_127 : decode cX7_tune 127 = .ok (.isub, 1) := by decide +kernel
theorem dX7_tune_128 : decode cX7_tune 128 = .ok (.iconst 2, 1) := by decide +kernel
theorem dX7_tune_129 : decode cX7_tune 129 = .ok (.idiv, 1) := by decide +kernel
theorem dX7_tune_130 : decode cX7_tune 130 = .ok (.iadd, 1) := by decide +kernel
theorem dX7_tune_131 : decode cX7_tune 131 = .ok (.bipush 16, 2) := by decide +kernel
theorem dX7_tune_133 : decode cX7_tune 133 = .ok (.irem, 1) := by decide +kernel
theorem dX7_tune_134 : decode cX7_tune 134 = .ok (.istore 4, 2) := by decide +kernel
theorem dX7_tune_136 : decode cX7_tune 136 = .ok (.aload_n 0, 1) := by decide +kernel
theorem dX7_tune_137 : decode cX7_tune 137 = .ok (.bipush 21, 2) := by decide +kernel
theorem dX7_tune_139 : decode cX7_tune 139 = .ok (.iload 4, 2) := by decide +kernel
theorem dX7_tune_141 : decode cX7_tune 141 = .ok (.invokevirtual 258, 3) := by decide +kernel
theorem dX7_tune_144 : decode cX7_tune 144 = .ok (.pop, 1) := by decide +kernel
theorem dX7_tune_145 : decode cX7_tune 145 = .ok (.iload 4, 2) := by decide +kernel
theorem dX7_tune_147 : decode cX7_tune 147 = .ok (.ireturn, 1) := by decide +kernel
set_option maxRecDepth 20000 in
theorem ggX7_block_X7_in : GoodIn wsX7_block wsX7_in := goodIn_r _ [9] (by decide +kernel) (by decide +kernel)
set_option maxRecDepth 20000 in
theorem gX7_block_X7_in : GoodIn wsX7_block (va_wsS RX7 42 yX7_in wsX7_in) := goodIn_app (goodIn_of _ (by decide +kernel)) ggX7_block_X7_in
theorem dX7_block_0 : decode cX7_block 0 = .ok (.iload_n 1, 1) := by decide +kernel
theorem dX7_block_1 : decode cX7_block 1 = .ok (.i2l, 1) := by decide +kernel
theorem dX7_block_2 : decode cX7_block 2 = .ok (.lconst 0, 1) := by decide +kernel
theorem dX7_block_3 : decode cX7_block 3 = .ok (.aload_n 0, 1) := by decide +kernel
theorem dX7_block_4 : decode cX7_block 4 = .ok (.getfield 52, 3) := by decide +kernel
theorem dX7_block_7 : decode cX7_block 7 = .ok (.iconst 1, 1) := by decide +kernel
theorem dX7_block_8 : decode cX7_block 8 = .ok (.isub, 1) := by decide +kernel
theorem dX7_block_9 : decode cX7_block 9 = .ok (.i2l, 1) := by decide +kernel
theorem dX7_block_10 : decode cX7_block 10 = .ok (.invokestatic 42, 3) := by decide +kernel
theorem dX7_block_13 : decode cX7_block 13 = .ok (.ifCond .eq 15, 3) := by decide +kernel
theorem dX7_block_16 : decode cX7_block 16 = .ok (.iload_n 2, 1) := by decide +kernel
theorem dX7_block_17 : decode cX7_block 17 = .ok (.i2l, 1) := by decide +kernel
theorem dX7_block_18 : decode cX7_block 18 = .ok (.lconst 0, 1) := by decide +kernel
theorem dX7_block_19 : decode cX7_block 19 = .ok (.ldc2_w 261, 3) := by decide +kernel
theorem dX7_block_22 : decode cX7_block 22 = .ok (.invokestatic 42, 3) := by decide +kernel
theorem dX7_block_25 : decode cX7_block 25 = .ok (.ifCond .ne 5, 3) := by decide +kernel
theorem dX7_block_28 : decode cX7_block 28 = .ok (.iconst (-1), 1) := by decide +kernel
theorem dX7_block_29 : decode cX7_block 29 = .ok (.ireturn, 1) := by decide +kernel
theorem dX7_block_30 : decode cX7_block 30 = .ok (.iload_n 2, 1) := by decide +kernel
theorem dX7_block_31 : decode cX7_block 31 = .ok (.ifCond .ne 12, 3) := by decide +kernel
theorem dX7_block_34 : decode cX7_block 34 = .ok (.aload_n 0, 1) := by decide +kernel
theorem dX7_block_35 : decode cX7_block 35 = .ok (.getfield 13, 3) := by decide +kernel
theorem dX7_block_38 : decode cX7_block 38 = .ok (.iload_n 1, 1) := by decide +kernel
theorem dX7_block_39 : decode cX7_block 39 = .ok (.iaload, 1) := by decide +kernel
theorem dX7_block_40 : decode cX7_block 40 = .ok (.goto 23, 3) := by decide +kernel
theorem dX7_block_43 : decode cX7_block 43 = .ok (.iload_n 2, 1) := by decide +kernel
theorem dX7_block_44 : decode cX7_block 44 = .ok (.iconst 1, 1) := by decide +kernel
theorem dX7_block_45 : decode cX7_block 45 = .ok (.if_icmp .ne 12, 3) := by decide +kernel
theorem dX7_block_48 : decode cX7_block 48 = .ok (.aload_n 0, 1) := by decide +kernel
theorem dX7_block_49 : decode cX7_block 49 = .ok (.getfield 16, 3) := by decide +kernel
theorem dX7_block_52 : decode cX7_block 52 = .ok (.iload_n 1, 1) := by decide +kernel
theorem dX7_block_53 : decode cX7_block 53 = .ok (.iaload, 1) := by decide +kernel
theorem dX7_block_54 : decode cX7_block 54 = .ok (.goto 9, 3) := by decide +kernel
theorem dX7_block_57 : decode cX7_block 57 = .ok (.iload_n 1, 1) := by decide +kernel
theorem dX7_block_58 : decode cX7_block 58 = .ok (.aload_n 0, 1) := by decide +kernel
theorem dX7_block_59 : decode cX7_block 59 = .ok (.getfield 56, 3) := by decide +kernel
theorem dX7_block_62 : decode cX7_block 62 = .ok (.idiv, 1) := by decide +kernel
theorem dX7_block_63 : decode cX7_block 63 = .ok (.ireturn, 1) := by decide +kernel
theorem dX7_latest_0 : decode cX7_latest 0 = .ok (.iload_n 1, 1) := by decide +kernel
theorem dX7_latest_1 : decode cX7_latest 1 = .ok (.ifCond .ge 5, 3) := by decide +kernel
theorem dX7_latest_4 : decode cX7_latest 4 = .ok (.iconst (-1), 1) := by decide +kernel
theorem dX7_latest_5 : decode cX7_latest 5 = .ok (.ireturn, 1) := by decide +kernel
theorem dX7_latest_6 : decode cX7_latest 6 = .ok (.iload_n 1, 1) := by decide +kernel
theorem dX7_latest_7 : decode cX7_latest 7 = .ok (.aload_n 0, 1) := by decide +kernel
theorem dX7_latest_8 : decode cX7_latest 8 = .ok (.getfield 74, 3) := by decide +kernel
theorem dX7_latest_11 : decode cX7_latest 11 = .ok (.if_icmp .ge 12, 3) := by decide +kernel
theorem dX7_latest_14 : decode cX7_latest 14 = .ok (.aload_n 0, 1) := by decide +kernel
theorem dX7_latest_15 : decode cX7_latest 15 = .ok (.getfield 22, 3) := by decide +kernel
theorem dX7_latest_18 : decode cX7_latest 18 = .ok (.iload_n 1, 1) := by decide +kernel
theorem dX7_latest_19 : decode cX7_latest 19 = .ok (.iaload, 1) := by decide +kernel
theorem dX7_latest_20 : decode cX7_latest 20 = .ok (.goto 5, 3) := by decide +kernel
theorem dX7_latest_23 : decode cX7_latest 23 = .ok (.bipush (-4), 2) := by decide +kernel
theorem dX7_latest_25 : decode cX7_latest 25 = .ok (.ireturn, 1) := by decide +kernel
theorem dX7_word_0 : decode cX7_word 0 = .ok (.iload_n 1, 1) := by decide +kernel
theorem dX7_word_1 : decode cX7_word 1 = .ok (.iconst (-1), 1) := by decide +kernel
theorem dX7_word_2 : decode cX7_word 2 = .ok (.if_icmp .ge 5, 3) := by decide +kernel
theorem dX7_word_5 : decode cX7_word 5 = .ok (.iconst (-1), 1) := by decide +kernel
theorem dX7_word_6 : decode cX7_word 6 = .ok (.ireturn, 1) := by decide +kernel
theorem dX7_word_7 : decode cX7_word 7 = .ok (.iload_n 1, 1) := by decide +kernel
theorem dX7_word_8 : decode cX7_word 8 = .ok (.ifCond .ge 10, 3) := by decide +kernel
theorem dX7_word_11 : decode cX7_word 11 = .ok (.aload_n 0, 1) := by decide +kernel
theorem dX7_word_12 : decode cX7_word 12 = .ok (.getfield 71, 3) := by decide +kernel
theorem dX7_word_15 : decode cX7_word 15 = .ok (.goto 22, 3) := by decide +kernel
theorem dX7_word_18 : decode cX7_word 18 = .ok (.iload_n 1, 1) := by decide +kernel
theorem dX7_word_19 : decode cX7_word 19 = .ok (.aload_n 0, 1) := by decide +kernel
theorem dX7_word_20 : decode cX7_word 20 = .ok (.getfield 71, 3) := by decide +kernel
theorem dX7_word_23 : decode cX7_word 23 = .ok (.if_icmp .ge 12, 3) := by decide +kernel
theorem dX7_word_26 : decode cX7_word 26 = .ok (.aload_n 0, 1) := by decide +kernel
theorem dX7_word_27 : decode cX7_word 27 = .ok (.getfield 19, 3) := by decide +kernel
theorem dX7_word_30 : decode cX7_word 30 = .ok (.iload_n 1, 1) := by decide +kernel
theorem dX7_word_31 : decode cX7_word 31 = .ok (.iaload, 1) := by decide +kernel
theorem dX7_word_32 : decode cX7_word 32 = .ok (.goto 5, 3) := by decide +kernel
theorem dX7_word_35 : decode cX7_word 35 = .ok (.bipush (-4), 2) := by decide +kernel
theorem dX7_word_37 : decode cX7_word 37 = .ok (.ireturn, 1) := by decide +kernel
set_option maxRecDepth 20000 in
theorem ggX7_later_X7_in : GoodIn wsX7_later wsX7_in := goodIn_r _ [9] (by decide +kernel) (by decide +kernel)
set_option maxRecDepth 20000 in
theorem gX7_later_X7_in : GoodIn wsX7_later (va_wsS RX7 42 yX7_in wsX7_in) := goodIn_app (goodIn_of _ (by decide +kernel)) ggX7_later_X7_in
theorem dX7_later_0 : decode cX7_later 0 = .ok (.iload_n 1, 1) := by decide +kernel
theorem dX7_later_1 : decode cX7_later 1 = .ok (.iconst (-1), 1) := by decide +kernel
theorem dX7_later_2 : decode cX7_later 2 = .ok (.if_icmp .lt 15, 3) := by decide +kernel
theorem dX7_later_5 : decode cX7_later 5 = .ok (.iload_n 2, 1) := by decide +kernel
theorem dX7_later_6 : decode cX7_later 6 = .ok (.i2l, 1) := by decide +kernel
theorem dX7_later_7 : decode cX7_later 7 = .ok (.lconst 0, 1) := by decide +kernel
theorem dX7_later_8 : decode cX7_later 8 = .ok (.ldc2_w 261, 3) := by decide +kernel
theorem dX7_later_11 : decode cX7_later 11 = .ok (.invokestatic 42, 3) := by decide +kernel
theorem dX7_later_14 : decode cX7_later 14 = .ok (.ifCond .ne 5, 3) := by decide +kernel
theorem dX7_later_17 : decode cX7_later 17 = .ok (.iconst (-1), 1) := by decide +kernel
theorem dX7_later_18 : decode cX7_later 18 = .ok (.ireturn, 1) := by decide +kernel
theorem dX7_later_19 : decode cX7_later 19 = .ok (.iload_n 1, 1) := by decide +kernel
theorem dX7_later_20 : decode cX7_later 20 = .ok (.ifCond .lt 11, 3) := by decide +kernel
theorem dX7_later_23 : decode cX7_later 23 = .ok (.iload_n 1, 1) := by decide +kernel
theorem dX7_later_24 : decode cX7_later 24 = .ok (.aload_n 0, 1) := by decide +kernel
theorem dX7_later_25 : decode cX7_later 25 = .ok (.getfield 106, 3) := by decide +kernel
theorem dX7_later_28 : decode cX7_later 28 = .ok (.if_icmp .lt 17, 3) := by decide +kernel
theorem dX7_later_31 : decode cX7_later 31 = .ok (.iload_n 1, 1) := by decide +kernel
theorem dX7_later_32 : decode cX7_later 32 = .ok (.ifCond .ge 10, 3) := by decide +kernel
theorem dX7_later_35 : decode cX7_later 35 = .ok (.aload_n 0, 1) := by decide +kernel
theorem dX7_later_36 : decode cX7_later 36 = .ok (.getfield 106, 3) := by decide +kernel
theorem dX7_later_39 : decode cX7_later 39 = .ok (.goto 5, 3) := by decide +kernel
theorem dX7_later_42 : decode cX7_later 42 = .ok (.bipush (-4), 2) := by decide +kernel
theorem dX7_later_44 : decode cX7_later 44 = .ok (.ireturn, 1) := by decide +kernel
theorem dX7_later_45 : decode cX7_later 45 = .ok (.iload_n 2, 1) := by decide +kernel
theorem dX7_later_46 : decode cX7_later 46 = .ok (.ifCond .ne 12, 3) := by decide +kernel
theorem dX7_later_49 : decode cX7_later 49 = .ok (.aload_n 0, 1) := by decide +kernel
theorem dX7_later_50 : decode cX7_later 50 = .ok (.getfield 25, 3) := by decide +kernel
theorem dX7_later_53 : decode cX7_later 53 = .ok (.iload_n 1, 1) := by decide +kernel
theorem dX7_later_54 : decode cX7_later 54 = .ok (.iaload, 1) := by decide +kernel
theorem dX7_later_55 : decode cX7_later 55 = .ok (.goto 23, 3) := by decide +kernel
theorem dX7_later_58 : decode cX7_later 58 = .ok (.iload_n 2, 1) := by decide +kernel
theorem dX7_later_59 : decode cX7_later 59 = .ok (.iconst 1, 1) := by decide +kernel
theorem dX7_later_60 : decode cX7_later 60 = .ok (.if_icmp .ne 12, 3) := by decide +kernel
theorem dX7_later_63 : decode cX7_later 63 = .ok (.aload_n 0, 1) := by decide +kernel
theorem dX7_later_64 : decode cX7_later 64 = .ok (.getfield 28, 3) := by decide +kernel
theorem dX7_later_67 : decode cX7_later 67 = .ok (.iload_n 1, 1) := by decide +kernel
theorem dX7_later_68 : decode cX7_later 68 = .ok (.iaload, 1) := by decide +kernel
theorem dX7_later_69 : decode cX7_later 69 = .ok (.goto 9, 3) := by decide +kernel
theorem dX7_later_72 : decode cX7_later 72 = .ok (.aload_n 0, 1) := by decide +kernel
theorem dX7_later_73 : decode cX7_later 73 = .ok (.getfield 31, 3) := by decide +kernel
theorem dX7_later_76 : decode cX7_later 76 = .ok (.iload_n 1, 1) := by decide +kernel
theorem dX7_later_77 : decode cX7_later 77 = .ok (.iaload, 1) := by decide +kernel
theorem dX7_later_78 : decode cX7_later 78 = .ok (.ireturn, 1) := by decide +kernel
theorem dX7_blocksThat_0 : decode cX7_blocksThat 0 = .ok (.iconst 0, 1) := by decide +kernel
theorem dX7_blocksThat_1 : decode cX7_blocksThat 1 = .ok (.istore_n 2, 1) := by decide +kernel
theorem dX7_blocksThat_2 : decode cX7_blocksThat 2 = .ok (.iconst 0, 1) := by decide +kernel
theorem dX7_blocksThat_3 : decode cX7_blocksThat 3 = .ok (.istore_n 3, 1) := by decide +kernel
theorem dX7_blocksThat_4 : decode cX7_blocksThat 4 = .ok (.iload_n 3, 1) := by decide +kernel
theorem dX7_blocksThat_5 : decode cX7_blocksThat 5 = .ok (.aload_n 0, 1) := by decide +kernel
theorem dX7_blocksThat_6 : decode cX7_blocksThat 6 = .ok (.getfield 52, 3) := by decide +kernel
theorem dX7_blocksThat_9 : decode cX7_blocksThat 9 = .ok (.if_icmp .ge 41, 3) := by decide +kernel
theorem dX7_blocksThat_12 : decode cX7_blocksThat 12 = .ok (.iload_n 2, 1) := by decide +kernel
theorem dX7_blocksThat_13 : decode cX7_blocksThat 13 = .ok (.iload_n 1, 1) := by decide +kernel
theorem dX7_blocksThat_14 : decode cX7_blocksThat 14 = .ok (.ifCond .eq 12, 3) := by decide +kernel
